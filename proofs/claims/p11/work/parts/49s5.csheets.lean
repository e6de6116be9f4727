theorem dX9_sheet_0 : decode cX9_sheet 0 = .ok (.aload_n 0, 1) := by decide +kernel
theorem dX9_sheet_1 : decode cX9_sheet 1 = .ok (.iload_n 1, 1) := by decide +kernel
set_option maxRecDepth 20000 in
theorem ggX9_sheet_X9_isSheet : GoodIn wsX9_sheet wsX9_isSheet := goodIn_r _ [9, 3, 27, 28, 29, 30, 31, 32, 33, 34, 35, 36, 37] rfl (by decide +kernel)
set_option maxRecDepth 20000 in
theorem gX9_sheet_X9_isSheet : GoodIn wsX9_sheet (wsV RX9 279 RX9 yX9_isSheet wsX9_isSheet) := goodIn_app (goodIn_r _ [5, 6, 7, 8] rfl (by decide +kernel)) ggX9_sheet_X9_isSheet
theorem dX9_sheet_2 : decode cX9_sheet 2 = .ok (.invokevirtual 279, 3) := by decide +kernel
theorem dX9_sheet_5 : decode cX9_sheet 5 = .ok (.ifCond .eq 25, 3) := by decide +kernel
theorem dX9_sheet_30 : decode cX9_sheet 30 = .ok (.aload_n 0, 1) := by decide +kernel
theorem dX9_sheet_31 : decode cX9_sheet 31 = .ok (.ldc 43, 2) := by decide +kernel
set_option maxRecDepth 20000 in
theorem ggX9_sheet_X9_finding : GoodIn wsX9_sheet wsX9_finding := goodIn_r _ [13, 14, 27, 28, 29, 30, 31, 32, 33, 34, 35, 36, 37] rfl (by decide +kernel)
set_option maxRecDepth 20000 in
theorem gX9_sheet_X9_finding : GoodIn wsX9_sheet (wsV RX9 44 RX9 yX9_finding wsX9_finding) := goodIn_app (goodIn_r _ [10, 11, 12, 8] rfl (by decide +kernel)) ggX9_sheet_X9_finding
theorem dX9_sheet_33 : decode cX9_sheet 33 = .ok (.invokevirtual 44, 3) := by decide +kernel
theorem dX9_sheet_36 : decode cX9_sheet 36 = .ok (.ireturn, 1) := by decide +kernel
theorem dX9_sheet_8 : decode cX9_sheet 8 = .ok (.iload_n 2, 1) := by decide +kernel
theorem dX9_sheet_9 : decode cX9_sheet 9 = .ok (.ifCond .eq 28, 3) := by decide +kernel
theorem dX9_sheet_37 : decode cX9_sheet 37 = .ok (.iload_n 3, 1) := by decide +kernel
theorem dX9_sheet_38 : decode cX9_sheet 38 = .ok (.ifCond .ge 10, 3) := by decide +kernel
theorem dX9_sheet_48 : decode cX9_sheet 48 = .ok (.iload_n 3, 1) := by decide +kernel
theorem dX9_sheet_49 : decode cX9_sheet 49 = .ok (.bipush 16, 2) := by decide +kernel
theorem dX9_sheet_51 : decode cX9_sheet 51 = .ok (.if_icmp .le 10, 3) := by decide +kernel
theorem dX9_sheet_61 : decode cX9_sheet 61 = .ok (.aload_n 0, 1) := by decide +kernel
theorem dX9_sheet_62 : decode cX9_sheet 62 = .ok (.getfield 9, 3) := by decide +kernel
theorem dX9_sheet_65 : decode cX9_sheet 65 = .ok (.iload_n 1, 1) := by decide +kernel
theorem dX9_sheet_66 : decode cX9_sheet 66 = .ok (.aaload, 1) := by decide +kernel
theorem dX9_sheet_67 : decode cX9_sheet 67 = .ok (.iload_n 2, 1) := by decide +kernel
theorem dX9_sheet_68 : decode cX9_sheet 68 = .ok (.iload_n 3, 1) := by decide +kernel
set_option maxRecDepth 20000 in
theorem ggX9_sheet_X6_begin : GoodIn wsX9_sheet wsX6_begin := goodIn_r _ [19, 20, 21, 22, 23, 24, 25, 26, 38, 39, 40] rfl (by decide +kernel)
set_option maxRecDepth 20000 in
theorem gX9_sheet_X6_begin : GoodIn wsX9_sheet (wsV RX9 282 RX6 yX6_begin wsX6_begin) := goodIn_app (goodIn_r _ [15, 16, 17, 18] rfl (by decide +kernel)) ggX9_sheet_X6_begin
theorem dX9_sheet_69 : decode cX9_sheet 69 = .ok (.invokevirtual 282, 3) := by decide +kernel
theorem dX9_sheet_72 : decode cX9_sheet 72 = .ok (.aload_n 0, 1) := by decide +kernel
theorem dX9_sheet_73 : decode cX9_sheet 73 = .ok (.getfield 9, 3) := by decide +kernel
theorem dX9_sheet_76 : decode cX9_sheet 76 = .ok (.iload_n 1, 1) := by decide +kernel
theorem dX9_sheet_77 : decode cX9_sheet 77 = .ok (.aaload, 1) := by decide +kernel
theorem dX9_sheet_78 : decode cX9_sheet 78 = .ok (.getfield 286, 3) := by decide +kernel
theorem dX9_sheet_81 : decode cX9_sheet 81 = .ok (.ireturn, 1) := by decide +kernel
theorem dX9_sheet_54 : decode cX9_sheet 54 = .ok (.aload_n 0, 1) := by decide +kernel
theorem dX9_sheet_55 : decode cX9_sheet 55 = .ok (.ldc 43, 2) := by decide +kernel
theorem dX9_sheet_57 : decode cX9_sheet 57 = .ok (.invokevirtual 44, 3) := by decide +kernel
theorem dX9_sheet_60 : decode cX9_sheet 60 = .ok (.ireturn, 1) := by decide +kernel
theorem dX9_sheet_41 : decode cX9_sheet 41 = .ok (.aload_n 0, 1) := by decide +kernel
theorem dX9_sheet_42 : decode cX9_sheet 42 = .ok (.ldc 99, 2) := by decide +kernel
theorem dX9_sheet_44 : decode cX9_sheet 44 = .ok (.invokevirtual 44, 3) := by decide +kernel
theorem dX9_sheet_47 : decode cX9_sheet 47 = .ok (.ireturn, 1) := by decide +kernel
theorem dX9_sheet_12 : decode cX9_sheet 12 = .ok (.iload_n 2, 1) := by decide +kernel
theorem dX9_sheet_13 : decode cX9_sheet 13 = .ok (.bipush 8, 2) := by decide +kernel
theorem dX9_sheet_15 : decode cX9_sheet 15 = .ok (.if_icmp .eq 22, 3) := by decide +kernel
theorem dX9_sheet_18 : decode cX9_sheet 18 = .ok (.iload_n 2, 1) := by decide +kernel
theorem dX9_sheet_19 : decode cX9_sheet 19 = .ok (.bipush 16, 2) := by decide +kernel
theorem dX9_sheet_21 : decode cX9_sheet 21 = .ok (.if_icmp .eq 16, 3) := by decide +kernel
theorem dX9_sheet_24 : decode cX9_sheet 24 = .ok (.iload_n 2, 1) := by decide +kernel
theorem dX9_sheet_25 : decode cX9_sheet 25 = .ok (.bipush 32, 2) := by decide +kernel
theorem dX9_sheet_27 : decode cX9_sheet 27 = .ok (.if_icmp .eq 10, 3) := by decide +kernel
set_option maxRecDepth 20000 in
theorem ihX9_sheet_6 : ∀ w ∈ u_ws RX6 TX6 3, w ∈ wsX9_sheet := fun _ h => List.mem_cons_of_mem _ (List.mem_append_right _ h)
set_option maxRecDepth 20000 in
theorem ihX9_sheet_9 : ∀ w ∈ u_ws RX9 TX9 11, w ∈ wsX9_sheet := fun _ h => List.mem_cons_of_mem _ (List.mem_append_left _ (List.mem_append_right _ h))
set_option maxHeartbeats 4000000 in
set_option maxRecDepth 100000 in
theorem x_X9_sheet (l : Launch) (D : va_G) (cy : Nat → ClassId) (a : Nat → Nat) (sz : Nat) (J : Nat → Int64) (I : Nat → Int32) (O : Nat → Option Nat) (R : Nat → Nat → Int32) (RO : Nat → Nat → Option Nat) (LL : va_W) (Y : va_W) (x0 : Int32) (x1 : Int32) (x2 : Int32) (Bs : Nat → Int32) (Zs : Nat → Int32) (Vs : Nat → Nat → Int32) (hSh : RCs (I 385) (I 386) (R 13) (I 449) (I 450) (R 15) (I 513) (I 514) (R 17) (I 577) (I 578) (R 19) Bs Zs Vs) (hM : CI a Y I O RO) : Met l yX9_sheet wsX9_sheet ({ frames := 2, cells := 0, slots := 0, locals := 45 }) (va_Pc [.ref (a 0), .int x0, .int x1, .int x2] (PW D cy sz (CT cy a J I O R RO (LL ++ Y)))) (va_Qi (fun r (u : TS) => ∃ (w0 : Int32), ∃ (w1 : Int32), ∃ (w2 : Int32), ∃ (w3 : Int32), ∃ (w4 : Int32), ∃ (w5 : Int32), ∃ (w6 : Int32), ∃ (w7 : Int32), ∃ (w8 : Int32), ∃ (w9 : Nat → Int32), ∃ (w10 : Nat → Int32), ∃ (w11 : Nat → Int32), ∃ (w12 : Nat → Int32), (r = a_sheet x0 x1 x2 ∧ (vp_in w2 17) ∧ (vp_in w4 17) ∧ (vp_in w6 17) ∧ (vp_in w8 17) ∧ (RCs w1 w2 w9 w3 w4 w10 w5 w6 w11 w7 w8 w12 (aShB Bs x0 x1 x2) (aShZ Zs x0 x1 x2) (aShV Vs x0 x1 x2))) ∧ u = (J, (va_up (va_up (va_up (va_up (va_up (va_up (va_up (va_up (va_up I 10 w0) 385 w1) 386 w2) 449 w3) 450 w4) 513 w5) 514 w6) 577 w7) 578 w8), O, (va_up (va_up (va_up (va_up R 13 w9) 15 w10) 17 w11) 19 w12), RO, LL, Y)) (BW D (va_A (CT cy a J I O R RO (LL ++ Y)) sz) (CTu cy a)) (va_A (CT cy a J I O R RO (LL ++ Y)) sz)) 0 0 (va_A (CT cy a J I O R RO (LL ++ Y)) sz) := by
  refine Met.ofW (cc := cX9_sheet) (maxL := 4) (ret := (some .int)) (by decide) rfl ?_
  intro p e s m args below meth c s₁ B hml hv
  obtain ⟨rfl, rfl, hP, hK, hN, hD0⟩ := hv
  have hx := B.exec
  have hb := B.bytes
  have hr := B.returns
  have hts := atoms_spec (ws := wsX9_sheet) B.pre
  have hown : s.vm.findClass RX9 = some m.cls := findClass_of_methodNamed B.named
  have hlocks := B.notSynchronized
  have hw0 := hts (.constant RX9 43 (-100001)) (by decide +kernel)
  have hw1 := hts (.fieldLink RX9 9 "ParquetLayer" "sheets" "[LParquetLayer$Sheet;") (by decide +kernel)
  have hw2 := hts (.fieldLink RX9 286 "ParquetLayer$Sheet" "size" "I") (by decide +kernel)
  have hw3 := hts (.constant RX9 99 (-100003)) (by decide +kernel)
  have hi6 := ihX9_sheet_6
  have hi9 := ihX9_sheet_9
  have hD := hD0.self (sz := s.heap.size)
  generalize hAe : va_A (CT cy a J I O R RO (LL ++ Y)) s.heap.size = A at hD ⊢
  have hA : ∀ q : Nat, s.heap.size ≤ q → A q := fun q h => by rw [← hAe]; exact Or.inr h
  have hS : va_S A s.heap s.heap [] := va_S.rf
  have hl := lv_entry ([.ref (a 0), .int x0, .int x1, .int x2]) (n := 4) (Nat.le_of_ble_eq_true rfl)
  rw [lg_entry_eq]
  generalize (lg_sl ([.ref (a 0), .int x0, .int x1, .int x2]) ++ List.replicate (4 - (lg_sl ([.ref (a 0), .int x0, .int x1, .int x2])).length) Slot.unset).toArray = ls at hl ⊢
  have hl : lv_has ls 4 [(0, .ref (a 0)), (1, .int x0), (2, .int x1), (3, .int x2)] := hl
  have hRO0 := hM.2.2.2.2.2.2.2.2.1
  have hRO1 := hM.2.2.2.2.2.2.2.2.2.1
  have hRO2 := hM.2.2.2.2.2.2.2.2.2.2.1
  have hRO3 := hM.2.2.2.2.2.2.2.2.2.2.2
  have hP : va_P D vwCl (CT cy a J (va_up (va_up (va_up (va_up (va_up (va_up (va_up (va_up (va_up I 10 (I 10)) 385 (I 385)) 386 (I 386)) 449 (I 449)) 450 (I 450)) 513 (I 513)) 514 (I 514)) 577 (I 577)) 578 (I 578)) O (va_up (va_up (va_up (va_up R 13 (R 13)) 15 (R 15)) 17 (R 17)) 19 (R 19)) RO (LL ++ Y)) s.heap := hP
  have hD : va_D A (CT cy a J (va_up (va_up (va_up (va_up (va_up (va_up (va_up (va_up (va_up I 10 (I 10)) 385 (I 385)) 386 (I 386)) 449 (I 449)) 450 (I 450)) 513 (I 513)) 514 (I 514)) 577 (I 577)) 578 (I 578)) O (va_up (va_up (va_up (va_up R 13 (R 13)) 15 (R 15)) 17 (R 17)) 19 (R 19)) RO (LL ++ Y)) := hD
  refine lv_aload_n hx hb dX9_sheet_0 rfl (lv_at hl 0 rfl) ?_
  refine lv_iload_n hx hb dX9_sheet_1 rfl (lv_at hl 1 rfl) ?_
  refine kR_i (As := [.int x0]) (rest := []) (q0 := 0) ⟨hx, hb, hml, hown, hts⟩ (t_X9_isSheet l D cy a _ J (va_up (va_up (va_up (va_up (va_up (va_up (va_up (va_up (va_up I 10 (I 10)) 385 (I 385)) 386 (I 386)) 449 (I 449)) 450 (I 450)) 513 (I 513)) 514 (I 514)) 577 (I 577)) 578 (I 578)) O (va_up (va_up (va_up (va_up R 13 (R 13)) 15 (R 15)) 17 (R 17)) 19 (R 19)) RO LL Y x0  ) (cwV 1 hts gX9_sheet_X9_isSheet rfl rfl rfl (by decide +kernel) ⟨Nat.le_of_ble_eq_true rfl, Nat.le_of_ble_eq_true rfl⟩) hK hN hP hD rfl rfl rfl hl.1 rfl (Nat.le_of_ble_eq_true rfl) dX9_sheet_2 ⟨Nat.le_of_ble_eq_true rfl, Nat.le_of_ble_eq_true rfl⟩ ?_
  refine lv_if_eq (tgt := 30) hx hb dX9_sheet_5 (by decide) (fun c_1 => ?_) (fun c_1 => ?_)
  · replace c_1 := bI_f c_1
    refine lv_aload_n hx hb dX9_sheet_30 rfl (lv_at hl 0 rfl) ?_
    refine lv_ldc (v := (-100001)) hx hb hown hw0 dX9_sheet_31 ?_
    refine kM_i (As := [.int (-100001)]) (rest := []) (q0 := 0) ⟨hx, hb, hml, hown, hts⟩ (t_X9_finding l D cy a _ J (va_up (va_up (va_up (va_up (va_up (va_up (va_up (va_up (va_up I 10 (I 10)) 385 (I 385)) 386 (I 386)) 449 (I 449)) 450 (I 450)) 513 (I 513)) 514 (I 514)) 577 (I 577)) 578 (I 578)) O (va_up (va_up (va_up (va_up R 13 (R 13)) 15 (R 15)) 17 (R 17)) 19 (R 19)) RO LL Y ((-100001) : Int32)   ) (cwV 1 hts gX9_sheet_X9_finding rfl rfl rfl (by decide +kernel) ⟨Nat.le_of_ble_eq_true rfl, Nat.le_of_ble_eq_true rfl⟩) hK hN hP hD hS hA rfl rfl rfl hl.1 rfl (Nat.le_of_ble_eq_true rfl) dX9_sheet_33 ⟨Nat.le_of_ble_eq_true rfl, Nat.le_of_ble_eq_true rfl⟩ (fun r_2 u H locs hw hP hD hS => ?_)
    obtain ⟨w_3, rfl, rfl⟩ := hw
    have hP : va_P D vwCl (CT cy a J (va_up (va_up (va_up (va_up (va_up (va_up (va_up (va_up (va_up I 10 w_3) 385 (I 385)) 386 (I 386)) 449 (I 449)) 450 (I 450)) 513 (I 513)) 514 (I 514)) 577 (I 577)) 578 (I 578)) O (va_up (va_up (va_up (va_up R 13 (R 13)) 15 (R 15)) 17 (R 17)) 19 (R 19)) RO (LL ++ Y)) H := hP
    have hD : va_D A (CT cy a J (va_up (va_up (va_up (va_up (va_up (va_up (va_up (va_up (va_up I 10 w_3) 385 (I 385)) 386 (I 386)) 449 (I 449)) 450 (I 450)) 513 (I 513)) 514 (I 514)) 577 (I 577)) 578 (I 578)) O (va_up (va_up (va_up (va_up R 13 (R 13)) 15 (R 15)) 17 (R 17)) 19 (R 19)) RO (LL ++ Y)) := hD
    exact wret_i hx hb hr hlocks (J, (va_up (va_up (va_up (va_up (va_up (va_up (va_up (va_up (va_up I 10 w_3) 385 (I 385)) 386 (I 386)) 449 (I 449)) 450 (I 450)) 513 (I 513)) 514 (I 514)) 577 (I 577)) 578 (I 578)), O, (va_up (va_up (va_up (va_up R 13 (R 13)) 15 (R 15)) 17 (R 17)) 19 (R 19)), RO, LL, Y) ⟨w_3, (I 385), (I 386), (I 449), (I 450), (I 513), (I 514), (I 577), (I 578), (R 13), (R 15), (R 17), (R 19), ⟨(sh_b1 c_1), hM.2.2.2.2.1, hM.2.2.2.2.2.1, hM.2.2.2.2.2.2.1, hM.2.2.2.2.2.2.2.1, (RCs_no (sOk_1 c_1) hSh)⟩, rfl⟩ hP hD hS dX9_sheet_36
  · replace c_1 := bI_t c_1
    refine lv_iload_n hx hb dX9_sheet_8 rfl (lv_at hl 2 rfl) ?_
    refine lv_if_eq (tgt := 37) hx hb dX9_sheet_9 (by decide) (fun c_4 => ?_) (fun c_4 => ?_)
    · refine lv_iload_n hx hb dX9_sheet_37 rfl (lv_at hl 3 rfl) ?_
      refine lv_if_ge (tgt := 48) hx hb dX9_sheet_38 (by decide) (fun c_5 => ?_) (fun c_5 => ?_)
      · refine lv_iload_n hx hb dX9_sheet_48 rfl (lv_at hl 3 rfl) ?_
        refine lv_bipush (v := 16) hx hb dX9_sheet_49 (by decide) ?_
        refine lv_icmp_le (tgt := 61) hx hb dX9_sheet_51 (by decide) (fun c_6 => ?_) (fun c_6 => ?_)
        · refine lv_aload_n hx hb dX9_sheet_61 rfl (lv_at hl 0 rfl) ?_
          refine va_get (D := D) (ci := 8) (v := .ref (a 1)) (C := RX9) (T := TX9) (N := 11) hx hb hts hi9 hown hK hP 0 rfl rfl 0 (by decide) hw1 (fun _ h9 => h9) rfl dX9_sheet_62 ?_
          refine lv_iload_n hx hb dX9_sheet_65 rfl (lv_at hl 1 rfl) ?_
          refine va_aldq hx hb hK hP 1 4 rfl rfl (within_in4 c_1) dX9_sheet_66 ?_
          rcases in4 (within_in4 c_1) with hj_7 | hj_7 | hj_7 | hj_7
          · refine wtop_v (y := .ref (a 12)) (by rw [hj_7]; exact congrArg va_rf hRO0) ?_
            refine lv_iload_n hx hb dX9_sheet_67 rfl (lv_at hl 2 rfl) ?_
            refine lv_iload_n hx hb dX9_sheet_68 rfl (lv_at hl 3 rfl) ?_
            refine kM_v (As := [.int x1, .int x2]) (rest := []) (q0 := 12) ⟨hx, hb, hml, hown, hts⟩ (x_X6_begin12 l D cy a _ J (va_up (va_up (va_up (va_up (va_up (va_up (va_up (va_up (va_up I 10 (I 10)) 385 (I 385)) 386 (I 386)) 449 (I 449)) 450 (I 450)) 513 (I 513)) 514 (I 514)) 577 (I 577)) 578 (I 578)) O (va_up (va_up (va_up (va_up R 13 (R 13)) 15 (R 15)) 17 (R 17)) 19 (R 19)) RO LL Y x1 x2 (in17 c_5 c_6) ⟨hM.1, hM.2.1, hM.2.2.1, hM.2.2.2.1, hM.2.2.2.2.1, hM.2.2.2.2.2.1, hM.2.2.2.2.2.2.1, hM.2.2.2.2.2.2.2.1, hRO0, hRO1, hRO2, hRO3⟩ ) (cwV 2 hts gX9_sheet_X6_begin rfl rfl rfl (by decide +kernel) ⟨Nat.le_of_ble_eq_true rfl, Nat.le_of_ble_eq_true rfl⟩) hK hN hP hD hS hA rfl rfl rfl hl.1 rfl (Nat.le_of_ble_eq_true rfl) dX9_sheet_69 ⟨Nat.le_of_ble_eq_true rfl, Nat.le_of_ble_eq_true rfl⟩ (fun u H locs hw hP hD hS => ?_)
            obtain ⟨w_9, w_10, w_11, ⟨hi_12, hp_13, hp_14, hp_15⟩, rfl⟩ := hw
            have hP : va_P D vwCl (CT cy a J (va_up (va_up (va_up (va_up (va_up (va_up (va_up (va_up (va_up I 10 (I 10)) 385 w_9) 386 w_10) 449 (I 449)) 450 (I 450)) 513 (I 513)) 514 (I 514)) 577 (I 577)) 578 (I 578)) O (va_up (va_up (va_up (va_up R 13 w_11) 15 (R 15)) 17 (R 17)) 19 (R 19)) RO (LL ++ Y)) H := hP
            have hD : va_D A (CT cy a J (va_up (va_up (va_up (va_up (va_up (va_up (va_up (va_up (va_up I 10 (I 10)) 385 w_9) 386 w_10) 449 (I 449)) 450 (I 450)) 513 (I 513)) 514 (I 514)) 577 (I 577)) 578 (I 578)) O (va_up (va_up (va_up (va_up R 13 w_11) 15 (R 15)) 17 (R 17)) 19 (R 19)) RO (LL ++ Y)) := hD
            refine lv_aload_n hx hb dX9_sheet_72 rfl (lv_at hl 0 rfl) ?_
            refine va_get (D := D) (ci := 8) (v := .ref (a 1)) (C := RX9) (T := TX9) (N := 11) hx hb hts hi9 hown hK hP 0 rfl rfl 0 (by decide) hw1 (fun _ h9 => h9) rfl dX9_sheet_73 ?_
            refine lv_iload_n hx hb dX9_sheet_76 rfl (lv_at hl 1 rfl) ?_
            refine va_aldq hx hb hK hP 1 4 rfl rfl (within_in4 c_1) dX9_sheet_77 ?_
            refine wtop_v (y := .ref (a 12)) (by rw [hj_7]; exact congrArg va_rf hRO0) ?_
            refine va_get (D := D) (ci := 5) (v := .int w_10) (C := RX6) (T := TX6) (N := 3) hx hb hts hi6 hown hK hP 12 rfl rfl 2 (by decide) hw2 (fun _ h9 => h9) rfl dX9_sheet_78 ?_
            exact wret_i hx hb hr hlocks (J, (va_up (va_up (va_up (va_up (va_up (va_up (va_up (va_up (va_up I 10 (I 10)) 385 w_9) 386 w_10) 449 (I 449)) 450 (I 450)) 513 (I 513)) 514 (I 514)) 577 (I 577)) 578 (I 578)), O, (va_up (va_up (va_up (va_up R 13 w_11) 15 (R 15)) 17 (R 17)) 19 (R 19)), RO, LL, Y) ⟨(I 10), w_9, w_10, (I 449), (I 450), (I 513), (I 514), (I 577), (I 578), w_11, (R 15), (R 17), (R 19), ⟨(hp_13.trans (sh_ok c_1 (Or.inl c_4) c_5 c_6).symm), hi_12, hM.2.2.2.2.2.1, hM.2.2.2.2.2.2.1, hM.2.2.2.2.2.2.2.1, (RCs_sh0 hSh c_1 (by rw [hj_7]; rfl) (Or.inl c_4) c_5 c_6 hp_14 hp_13 hp_15)⟩, rfl⟩ hP hD hS dX9_sheet_81
          · refine wtop_v (y := .ref (a 14)) (by rw [hj_7]; exact congrArg va_rf hRO1) ?_
            refine lv_iload_n hx hb dX9_sheet_67 rfl (lv_at hl 2 rfl) ?_
            refine lv_iload_n hx hb dX9_sheet_68 rfl (lv_at hl 3 rfl) ?_
            refine kM_v (As := [.int x1, .int x2]) (rest := []) (q0 := 14) ⟨hx, hb, hml, hown, hts⟩ (x_X6_begin14 l D cy a _ J (va_up (va_up (va_up (va_up (va_up (va_up (va_up (va_up (va_up I 10 (I 10)) 385 (I 385)) 386 (I 386)) 449 (I 449)) 450 (I 450)) 513 (I 513)) 514 (I 514)) 577 (I 577)) 578 (I 578)) O (va_up (va_up (va_up (va_up R 13 (R 13)) 15 (R 15)) 17 (R 17)) 19 (R 19)) RO LL Y x1 x2 (in17 c_5 c_6) ⟨hM.1, hM.2.1, hM.2.2.1, hM.2.2.2.1, hM.2.2.2.2.1, hM.2.2.2.2.2.1, hM.2.2.2.2.2.2.1, hM.2.2.2.2.2.2.2.1, hRO0, hRO1, hRO2, hRO3⟩ ) (cwV 2 hts gX9_sheet_X6_begin rfl rfl rfl (by decide +kernel) ⟨Nat.le_of_ble_eq_true rfl, Nat.le_of_ble_eq_true rfl⟩) hK hN hP hD hS hA rfl rfl rfl hl.1 rfl (Nat.le_of_ble_eq_true rfl) dX9_sheet_69 ⟨Nat.le_of_ble_eq_true rfl, Nat.le_of_ble_eq_true rfl⟩ (fun u H locs hw hP hD hS => ?_)
            obtain ⟨w_17, w_18, w_19, ⟨hi_20, hp_21, hp_22, hp_23⟩, rfl⟩ := hw
            have hP : va_P D vwCl (CT cy a J (va_up (va_up (va_up (va_up (va_up (va_up (va_up (va_up (va_up I 10 (I 10)) 385 (I 385)) 386 (I 386)) 449 w_17) 450 w_18) 513 (I 513)) 514 (I 514)) 577 (I 577)) 578 (I 578)) O (va_up (va_up (va_up (va_up R 13 (R 13)) 15 w_19) 17 (R 17)) 19 (R 19)) RO (LL ++ Y)) H := hP
            have hD : va_D A (CT cy a J (va_up (va_up (va_up (va_up (va_up (va_up (va_up (va_up (va_up I 10 (I 10)) 385 (I 385)) 386 (I 386)) 449 w_17) 450 w_18) 513 (I 513)) 514 (I 514)) 577 (I 577)) 578 (I 578)) O (va_up (va_up (va_up (va_up R 13 (R 13)) 15 w_19) 17 (R 17)) 19 (R 19)) RO (LL ++ Y)) := hD
            refine lv_aload_n hx hb dX9_sheet_72 rfl (lv_at hl 0 rfl) ?_
            refine va_get (D := D) (ci := 8) (v := .ref (a 1)) (C := RX9) (T := TX9) (N := 11) hx hb hts hi9 hown hK hP 0 rfl rfl 0 (by decide) hw1 (fun _ h9 => h9) rfl dX9_sheet_73 ?_
            refine lv_iload_n hx hb dX9_sheet_76 rfl (lv_at hl 1 rfl) ?_
            refine va_aldq hx hb hK hP 1 4 rfl rfl (within_in4 c_1) dX9_sheet_77 ?_
            refine wtop_v (y := .ref (a 14)) (by rw [hj_7]; exact congrArg va_rf hRO1) ?_
            refine va_get (D := D) (ci := 5) (v := .int w_18) (C := RX6) (T := TX6) (N := 3) hx hb hts hi6 hown hK hP 14 rfl rfl 2 (by decide) hw2 (fun _ h9 => h9) rfl dX9_sheet_78 ?_
            exact wret_i hx hb hr hlocks (J, (va_up (va_up (va_up (va_up (va_up (va_up (va_up (va_up (va_up I 10 (I 10)) 385 (I 385)) 386 (I 386)) 449 w_17) 450 w_18) 513 (I 513)) 514 (I 514)) 577 (I 577)) 578 (I 578)), O, (va_up (va_up (va_up (va_up R 13 (R 13)) 15 w_19) 17 (R 17)) 19 (R 19)), RO, LL, Y) ⟨(I 10), (I 385), (I 386), w_17, w_18, (I 513), (I 514), (I 577), (I 578), (R 13), w_19, (R 17), (R 19), ⟨(hp_21.trans (sh_ok c_1 (Or.inl c_4) c_5 c_6).symm), hM.2.2.2.2.1, hi_20, hM.2.2.2.2.2.2.1, hM.2.2.2.2.2.2.2.1, (RCs_sh1 hSh c_1 (by rw [hj_7]; rfl) (Or.inl c_4) c_5 c_6 hp_22 hp_21 hp_23)⟩, rfl⟩ hP hD hS dX9_sheet_81
          · refine wtop_v (y := .ref (a 16)) (by rw [hj_7]; exact congrArg va_rf hRO2) ?_
            refine lv_iload_n hx hb dX9_sheet_67 rfl (lv_at hl 2 rfl) ?_
            refine lv_iload_n hx hb dX9_sheet_68 rfl (lv_at hl 3 rfl) ?_
            refine kM_v (As := [.int x1, .int x2]) (rest := []) (q0 := 16) ⟨hx, hb, hml, hown, hts⟩ (x_X6_begin16 l D cy a _ J (va_up (va_up (va_up (va_up (va_up (va_up (va_up (va_up (va_up I 10 (I 10)) 385 (I 385)) 386 (I 386)) 449 (I 449)) 450 (I 450)) 513 (I 513)) 514 (I 514)) 577 (I 577)) 578 (I 578)) O (va_up (va_up (va_up (va_up R 13 (R 13)) 15 (R 15)) 17 (R 17)) 19 (R 19)) RO LL Y x1 x2 (in17 c_5 c_6) ⟨hM.1, hM.2.1, hM.2.2.1, hM.2.2.2.1, hM.2.2.2.2.1, hM.2.2.2.2.2.1, hM.2.2.2.2.2.2.1, hM.2.2.2.2.2.2.2.1, hRO0, hRO1, hRO2, hRO3⟩ ) (cwV 2 hts gX9_sheet_X6_begin rfl rfl rfl (by decide +kernel) ⟨Nat.le_of_ble_eq_true rfl, Nat.le_of_ble_eq_true rfl⟩) hK hN hP hD hS hA rfl rfl rfl hl.1 rfl (Nat.le_of_ble_eq_true rfl) dX9_sheet_69 ⟨Nat.le_of_ble_eq_true rfl, Nat.le_of_ble_eq_true rfl⟩ (fun u H locs hw hP hD hS => ?_)
            obtain ⟨w_25, w_26, w_27, ⟨hi_28, hp_29, hp_30, hp_31⟩, rfl⟩ := hw
            have hP : va_P D vwCl (CT cy a J (va_up (va_up (va_up (va_up (va_up (va_up (va_up (va_up (va_up I 10 (I 10)) 385 (I 385)) 386 (I 386)) 449 (I 449)) 450 (I 450)) 513 w_25) 514 w_26) 577 (I 577)) 578 (I 578)) O (va_up (va_up (va_up (va_up R 13 (R 13)) 15 (R 15)) 17 w_27) 19 (R 19)) RO (LL ++ Y)) H := hP
            have hD : va_D A (CT cy a J (va_up (va_up (va_up (va_up (va_up (va_up (va_up (va_up (va_up I 10 (I 10)) 385 (I 385)) 386 (I 386)) 449 (I 449)) 450 (I 450)) 513 w_25) 514 w_26) 577 (I 577)) 578 (I 578)) O (va_up (va_up (va_up (va_up R 13 (R 13)) 15 (R 15)) 17 w_27) 19 (R 19)) RO (LL ++ Y)) := hD
            refine lv_aload_n hx hb dX9_sheet_72 rfl (lv_at hl 0 rfl) ?_
            refine va_get (D := D) (ci := 8) (v := .ref (a 1)) (C := RX9) (T := TX9) (N := 11) hx hb hts hi9 hown hK hP 0 rfl rfl 0 (by decide) hw1 (fun _ h9 => h9) rfl dX9_sheet_73 ?_
            refine lv_iload_n hx hb dX9_sheet_76 rfl (lv_at hl 1 rfl) ?_
            refine va_aldq hx hb hK hP 1 4 rfl rfl (within_in4 c_1) dX9_sheet_77 ?_
            refine wtop_v (y := .ref (a 16)) (by rw [hj_7]; exact congrArg va_rf hRO2) ?_
            refine va_get (D := D) (ci := 5) (v := .int w_26) (C := RX6) (T := TX6) (N := 3) hx hb hts hi6 hown hK hP 16 rfl rfl 2 (by decide) hw2 (fun _ h9 => h9) rfl dX9_sheet_78 ?_
            exact wret_i hx hb hr hlocks (J, (va_up (va_up (va_up (va_up (va_up (va_up (va_up (va_up (va_up I 10 (I 10)) 385 (I 385)) 386 (I 386)) 449 (I 449)) 450 (I 450)) 513 w_25) 514 w_26) 577 (I 577)) 578 (I 578)), O, (va_up (va_up (va_up (va_up R 13 (R 13)) 15 (R 15)) 17 w_27) 19 (R 19)), RO, LL, Y) ⟨(I 10), (I 385), (I 386), (I 449), (I 450), w_25, w_26, (I 577), (I 578), (R 13), (R 15), w_27, (R 19), ⟨(hp_29.trans (sh_ok c_1 (Or.inl c_4) c_5 c_6).symm), hM.2.2.2.2.1, hM.2.2.2.2.2.1, hi_28, hM.2.2.2.2.2.2.2.1, (RCs_sh2 hSh c_1 (by rw [hj_7]; rfl) (Or.inl c_4) c_5 c_6 hp_30 hp_29 hp_31)⟩, rfl⟩ hP hD hS dX9_sheet_81
          · refine wtop_v (y := .ref (a 18)) (by rw [hj_7]; exact congrArg va_rf hRO3) ?_
            refine lv_iload_n hx hb dX9_sheet_67 rfl (lv_at hl 2 rfl) ?_
            refine lv_iload_n hx hb dX9_sheet_68 rfl (lv_at hl 3 rfl) ?_
            refine kM_v (As := [.int x1, .int x2]) (rest := []) (q0 := 18) ⟨hx, hb, hml, hown, hts⟩ (x_X6_begin18 l D cy a _ J (va_up (va_up (va_up (va_up (va_up (va_up (va_up (va_up (va_up I 10 (I 10)) 385 (I 385)) 386 (I 386)) 449 (I 449)) 450 (I 450)) 513 (I 513)) 514 (I 514)) 577 (I 577)) 578 (I 578)) O (va_up (va_up (va_up (va_up R 13 (R 13)) 15 (R 15)) 17 (R 17)) 19 (R 19)) RO LL Y x1 x2 (in17 c_5 c_6) ⟨hM.1, hM.2.1, hM.2.2.1, hM.2.2.2.1, hM.2.2.2.2.1, hM.2.2.2.2.2.1, hM.2.2.2.2.2.2.1, hM.2.2.2.2.2.2.2.1, hRO0, hRO1, hRO2, hRO3⟩ ) (cwV 2 hts gX9_sheet_X6_begin rfl rfl rfl (by decide +kernel) ⟨Nat.le_of_ble_eq_true rfl, Nat.le_of_ble_eq_true rfl⟩) hK hN hP hD hS hA rfl rfl rfl hl.1 rfl (Nat.le_of_ble_eq_true rfl) dX9_sheet_69 ⟨Nat.le_of_ble_eq_true rfl, Nat.le_of_ble_eq_true rfl⟩ (fun u H locs hw hP hD hS => ?_)
            obtain ⟨w_33, w_34, w_35, ⟨hi_36, hp_37, hp_38, hp_39⟩, rfl⟩ := hw
            have hP : va_P D vwCl (CT cy a J (va_up (va_up (va_up (va_up (va_up (va_up (va_up (va_up (va_up I 10 (I 10)) 385 (I 385)) 386 (I 386)) 449 (I 449)) 450 (I 450)) 513 (I 513)) 514 (I 514)) 577 w_33) 578 w_34) O (va_up (va_up (va_up (va_up R 13 (R 13)) 15 (R 15)) 17 (R 17)) 19 w_35) RO (LL ++ Y)) H := hP
            have hD : va_D A (CT cy a J (va_up (va_up (va_up (va_up (va_up (va_up (va_up (va_up (va_up I 10 (I 10)) 385 (I 385)) 386 (I 386)) 449 (I 449)) 450 (I 450)) 513 (I 513)) 514 (I 514)) 577 w_33) 578 w_34) O (va_up (va_up (va_up (va_up R 13 (R 13)) 15 (R 15)) 17 (R 17)) 19 w_35) RO (LL ++ Y)) := hD
            refine lv_aload_n hx hb dX9_sheet_72 rfl (lv_at hl 0 rfl) ?_
            refine va_get (D := D) (ci := 8) (v := .ref (a 1)) (C := RX9) (T := TX9) (N := 11) hx hb hts hi9 hown hK hP 0 rfl rfl 0 (by decide) hw1 (fun _ h9 => h9) rfl dX9_sheet_73 ?_
            refine lv_iload_n hx hb dX9_sheet_76 rfl (lv_at hl 1 rfl) ?_
            refine va_aldq hx hb hK hP 1 4 rfl rfl (within_in4 c_1) dX9_sheet_77 ?_
            refine wtop_v (y := .ref (a 18)) (by rw [hj_7]; exact congrArg va_rf hRO3) ?_
            refine va_get (D := D) (ci := 5) (v := .int w_34) (C := RX6) (T := TX6) (N := 3) hx hb hts hi6 hown hK hP 18 rfl rfl 2 (by decide) hw2 (fun _ h9 => h9) rfl dX9_sheet_78 ?_
            exact wret_i hx hb hr hlocks (J, (va_up (va_up (va_up (va_up (va_up (va_up (va_up (va_up (va_up I 10 (I 10)) 385 (I 385)) 386 (I 386)) 449 (I 449)) 450 (I 450)) 513 (I 513)) 514 (I 514)) 577 w_33) 578 w_34), O, (va_up (va_up (va_up (va_up R 13 (R 13)) 15 (R 15)) 17 (R 17)) 19 w_35), RO, LL, Y) ⟨(I 10), (I 385), (I 386), (I 449), (I 450), (I 513), (I 514), w_33, w_34, (R 13), (R 15), (R 17), w_35, ⟨(hp_37.trans (sh_ok c_1 (Or.inl c_4) c_5 c_6).symm), hM.2.2.2.2.1, hM.2.2.2.2.2.1, hM.2.2.2.2.2.2.1, hi_36, (RCs_sh3 hSh c_1 (by rw [hj_7]; rfl) (Or.inl c_4) c_5 c_6 hp_38 hp_37 hp_39)⟩, rfl⟩ hP hD hS dX9_sheet_81
        · refine lv_aload_n hx hb dX9_sheet_54 rfl (lv_at hl 0 rfl) ?_
          refine lv_ldc (v := (-100001)) hx hb hown hw0 dX9_sheet_55 ?_
          refine kM_i (As := [.int (-100001)]) (rest := []) (q0 := 0) ⟨hx, hb, hml, hown, hts⟩ (t_X9_finding l D cy a _ J (va_up (va_up (va_up (va_up (va_up (va_up (va_up (va_up (va_up I 10 (I 10)) 385 (I 385)) 386 (I 386)) 449 (I 449)) 450 (I 450)) 513 (I 513)) 514 (I 514)) 577 (I 577)) 578 (I 578)) O (va_up (va_up (va_up (va_up R 13 (R 13)) 15 (R 15)) 17 (R 17)) 19 (R 19)) RO LL Y ((-100001) : Int32)   ) (cwV 1 hts gX9_sheet_X9_finding rfl rfl rfl (by decide +kernel) ⟨Nat.le_of_ble_eq_true rfl, Nat.le_of_ble_eq_true rfl⟩) hK hN hP hD hS hA rfl rfl rfl hl.1 rfl (Nat.le_of_ble_eq_true rfl) dX9_sheet_57 ⟨Nat.le_of_ble_eq_true rfl, Nat.le_of_ble_eq_true rfl⟩ (fun r_40 u H locs hw hP hD hS => ?_)
          obtain ⟨w_41, rfl, rfl⟩ := hw
          have hP : va_P D vwCl (CT cy a J (va_up (va_up (va_up (va_up (va_up (va_up (va_up (va_up (va_up I 10 w_41) 385 (I 385)) 386 (I 386)) 449 (I 449)) 450 (I 450)) 513 (I 513)) 514 (I 514)) 577 (I 577)) 578 (I 578)) O (va_up (va_up (va_up (va_up R 13 (R 13)) 15 (R 15)) 17 (R 17)) 19 (R 19)) RO (LL ++ Y)) H := hP
          have hD : va_D A (CT cy a J (va_up (va_up (va_up (va_up (va_up (va_up (va_up (va_up (va_up I 10 w_41) 385 (I 385)) 386 (I 386)) 449 (I 449)) 450 (I 450)) 513 (I 513)) 514 (I 514)) 577 (I 577)) 578 (I 578)) O (va_up (va_up (va_up (va_up R 13 (R 13)) 15 (R 15)) 17 (R 17)) 19 (R 19)) RO (LL ++ Y)) := hD
          exact wret_i hx hb hr hlocks (J, (va_up (va_up (va_up (va_up (va_up (va_up (va_up (va_up (va_up I 10 w_41) 385 (I 385)) 386 (I 386)) 449 (I 449)) 450 (I 450)) 513 (I 513)) 514 (I 514)) 577 (I 577)) 578 (I 578)), O, (va_up (va_up (va_up (va_up R 13 (R 13)) 15 (R 15)) 17 (R 17)) 19 (R 19)), RO, LL, Y) ⟨w_41, (I 385), (I 386), (I 449), (I 450), (I 513), (I 514), (I 577), (I 578), (R 13), (R 15), (R 17), (R 19), ⟨(sh_big c_1 (Or.inl c_4) c_5 c_6), hM.2.2.2.2.1, hM.2.2.2.2.2.1, hM.2.2.2.2.2.2.1, hM.2.2.2.2.2.2.2.1, (RCs_no (sOk_4 c_6) hSh)⟩, rfl⟩ hP hD hS dX9_sheet_60
      · refine lv_aload_n hx hb dX9_sheet_41 rfl (lv_at hl 0 rfl) ?_
        refine lv_ldc (v := (-100003)) hx hb hown hw3 dX9_sheet_42 ?_
        refine kM_i (As := [.int (-100003)]) (rest := []) (q0 := 0) ⟨hx, hb, hml, hown, hts⟩ (t_X9_finding l D cy a _ J (va_up (va_up (va_up (va_up (va_up (va_up (va_up (va_up (va_up I 10 (I 10)) 385 (I 385)) 386 (I 386)) 449 (I 449)) 450 (I 450)) 513 (I 513)) 514 (I 514)) 577 (I 577)) 578 (I 578)) O (va_up (va_up (va_up (va_up R 13 (R 13)) 15 (R 15)) 17 (R 17)) 19 (R 19)) RO LL Y ((-100003) : Int32)   ) (cwV 1 hts gX9_sheet_X9_finding rfl rfl rfl (by decide +kernel) ⟨Nat.le_of_ble_eq_true rfl, Nat.le_of_ble_eq_true rfl⟩) hK hN hP hD hS hA rfl rfl rfl hl.1 rfl (Nat.le_of_ble_eq_true rfl) dX9_sheet_44 ⟨Nat.le_of_ble_eq_true rfl, Nat.le_of_ble_eq_true rfl⟩ (fun r_42 u H locs hw hP hD hS => ?_)
        obtain ⟨w_43, rfl, rfl⟩ := hw
        have hP : va_P D vwCl (CT cy a J (va_up (va_up (va_up (va_up (va_up (va_up (va_up (va_up (va_up I 10 w_43) 385 (I 385)) 386 (I 386)) 449 (I 449)) 450 (I 450)) 513 (I 513)) 514 (I 514)) 577 (I 577)) 578 (I 578)) O (va_up (va_up (va_up (va_up R 13 (R 13)) 15 (R 15)) 17 (R 17)) 19 (R 19)) RO (LL ++ Y)) H := hP
        have hD : va_D A (CT cy a J (va_up (va_up (va_up (va_up (va_up (va_up (va_up (va_up (va_up I 10 w_43) 385 (I 385)) 386 (I 386)) 449 (I 449)) 450 (I 450)) 513 (I 513)) 514 (I 514)) 577 (I 577)) 578 (I 578)) O (va_up (va_up (va_up (va_up R 13 (R 13)) 15 (R 15)) 17 (R 17)) 19 (R 19)) RO (LL ++ Y)) := hD
        exact wret_i hx hb hr hlocks (J, (va_up (va_up (va_up (va_up (va_up (va_up (va_up (va_up (va_up I 10 w_43) 385 (I 385)) 386 (I 386)) 449 (I 449)) 450 (I 450)) 513 (I 513)) 514 (I 514)) 577 (I 577)) 578 (I 578)), O, (va_up (va_up (va_up (va_up R 13 (R 13)) 15 (R 15)) 17 (R 17)) 19 (R 19)), RO, LL, Y) ⟨w_43, (I 385), (I 386), (I 449), (I 450), (I 513), (I 514), (I 577), (I 578), (R 13), (R 15), (R 17), (R 19), ⟨(sh_sz c_1 (Or.inl c_4) c_5), hM.2.2.2.2.1, hM.2.2.2.2.2.1, hM.2.2.2.2.2.2.1, hM.2.2.2.2.2.2.2.1, (RCs_no (sOk_3 c_5) hSh)⟩, rfl⟩ hP hD hS dX9_sheet_47
    · refine lv_iload_n hx hb dX9_sheet_12 rfl (lv_at hl 2 rfl) ?_
      refine lv_bipush (v := 8) hx hb dX9_sheet_13 (by decide) ?_
      refine lv_icmp_eq (tgt := 37) hx hb dX9_sheet_15 (by decide) (fun c_44 => ?_) (fun c_44 => ?_)
      · refine lv_iload_n hx hb dX9_sheet_37 rfl (lv_at hl 3 rfl) ?_
        refine lv_if_ge (tgt := 48) hx hb dX9_sheet_38 (by decide) (fun c_45 => ?_) (fun c_45 => ?_)
        · refine lv_iload_n hx hb dX9_sheet_48 rfl (lv_at hl 3 rfl) ?_
          refine lv_bipush (v := 16) hx hb dX9_sheet_49 (by decide) ?_
          refine lv_icmp_le (tgt := 61) hx hb dX9_sheet_51 (by decide) (fun c_46 => ?_) (fun c_46 => ?_)
          · refine lv_aload_n hx hb dX9_sheet_61 rfl (lv_at hl 0 rfl) ?_
            refine va_get (D := D) (ci := 8) (v := .ref (a 1)) (C := RX9) (T := TX9) (N := 11) hx hb hts hi9 hown hK hP 0 rfl rfl 0 (by decide) hw1 (fun _ h9 => h9) rfl dX9_sheet_62 ?_
            refine lv_iload_n hx hb dX9_sheet_65 rfl (lv_at hl 1 rfl) ?_
            refine va_aldq hx hb hK hP 1 4 rfl rfl (within_in4 c_1) dX9_sheet_66 ?_
            rcases in4 (within_in4 c_1) with hj_47 | hj_47 | hj_47 | hj_47
            · refine wtop_v (y := .ref (a 12)) (by rw [hj_47]; exact congrArg va_rf hRO0) ?_
              refine lv_iload_n hx hb dX9_sheet_67 rfl (lv_at hl 2 rfl) ?_
              refine lv_iload_n hx hb dX9_sheet_68 rfl (lv_at hl 3 rfl) ?_
              refine kM_v (As := [.int x1, .int x2]) (rest := []) (q0 := 12) ⟨hx, hb, hml, hown, hts⟩ (x_X6_begin12 l D cy a _ J (va_up (va_up (va_up (va_up (va_up (va_up (va_up (va_up (va_up I 10 (I 10)) 385 (I 385)) 386 (I 386)) 449 (I 449)) 450 (I 450)) 513 (I 513)) 514 (I 514)) 577 (I 577)) 578 (I 578)) O (va_up (va_up (va_up (va_up R 13 (R 13)) 15 (R 15)) 17 (R 17)) 19 (R 19)) RO LL Y x1 x2 (in17 c_45 c_46) ⟨hM.1, hM.2.1, hM.2.2.1, hM.2.2.2.1, hM.2.2.2.2.1, hM.2.2.2.2.2.1, hM.2.2.2.2.2.2.1, hM.2.2.2.2.2.2.2.1, hRO0, hRO1, hRO2, hRO3⟩ ) (cwV 2 hts gX9_sheet_X6_begin rfl rfl rfl (by decide +kernel) ⟨Nat.le_of_ble_eq_true rfl, Nat.le_of_ble_eq_true rfl⟩) hK hN hP hD hS hA rfl rfl rfl hl.1 rfl (Nat.le_of_ble_eq_true rfl) dX9_sheet_69 ⟨Nat.le_of_ble_eq_true rfl, Nat.le_of_ble_eq_true rfl⟩ (fun u H locs hw hP hD hS => ?_)
              obtain ⟨w_49, w_50, w_51, ⟨hi_52, hp_53, hp_54, hp_55⟩, rfl⟩ := hw
              have hP : va_P D vwCl (CT cy a J (va_up (va_up (va_up (va_up (va_up (va_up (va_up (va_up (va_up I 10 (I 10)) 385 w_49) 386 w_50) 449 (I 449)) 450 (I 450)) 513 (I 513)) 514 (I 514)) 577 (I 577)) 578 (I 578)) O (va_up (va_up (va_up (va_up R 13 w_51) 15 (R 15)) 17 (R 17)) 19 (R 19)) RO (LL ++ Y)) H := hP
              have hD : va_D A (CT cy a J (va_up (va_up (va_up (va_up (va_up (va_up (va_up (va_up (va_up I 10 (I 10)) 385 w_49) 386 w_50) 449 (I 449)) 450 (I 450)) 513 (I 513)) 514 (I 514)) 577 (I 577)) 578 (I 578)) O (va_up (va_up (va_up (va_up R 13 w_51) 15 (R 15)) 17 (R 17)) 19 (R 19)) RO (LL ++ Y)) := hD
              refine lv_aload_n hx hb dX9_sheet_72 rfl (lv_at hl 0 rfl) ?_
              refine va_get (D := D) (ci := 8) (v := .ref (a 1)) (C := RX9) (T := TX9) (N := 11) hx hb hts hi9 hown hK hP 0 rfl rfl 0 (by decide) hw1 (fun _ h9 => h9) rfl dX9_sheet_73 ?_
              refine lv_iload_n hx hb dX9_sheet_76 rfl (lv_at hl 1 rfl) ?_
              refine va_aldq hx hb hK hP 1 4 rfl rfl (within_in4 c_1) dX9_sheet_77 ?_
              refine wtop_v (y := .ref (a 12)) (by rw [hj_47]; exact congrArg va_rf hRO0) ?_
              refine va_get (D := D) (ci := 5) (v := .int w_50) (C := RX6) (T := TX6) (N := 3) hx hb hts hi6 hown hK hP 12 rfl rfl 2 (by decide) hw2 (fun _ h9 => h9) rfl dX9_sheet_78 ?_
              exact wret_i hx hb hr hlocks (J, (va_up (va_up (va_up (va_up (va_up (va_up (va_up (va_up (va_up I 10 (I 10)) 385 w_49) 386 w_50) 449 (I 449)) 450 (I 450)) 513 (I 513)) 514 (I 514)) 577 (I 577)) 578 (I 578)), O, (va_up (va_up (va_up (va_up R 13 w_51) 15 (R 15)) 17 (R 17)) 19 (R 19)), RO, LL, Y) ⟨(I 10), w_49, w_50, (I 449), (I 450), (I 513), (I 514), (I 577), (I 578), w_51, (R 15), (R 17), (R 19), ⟨(hp_53.trans (sh_ok c_1 (Or.inr (Or.inl c_44)) c_45 c_46).symm), hi_52, hM.2.2.2.2.2.1, hM.2.2.2.2.2.2.1, hM.2.2.2.2.2.2.2.1, (RCs_sh0 hSh c_1 (by rw [hj_47]; rfl) (Or.inr (Or.inl c_44)) c_45 c_46 hp_54 hp_53 hp_55)⟩, rfl⟩ hP hD hS dX9_sheet_81
            · refine wtop_v (y := .ref (a 14)) (by rw [hj_47]; exact congrArg va_rf hRO1) ?_
              refine lv_iload_n hx hb dX9_sheet_67 rfl (lv_at hl 2 rfl) ?_
              refine lv_iload_n hx hb dX9_sheet_68 rfl (lv_at hl 3 rfl) ?_
              refine kM_v (As := [.int x1, .int x2]) (rest := []) (q0 := 14) ⟨hx, hb, hml, hown, hts⟩ (x_X6_begin14 l D cy a _ J (va_up (va_up (va_up (va_up (va_up (va_up (va_up (va_up (va_up I 10 (I 10)) 385 (I 385)) 386 (I 386)) 449 (I 449)) 450 (I 450)) 513 (I 513)) 514 (I 514)) 577 (I 577)) 578 (I 578)) O (va_up (va_up (va_up (va_up R 13 (R 13)) 15 (R 15)) 17 (R 17)) 19 (R 19)) RO LL Y x1 x2 (in17 c_45 c_46) ⟨hM.1, hM.2.1, hM.2.2.1, hM.2.2.2.1, hM.2.2.2.2.1, hM.2.2.2.2.2.1, hM.2.2.2.2.2.2.1, hM.2.2.2.2.2.2.2.1, hRO0, hRO1, hRO2, hRO3⟩ ) (cwV 2 hts gX9_sheet_X6_begin rfl rfl rfl (by decide +kernel) ⟨Nat.le_of_ble_eq_true rfl, Nat.le_of_ble_eq_true rfl⟩) hK hN hP hD hS hA rfl rfl rfl hl.1 rfl (Nat.le_of_ble_eq_true rfl) dX9_sheet_69 ⟨Nat.le_of_ble_eq_true rfl, Nat.le_of_ble_eq_true rfl⟩ (fun u H locs hw hP hD hS => ?_)
              obtain ⟨w_57, w_58, w_59, ⟨hi_60, hp_61, hp_62, hp_63⟩, rfl⟩ := hw
              have hP : va_P D vwCl (CT cy a J (va_up (va_up (va_up (va_up (va_up (va_up (va_up (va_up (va_up I 10 (I 10)) 385 (I 385)) 386 (I 386)) 449 w_57) 450 w_58) 513 (I 513)) 514 (I 514)) 577 (I 577)) 578 (I 578)) O (va_up (va_up (va_up (va_up R 13 (R 13)) 15 w_59) 17 (R 17)) 19 (R 19)) RO (LL ++ Y)) H := hP
              have hD : va_D A (CT cy a J (va_up (va_up (va_up (va_up (va_up (va_up (va_up (va_up (va_up I 10 (I 10)) 385 (I 385)) 386 (I 386)) 449 w_57) 450 w_58) 513 (I 513)) 514 (I 514)) 577 (I 577)) 578 (I 578)) O (va_up (va_up (va_up (va_up R 13 (R 13)) 15 w_59) 17 (R 17)) 19 (R 19)) RO (LL ++ Y)) := hD
              refine lv_aload_n hx hb dX9_sheet_72 rfl (lv_at hl 0 rfl) ?_
              refine va_get (D := D) (ci := 8) (v := .ref (a 1)) (C := RX9) (T := TX9) (N := 11) hx hb hts hi9 hown hK hP 0 rfl rfl 0 (by decide) hw1 (fun _ h9 => h9) rfl dX9_sheet_73 ?_
              refine lv_iload_n hx hb dX9_sheet_76 rfl (lv_at hl 1 rfl) ?_
              refine va_aldq hx hb hK hP 1 4 rfl rfl (within_in4 c_1) dX9_sheet_77 ?_
              refine wtop_v (y := .ref (a 14)) (by rw [hj_47]; exact congrArg va_rf hRO1) ?_
              refine va_get (D := D) (ci := 5) (v := .int w_58) (C := RX6) (T := TX6) (N := 3) hx hb hts hi6 hown hK hP 14 rfl rfl 2 (by decide) hw2 (fun _ h9 => h9) rfl dX9_sheet_78 ?_
              exact wret_i hx hb hr hlocks (J, (va_up (va_up (va_up (va_up (va_up (va_up (va_up (va_up (va_up I 10 (I 10)) 385 (I 385)) 386 (I 386)) 449 w_57) 450 w_58) 513 (I 513)) 514 (I 514)) 577 (I 577)) 578 (I 578)), O, (va_up (va_up (va_up (va_up R 13 (R 13)) 15 w_59) 17 (R 17)) 19 (R 19)), RO, LL, Y) ⟨(I 10), (I 385), (I 386), w_57, w_58, (I 513), (I 514), (I 577), (I 578), (R 13), w_59, (R 17), (R 19), ⟨(hp_61.trans (sh_ok c_1 (Or.inr (Or.inl c_44)) c_45 c_46).symm), hM.2.2.2.2.1, hi_60, hM.2.2.2.2.2.2.1, hM.2.2.2.2.2.2.2.1, (RCs_sh1 hSh c_1 (by rw [hj_47]; rfl) (Or.inr (Or.inl c_44)) c_45 c_46 hp_62 hp_61 hp_63)⟩, rfl⟩ hP hD hS dX9_sheet_81
            · refine wtop_v (y := .ref (a 16)) (by rw [hj_47]; exact congrArg va_rf hRO2) ?_
              refine lv_iload_n hx hb dX9_sheet_67 rfl (lv_at hl 2 rfl) ?_
              refine lv_iload_n hx hb dX9_sheet_68 rfl (lv_at hl 3 rfl) ?_
              refine kM_v (As := [.int x1, .int x2]) (rest := []) (q0 := 16) ⟨hx, hb, hml, hown, hts⟩ (x_X6_begin16 l D cy a _ J (va_up (va_up (va_up (va_up (va_up (va_up (va_up (va_up (va_up I 10 (I 10)) 385 (I 385)) 386 (I 386)) 449 (I 449)) 450 (I 450)) 513 (I 513)) 514 (I 514)) 577 (I 577)) 578 (I 578)) O (va_up (va_up (va_up (va_up R 13 (R 13)) 15 (R 15)) 17 (R 17)) 19 (R 19)) RO LL Y x1 x2 (in17 c_45 c_46) ⟨hM.1, hM.2.1, hM.2.2.1, hM.2.2.2.1, hM.2.2.2.2.1, hM.2.2.2.2.2.1, hM.2.2.2.2.2.2.1, hM.2.2.2.2.2.2.2.1, hRO0, hRO1, hRO2, hRO3⟩ ) (cwV 2 hts gX9_sheet_X6_begin rfl rfl rfl (by decide +kernel) ⟨Nat.le_of_ble_eq_true rfl, Nat.le_of_ble_eq_true rfl⟩) hK hN hP hD hS hA rfl rfl rfl hl.1 rfl (Nat.le_of_ble_eq_true rfl) dX9_sheet_69 ⟨Nat.le_of_ble_eq_true rfl, Nat.le_of_ble_eq_true rfl⟩ (fun u H locs hw hP hD hS => ?_)
              obtain ⟨w_65, w_66, w_67, ⟨hi_68, hp_69, hp_70, hp_71⟩, rfl⟩ := hw
              have hP : va_P D vwCl (CT cy a J (va_up (va_up (va_up (va_up (va_up (va_up (va_up (va_up (va_up I 10 (I 10)) 385 (I 385)) 386 (I 386)) 449 (I 449)) 450 (I 450)) 513 w_65) 514 w_66) 577 (I 577)) 578 (I 578)) O (va_up (va_up (va_up (va_up R 13 (R 13)) 15 (R 15)) 17 w_67) 19 (R 19)) RO (LL ++ Y)) H := hP
              have hD : va_D A (CT cy a J (va_up (va_up (va_up (va_up (va_up (va_up (va_up (va_up (va_up I 10 (I 10)) 385 (I 385)) 386 (I 386)) 449 (I 449)) 450 (I 450)) 513 w_65) 514 w_66) 577 (I 577)) 578 (I 578)) O (va_up (va_up (va_up (va_up R 13 (R 13)) 15 (R 15)) 17 w_67) 19 (R 19)) RO (LL ++ Y)) := hD
              refine lv_aload_n hx hb dX9_sheet_72 rfl (lv_at hl 0 rfl) ?_
              refine va_get (D := D) (ci := 8) (v := .ref (a 1)) (C := RX9) (T := TX9) (N := 11) hx hb hts hi9 hown hK hP 0 rfl rfl 0 (by decide) hw1 (fun _ h9 => h9) rfl dX9_sheet_73 ?_
              refine lv_iload_n hx hb dX9_sheet_76 rfl (lv_at hl 1 rfl) ?_
              refine va_aldq hx hb hK hP 1 4 rfl rfl (within_in4 c_1) dX9_sheet_77 ?_
              refine wtop_v (y := .ref (a 16)) (by rw [hj_47]; exact congrArg va_rf hRO2) ?_
              refine va_get (D := D) (ci := 5) (v := .int w_66) (C := RX6) (T := TX6) (N := 3) hx hb hts hi6 hown hK hP 16 rfl rfl 2 (by decide) hw2 (fun _ h9 => h9) rfl dX9_sheet_78 ?_
              exact wret_i hx hb hr hlocks (J, (va_up (va_up (va_up (va_up (va_up (va_up (va_up (va_up (va_up I 10 (I 10)) 385 (I 385)) 386 (I 386)) 449 (I 449)) 450 (I 450)) 513 w_65) 514 w_66) 577 (I 577)) 578 (I 578)), O, (va_up (va_up (va_up (va_up R 13 (R 13)) 15 (R 15)) 17 w_67) 19 (R 19)), RO, LL, Y) ⟨(I 10), (I 385), (I 386), (I 449), (I 450), w_65, w_66, (I 577), (I 578), (R 13), (R 15), w_67, (R 19), ⟨(hp_69.trans (sh_ok c_1 (Or.inr (Or.inl c_44)) c_45 c_46).symm), hM.2.2.2.2.1, hM.2.2.2.2.2.1, hi_68, hM.2.2.2.2.2.2.2.1, (RCs_sh2 hSh c_1 (by rw [hj_47]; rfl) (Or.inr (Or.inl c_44)) c_45 c_46 hp_70 hp_69 hp_71)⟩, rfl⟩ hP hD hS dX9_sheet_81
            · refine wtop_v (y := .ref (a 18)) (by rw [hj_47]; exact congrArg va_rf hRO3) ?_
              refine lv_iload_n hx hb dX9_sheet_67 rfl (lv_at hl 2 rfl) ?_
              refine lv_iload_n hx hb dX9_sheet_68 rfl (lv_at hl 3 rfl) ?_
              refine kM_v (As := [.int x1, .int x2]) (rest := []) (q0 := 18) ⟨hx, hb, hml, hown, hts⟩ (x_X6_begin18 l D cy a _ J (va_up (va_up (va_up (va_up (va_up (va_up (va_up (va_up (va_up I 10 (I 10)) 385 (I 385)) 386 (I 386)) 449 (I 449)) 450 (I 450)) 513 (I 513)) 514 (I 514)) 577 (I 577)) 578 (I 578)) O (va_up (va_up (va_up (va_up R 13 (R 13)) 15 (R 15)) 17 (R 17)) 19 (R 19)) RO LL Y x1 x2 (in17 c_45 c_46) ⟨hM.1, hM.2.1, hM.2.2.1, hM.2.2.2.1, hM.2.2.2.2.1, hM.2.2.2.2.2.1, hM.2.2.2.2.2.2.1, hM.2.2.2.2.2.2.2.1, hRO0, hRO1, hRO2, hRO3⟩ ) (cwV 2 hts gX9_sheet_X6_begin rfl rfl rfl (by decide +kernel) ⟨Nat.le_of_ble_eq_true rfl, Nat.le_of_ble_eq_true rfl⟩) hK hN hP hD hS hA rfl rfl rfl hl.1 rfl (Nat.le_of_ble_eq_true rfl) dX9_sheet_69 ⟨Nat.le_of_ble_eq_true rfl, Nat.le_of_ble_eq_true rfl⟩ (fun u H locs hw hP hD hS => ?_)
              obtain ⟨w_73, w_74, w_75, ⟨hi_76, hp_77, hp_78, hp_79⟩, rfl⟩ := hw
              have hP : va_P D vwCl (CT cy a J (va_up (va_up (va_up (va_up (va_up (va_up (va_up (va_up (va_up I 10 (I 10)) 385 (I 385)) 386 (I 386)) 449 (I 449)) 450 (I 450)) 513 (I 513)) 514 (I 514)) 577 w_73) 578 w_74) O (va_up (va_up (va_up (va_up R 13 (R 13)) 15 (R 15)) 17 (R 17)) 19 w_75) RO (LL ++ Y)) H := hP
              have hD : va_D A (CT cy a J (va_up (va_up (va_up (va_up (va_up (va_up (va_up (va_up (va_up I 10 (I 10)) 385 (I 385)) 386 (I 386)) 449 (I 449)) 450 (I 450)) 513 (I 513)) 514 (I 514)) 577 w_73) 578 w_74) O (va_up (va_up (va_up (va_up R 13 (R 13)) 15 (R 15)) 17 (R 17)) 19 w_75) RO (LL ++ Y)) := hD
              refine lv_aload_n hx hb dX9_sheet_72 rfl (lv_at hl 0 rfl) ?_
              refine va_get (D := D) (ci := 8) (v := .ref (a 1)) (C := RX9) (T := TX9) (N := 11) hx hb hts hi9 hown hK hP 0 rfl rfl 0 (by decide) hw1 (fun _ h9 => h9) rfl dX9_sheet_73 ?_
              refine lv_iload_n hx hb dX9_sheet_76 rfl (lv_at hl 1 rfl) ?_
              refine va_aldq hx hb hK hP 1 4 rfl rfl (within_in4 c_1) dX9_sheet_77 ?_
              refine wtop_v (y := .ref (a 18)) (by rw [hj_47]; exact congrArg va_rf hRO3) ?_
              refine va_get (D := D) (ci := 5) (v := .int w_74) (C := RX6) (T := TX6) (N := 3) hx hb hts hi6 hown hK hP 18 rfl rfl 2 (by decide) hw2 (fun _ h9 => h9) rfl dX9_sheet_78 ?_
              exact wret_i hx hb hr hlocks (J, (va_up (va_up (va_up (va_up (va_up (va_up (va_up (va_up (va_up I 10 (I 10)) 385 (I 385)) 386 (I 386)) 449 (I 449)) 450 (I 450)) 513 (I 513)) 514 (I 514)) 577 w_73) 578 w_74), O, (va_up (va_up (va_up (va_up R 13 (R 13)) 15 (R 15)) 17 (R 17)) 19 w_75), RO, LL, Y) ⟨(I 10), (I 385), (I 386), (I 449), (I 450), (I 513), (I 514), w_73, w_74, (R 13), (R 15), (R 17), w_75, ⟨(hp_77.trans (sh_ok c_1 (Or.inr (Or.inl c_44)) c_45 c_46).symm), hM.2.2.2.2.1, hM.2.2.2.2.2.1, hM.2.2.2.2.2.2.1, hi_76, (RCs_sh3 hSh c_1 (by rw [hj_47]; rfl) (Or.inr (Or.inl c_44)) c_45 c_46 hp_78 hp_77 hp_79)⟩, rfl⟩ hP hD hS dX9_sheet_81
          · refine lv_aload_n hx hb dX9_sheet_54 rfl (lv_at hl 0 rfl) ?_
            refine lv_ldc (v := (-100001)) hx hb hown hw0 dX9_sheet_55 ?_
            refine kM_i (As := [.int (-100001)]) (rest := []) (q0 := 0) ⟨hx, hb, hml, hown, hts⟩ (t_X9_finding l D cy a _ J (va_up (va_up (va_up (va_up (va_up (va_up (va_up (va_up (va_up I 10 (I 10)) 385 (I 385)) 386 (I 386)) 449 (I 449)) 450 (I 450)) 513 (I 513)) 514 (I 514)) 577 (I 577)) 578 (I 578)) O (va_up (va_up (va_up (va_up R 13 (R 13)) 15 (R 15)) 17 (R 17)) 19 (R 19)) RO LL Y ((-100001) : Int32)   ) (cwV 1 hts gX9_sheet_X9_finding rfl rfl rfl (by decide +kernel) ⟨Nat.le_of_ble_eq_true rfl, Nat.le_of_ble_eq_true rfl⟩) hK hN hP hD hS hA rfl rfl rfl hl.1 rfl (Nat.le_of_ble_eq_true rfl) dX9_sheet_57 ⟨Nat.le_of_ble_eq_true rfl, Nat.le_of_ble_eq_true rfl⟩ (fun r_80 u H locs hw hP hD hS => ?_)
            obtain ⟨w_81, rfl, rfl⟩ := hw
            have hP : va_P D vwCl (CT cy a J (va_up (va_up (va_up (va_up (va_up (va_up (va_up (va_up (va_up I 10 w_81) 385 (I 385)) 386 (I 386)) 449 (I 449)) 450 (I 450)) 513 (I 513)) 514 (I 514)) 577 (I 577)) 578 (I 578)) O (va_up (va_up (va_up (va_up R 13 (R 13)) 15 (R 15)) 17 (R 17)) 19 (R 19)) RO (LL ++ Y)) H := hP
            have hD : va_D A (CT cy a J (va_up (va_up (va_up (va_up (va_up (va_up (va_up (va_up (va_up I 10 w_81) 385 (I 385)) 386 (I 386)) 449 (I 449)) 450 (I 450)) 513 (I 513)) 514 (I 514)) 577 (I 577)) 578 (I 578)) O (va_up (va_up (va_up (va_up R 13 (R 13)) 15 (R 15)) 17 (R 17)) 19 (R 19)) RO (LL ++ Y)) := hD
            exact wret_i hx hb hr hlocks (J, (va_up (va_up (va_up (va_up (va_up (va_up (va_up (va_up (va_up I 10 w_81) 385 (I 385)) 386 (I 386)) 449 (I 449)) 450 (I 450)) 513 (I 513)) 514 (I 514)) 577 (I 577)) 578 (I 578)), O, (va_up (va_up (va_up (va_up R 13 (R 13)) 15 (R 15)) 17 (R 17)) 19 (R 19)), RO, LL, Y) ⟨w_81, (I 385), (I 386), (I 449), (I 450), (I 513), (I 514), (I 577), (I 578), (R 13), (R 15), (R 17), (R 19), ⟨(sh_big c_1 (Or.inr (Or.inl c_44)) c_45 c_46), hM.2.2.2.2.1, hM.2.2.2.2.2.1, hM.2.2.2.2.2.2.1, hM.2.2.2.2.2.2.2.1, (RCs_no (sOk_4 c_46) hSh)⟩, rfl⟩ hP hD hS dX9_sheet_60
        · refine lv_aload_n hx hb dX9_sheet_41 rfl (lv_at hl 0 rfl) ?_
          refine lv_ldc (v := (-100003)) hx hb hown hw3 dX9_sheet_42 ?_
          refine kM_i (As := [.int (-100003)]) (rest := []) (q0 := 0) ⟨hx, hb, hml, hown, hts⟩ (t_X9_finding l D cy a _ J (va_up (va_up (va_up (va_up (va_up (va_up (va_up (va_up (va_up I 10 (I 10)) 385 (I 385)) 386 (I 386)) 449 (I 449)) 450 (I 450)) 513 (I 513)) 514 (I 514)) 577 (I 577)) 578 (I 578)) O (va_up (va_up (va_up (va_up R 13 (R 13)) 15 (R 15)) 17 (R 17)) 19 (R 19)) RO LL Y ((-100003) : Int32)   ) (cwV 1 hts gX9_sheet_X9_finding rfl rfl rfl (by decide +kernel) ⟨Nat.le_of_ble_eq_true rfl, Nat.le_of_ble_eq_true rfl⟩) hK hN hP hD hS hA rfl rfl rfl hl.1 rfl (Nat.le_of_ble_eq_true rfl) dX9_sheet_44 ⟨Nat.le_of_ble_eq_true rfl, Nat.le_of_ble_eq_true rfl⟩ (fun r_82 u H locs hw hP hD hS => ?_)
          obtain ⟨w_83, rfl, rfl⟩ := hw
          have hP : va_P D vwCl (CT cy a J (va_up (va_up (va_up (va_up (va_up (va_up (va_up (va_up (va_up I 10 w_83) 385 (I 385)) 386 (I 386)) 449 (I 449)) 450 (I 450)) 513 (I 513)) 514 (I 514)) 577 (I 577)) 578 (I 578)) O (va_up (va_up (va_up (va_up R 13 (R 13)) 15 (R 15)) 17 (R 17)) 19 (R 19)) RO (LL ++ Y)) H := hP
          have hD : va_D A (CT cy a J (va_up (va_up (va_up (va_up (va_up (va_up (va_up (va_up (va_up I 10 w_83) 385 (I 385)) 386 (I 386)) 449 (I 449)) 450 (I 450)) 513 (I 513)) 514 (I 514)) 577 (I 577)) 578 (I 578)) O (va_up (va_up (va_up (va_up R 13 (R 13)) 15 (R 15)) 17 (R 17)) 19 (R 19)) RO (LL ++ Y)) := hD
          exact wret_i hx hb hr hlocks (J, (va_up (va_up (va_up (va_up (va_up (va_up (va_up (va_up (va_up I 10 w_83) 385 (I 385)) 386 (I 386)) 449 (I 449)) 450 (I 450)) 513 (I 513)) 514 (I 514)) 577 (I 577)) 578 (I 578)), O, (va_up (va_up (va_up (va_up R 13 (R 13)) 15 (R 15)) 17 (R 17)) 19 (R 19)), RO, LL, Y) ⟨w_83, (I 385), (I 386), (I 449), (I 450), (I 513), (I 514), (I 577), (I 578), (R 13), (R 15), (R 17), (R 19), ⟨(sh_sz c_1 (Or.inr (Or.inl c_44)) c_45), hM.2.2.2.2.1, hM.2.2.2.2.2.1, hM.2.2.2.2.2.2.1, hM.2.2.2.2.2.2.2.1, (RCs_no (sOk_3 c_45) hSh)⟩, rfl⟩ hP hD hS dX9_sheet_47
      · refine lv_iload_n hx hb dX9_sheet_18 rfl (lv_at hl 2 rfl) ?_
        refine lv_bipush (v := 16) hx hb dX9_sheet_19 (by decide) ?_
        refine lv_icmp_eq (tgt := 37) hx hb dX9_sheet_21 (by decide) (fun c_84 => ?_) (fun c_84 => ?_)
        · refine lv_iload_n hx hb dX9_sheet_37 rfl (lv_at hl 3 rfl) ?_
          refine lv_if_ge (tgt := 48) hx hb dX9_sheet_38 (by decide) (fun c_85 => ?_) (fun c_85 => ?_)
          · refine lv_iload_n hx hb dX9_sheet_48 rfl (lv_at hl 3 rfl) ?_
            refine lv_bipush (v := 16) hx hb dX9_sheet_49 (by decide) ?_
            refine lv_icmp_le (tgt := 61) hx hb dX9_sheet_51 (by decide) (fun c_86 => ?_) (fun c_86 => ?_)
            · refine lv_aload_n hx hb dX9_sheet_61 rfl (lv_at hl 0 rfl) ?_
              refine va_get (D := D) (ci := 8) (v := .ref (a 1)) (C := RX9) (T := TX9) (N := 11) hx hb hts hi9 hown hK hP 0 rfl rfl 0 (by decide) hw1 (fun _ h9 => h9) rfl dX9_sheet_62 ?_
              refine lv_iload_n hx hb dX9_sheet_65 rfl (lv_at hl 1 rfl) ?_
              refine va_aldq hx hb hK hP 1 4 rfl rfl (within_in4 c_1) dX9_sheet_66 ?_
              rcases in4 (within_in4 c_1) with hj_87 | hj_87 | hj_87 | hj_87
              · refine wtop_v (y := .ref (a 12)) (by rw [hj_87]; exact congrArg va_rf hRO0) ?_
                refine lv_iload_n hx hb dX9_sheet_67 rfl (lv_at hl 2 rfl) ?_
                refine lv_iload_n hx hb dX9_sheet_68 rfl (lv_at hl 3 rfl) ?_
                refine kM_v (As := [.int x1, .int x2]) (rest := []) (q0 := 12) ⟨hx, hb, hml, hown, hts⟩ (x_X6_begin12 l D cy a _ J (va_up (va_up (va_up (va_up (va_up (va_up (va_up (va_up (va_up I 10 (I 10)) 385 (I 385)) 386 (I 386)) 449 (I 449)) 450 (I 450)) 513 (I 513)) 514 (I 514)) 577 (I 577)) 578 (I 578)) O (va_up (va_up (va_up (va_up R 13 (R 13)) 15 (R 15)) 17 (R 17)) 19 (R 19)) RO LL Y x1 x2 (in17 c_85 c_86) ⟨hM.1, hM.2.1, hM.2.2.1, hM.2.2.2.1, hM.2.2.2.2.1, hM.2.2.2.2.2.1, hM.2.2.2.2.2.2.1, hM.2.2.2.2.2.2.2.1, hRO0, hRO1, hRO2, hRO3⟩ ) (cwV 2 hts gX9_sheet_X6_begin rfl rfl rfl (by decide +kernel) ⟨Nat.le_of_ble_eq_true rfl, Nat.le_of_ble_eq_true rfl⟩) hK hN hP hD hS hA rfl rfl rfl hl.1 rfl (Nat.le_of_ble_eq_true rfl) dX9_sheet_69 ⟨Nat.le_of_ble_eq_true rfl, Nat.le_of_ble_eq_true rfl⟩ (fun u H locs hw hP hD hS => ?_)
                obtain ⟨w_89, w_90, w_91, ⟨hi_92, hp_93, hp_94, hp_95⟩, rfl⟩ := hw
                have hP : va_P D vwCl (CT cy a J (va_up (va_up (va_up (va_up (va_up (va_up (va_up (va_up (va_up I 10 (I 10)) 385 w_89) 386 w_90) 449 (I 449)) 450 (I 450)) 513 (I 513)) 514 (I 514)) 577 (I 577)) 578 (I 578)) O (va_up (va_up (va_up (va_up R 13 w_91) 15 (R 15)) 17 (R 17)) 19 (R 19)) RO (LL ++ Y)) H := hP
                have hD : va_D A (CT cy a J (va_up (va_up (va_up (va_up (va_up (va_up (va_up (va_up (va_up I 10 (I 10)) 385 w_89) 386 w_90) 449 (I 449)) 450 (I 450)) 513 (I 513)) 514 (I 514)) 577 (I 577)) 578 (I 578)) O (va_up (va_up (va_up (va_up R 13 w_91) 15 (R 15)) 17 (R 17)) 19 (R 19)) RO (LL ++ Y)) := hD
                refine lv_aload_n hx hb dX9_sheet_72 rfl (lv_at hl 0 rfl) ?_
                refine va_get (D := D) (ci := 8) (v := .ref (a 1)) (C := RX9) (T := TX9) (N := 11) hx hb hts hi9 hown hK hP 0 rfl rfl 0 (by decide) hw1 (fun _ h9 => h9) rfl dX9_sheet_73 ?_
                refine lv_iload_n hx hb dX9_sheet_76 rfl (lv_at hl 1 rfl) ?_
                refine va_aldq hx hb hK hP 1 4 rfl rfl (within_in4 c_1) dX9_sheet_77 ?_
                refine wtop_v (y := .ref (a 12)) (by rw [hj_87]; exact congrArg va_rf hRO0) ?_
                refine va_get (D := D) (ci := 5) (v := .int w_90) (C := RX6) (T := TX6) (N := 3) hx hb hts hi6 hown hK hP 12 rfl rfl 2 (by decide) hw2 (fun _ h9 => h9) rfl dX9_sheet_78 ?_
                exact wret_i hx hb hr hlocks (J, (va_up (va_up (va_up (va_up (va_up (va_up (va_up (va_up (va_up I 10 (I 10)) 385 w_89) 386 w_90) 449 (I 449)) 450 (I 450)) 513 (I 513)) 514 (I 514)) 577 (I 577)) 578 (I 578)), O, (va_up (va_up (va_up (va_up R 13 w_91) 15 (R 15)) 17 (R 17)) 19 (R 19)), RO, LL, Y) ⟨(I 10), w_89, w_90, (I 449), (I 450), (I 513), (I 514), (I 577), (I 578), w_91, (R 15), (R 17), (R 19), ⟨(hp_93.trans (sh_ok c_1 (Or.inr (Or.inr (Or.inl c_84))) c_85 c_86).symm), hi_92, hM.2.2.2.2.2.1, hM.2.2.2.2.2.2.1, hM.2.2.2.2.2.2.2.1, (RCs_sh0 hSh c_1 (by rw [hj_87]; rfl) (Or.inr (Or.inr (Or.inl c_84))) c_85 c_86 hp_94 hp_93 hp_95)⟩, rfl⟩ hP hD hS dX9_sheet_81
              · refine wtop_v (y := .ref (a 14)) (by rw [hj_87]; exact congrArg va_rf hRO1) ?_
                refine lv_iload_n hx hb dX9_sheet_67 rfl (lv_at hl 2 rfl) ?_
                refine lv_iload_n hx hb dX9_sheet_68 rfl (lv_at hl 3 rfl) ?_
                refine kM_v (As := [.int x1, .int x2]) (rest := []) (q0 := 14) ⟨hx, hb, hml, hown, hts⟩ (x_X6_begin14 l D cy a _ J (va_up (va_up (va_up (va_up (va_up (va_up (va_up (va_up (va_up I 10 (I 10)) 385 (I 385)) 386 (I 386)) 449 (I 449)) 450 (I 450)) 513 (I 513)) 514 (I 514)) 577 (I 577)) 578 (I 578)) O (va_up (va_up (va_up (va_up R 13 (R 13)) 15 (R 15)) 17 (R 17)) 19 (R 19)) RO LL Y x1 x2 (in17 c_85 c_86) ⟨hM.1, hM.2.1, hM.2.2.1, hM.2.2.2.1, hM.2.2.2.2.1, hM.2.2.2.2.2.1, hM.2.2.2.2.2.2.1, hM.2.2.2.2.2.2.2.1, hRO0, hRO1, hRO2, hRO3⟩ ) (cwV 2 hts gX9_sheet_X6_begin rfl rfl rfl (by decide +kernel) ⟨Nat.le_of_ble_eq_true rfl, Nat.le_of_ble_eq_true rfl⟩) hK hN hP hD hS hA rfl rfl rfl hl.1 rfl (Nat.le_of_ble_eq_true rfl) dX9_sheet_69 ⟨Nat.le_of_ble_eq_true rfl, Nat.le_of_ble_eq_true rfl⟩ (fun u H locs hw hP hD hS => ?_)
                obtain ⟨w_97, w_98, w_99, ⟨hi_100, hp_101, hp_102, hp_103⟩, rfl⟩ := hw
                have hP : va_P D vwCl (CT cy a J (va_up (va_up (va_up (va_up (va_up (va_up (va_up (va_up (va_up I 10 (I 10)) 385 (I 385)) 386 (I 386)) 449 w_97) 450 w_98) 513 (I 513)) 514 (I 514)) 577 (I 577)) 578 (I 578)) O (va_up (va_up (va_up (va_up R 13 (R 13)) 15 w_99) 17 (R 17)) 19 (R 19)) RO (LL ++ Y)) H := hP
                have hD : va_D A (CT cy a J (va_up (va_up (va_up (va_up (va_up (va_up (va_up (va_up (va_up I 10 (I 10)) 385 (I 385)) 386 (I 386)) 449 w_97) 450 w_98) 513 (I 513)) 514 (I 514)) 577 (I 577)) 578 (I 578)) O (va_up (va_up (va_up (va_up R 13 (R 13)) 15 w_99) 17 (R 17)) 19 (R 19)) RO (LL ++ Y)) := hD
                refine lv_aload_n hx hb dX9_sheet_72 rfl (lv_at hl 0 rfl) ?_
                refine va_get (D := D) (ci := 8) (v := .ref (a 1)) (C := RX9) (T := TX9) (N := 11) hx hb hts hi9 hown hK hP 0 rfl rfl 0 (by decide) hw1 (fun _ h9 => h9) rfl dX9_sheet_73 ?_
                refine lv_iload_n hx hb dX9_sheet_76 rfl (lv_at hl 1 rfl) ?_
                refine va_aldq hx hb hK hP 1 4 rfl rfl (within_in4 c_1) dX9_sheet_77 ?_
                refine wtop_v (y := .ref (a 14)) (by rw [hj_87]; exact congrArg va_rf hRO1) ?_
                refine va_get (D := D) (ci := 5) (v := .int w_98) (C := RX6) (T := TX6) (N := 3) hx hb hts hi6 hown hK hP 14 rfl rfl 2 (by decide) hw2 (fun _ h9 => h9) rfl dX9_sheet_78 ?_
                exact wret_i hx hb hr hlocks (J, (va_up (va_up (va_up (va_up (va_up (va_up (va_up (va_up (va_up I 10 (I 10)) 385 (I 385)) 386 (I 386)) 449 w_97) 450 w_98) 513 (I 513)) 514 (I 514)) 577 (I 577)) 578 (I 578)), O, (va_up (va_up (va_up (va_up R 13 (R 13)) 15 w_99) 17 (R 17)) 19 (R 19)), RO, LL, Y) ⟨(I 10), (I 385), (I 386), w_97, w_98, (I 513), (I 514), (I 577), (I 578), (R 13), w_99, (R 17), (R 19), ⟨(hp_101.trans (sh_ok c_1 (Or.inr (Or.inr (Or.inl c_84))) c_85 c_86).symm), hM.2.2.2.2.1, hi_100, hM.2.2.2.2.2.2.1, hM.2.2.2.2.2.2.2.1, (RCs_sh1 hSh c_1 (by rw [hj_87]; rfl) (Or.inr (Or.inr (Or.inl c_84))) c_85 c_86 hp_102 hp_101 hp_103)⟩, rfl⟩ hP hD hS dX9_sheet_81
              · refine wtop_v (y := .ref (a 16)) (by rw [hj_87]; exact congrArg va_rf hRO2) ?_
                refine lv_iload_n hx hb dX9_sheet_67 rfl (lv_at hl 2 rfl) ?_
                refine lv_iload_n hx hb dX9_sheet_68 rfl (lv_at hl 3 rfl) ?_
                refine kM_v (As := [.int x1, .int x2]) (rest := []) (q0 := 16) ⟨hx, hb, hml, hown, hts⟩ (x_X6_begin16 l D cy a _ J (va_up (va_up (va_up (va_up (va_up (va_up (va_up (va_up (va_up I 10 (I 10)) 385 (I 385)) 386 (I 386)) 449 (I 449)) 450 (I 450)) 513 (I 513)) 514 (I 514)) 577 (I 577)) 578 (I 578)) O (va_up (va_up (va_up (va_up R 13 (R 13)) 15 (R 15)) 17 (R 17)) 19 (R 19)) RO LL Y x1 x2 (in17 c_85 c_86) ⟨hM.1, hM.2.1, hM.2.2.1, hM.2.2.2.1, hM.2.2.2.2.1, hM.2.2.2.2.2.1, hM.2.2.2.2.2.2.1, hM.2.2.2.2.2.2.2.1, hRO0, hRO1, hRO2, hRO3⟩ ) (cwV 2 hts gX9_sheet_X6_begin rfl rfl rfl (by decide +kernel) ⟨Nat.le_of_ble_eq_true rfl, Nat.le_of_ble_eq_true rfl⟩) hK hN hP hD hS hA rfl rfl rfl hl.1 rfl (Nat.le_of_ble_eq_true rfl) dX9_sheet_69 ⟨Nat.le_of_ble_eq_true rfl, Nat.le_of_ble_eq_true rfl⟩ (fun u H locs hw hP hD hS => ?_)
                obtain ⟨w_105, w_106, w_107, ⟨hi_108, hp_109, hp_110, hp_111⟩, rfl⟩ := hw
                have hP : va_P D vwCl (CT cy a J (va_up (va_up (va_up (va_up (va_up (va_up (va_up (va_up (va_up I 10 (I 10)) 385 (I 385)) 386 (I 386)) 449 (I 449)) 450 (I 450)) 513 w_105) 514 w_106) 577 (I 577)) 578 (I 578)) O (va_up (va_up (va_up (va_up R 13 (R 13)) 15 (R 15)) 17 w_107) 19 (R 19)) RO (LL ++ Y)) H := hP
                have hD : va_D A (CT cy a J (va_up (va_up (va_up (va_up (va_up (va_up (va_up (va_up (va_up I 10 (I 10)) 385 (I 385)) 386 (I 386)) 449 (I 449)) 450 (I 450)) 513 w_105) 514 w_106) 577 (I 577)) 578 (I 578)) O (va_up (va_up (va_up (va_up R 13 (R 13)) 15 (R 15)) 17 w_107) 19 (R 19)) RO (LL ++ Y)) := hD
                refine lv_aload_n hx hb dX9_sheet_72 rfl (lv_at hl 0 rfl) ?_
                refine va_get (D := D) (ci := 8) (v := .ref (a 1)) (C := RX9) (T := TX9) (N := 11) hx hb hts hi9 hown hK hP 0 rfl rfl 0 (by decide) hw1 (fun _ h9 => h9) rfl dX9_sheet_73 ?_
                refine lv_iload_n hx hb dX9_sheet_76 rfl (lv_at hl 1 rfl) ?_
                refine va_aldq hx hb hK hP 1 4 rfl rfl (within_in4 c_1) dX9_sheet_77 ?_
                refine wtop_v (y := .ref (a 16)) (by rw [hj_87]; exact congrArg va_rf hRO2) ?_
                refine va_get (D := D) (ci := 5) (v := .int w_106) (C := RX6) (T := TX6) (N := 3) hx hb hts hi6 hown hK hP 16 rfl rfl 2 (by decide) hw2 (fun _ h9 => h9) rfl dX9_sheet_78 ?_
                exact wret_i hx hb hr hlocks (J, (va_up (va_up (va_up (va_up (va_up (va_up (va_up (va_up (va_up I 10 (I 10)) 385 (I 385)) 386 (I 386)) 449 (I 449)) 450 (I 450)) 513 w_105) 514 w_106) 577 (I 577)) 578 (I 578)), O, (va_up (va_up (va_up (va_up R 13 (R 13)) 15 (R 15)) 17 w_107) 19 (R 19)), RO, LL, Y) ⟨(I 10), (I 385), (I 386), (I 449), (I 450), w_105, w_106, (I 577), (I 578), (R 13), (R 15), w_107, (R 19), ⟨(hp_109.trans (sh_ok c_1 (Or.inr (Or.inr (Or.inl c_84))) c_85 c_86).symm), hM.2.2.2.2.1, hM.2.2.2.2.2.1, hi_108, hM.2.2.2.2.2.2.2.1, (RCs_sh2 hSh c_1 (by rw [hj_87]; rfl) (Or.inr (Or.inr (Or.inl c_84))) c_85 c_86 hp_110 hp_109 hp_111)⟩, rfl⟩ hP hD hS dX9_sheet_81
              · refine wtop_v (y := .ref (a 18)) (by rw [hj_87]; exact congrArg va_rf hRO3) ?_
                refine lv_iload_n hx hb dX9_sheet_67 rfl (lv_at hl 2 rfl) ?_
                refine lv_iload_n hx hb dX9_sheet_68 rfl (lv_at hl 3 rfl) ?_
                refine kM_v (As := [.int x1, .int x2]) (rest := []) (q0 := 18) ⟨hx, hb, hml, hown, hts⟩ (x_X6_begin18 l D cy a _ J (va_up (va_up (va_up (va_up (va_up (va_up (va_up (va_up (va_up I 10 (I 10)) 385 (I 385)) 386 (I 386)) 449 (I 449)) 450 (I 450)) 513 (I 513)) 514 (I 514)) 577 (I 577)) 578 (I 578)) O (va_up (va_up (va_up (va_up R 13 (R 13)) 15 (R 15)) 17 (R 17)) 19 (R 19)) RO LL Y x1 x2 (in17 c_85 c_86) ⟨hM.1, hM.2.1, hM.2.2.1, hM.2.2.2.1, hM.2.2.2.2.1, hM.2.2.2.2.2.1, hM.2.2.2.2.2.2.1, hM.2.2.2.2.2.2.2.1, hRO0, hRO1, hRO2, hRO3⟩ ) (cwV 2 hts gX9_sheet_X6_begin rfl rfl rfl (by decide +kernel) ⟨Nat.le_of_ble_eq_true rfl, Nat.le_of_ble_eq_true rfl⟩) hK hN hP hD hS hA rfl rfl rfl hl.1 rfl (Nat.le_of_ble_eq_true rfl) dX9_sheet_69 ⟨Nat.le_of_ble_eq_true rfl, Nat.le_of_ble_eq_true rfl⟩ (fun u H locs hw hP hD hS => ?_)
                obtain ⟨w_113, w_114, w_115, ⟨hi_116, hp_117, hp_118, hp_119⟩, rfl⟩ := hw
                have hP : va_P D vwCl (CT cy a J (va_up (va_up (va_up (va_up (va_up (va_up (va_up (va_up (va_up I 10 (I 10)) 385 (I 385)) 386 (I 386)) 449 (I 449)) 450 (I 450)) 513 (I 513)) 514 (I 514)) 577 w_113) 578 w_114) O (va_up (va_up (va_up (va_up R 13 (R 13)) 15 (R 15)) 17 (R 17)) 19 w_115) RO (LL ++ Y)) H := hP
                have hD : va_D A (CT cy a J (va_up (va_up (va_up (va_up (va_up (va_up (va_up (va_up (va_up I 10 (I 10)) 385 (I 385)) 386 (I 386)) 449 (I 449)) 450 (I 450)) 513 (I 513)) 514 (I 514)) 577 w_113) 578 w_114) O (va_up (va_up (va_up (va_up R 13 (R 13)) 15 (R 15)) 17 (R 17)) 19 w_115) RO (LL ++ Y)) := hD
                refine lv_aload_n hx hb dX9_sheet_72 rfl (lv_at hl 0 rfl) ?_
                refine va_get (D := D) (ci := 8) (v := .ref (a 1)) (C := RX9) (T := TX9) (N := 11) hx hb hts hi9 hown hK hP 0 rfl rfl 0 (by decide) hw1 (fun _ h9 => h9) rfl dX9_sheet_73 ?_
                refine lv_iload_n hx hb dX9_sheet_76 rfl (lv_at hl 1 rfl) ?_
                refine va_aldq hx hb hK hP 1 4 rfl rfl (within_in4 c_1) dX9_sheet_77 ?_
                refine wtop_v (y := .ref (a 18)) (by rw [hj_87]; exact congrArg va_rf hRO3) ?_
                refine va_get (D := D) (ci := 5) (v := .int w_114) (C := RX6) (T := TX6) (N := 3) hx hb hts hi6 hown hK hP 18 rfl rfl 2 (by decide) hw2 (fun _ h9 => h9) rfl dX9_sheet_78 ?_
                exact wret_i hx hb hr hlocks (J, (va_up (va_up (va_up (va_up (va_up (va_up (va_up (va_up (va_up I 10 (I 10)) 385 (I 385)) 386 (I 386)) 449 (I 449)) 450 (I 450)) 513 (I 513)) 514 (I 514)) 577 w_113) 578 w_114), O, (va_up (va_up (va_up (va_up R 13 (R 13)) 15 (R 15)) 17 (R 17)) 19 w_115), RO, LL, Y) ⟨(I 10), (I 385), (I 386), (I 449), (I 450), (I 513), (I 514), w_113, w_114, (R 13), (R 15), (R 17), w_115, ⟨(hp_117.trans (sh_ok c_1 (Or.inr (Or.inr (Or.inl c_84))) c_85 c_86).symm), hM.2.2.2.2.1, hM.2.2.2.2.2.1, hM.2.2.2.2.2.2.1, hi_116, (RCs_sh3 hSh c_1 (by rw [hj_87]; rfl) (Or.inr (Or.inr (Or.inl c_84))) c_85 c_86 hp_118 hp_117 hp_119)⟩, rfl⟩ hP hD hS dX9_sheet_81
            · refine lv_aload_n hx hb dX9_sheet_54 rfl (lv_at hl 0 rfl) ?_
              refine lv_ldc (v := (-100001)) hx hb hown hw0 dX9_sheet_55 ?_
              refine kM_i (As := [.int (-100001)]) (rest := []) (q0 := 0) ⟨hx, hb, hml, hown, hts⟩ (t_X9_finding l D cy a _ J (va_up (va_up (va_up (va_up (va_up (va_up (va_up (va_up (va_up I 10 (I 10)) 385 (I 385)) 386 (I 386)) 449 (I 449)) 450 (I 450)) 513 (I 513)) 514 (I 514)) 577 (I 577)) 578 (I 578)) O (va_up (va_up (va_up (va_up R 13 (R 13)) 15 (R 15)) 17 (R 17)) 19 (R 19)) RO LL Y ((-100001) : Int32)   ) (cwV 1 hts gX9_sheet_X9_finding rfl rfl rfl (by decide +kernel) ⟨Nat.le_of_ble_eq_true rfl, Nat.le_of_ble_eq_true rfl⟩) hK hN hP hD hS hA rfl rfl rfl hl.1 rfl (Nat.le_of_ble_eq_true rfl) dX9_sheet_57 ⟨Nat.le_of_ble_eq_true rfl, Nat.le_of_ble_eq_true rfl⟩ (fun r_120 u H locs hw hP hD hS => ?_)
              obtain ⟨w_121, rfl, rfl⟩ := hw
              have hP : va_P D vwCl (CT cy a J (va_up (va_up (va_up (va_up (va_up (va_up (va_up (va_up (va_up I 10 w_121) 385 (I 385)) 386 (I 386)) 449 (I 449)) 450 (I 450)) 513 (I 513)) 514 (I 514)) 577 (I 577)) 578 (I 578)) O (va_up (va_up (va_up (va_up R 13 (R 13)) 15 (R 15)) 17 (R 17)) 19 (R 19)) RO (LL ++ Y)) H := hP
              have hD : va_D A (CT cy a J (va_up (va_up (va_up (va_up (va_up (va_up (va_up (va_up (va_up I 10 w_121) 385 (I 385)) 386 (I 386)) 449 (I 449)) 450 (I 450)) 513 (I 513)) 514 (I 514)) 577 (I 577)) 578 (I 578)) O (va_up (va_up (va_up (va_up R 13 (R 13)) 15 (R 15)) 17 (R 17)) 19 (R 19)) RO (LL ++ Y)) := hD
              exact wret_i hx hb hr hlocks (J, (va_up (va_up (va_up (va_up (va_up (va_up (va_up (va_up (va_up I 10 w_121) 385 (I 385)) 386 (I 386)) 449 (I 449)) 450 (I 450)) 513 (I 513)) 514 (I 514)) 577 (I 577)) 578 (I 578)), O, (va_up (va_up (va_up (va_up R 13 (R 13)) 15 (R 15)) 17 (R 17)) 19 (R 19)), RO, LL, Y) ⟨w_121, (I 385), (I 386), (I 449), (I 450), (I 513), (I 514), (I 577), (I 578), (R 13), (R 15), (R 17), (R 19), ⟨(sh_big c_1 (Or.inr (Or.inr (Or.inl c_84))) c_85 c_86), hM.2.2.2.2.1, hM.2.2.2.2.2.1, hM.2.2.2.2.2.2.1, hM.2.2.2.2.2.2.2.1, (RCs_no (sOk_4 c_86) hSh)⟩, rfl⟩ hP hD hS dX9_sheet_60
          · refine lv_aload_n hx hb dX9_sheet_41 rfl (lv_at hl 0 rfl) ?_
            refine lv_ldc (v := (-100003)) hx hb hown hw3 dX9_sheet_42 ?_
            refine kM_i (As := [.int (-100003)]) (rest := []) (q0 := 0) ⟨hx, hb, hml, hown, hts⟩ (t_X9_finding l D cy a _ J (va_up (va_up (va_up (va_up (va_up (va_up (va_up (va_up (va_up I 10 (I 10)) 385 (I 385)) 386 (I 386)) 449 (I 449)) 450 (I 450)) 513 (I 513)) 514 (I 514)) 577 (I 577)) 578 (I 578)) O (va_up (va_up (va_up (va_up R 13 (R 13)) 15 (R 15)) 17 (R 17)) 19 (R 19)) RO LL Y ((-100003) : Int32)   ) (cwV 1 hts gX9_sheet_X9_finding rfl rfl rfl (by decide +kernel) ⟨Nat.le_of_ble_eq_true rfl, Nat.le_of_ble_eq_true rfl⟩) hK hN hP hD hS hA rfl rfl rfl hl.1 rfl (Nat.le_of_ble_eq_true rfl) dX9_sheet_44 ⟨Nat.le_of_ble_eq_true rfl, Nat.le_of_ble_eq_true rfl⟩ (fun r_122 u H locs hw hP hD hS => ?_)
            obtain ⟨w_123, rfl, rfl⟩ := hw
            have hP : va_P D vwCl (CT cy a J (va_up (va_up (va_up (va_up (va_up (va_up (va_up (va_up (va_up I 10 w_123) 385 (I 385)) 386 (I 386)) 449 (I 449)) 450 (I 450)) 513 (I 513)) 514 (I 514)) 577 (I 577)) 578 (I 578)) O (va_up (va_up (va_up (va_up R 13 (R 13)) 15 (R 15)) 17 (R 17)) 19 (R 19)) RO (LL ++ Y)) H := hP
            have hD : va_D A (CT cy a J (va_up (va_up (va_up (va_up (va_up (va_up (va_up (va_up (va_up I 10 w_123) 385 (I 385)) 386 (I 386)) 449 (I 449)) 450 (I 450)) 513 (I 513)) 514 (I 514)) 577 (I 577)) 578 (I 578)) O (va_up (va_up (va_up (va_up R 13 (R 13)) 15 (R 15)) 17 (R 17)) 19 (R 19)) RO (LL ++ Y)) := hD
            exact wret_i hx hb hr hlocks (J, (va_up (va_up (va_up (va_up (va_up (va_up (va_up (va_up (va_up I 10 w_123) 385 (I 385)) 386 (I 386)) 449 (I 449)) 450 (I 450)) 513 (I 513)) 514 (I 514)) 577 (I 577)) 578 (I 578)), O, (va_up (va_up (va_up (va_up R 13 (R 13)) 15 (R 15)) 17 (R 17)) 19 (R 19)), RO, LL, Y) ⟨w_123, (I 385), (I 386), (I 449), (I 450), (I 513), (I 514), (I 577), (I 578), (R 13), (R 15), (R 17), (R 19), ⟨(sh_sz c_1 (Or.inr (Or.inr (Or.inl c_84))) c_85), hM.2.2.2.2.1, hM.2.2.2.2.2.1, hM.2.2.2.2.2.2.1, hM.2.2.2.2.2.2.2.1, (RCs_no (sOk_3 c_85) hSh)⟩, rfl⟩ hP hD hS dX9_sheet_47
        · refine lv_iload_n hx hb dX9_sheet_24 rfl (lv_at hl 2 rfl) ?_
          refine lv_bipush (v := 32) hx hb dX9_sheet_25 (by decide) ?_
          refine lv_icmp_eq (tgt := 37) hx hb dX9_sheet_27 (by decide) (fun c_124 => ?_) (fun c_124 => ?_)
          · refine lv_iload_n hx hb dX9_sheet_37 rfl (lv_at hl 3 rfl) ?_
            refine lv_if_ge (tgt := 48) hx hb dX9_sheet_38 (by decide) (fun c_125 => ?_) (fun c_125 => ?_)
            · refine lv_iload_n hx hb dX9_sheet_48 rfl (lv_at hl 3 rfl) ?_
              refine lv_bipush (v := 16) hx hb dX9_sheet_49 (by decide) ?_
              refine lv_icmp_le (tgt := 61) hx hb dX9_sheet_51 (by decide) (fun c_126 => ?_) (fun c_126 => ?_)
              · refine lv_aload_n hx hb dX9_sheet_61 rfl (lv_at hl 0 rfl) ?_
                refine va_get (D := D) (ci := 8) (v := .ref (a 1)) (C := RX9) (T := TX9) (N := 11) hx hb hts hi9 hown hK hP 0 rfl rfl 0 (by decide) hw1 (fun _ h9 => h9) rfl dX9_sheet_62 ?_
                refine lv_iload_n hx hb dX9_sheet_65 rfl (lv_at hl 1 rfl) ?_
                refine va_aldq hx hb hK hP 1 4 rfl rfl (within_in4 c_1) dX9_sheet_66 ?_
                rcases in4 (within_in4 c_1) with hj_127 | hj_127 | hj_127 | hj_127
                · refine wtop_v (y := .ref (a 12)) (by rw [hj_127]; exact congrArg va_rf hRO0) ?_
                  refine lv_iload_n hx hb dX9_sheet_67 rfl (lv_at hl 2 rfl) ?_
                  refine lv_iload_n hx hb dX9_sheet_68 rfl (lv_at hl 3 rfl) ?_
                  refine kM_v (As := [.int x1, .int x2]) (rest := []) (q0 := 12) ⟨hx, hb, hml, hown, hts⟩ (x_X6_begin12 l D cy a _ J (va_up (va_up (va_up (va_up (va_up (va_up (va_up (va_up (va_up I 10 (I 10)) 385 (I 385)) 386 (I 386)) 449 (I 449)) 450 (I 450)) 513 (I 513)) 514 (I 514)) 577 (I 577)) 578 (I 578)) O (va_up (va_up (va_up (va_up R 13 (R 13)) 15 (R 15)) 17 (R 17)) 19 (R 19)) RO LL Y x1 x2 (in17 c_125 c_126) ⟨hM.1, hM.2.1, hM.2.2.1, hM.2.2.2.1, hM.2.2.2.2.1, hM.2.2.2.2.2.1, hM.2.2.2.2.2.2.1, hM.2.2.2.2.2.2.2.1, hRO0, hRO1, hRO2, hRO3⟩ ) (cwV 2 hts gX9_sheet_X6_begin rfl rfl rfl (by decide +kernel) ⟨Nat.le_of_ble_eq_true rfl, Nat.le_of_ble_eq_true rfl⟩) hK hN hP hD hS hA rfl rfl rfl hl.1 rfl (Nat.le_of_ble_eq_true rfl) dX9_sheet_69 ⟨Nat.le_of_ble_eq_true rfl, Nat.le_of_ble_eq_true rfl⟩ (fun u H locs hw hP hD hS => ?_)
                  obtain ⟨w_129, w_130, w_131, ⟨hi_132, hp_133, hp_134, hp_135⟩, rfl⟩ := hw
                  have hP : va_P D vwCl (CT cy a J (va_up (va_up (va_up (va_up (va_up (va_up (va_up (va_up (va_up I 10 (I 10)) 385 w_129) 386 w_130) 449 (I 449)) 450 (I 450)) 513 (I 513)) 514 (I 514)) 577 (I 577)) 578 (I 578)) O (va_up (va_up (va_up (va_up R 13 w_131) 15 (R 15)) 17 (R 17)) 19 (R 19)) RO (LL ++ Y)) H := hP
                  have hD : va_D A (CT cy a J (va_up (va_up (va_up (va_up (va_up (va_up (va_up (va_up (va_up I 10 (I 10)) 385 w_129) 386 w_130) 449 (I 449)) 450 (I 450)) 513 (I 513)) 514 (I 514)) 577 (I 577)) 578 (I 578)) O (va_up (va_up (va_up (va_up R 13 w_131) 15 (R 15)) 17 (R 17)) 19 (R 19)) RO (LL ++ Y)) := hD
                  refine lv_aload_n hx hb dX9_sheet_72 rfl (lv_at hl 0 rfl) ?_
                  refine va_get (D := D) (ci := 8) (v := .ref (a 1)) (C := RX9) (T := TX9) (N := 11) hx hb hts hi9 hown hK hP 0 rfl rfl 0 (by decide) hw1 (fun _ h9 => h9) rfl dX9_sheet_73 ?_
                  refine lv_iload_n hx hb dX9_sheet_76 rfl (lv_at hl 1 rfl) ?_
                  refine va_aldq hx hb hK hP 1 4 rfl rfl (within_in4 c_1) dX9_sheet_77 ?_
                  refine wtop_v (y := .ref (a 12)) (by rw [hj_127]; exact congrArg va_rf hRO0) ?_
                  refine va_get (D := D) (ci := 5) (v := .int w_130) (C := RX6) (T := TX6) (N := 3) hx hb hts hi6 hown hK hP 12 rfl rfl 2 (by decide) hw2 (fun _ h9 => h9) rfl dX9_sheet_78 ?_
                  exact wret_i hx hb hr hlocks (J, (va_up (va_up (va_up (va_up (va_up (va_up (va_up (va_up (va_up I 10 (I 10)) 385 w_129) 386 w_130) 449 (I 449)) 450 (I 450)) 513 (I 513)) 514 (I 514)) 577 (I 577)) 578 (I 578)), O, (va_up (va_up (va_up (va_up R 13 w_131) 15 (R 15)) 17 (R 17)) 19 (R 19)), RO, LL, Y) ⟨(I 10), w_129, w_130, (I 449), (I 450), (I 513), (I 514), (I 577), (I 578), w_131, (R 15), (R 17), (R 19), ⟨(hp_133.trans (sh_ok c_1 (Or.inr (Or.inr (Or.inr c_124))) c_125 c_126).symm), hi_132, hM.2.2.2.2.2.1, hM.2.2.2.2.2.2.1, hM.2.2.2.2.2.2.2.1, (RCs_sh0 hSh c_1 (by rw [hj_127]; rfl) (Or.inr (Or.inr (Or.inr c_124))) c_125 c_126 hp_134 hp_133 hp_135)⟩, rfl⟩ hP hD hS dX9_sheet_81
                · refine wtop_v (y := .ref (a 14)) (by rw [hj_127]; exact congrArg va_rf hRO1) ?_
                  refine lv_iload_n hx hb dX9_sheet_67 rfl (lv_at hl 2 rfl) ?_
                  refine lv_iload_n hx hb dX9_sheet_68 rfl (lv_at hl 3 rfl) ?_
                  refine kM_v (As := [.int x1, .int x2]) (rest := []) (q0 := 14) ⟨hx, hb, hml, hown, hts⟩ (x_X6_begin14 l D cy a _ J (va_up (va_up (va_up (va_up (va_up (va_up (va_up (va_up (va_up I 10 (I 10)) 385 (I 385)) 386 (I 386)) 449 (I 449)) 450 (I 450)) 513 (I 513)) 514 (I 514)) 577 (I 577)) 578 (I 578)) O (va_up (va_up (va_up (va_up R 13 (R 13)) 15 (R 15)) 17 (R 17)) 19 (R 19)) RO LL Y x1 x2 (in17 c_125 c_126) ⟨hM.1, hM.2.1, hM.2.2.1, hM.2.2.2.1, hM.2.2.2.2.1, hM.2.2.2.2.2.1, hM.2.2.2.2.2.2.1, hM.2.2.2.2.2.2.2.1, hRO0, hRO1, hRO2, hRO3⟩ ) (cwV 2 hts gX9_sheet_X6_begin rfl rfl rfl (by decide +kernel) ⟨Nat.le_of_ble_eq_true rfl, Nat.le_of_ble_eq_true rfl⟩) hK hN hP hD hS hA rfl rfl rfl hl.1 rfl (Nat.le_of_ble_eq_true rfl) dX9_sheet_69 ⟨Nat.le_of_ble_eq_true rfl, Nat.le_of_ble_eq_true rfl⟩ (fun u H locs hw hP hD hS => ?_)
                  obtain ⟨w_137, w_138, w_139, ⟨hi_140, hp_141, hp_142, hp_143⟩, rfl⟩ := hw
                  have hP : va_P D vwCl (CT cy a J (va_up (va_up (va_up (va_up (va_up (va_up (va_up (va_up (va_up I 10 (I 10)) 385 (I 385)) 386 (I 386)) 449 w_137) 450 w_138) 513 (I 513)) 514 (I 514)) 577 (I 577)) 578 (I 578)) O (va_up (va_up (va_up (va_up R 13 (R 13)) 15 w_139) 17 (R 17)) 19 (R 19)) RO (LL ++ Y)) H := hP
                  have hD : va_D A (CT cy a J (va_up (va_up (va_up (va_up (va_up (va_up (va_up (va_up (va_up I 10 (I 10)) 385 (I 385)) 386 (I 386)) 449 w_137) 450 w_138) 513 (I 513)) 514 (I 514)) 577 (I 577)) 578 (I 578)) O (va_up (va_up (va_up (va_up R 13 (R 13)) 15 w_139) 17 (R 17)) 19 (R 19)) RO (LL ++ Y)) := hD
                  refine lv_aload_n hx hb dX9_sheet_72 rfl (lv_at hl 0 rfl) ?_
                  refine va_get (D := D) (ci := 8) (v := .ref (a 1)) (C := RX9) (T := TX9) (N := 11) hx hb hts hi9 hown hK hP 0 rfl rfl 0 (by decide) hw1 (fun _ h9 => h9) rfl dX9_sheet_73 ?_
                  refine lv_iload_n hx hb dX9_sheet_76 rfl (lv_at hl 1 rfl) ?_
                  refine va_aldq hx hb hK hP 1 4 rfl rfl (within_in4 c_1) dX9_sheet_77 ?_
                  refine wtop_v (y := .ref (a 14)) (by rw [hj_127]; exact congrArg va_rf hRO1) ?_
                  refine va_get (D := D) (ci := 5) (v := .int w_138) (C := RX6) (T := TX6) (N := 3) hx hb hts hi6 hown hK hP 14 rfl rfl 2 (by decide) hw2 (fun _ h9 => h9) rfl dX9_sheet_78 ?_
                  exact wret_i hx hb hr hlocks (J, (va_up (va_up (va_up (va_up (va_up (va_up (va_up (va_up (va_up I 10 (I 10)) 385 (I 385)) 386 (I 386)) 449 w_137) 450 w_138) 513 (I 513)) 514 (I 514)) 577 (I 577)) 578 (I 578)), O, (va_up (va_up (va_up (va_up R 13 (R 13)) 15 w_139) 17 (R 17)) 19 (R 19)), RO, LL, Y) ⟨(I 10), (I 385), (I 386), w_137, w_138, (I 513), (I 514), (I 577), (I 578), (R 13), w_139, (R 17), (R 19), ⟨(hp_141.trans (sh_ok c_1 (Or.inr (Or.inr (Or.inr c_124))) c_125 c_126).symm), hM.2.2.2.2.1, hi_140, hM.2.2.2.2.2.2.1, hM.2.2.2.2.2.2.2.1, (RCs_sh1 hSh c_1 (by rw [hj_127]; rfl) (Or.inr (Or.inr (Or.inr c_124))) c_125 c_126 hp_142 hp_141 hp_143)⟩, rfl⟩ hP hD hS dX9_sheet_81
                · refine wtop_v (y := .ref (a 16)) (by rw [hj_127]; exact congrArg va_rf hRO2) ?_
                  refine lv_iload_n hx hb dX9_sheet_67 rfl (lv_at hl 2 rfl) ?_
                  refine lv_iload_n hx hb dX9_sheet_68 rfl (lv_at hl 3 rfl) ?_
                  refine kM_v (As := [.int x1, .int x2]) (rest := []) (q0 := 16) ⟨hx, hb, hml, hown, hts⟩ (x_X6_begin16 l D cy a _ J (va_up (va_up (va_up (va_up (va_up (va_up (va_up (va_up (va_up I 10 (I 10)) 385 (I 385)) 386 (I 386)) 449 (I 449)) 450 (I 450)) 513 (I 513)) 514 (I 514)) 577 (I 577)) 578 (I 578)) O (va_up (va_up (va_up (va_up R 13 (R 13)) 15 (R 15)) 17 (R 17)) 19 (R 19)) RO LL Y x1 x2 (in17 c_125 c_126) ⟨hM.1, hM.2.1, hM.2.2.1, hM.2.2.2.1, hM.2.2.2.2.1, hM.2.2.2.2.2.1, hM.2.2.2.2.2.2.1, hM.2.2.2.2.2.2.2.1, hRO0, hRO1, hRO2, hRO3⟩ ) (cwV 2 hts gX9_sheet_X6_begin rfl rfl rfl (by decide +kernel) ⟨Nat.le_of_ble_eq_true rfl, Nat.le_of_ble_eq_true rfl⟩) hK hN hP hD hS hA rfl rfl rfl hl.1 rfl (Nat.le_of_ble_eq_true rfl) dX9_sheet_69 ⟨Nat.le_of_ble_eq_true rfl, Nat.le_of_ble_eq_true rfl⟩ (fun u H locs hw hP hD hS => ?_)
                  obtain ⟨w_145, w_146, w_147, ⟨hi_148, hp_149, hp_150, hp_151⟩, rfl⟩ := hw
                  have hP : va_P D vwCl (CT cy a J (va_up (va_up (va_up (va_up (va_up (va_up (va_up (va_up (va_up I 10 (I 10)) 385 (I 385)) 386 (I 386)) 449 (I 449)) 450 (I 450)) 513 w_145) 514 w_146) 577 (I 577)) 578 (I 578)) O (va_up (va_up (va_up (va_up R 13 (R 13)) 15 (R 15)) 17 w_147) 19 (R 19)) RO (LL ++ Y)) H := hP
                  have hD : va_D A (CT cy a J (va_up (va_up (va_up (va_up (va_up (va_up (va_up (va_up (va_up I 10 (I 10)) 385 (I 385)) 386 (I 386)) 449 (I 449)) 450 (I 450)) 513 w_145) 514 w_146) 577 (I 577)) 578 (I 578)) O (va_up (va_up (va_up (va_up R 13 (R 13)) 15 (R 15)) 17 w_147) 19 (R 19)) RO (LL ++ Y)) := hD
                  refine lv_aload_n hx hb dX9_sheet_72 rfl (lv_at hl 0 rfl) ?_
                  refine va_get (D := D) (ci := 8) (v := .ref (a 1)) (C := RX9) (T := TX9) (N := 11) hx hb hts hi9 hown hK hP 0 rfl rfl 0 (by decide) hw1 (fun _ h9 => h9) rfl dX9_sheet_73 ?_
                  refine lv_iload_n hx hb dX9_sheet_76 rfl (lv_at hl 1 rfl) ?_
                  refine va_aldq hx hb hK hP 1 4 rfl rfl (within_in4 c_1) dX9_sheet_77 ?_
                  refine wtop_v (y := .ref (a 16)) (by rw [hj_127]; exact congrArg va_rf hRO2) ?_
                  refine va_get (D := D) (ci := 5) (v := .int w_146) (C := RX6) (T := TX6) (N := 3) hx hb hts hi6 hown hK hP 16 rfl rfl 2 (by decide) hw2 (fun _ h9 => h9) rfl dX9_sheet_78 ?_
                  exact wret_i hx hb hr hlocks (J, (va_up (va_up (va_up (va_up (va_up (va_up (va_up (va_up (va_up I 10 (I 10)) 385 (I 385)) 386 (I 386)) 449 (I 449)) 450 (I 450)) 513 w_145) 514 w_146) 577 (I 577)) 578 (I 578)), O, (va_up (va_up (va_up (va_up R 13 (R 13)) 15 (R 15)) 17 w_147) 19 (R 19)), RO, LL, Y) ⟨(I 10), (I 385), (I 386), (I 449), (I 450), w_145, w_146, (I 577), (I 578), (R 13), (R 15), w_147, (R 19), ⟨(hp_149.trans (sh_ok c_1 (Or.inr (Or.inr (Or.inr c_124))) c_125 c_126).symm), hM.2.2.2.2.1, hM.2.2.2.2.2.1, hi_148, hM.2.2.2.2.2.2.2.1, (RCs_sh2 hSh c_1 (by rw [hj_127]; rfl) (Or.inr (Or.inr (Or.inr c_124))) c_125 c_126 hp_150 hp_149 hp_151)⟩, rfl⟩ hP hD hS dX9_sheet_81
                · refine wtop_v (y := .ref (a 18)) (by rw [hj_127]; exact congrArg va_rf hRO3) ?_
                  refine lv_iload_n hx hb dX9_sheet_67 rfl (lv_at hl 2 rfl) ?_
                  refine lv_iload_n hx hb dX9_sheet_68 rfl (lv_at hl 3 rfl) ?_
                  refine kM_v (As := [.int x1, .int x2]) (rest := []) (q0 := 18) ⟨hx, hb, hml, hown, hts⟩ (x_X6_begin18 l D cy a _ J (va_up (va_up (va_up (va_up (va_up (va_up (va_up (va_up (va_up I 10 (I 10)) 385 (I 385)) 386 (I 386)) 449 (I 449)) 450 (I 450)) 513 (I 513)) 514 (I 514)) 577 (I 577)) 578 (I 578)) O (va_up (va_up (va_up (va_up R 13 (R 13)) 15 (R 15)) 17 (R 17)) 19 (R 19)) RO LL Y x1 x2 (in17 c_125 c_126) ⟨hM.1, hM.2.1, hM.2.2.1, hM.2.2.2.1, hM.2.2.2.2.1, hM.2.2.2.2.2.1, hM.2.2.2.2.2.2.1, hM.2.2.2.2.2.2.2.1, hRO0, hRO1, hRO2, hRO3⟩ ) (cwV 2 hts gX9_sheet_X6_begin rfl rfl rfl (by decide +kernel) ⟨Nat.le_of_ble_eq_true rfl, Nat.le_of_ble_eq_true rfl⟩) hK hN hP hD hS hA rfl rfl rfl hl.1 rfl (Nat.le_of_ble_eq_true rfl) dX9_sheet_69 ⟨Nat.le_of_ble_eq_true rfl, Nat.le_of_ble_eq_true rfl⟩ (fun u H locs hw hP hD hS => ?_)
                  obtain ⟨w_153, w_154, w_155, ⟨hi_156, hp_157, hp_158, hp_159⟩, rfl⟩ := hw
                  have hP : va_P D vwCl (CT cy a J (va_up (va_up (va_up (va_up (va_up (va_up (va_up (va_up (va_up I 10 (I 10)) 385 (I 385)) 386 (I 386)) 449 (I 449)) 450 (I 450)) 513 (I 513)) 514 (I 514)) 577 w_153) 578 w_154) O (va_up (va_up (va_up (va_up R 13 (R 13)) 15 (R 15)) 17 (R 17)) 19 w_155) RO (LL ++ Y)) H := hP
                  have hD : va_D A (CT cy a J (va_up (va_up (va_up (va_up (va_up (va_up (va_up (va_up (va_up I 10 (I 10)) 385 (I 385)) 386 (I 386)) 449 (I 449)) 450 (I 450)) 513 (I 513)) 514 (I 514)) 577 w_153) 578 w_154) O (va_up (va_up (va_up (va_up R 13 (R 13)) 15 (R 15)) 17 (R 17)) 19 w_155) RO (LL ++ Y)) := hD
                  refine lv_aload_n hx hb dX9_sheet_72 rfl (lv_at hl 0 rfl) ?_
                  refine va_get (D := D) (ci := 8) (v := .ref (a 1)) (C := RX9) (T := TX9) (N := 11) hx hb hts hi9 hown hK hP 0 rfl rfl 0 (by decide) hw1 (fun _ h9 => h9) rfl dX9_sheet_73 ?_
                  refine lv_iload_n hx hb dX9_sheet_76 rfl (lv_at hl 1 rfl) ?_
                  refine va_aldq hx hb hK hP 1 4 rfl rfl (within_in4 c_1) dX9_sheet_77 ?_
                  refine wtop_v (y := .ref (a 18)) (by rw [hj_127]; exact congrArg va_rf hRO3) ?_
                  refine va_get (D := D) (ci := 5) (v := .int w_154) (C := RX6) (T := TX6) (N := 3) hx hb hts hi6 hown hK hP 18 rfl rfl 2 (by decide) hw2 (fun _ h9 => h9) rfl dX9_sheet_78 ?_
                  exact wret_i hx hb hr hlocks (J, (va_up (va_up (va_up (va_up (va_up (va_up (va_up (va_up (va_up I 10 (I 10)) 385 (I 385)) 386 (I 386)) 449 (I 449)) 450 (I 450)) 513 (I 513)) 514 (I 514)) 577 w_153) 578 w_154), O, (va_up (va_up (va_up (va_up R 13 (R 13)) 15 (R 15)) 17 (R 17)) 19 w_155), RO, LL, Y) ⟨(I 10), (I 385), (I 386), (I 449), (I 450), (I 513), (I 514), w_153, w_154, (R 13), (R 15), (R 17), w_155, ⟨(hp_157.trans (sh_ok c_1 (Or.inr (Or.inr (Or.inr c_124))) c_125 c_126).symm), hM.2.2.2.2.1, hM.2.2.2.2.2.1, hM.2.2.2.2.2.2.1, hi_156, (RCs_sh3 hSh c_1 (by rw [hj_127]; rfl) (Or.inr (Or.inr (Or.inr c_124))) c_125 c_126 hp_158 hp_157 hp_159)⟩, rfl⟩ hP hD hS dX9_sheet_81
              · refine lv_aload_n hx hb dX9_sheet_54 rfl (lv_at hl 0 rfl) ?_
                refine lv_ldc (v := (-100001)) hx hb hown hw0 dX9_sheet_55 ?_
                refine kM_i (As := [.int (-100001)]) (rest := []) (q0 := 0) ⟨hx, hb, hml, hown, hts⟩ (t_X9_finding l D cy a _ J (va_up (va_up (va_up (va_up (va_up (va_up (va_up (va_up (va_up I 10 (I 10)) 385 (I 385)) 386 (I 386)) 449 (I 449)) 450 (I 450)) 513 (I 513)) 514 (I 514)) 577 (I 577)) 578 (I 578)) O (va_up (va_up (va_up (va_up R 13 (R 13)) 15 (R 15)) 17 (R 17)) 19 (R 19)) RO LL Y ((-100001) : Int32)   ) (cwV 1 hts gX9_sheet_X9_finding rfl rfl rfl (by decide +kernel) ⟨Nat.le_of_ble_eq_true rfl, Nat.le_of_ble_eq_true rfl⟩) hK hN hP hD hS hA rfl rfl rfl hl.1 rfl (Nat.le_of_ble_eq_true rfl) dX9_sheet_57 ⟨Nat.le_of_ble_eq_true rfl, Nat.le_of_ble_eq_true rfl⟩ (fun r_160 u H locs hw hP hD hS => ?_)
                obtain ⟨w_161, rfl, rfl⟩ := hw
                have hP : va_P D vwCl (CT cy a J (va_up (va_up (va_up (va_up (va_up (va_up (va_up (va_up (va_up I 10 w_161) 385 (I 385)) 386 (I 386)) 449 (I 449)) 450 (I 450)) 513 (I 513)) 514 (I 514)) 577 (I 577)) 578 (I 578)) O (va_up (va_up (va_up (va_up R 13 (R 13)) 15 (R 15)) 17 (R 17)) 19 (R 19)) RO (LL ++ Y)) H := hP
                have hD : va_D A (CT cy a J (va_up (va_up (va_up (va_up (va_up (va_up (va_up (va_up (va_up I 10 w_161) 385 (I 385)) 386 (I 386)) 449 (I 449)) 450 (I 450)) 513 (I 513)) 514 (I 514)) 577 (I 577)) 578 (I 578)) O (va_up (va_up (va_up (va_up R 13 (R 13)) 15 (R 15)) 17 (R 17)) 19 (R 19)) RO (LL ++ Y)) := hD
                exact wret_i hx hb hr hlocks (J, (va_up (va_up (va_up (va_up (va_up (va_up (va_up (va_up (va_up I 10 w_161) 385 (I 385)) 386 (I 386)) 449 (I 449)) 450 (I 450)) 513 (I 513)) 514 (I 514)) 577 (I 577)) 578 (I 578)), O, (va_up (va_up (va_up (va_up R 13 (R 13)) 15 (R 15)) 17 (R 17)) 19 (R 19)), RO, LL, Y) ⟨w_161, (I 385), (I 386), (I 449), (I 450), (I 513), (I 514), (I 577), (I 578), (R 13), (R 15), (R 17), (R 19), ⟨(sh_big c_1 (Or.inr (Or.inr (Or.inr c_124))) c_125 c_126), hM.2.2.2.2.1, hM.2.2.2.2.2.1, hM.2.2.2.2.2.2.1, hM.2.2.2.2.2.2.2.1, (RCs_no (sOk_4 c_126) hSh)⟩, rfl⟩ hP hD hS dX9_sheet_60
            · refine lv_aload_n hx hb dX9_sheet_41 rfl (lv_at hl 0 rfl) ?_
              refine lv_ldc (v := (-100003)) hx hb hown hw3 dX9_sheet_42 ?_
              refine kM_i (As := [.int (-100003)]) (rest := []) (q0 := 0) ⟨hx, hb, hml, hown, hts⟩ (t_X9_finding l D cy a _ J (va_up (va_up (va_up (va_up (va_up (va_up (va_up (va_up (va_up I 10 (I 10)) 385 (I 385)) 386 (I 386)) 449 (I 449)) 450 (I 450)) 513 (I 513)) 514 (I 514)) 577 (I 577)) 578 (I 578)) O (va_up (va_up (va_up (va_up R 13 (R 13)) 15 (R 15)) 17 (R 17)) 19 (R 19)) RO LL Y ((-100003) : Int32)   ) (cwV 1 hts gX9_sheet_X9_finding rfl rfl rfl (by decide +kernel) ⟨Nat.le_of_ble_eq_true rfl, Nat.le_of_ble_eq_true rfl⟩) hK hN hP hD hS hA rfl rfl rfl hl.1 rfl (Nat.le_of_ble_eq_true rfl) dX9_sheet_44 ⟨Nat.le_of_ble_eq_true rfl, Nat.le_of_ble_eq_true rfl⟩ (fun r_162 u H locs hw hP hD hS => ?_)
              obtain ⟨w_163, rfl, rfl⟩ := hw
              have hP : va_P D vwCl (CT cy a J (va_up (va_up (va_up (va_up (va_up (va_up (va_up (va_up (va_up I 10 w_163) 385 (I 385)) 386 (I 386)) 449 (I 449)) 450 (I 450)) 513 (I 513)) 514 (I 514)) 577 (I 577)) 578 (I 578)) O (va_up (va_up (va_up (va_up R 13 (R 13)) 15 (R 15)) 17 (R 17)) 19 (R 19)) RO (LL ++ Y)) H := hP
              have hD : va_D A (CT cy a J (va_up (va_up (va_up (va_up (va_up (va_up (va_up (va_up (va_up I 10 w_163) 385 (I 385)) 386 (I 386)) 449 (I 449)) 450 (I 450)) 513 (I 513)) 514 (I 514)) 577 (I 577)) 578 (I 578)) O (va_up (va_up (va_up (va_up R 13 (R 13)) 15 (R 15)) 17 (R 17)) 19 (R 19)) RO (LL ++ Y)) := hD
              exact wret_i hx hb hr hlocks (J, (va_up (va_up (va_up (va_up (va_up (va_up (va_up (va_up (va_up I 10 w_163) 385 (I 385)) 386 (I 386)) 449 (I 449)) 450 (I 450)) 513 (I 513)) 514 (I 514)) 577 (I 577)) 578 (I 578)), O, (va_up (va_up (va_up (va_up R 13 (R 13)) 15 (R 15)) 17 (R 17)) 19 (R 19)), RO, LL, Y) ⟨w_163, (I 385), (I 386), (I 449), (I 450), (I 513), (I 514), (I 577), (I 578), (R 13), (R 15), (R 17), (R 19), ⟨(sh_sz c_1 (Or.inr (Or.inr (Or.inr c_124))) c_125), hM.2.2.2.2.1, hM.2.2.2.2.2.1, hM.2.2.2.2.2.2.1, hM.2.2.2.2.2.2.2.1, (RCs_no (sOk_3 c_125) hSh)⟩, rfl⟩ hP hD hS dX9_sheet_47
          · refine lv_aload_n hx hb dX9_sheet_30 rfl (lv_at hl 0 rfl) ?_
            refine lv_ldc (v := (-100001)) hx hb hown hw0 dX9_sheet_31 ?_
            refine kM_i (As := [.int (-100001)]) (rest := []) (q0 := 0) ⟨hx, hb, hml, hown, hts⟩ (t_X9_finding l D cy a _ J (va_up (va_up (va_up (va_up (va_up (va_up (va_up (va_up (va_up I 10 (I 10)) 385 (I 385)) 386 (I 386)) 449 (I 449)) 450 (I 450)) 513 (I 513)) 514 (I 514)) 577 (I 577)) 578 (I 578)) O (va_up (va_up (va_up (va_up R 13 (R 13)) 15 (R 15)) 17 (R 17)) 19 (R 19)) RO LL Y ((-100001) : Int32)   ) (cwV 1 hts gX9_sheet_X9_finding rfl rfl rfl (by decide +kernel) ⟨Nat.le_of_ble_eq_true rfl, Nat.le_of_ble_eq_true rfl⟩) hK hN hP hD hS hA rfl rfl rfl hl.1 rfl (Nat.le_of_ble_eq_true rfl) dX9_sheet_33 ⟨Nat.le_of_ble_eq_true rfl, Nat.le_of_ble_eq_true rfl⟩ (fun r_164 u H locs hw hP hD hS => ?_)
            obtain ⟨w_165, rfl, rfl⟩ := hw
            have hP : va_P D vwCl (CT cy a J (va_up (va_up (va_up (va_up (va_up (va_up (va_up (va_up (va_up I 10 w_165) 385 (I 385)) 386 (I 386)) 449 (I 449)) 450 (I 450)) 513 (I 513)) 514 (I 514)) 577 (I 577)) 578 (I 578)) O (va_up (va_up (va_up (va_up R 13 (R 13)) 15 (R 15)) 17 (R 17)) 19 (R 19)) RO (LL ++ Y)) H := hP
            have hD : va_D A (CT cy a J (va_up (va_up (va_up (va_up (va_up (va_up (va_up (va_up (va_up I 10 w_165) 385 (I 385)) 386 (I 386)) 449 (I 449)) 450 (I 450)) 513 (I 513)) 514 (I 514)) 577 (I 577)) 578 (I 578)) O (va_up (va_up (va_up (va_up R 13 (R 13)) 15 (R 15)) 17 (R 17)) 19 (R 19)) RO (LL ++ Y)) := hD
            exact wret_i hx hb hr hlocks (J, (va_up (va_up (va_up (va_up (va_up (va_up (va_up (va_up (va_up I 10 w_165) 385 (I 385)) 386 (I 386)) 449 (I 449)) 450 (I 450)) 513 (I 513)) 514 (I 514)) 577 (I 577)) 578 (I 578)), O, (va_up (va_up (va_up (va_up R 13 (R 13)) 15 (R 15)) 17 (R 17)) 19 (R 19)), RO, LL, Y) ⟨w_165, (I 385), (I 386), (I 449), (I 450), (I 513), (I 514), (I 577), (I 578), (R 13), (R 15), (R 17), (R 19), ⟨(sh_b2 c_4 c_44 c_84 c_124), hM.2.2.2.2.1, hM.2.2.2.2.2.1, hM.2.2.2.2.2.2.1, hM.2.2.2.2.2.2.2.1, (RCs_no (sOk_2 (nbOk c_4 c_44 c_84 c_124)) hSh)⟩, rfl⟩ hP hD hS dX9_sheet_36
theorem dX9_put_0 : decode cX9_put 0 = .ok (.aload_n 0, 1) := by decide +kernel
theorem dX9_put_1 : decode cX9_put 1 = .ok (.iload_n 1, 1) := by decide +kernel
set_option maxRecDepth 20000 in
theorem ggX9_put_X9_isSheet : GoodIn wsX9_put wsX9_isSheet := goodIn_r _ [8, 2, 30, 31, 32, 33, 34, 35, 36, 37, 38, 39, 40] rfl (by decide +kernel)
set_option maxRecDepth 20000 in
theorem gX9_put_X9_isSheet : GoodIn wsX9_put (wsV RX9 279 RX9 yX9_isSheet wsX9_isSheet) := goodIn_app (goodIn_r _ [4, 5, 6, 7] rfl (by decide +kernel)) ggX9_put_X9_isSheet
theorem dX9_put_2 : decode cX9_put 2 = .ok (.invokevirtual 279, 3) := by decide +kernel
theorem dX9_put_5 : decode cX9_put 5 = .ok (.ifCond .ne 10, 3) := by decide +kernel
theorem dX9_put_15 : decode cX9_put 15 = .ok (.aload_n 0, 1) := by decide +kernel
theorem dX9_put_16 : decode cX9_put 16 = .ok (.getfield 9, 3) := by decide +kernel
theorem dX9_put_19 : decode cX9_put 19 = .ok (.iload_n 1, 1) := by decide +kernel
theorem dX9_put_20 : decode cX9_put 20 = .ok (.aaload, 1) := by decide +kernel
theorem dX9_put_21 : decode cX9_put 21 = .ok (.astore 4, 2) := by decide +kernel
theorem dX9_put_23 : decode cX9_put 23 = .ok (.aload 4, 2) := by decide +kernel
set_option maxRecDepth 20000 in
theorem ggX9_put_X6_isMissing : GoodIn wsX9_put wsX6_isMissing := goodIn_r _ [18, 19, 41, 42, 43] rfl (by decide +kernel)
set_option maxRecDepth 20000 in
theorem gX9_put_X6_isMissing : GoodIn wsX9_put (wsV RX9 289 RX6 yX6_isMissing wsX6_isMissing) := goodIn_app (goodIn_r _ [14, 15, 16, 17] rfl (by decide +kernel)) ggX9_put_X6_isMissing
theorem dX9_put_25 : decode cX9_put 25 = .ok (.invokevirtual 289, 3) := by decide +kernel
theorem dX9_put_28 : decode cX9_put 28 = .ok (.ifCond .eq 11, 3) := by decide +kernel
theorem dX9_put_39 : decode cX9_put 39 = .ok (.aload 4, 2) := by decide +kernel
theorem dX9_put_41 : decode cX9_put 41 = .ok (.iload_n 2, 1) := by decide +kernel
theorem dX9_put_42 : decode cX9_put 42 = .ok (.iconst 1, 1) := by decide +kernel
set_option maxRecDepth 20000 in
theorem ggX9_put_X6_hasRange : GoodIn wsX9_put wsX6_hasRange := goodIn_r _ [23, 24, 41, 42, 43] rfl (by decide +kernel)
set_option maxRecDepth 20000 in
theorem gX9_put_X6_hasRange : GoodIn wsX9_put (wsV RX9 293 RX6 yX6_hasRange wsX6_hasRange) := goodIn_app (goodIn_r _ [20, 21, 22, 17] rfl (by decide +kernel)) ggX9_put_X6_hasRange
theorem dX9_put_43 : decode cX9_put 43 = .ok (.invokevirtual 293, 3) := by decide +kernel
theorem dX9_put_46 : decode cX9_put 46 = .ok (.ifCond .ne 10, 3) := by decide +kernel
theorem dX9_put_56 : decode cX9_put 56 = .ok (.aload 4, 2) := by decide +kernel
theorem dX9_put_58 : decode cX9_put 58 = .ok (.iload_n 2, 1) := by decide +kernel
theorem dX9_put_59 : decode cX9_put 59 = .ok (.iload_n 3, 1) := by decide +kernel
set_option maxRecDepth 20000 in
theorem ggX9_put_X6_write : GoodIn wsX9_put wsX6_write := goodIn_r _ [28, 29, 19, 41, 42, 43] rfl (by decide +kernel)
set_option maxRecDepth 20000 in
theorem gX9_put_X6_write : GoodIn wsX9_put (wsV RX9 296 RX6 yX6_write wsX6_write) := goodIn_app (goodIn_r _ [25, 26, 27, 17] rfl (by decide +kernel)) ggX9_put_X6_write
theorem dX9_put_60 : decode cX9_put 60 = .ok (.invokevirtual 296, 3) := by decide +kernel
theorem dX9_put_63 : decode cX9_put 63 = .ok (.iconst 0, 1) := by decide +kernel
theorem dX9_put_64 : decode cX9_put 64 = .ok (.ireturn, 1) := by decide +kernel
theorem dX9_put_49 : decode cX9_put 49 = .ok (.aload_n 0, 1) := by decide +kernel
theorem dX9_put_50 : decode cX9_put 50 = .ok (.ldc 43, 2) := by decide +kernel
set_option maxRecDepth 20000 in
theorem ggX9_put_X9_finding : GoodIn wsX9_put wsX9_finding := goodIn_r _ [12, 13, 30, 31, 32, 33, 34, 35, 36, 37, 38, 39, 40] rfl (by decide +kernel)
set_option maxRecDepth 20000 in
theorem gX9_put_X9_finding : GoodIn wsX9_put (wsV RX9 44 RX9 yX9_finding wsX9_finding) := goodIn_app (goodIn_r _ [9, 10, 11, 7] rfl (by decide +kernel)) ggX9_put_X9_finding
theorem dX9_put_52 : decode cX9_put 52 = .ok (.invokevirtual 44, 3) := by decide +kernel
theorem dX9_put_55 : decode cX9_put 55 = .ok (.ireturn, 1) := by decide +kernel
theorem dX9_put_31 : decode cX9_put 31 = .ok (.aload_n 0, 1) := by decide +kernel
theorem dX9_put_32 : decode cX9_put 32 = .ok (.ldc_w 292, 3) := by decide +kernel
theorem dX9_put_35 : decode cX9_put 35 = .ok (.invokevirtual 44, 3) := by decide +kernel
theorem dX9_put_38 : decode cX9_put 38 = .ok (.ireturn, 1) := by decide +kernel
theorem dX9_put_8 : decode cX9_put 8 = .ok (.aload_n 0, 1) := by decide +kernel
theorem dX9_put_9 : decode cX9_put 9 = .ok (.ldc 43, 2) := by decide +kernel
theorem dX9_put_11 : decode cX9_put 11 = .ok (.invokevirtual 44, 3) := by decide +kernel
theorem dX9_put_14 : decode cX9_put 14 = .ok (.ireturn, 1) := by decide +kernel
set_option maxRecDepth 20000 in
theorem ihX9_put_9 : ∀ w ∈ u_ws RX9 TX9 11, w ∈ wsX9_put := fun _ h => List.mem_cons_of_mem _ (List.mem_append_left _ (List.mem_append_right _ h))
set_option maxHeartbeats 4000000 in
set_option maxRecDepth 100000 in
theorem x_X9_put (l : Launch) (D : va_G) (cy : Nat → ClassId) (a : Nat → Nat) (sz : Nat) (J : Nat → Int64) (I : Nat → Int32) (O : Nat → Option Nat) (R : Nat → Nat → Int32) (RO : Nat → Nat → Option Nat) (LL : va_W) (Y : va_W) (x0 : Int32) (x1 : Int32) (x2 : Int32) (Bs : Nat → Int32) (Zs : Nat → Int32) (Vs : Nat → Nat → Int32) (hSh : RCs (I 385) (I 386) (R 13) (I 449) (I 450) (R 15) (I 513) (I 514) (R 17) (I 577) (I 578) (R 19) Bs Zs Vs) (hM : CI a Y I O RO) : Met l yX9_put wsX9_put ({ frames := 1, cells := 0, slots := 0, locals := 22 }) (va_Pc [.ref (a 0), .int x0, .int x1, .int x2] (PW D cy sz (CT cy a J I O R RO (LL ++ Y)))) (va_Qi (fun r (u : TS) => ∃ (w0 : Int32), ∃ (w1 : Nat → Int32), ∃ (w2 : Nat → Int32), ∃ (w3 : Nat → Int32), ∃ (w4 : Nat → Int32), (r = (pWhy Bs Zs x0 x1) ∧ (RCs (I 385) (I 386) w1 (I 449) (I 450) w2 (I 513) (I 514) w3 (I 577) (I 578) w4 Bs Zs (aPutV Bs Zs Vs x0 x1 x2))) ∧ u = (J, (va_up I 10 w0), O, (va_up (va_up (va_up (va_up R 13 w1) 15 w2) 17 w3) 19 w4), RO, LL, Y)) (BW D (va_A (CT cy a J I O R RO (LL ++ Y)) sz) (CTu cy a)) (va_A (CT cy a J I O R RO (LL ++ Y)) sz)) 0 0 (va_A (CT cy a J I O R RO (LL ++ Y)) sz) := by
  refine Met.ofW (cc := cX9_put) (maxL := 5) (ret := (some .int)) (by decide) rfl ?_
  intro p e s m args below meth c s₁ B hml hv
  obtain ⟨rfl, rfl, hP, hK, hN, hD0⟩ := hv
  have hx := B.exec
  have hb := B.bytes
  have hr := B.returns
  have hts := atoms_spec (ws := wsX9_put) B.pre
  have hown : s.vm.findClass RX9 = some m.cls := findClass_of_methodNamed B.named
  have hlocks := B.notSynchronized
  have hw0 := hts (.fieldLink RX9 9 "ParquetLayer" "sheets" "[LParquetLayer$Sheet;") (by decide +kernel)
  have hw1 := hts (.constant RX9 43 (-100001)) (by decide +kernel)
  have hw2 := hts (.constant RX9 292 (-100002)) (by decide +kernel)
  have hi9 := ihX9_put_9
  have hD := hD0.self (sz := s.heap.size)
  generalize hAe : va_A (CT cy a J I O R RO (LL ++ Y)) s.heap.size = A at hD ⊢
  have hA : ∀ q : Nat, s.heap.size ≤ q → A q := fun q h => by rw [← hAe]; exact Or.inr h
  have hS : va_S A s.heap s.heap [] := va_S.rf
  have hl := lv_entry ([.ref (a 0), .int x0, .int x1, .int x2]) (n := 5) (Nat.le_of_ble_eq_true rfl)
  rw [lg_entry_eq]
  generalize (lg_sl ([.ref (a 0), .int x0, .int x1, .int x2]) ++ List.replicate (5 - (lg_sl ([.ref (a 0), .int x0, .int x1, .int x2])).length) Slot.unset).toArray = ls at hl ⊢
  have hl : lv_has ls 5 [(0, .ref (a 0)), (1, .int x0), (2, .int x1), (3, .int x2)] := hl
  have hRO0 := hM.2.2.2.2.2.2.2.2.1
  have hRO1 := hM.2.2.2.2.2.2.2.2.2.1
  have hRO2 := hM.2.2.2.2.2.2.2.2.2.2.1
  have hRO3 := hM.2.2.2.2.2.2.2.2.2.2.2
  have hP : va_P D vwCl (CT cy a J (va_up I 10 (I 10)) O (va_up (va_up (va_up (va_up R 13 (R 13)) 15 (R 15)) 17 (R 17)) 19 (R 19)) RO (LL ++ Y)) s.heap := hP
  have hD : va_D A (CT cy a J (va_up I 10 (I 10)) O (va_up (va_up (va_up (va_up R 13 (R 13)) 15 (R 15)) 17 (R 17)) 19 (R 19)) RO (LL ++ Y)) := hD
  refine lv_aload_n hx hb dX9_put_0 rfl (lv_at hl 0 rfl) ?_
  refine lv_iload_n hx hb dX9_put_1 rfl (lv_at hl 1 rfl) ?_
  refine kR_i (As := [.int x0]) (rest := []) (q0 := 0) ⟨hx, hb, hml, hown, hts⟩ (t_X9_isSheet l D cy a _ J (va_up I 10 (I 10)) O (va_up (va_up (va_up (va_up R 13 (R 13)) 15 (R 15)) 17 (R 17)) 19 (R 19)) RO LL Y x0  ) (cwV 1 hts gX9_put_X9_isSheet rfl rfl rfl (by decide +kernel) ⟨Nat.le_of_ble_eq_true rfl, Nat.le_of_ble_eq_true rfl⟩) hK hN hP hD rfl rfl rfl hl.1 rfl (Nat.le_of_ble_eq_true rfl) dX9_put_2 ⟨Nat.le_of_ble_eq_true rfl, Nat.le_of_ble_eq_true rfl⟩ ?_
  refine lv_if_ne (tgt := 15) hx hb dX9_put_5 (by decide) (fun c_1 => ?_) (fun c_1 => ?_)
  · replace c_1 := bI_t c_1
    refine lv_aload_n hx hb dX9_put_15 rfl (lv_at hl 0 rfl) ?_
    refine va_get (D := D) (ci := 8) (v := .ref (a 1)) (C := RX9) (T := TX9) (N := 11) hx hb hts hi9 hown hK hP 0 rfl rfl 0 (by decide) hw0 (fun _ h9 => h9) rfl dX9_put_16 ?_
    refine lv_iload_n hx hb dX9_put_19 rfl (lv_at hl 1 rfl) ?_
    refine va_aldq hx hb hK hP 1 4 rfl rfl (within_in4 c_1) dX9_put_20 ?_
    rcases in4 (within_in4 c_1) with hj_2 | hj_2 | hj_2 | hj_2
    · refine wtop_v (y := .ref (a 12)) (by rw [hj_2]; exact congrArg va_rf hRO0) ?_
      refine lv_astore (lv' := [(4, .ref (a 12)), (0, .ref (a 0)), (1, .int x0), (2, .int x1), (3, .int x2)]) hx hb dX9_put_21 hl (by decide) rfl (fun ls hl => ?_)
      refine lv_aload hx hb dX9_put_23 (lv_at hl 0 rfl) ?_
      refine kR_i (As := []) (rest := []) (q0 := 12) ⟨hx, hb, hml, hown, hts⟩ (x_X6_isMissing12 l D cy a _ J (va_up I 10 (I 10)) O (va_up (va_up (va_up (va_up R 13 (R 13)) 15 (R 15)) 17 (R 17)) 19 (R 19)) RO LL Y   ) (cwV 0 hts gX9_put_X6_isMissing rfl rfl rfl (by decide +kernel) ⟨Nat.le_of_ble_eq_true rfl, Nat.le_of_ble_eq_true rfl⟩) hK hN hP hD rfl rfl rfl hl.1 rfl (Nat.le_of_ble_eq_true rfl) dX9_put_25 ⟨Nat.le_of_ble_eq_true rfl, Nat.le_of_ble_eq_true rfl⟩ ?_
      refine lv_if_eq (tgt := 39) hx hb dX9_put_28 (by decide) (fun c_3 => ?_) (fun c_3 => ?_)
      · replace c_3 := bI_f c_3
        refine lv_aload hx hb dX9_put_39 (lv_at hl 0 rfl) ?_
        refine lv_iload_n hx hb dX9_put_41 rfl (lv_at hl 3 rfl) ?_
        refine lv_iconst (v := 1) hx hb dX9_put_42 (by decide) ?_
        refine kR_i (As := [.int x1, .int 1]) (rest := []) (q0 := 12) ⟨hx, hb, hml, hown, hts⟩ (x_X6_hasRange12 l D cy a _ J (va_up I 10 (I 10)) O (va_up (va_up (va_up (va_up R 13 (R 13)) 15 (R 15)) 17 (R 17)) 19 (R 19)) RO LL Y x1 (1 : Int32)  ) (cwV 2 hts gX9_put_X6_hasRange rfl rfl rfl (by decide +kernel) ⟨Nat.le_of_ble_eq_true rfl, Nat.le_of_ble_eq_true rfl⟩) hK hN hP hD rfl rfl rfl hl.1 rfl (Nat.le_of_ble_eq_true rfl) dX9_put_43 ⟨Nat.le_of_ble_eq_true rfl, Nat.le_of_ble_eq_true rfl⟩ ?_
        refine lv_if_ne (tgt := 56) hx hb dX9_put_46 (by decide) (fun c_4 => ?_) (fun c_4 => ?_)
        · replace c_4 := bI_t c_4
          refine lv_aload hx hb dX9_put_56 (lv_at hl 0 rfl) ?_
          refine lv_iload_n hx hb dX9_put_58 rfl (lv_at hl 3 rfl) ?_
          refine lv_iload_n hx hb dX9_put_59 rfl (lv_at hl 4 rfl) ?_
          refine kM_v (As := [.int x1, .int x2]) (rest := []) (q0 := 12) ⟨hx, hb, hml, hown, hts⟩ (x_X6_write12 l D cy a _ J (va_up I 10 (I 10)) O (va_up (va_up (va_up (va_up R 13 (R 13)) 15 (R 15)) 17 (R 17)) 19 (R 19)) RO LL Y x1 x2 (pc_in hSh.1 c_4)  ) (cwV 2 hts gX9_put_X6_write rfl rfl rfl (by decide +kernel) ⟨Nat.le_of_ble_eq_true rfl, Nat.le_of_ble_eq_true rfl⟩) hK hN hP hD hS hA rfl rfl rfl hl.1 rfl (Nat.le_of_ble_eq_true rfl) dX9_put_60 ⟨Nat.le_of_ble_eq_true rfl, Nat.le_of_ble_eq_true rfl⟩ (fun u H locs hw hP hD hS => ?_)
          obtain ⟨w_6, hp_7, rfl⟩ := hw
          have hP : va_P D vwCl (CT cy a J (va_up I 10 (I 10)) O (va_up (va_up (va_up (va_up R 13 w_6) 15 (R 15)) 17 (R 17)) 19 (R 19)) RO (LL ++ Y)) H := hP
          have hD : va_D A (CT cy a J (va_up I 10 (I 10)) O (va_up (va_up (va_up (va_up R 13 w_6) 15 (R 15)) 17 (R 17)) 19 (R 19)) RO (LL ++ Y)) := hD
          refine lv_iconst (v := 0) hx hb dX9_put_63 (by decide) ?_
          exact wret_i hx hb hr hlocks (J, (va_up I 10 (I 10)), O, (va_up (va_up (va_up (va_up R 13 w_6) 15 (R 15)) 17 (R 17)) 19 (R 19)), RO, LL, Y) ⟨(I 10), w_6, (R 15), (R 17), (R 19), ⟨(pc4 c_1 (by rw [hj_2]; rfl) hSh.1 c_3 c_4), (by rw [pv_ok (pc4 c_1 (by rw [hj_2]; rfl) hSh.1 c_3 c_4)]; exact RCs_v0 (by rw [hj_2]; rfl) hSh (pc_w (by rw [hj_2]; rfl) hSh.1 c_3 (pc_in hSh.1 c_4) hp_7))⟩, rfl⟩ hP hD hS dX9_put_64
        · replace c_4 := bI_f c_4
          refine lv_aload_n hx hb dX9_put_49 rfl (lv_at hl 1 rfl) ?_
          refine lv_ldc (v := (-100001)) hx hb hown hw1 dX9_put_50 ?_
          refine kM_i (As := [.int (-100001)]) (rest := []) (q0 := 0) ⟨hx, hb, hml, hown, hts⟩ (t_X9_finding l D cy a _ J (va_up I 10 (I 10)) O (va_up (va_up (va_up (va_up R 13 (R 13)) 15 (R 15)) 17 (R 17)) 19 (R 19)) RO LL Y ((-100001) : Int32)   ) (cwV 1 hts gX9_put_X9_finding rfl rfl rfl (by decide +kernel) ⟨Nat.le_of_ble_eq_true rfl, Nat.le_of_ble_eq_true rfl⟩) hK hN hP hD hS hA rfl rfl rfl hl.1 rfl (Nat.le_of_ble_eq_true rfl) dX9_put_52 ⟨Nat.le_of_ble_eq_true rfl, Nat.le_of_ble_eq_true rfl⟩ (fun r_8 u H locs hw hP hD hS => ?_)
          obtain ⟨w_9, rfl, rfl⟩ := hw
          have hP : va_P D vwCl (CT cy a J (va_up I 10 w_9) O (va_up (va_up (va_up (va_up R 13 (R 13)) 15 (R 15)) 17 (R 17)) 19 (R 19)) RO (LL ++ Y)) H := hP
          have hD : va_D A (CT cy a J (va_up I 10 w_9) O (va_up (va_up (va_up (va_up R 13 (R 13)) 15 (R 15)) 17 (R 17)) 19 (R 19)) RO (LL ++ Y)) := hD
          exact wret_i hx hb hr hlocks (J, (va_up I 10 w_9), O, (va_up (va_up (va_up (va_up R 13 (R 13)) 15 (R 15)) 17 (R 17)) 19 (R 19)), RO, LL, Y) ⟨w_9, (R 13), (R 15), (R 17), (R 19), ⟨(pc3 c_1 (by rw [hj_2]; rfl) hSh.1 c_3 c_4), (by rw [pv_no (pc3 c_1 (by rw [hj_2]; rfl) hSh.1 c_3 c_4) (by decide)]; exact hSh)⟩, rfl⟩ hP hD hS dX9_put_55
      · replace c_3 := bI_t c_3
        refine lv_aload_n hx hb dX9_put_31 rfl (lv_at hl 1 rfl) ?_
        refine lv_ldcw (v := (-100002)) hx hb hown hw2 dX9_put_32 ?_
        refine kM_i (As := [.int (-100002)]) (rest := []) (q0 := 0) ⟨hx, hb, hml, hown, hts⟩ (t_X9_finding l D cy a _ J (va_up I 10 (I 10)) O (va_up (va_up (va_up (va_up R 13 (R 13)) 15 (R 15)) 17 (R 17)) 19 (R 19)) RO LL Y ((-100002) : Int32)   ) (cwV 1 hts gX9_put_X9_finding rfl rfl rfl (by decide +kernel) ⟨Nat.le_of_ble_eq_true rfl, Nat.le_of_ble_eq_true rfl⟩) hK hN hP hD hS hA rfl rfl rfl hl.1 rfl (Nat.le_of_ble_eq_true rfl) dX9_put_35 ⟨Nat.le_of_ble_eq_true rfl, Nat.le_of_ble_eq_true rfl⟩ (fun r_10 u H locs hw hP hD hS => ?_)
        obtain ⟨w_11, rfl, rfl⟩ := hw
        have hP : va_P D vwCl (CT cy a J (va_up I 10 w_11) O (va_up (va_up (va_up (va_up R 13 (R 13)) 15 (R 15)) 17 (R 17)) 19 (R 19)) RO (LL ++ Y)) H := hP
        have hD : va_D A (CT cy a J (va_up I 10 w_11) O (va_up (va_up (va_up (va_up R 13 (R 13)) 15 (R 15)) 17 (R 17)) 19 (R 19)) RO (LL ++ Y)) := hD
        exact wret_i hx hb hr hlocks (J, (va_up I 10 w_11), O, (va_up (va_up (va_up (va_up R 13 (R 13)) 15 (R 15)) 17 (R 17)) 19 (R 19)), RO, LL, Y) ⟨w_11, (R 13), (R 15), (R 17), (R 19), ⟨(pc2 c_1 (by rw [hj_2]; rfl) hSh.1 c_3), (by rw [pv_no (pc2 c_1 (by rw [hj_2]; rfl) hSh.1 c_3) (by decide)]; exact hSh)⟩, rfl⟩ hP hD hS dX9_put_38
    · refine wtop_v (y := .ref (a 14)) (by rw [hj_2]; exact congrArg va_rf hRO1) ?_
      refine lv_astore (lv' := [(4, .ref (a 14)), (0, .ref (a 0)), (1, .int x0), (2, .int x1), (3, .int x2)]) hx hb dX9_put_21 hl (by decide) rfl (fun ls hl => ?_)
      refine lv_aload hx hb dX9_put_23 (lv_at hl 0 rfl) ?_
      refine kR_i (As := []) (rest := []) (q0 := 14) ⟨hx, hb, hml, hown, hts⟩ (x_X6_isMissing14 l D cy a _ J (va_up I 10 (I 10)) O (va_up (va_up (va_up (va_up R 13 (R 13)) 15 (R 15)) 17 (R 17)) 19 (R 19)) RO LL Y   ) (cwV 0 hts gX9_put_X6_isMissing rfl rfl rfl (by decide +kernel) ⟨Nat.le_of_ble_eq_true rfl, Nat.le_of_ble_eq_true rfl⟩) hK hN hP hD rfl rfl rfl hl.1 rfl (Nat.le_of_ble_eq_true rfl) dX9_put_25 ⟨Nat.le_of_ble_eq_true rfl, Nat.le_of_ble_eq_true rfl⟩ ?_
      refine lv_if_eq (tgt := 39) hx hb dX9_put_28 (by decide) (fun c_12 => ?_) (fun c_12 => ?_)
      · replace c_12 := bI_f c_12
        refine lv_aload hx hb dX9_put_39 (lv_at hl 0 rfl) ?_
        refine lv_iload_n hx hb dX9_put_41 rfl (lv_at hl 3 rfl) ?_
        refine lv_iconst (v := 1) hx hb dX9_put_42 (by decide) ?_
        refine kR_i (As := [.int x1, .int 1]) (rest := []) (q0 := 14) ⟨hx, hb, hml, hown, hts⟩ (x_X6_hasRange14 l D cy a _ J (va_up I 10 (I 10)) O (va_up (va_up (va_up (va_up R 13 (R 13)) 15 (R 15)) 17 (R 17)) 19 (R 19)) RO LL Y x1 (1 : Int32)  ) (cwV 2 hts gX9_put_X6_hasRange rfl rfl rfl (by decide +kernel) ⟨Nat.le_of_ble_eq_true rfl, Nat.le_of_ble_eq_true rfl⟩) hK hN hP hD rfl rfl rfl hl.1 rfl (Nat.le_of_ble_eq_true rfl) dX9_put_43 ⟨Nat.le_of_ble_eq_true rfl, Nat.le_of_ble_eq_true rfl⟩ ?_
        refine lv_if_ne (tgt := 56) hx hb dX9_put_46 (by decide) (fun c_13 => ?_) (fun c_13 => ?_)
        · replace c_13 := bI_t c_13
          refine lv_aload hx hb dX9_put_56 (lv_at hl 0 rfl) ?_
          refine lv_iload_n hx hb dX9_put_58 rfl (lv_at hl 3 rfl) ?_
          refine lv_iload_n hx hb dX9_put_59 rfl (lv_at hl 4 rfl) ?_
          refine kM_v (As := [.int x1, .int x2]) (rest := []) (q0 := 14) ⟨hx, hb, hml, hown, hts⟩ (x_X6_write14 l D cy a _ J (va_up I 10 (I 10)) O (va_up (va_up (va_up (va_up R 13 (R 13)) 15 (R 15)) 17 (R 17)) 19 (R 19)) RO LL Y x1 x2 (pc_in hSh.2.1 c_13)  ) (cwV 2 hts gX9_put_X6_write rfl rfl rfl (by decide +kernel) ⟨Nat.le_of_ble_eq_true rfl, Nat.le_of_ble_eq_true rfl⟩) hK hN hP hD hS hA rfl rfl rfl hl.1 rfl (Nat.le_of_ble_eq_true rfl) dX9_put_60 ⟨Nat.le_of_ble_eq_true rfl, Nat.le_of_ble_eq_true rfl⟩ (fun u H locs hw hP hD hS => ?_)
          obtain ⟨w_15, hp_16, rfl⟩ := hw
          have hP : va_P D vwCl (CT cy a J (va_up I 10 (I 10)) O (va_up (va_up (va_up (va_up R 13 (R 13)) 15 w_15) 17 (R 17)) 19 (R 19)) RO (LL ++ Y)) H := hP
          have hD : va_D A (CT cy a J (va_up I 10 (I 10)) O (va_up (va_up (va_up (va_up R 13 (R 13)) 15 w_15) 17 (R 17)) 19 (R 19)) RO (LL ++ Y)) := hD
          refine lv_iconst (v := 0) hx hb dX9_put_63 (by decide) ?_
          exact wret_i hx hb hr hlocks (J, (va_up I 10 (I 10)), O, (va_up (va_up (va_up (va_up R 13 (R 13)) 15 w_15) 17 (R 17)) 19 (R 19)), RO, LL, Y) ⟨(I 10), (R 13), w_15, (R 17), (R 19), ⟨(pc4 c_1 (by rw [hj_2]; rfl) hSh.2.1 c_12 c_13), (by rw [pv_ok (pc4 c_1 (by rw [hj_2]; rfl) hSh.2.1 c_12 c_13)]; exact RCs_v1 (by rw [hj_2]; rfl) hSh (pc_w (by rw [hj_2]; rfl) hSh.2.1 c_12 (pc_in hSh.2.1 c_13) hp_16))⟩, rfl⟩ hP hD hS dX9_put_64
        · replace c_13 := bI_f c_13
          refine lv_aload_n hx hb dX9_put_49 rfl (lv_at hl 1 rfl) ?_
          refine lv_ldc (v := (-100001)) hx hb hown hw1 dX9_put_50 ?_
          refine kM_i (As := [.int (-100001)]) (rest := []) (q0 := 0) ⟨hx, hb, hml, hown, hts⟩ (t_X9_finding l D cy a _ J (va_up I 10 (I 10)) O (va_up (va_up (va_up (va_up R 13 (R 13)) 15 (R 15)) 17 (R 17)) 19 (R 19)) RO LL Y ((-100001) : Int32)   ) (cwV 1 hts gX9_put_X9_finding rfl rfl rfl (by decide +kernel) ⟨Nat.le_of_ble_eq_true rfl, Nat.le_of_ble_eq_true rfl⟩) hK hN hP hD hS hA rfl rfl rfl hl.1 rfl (Nat.le_of_ble_eq_true rfl) dX9_put_52 ⟨Nat.le_of_ble_eq_true rfl, Nat.le_of_ble_eq_true rfl⟩ (fun r_17 u H locs hw hP hD hS => ?_)
          obtain ⟨w_18, rfl, rfl⟩ := hw
          have hP : va_P D vwCl (CT cy a J (va_up I 10 w_18) O (va_up (va_up (va_up (va_up R 13 (R 13)) 15 (R 15)) 17 (R 17)) 19 (R 19)) RO (LL ++ Y)) H := hP
          have hD : va_D A (CT cy a J (va_up I 10 w_18) O (va_up (va_up (va_up (va_up R 13 (R 13)) 15 (R 15)) 17 (R 17)) 19 (R 19)) RO (LL ++ Y)) := hD
          exact wret_i hx hb hr hlocks (J, (va_up I 10 w_18), O, (va_up (va_up (va_up (va_up R 13 (R 13)) 15 (R 15)) 17 (R 17)) 19 (R 19)), RO, LL, Y) ⟨w_18, (R 13), (R 15), (R 17), (R 19), ⟨(pc3 c_1 (by rw [hj_2]; rfl) hSh.2.1 c_12 c_13), (by rw [pv_no (pc3 c_1 (by rw [hj_2]; rfl) hSh.2.1 c_12 c_13) (by decide)]; exact hSh)⟩, rfl⟩ hP hD hS dX9_put_55
      · replace c_12 := bI_t c_12
        refine lv_aload_n hx hb dX9_put_31 rfl (lv_at hl 1 rfl) ?_
        refine lv_ldcw (v := (-100002)) hx hb hown hw2 dX9_put_32 ?_
        refine kM_i (As := [.int (-100002)]) (rest := []) (q0 := 0) ⟨hx, hb, hml, hown, hts⟩ (t_X9_finding l D cy a _ J (va_up I 10 (I 10)) O (va_up (va_up (va_up (va_up R 13 (R 13)) 15 (R 15)) 17 (R 17)) 19 (R 19)) RO LL Y ((-100002) : Int32)   ) (cwV 1 hts gX9_put_X9_finding rfl rfl rfl (by decide +kernel) ⟨Nat.le_of_ble_eq_true rfl, Nat.le_of_ble_eq_true rfl⟩) hK hN hP hD hS hA rfl rfl rfl hl.1 rfl (Nat.le_of_ble_eq_true rfl) dX9_put_35 ⟨Nat.le_of_ble_eq_true rfl, Nat.le_of_ble_eq_true rfl⟩ (fun r_19 u H locs hw hP hD hS => ?_)
        obtain ⟨w_20, rfl, rfl⟩ := hw
        have hP : va_P D vwCl (CT cy a J (va_up I 10 w_20) O (va_up (va_up (va_up (va_up R 13 (R 13)) 15 (R 15)) 17 (R 17)) 19 (R 19)) RO (LL ++ Y)) H := hP
        have hD : va_D A (CT cy a J (va_up I 10 w_20) O (va_up (va_up (va_up (va_up R 13 (R 13)) 15 (R 15)) 17 (R 17)) 19 (R 19)) RO (LL ++ Y)) := hD
        exact wret_i hx hb hr hlocks (J, (va_up I 10 w_20), O, (va_up (va_up (va_up (va_up R 13 (R 13)) 15 (R 15)) 17 (R 17)) 19 (R 19)), RO, LL, Y) ⟨w_20, (R 13), (R 15), (R 17), (R 19), ⟨(pc2 c_1 (by rw [hj_2]; rfl) hSh.2.1 c_12), (by rw [pv_no (pc2 c_1 (by rw [hj_2]; rfl) hSh.2.1 c_12) (by decide)]; exact hSh)⟩, rfl⟩ hP hD hS dX9_put_38
    · refine wtop_v (y := .ref (a 16)) (by rw [hj_2]; exact congrArg va_rf hRO2) ?_
      refine lv_astore (lv' := [(4, .ref (a 16)), (0, .ref (a 0)), (1, .int x0), (2, .int x1), (3, .int x2)]) hx hb dX9_put_21 hl (by decide) rfl (fun ls hl => ?_)
      refine lv_aload hx hb dX9_put_23 (lv_at hl 0 rfl) ?_
      refine kR_i (As := []) (rest := []) (q0 := 16) ⟨hx, hb, hml, hown, hts⟩ (x_X6_isMissing16 l D cy a _ J (va_up I 10 (I 10)) O (va_up (va_up (va_up (va_up R 13 (R 13)) 15 (R 15)) 17 (R 17)) 19 (R 19)) RO LL Y   ) (cwV 0 hts gX9_put_X6_isMissing rfl rfl rfl (by decide +kernel) ⟨Nat.le_of_ble_eq_true rfl, Nat.le_of_ble_eq_true rfl⟩) hK hN hP hD rfl rfl rfl hl.1 rfl (Nat.le_of_ble_eq_true rfl) dX9_put_25 ⟨Nat.le_of_ble_eq_true rfl, Nat.le_of_ble_eq_true rfl⟩ ?_
      refine lv_if_eq (tgt := 39) hx hb dX9_put_28 (by decide) (fun c_21 => ?_) (fun c_21 => ?_)
      · replace c_21 := bI_f c_21
        refine lv_aload hx hb dX9_put_39 (lv_at hl 0 rfl) ?_
        refine lv_iload_n hx hb dX9_put_41 rfl (lv_at hl 3 rfl) ?_
        refine lv_iconst (v := 1) hx hb dX9_put_42 (by decide) ?_
        refine kR_i (As := [.int x1, .int 1]) (rest := []) (q0 := 16) ⟨hx, hb, hml, hown, hts⟩ (x_X6_hasRange16 l D cy a _ J (va_up I 10 (I 10)) O (va_up (va_up (va_up (va_up R 13 (R 13)) 15 (R 15)) 17 (R 17)) 19 (R 19)) RO LL Y x1 (1 : Int32)  ) (cwV 2 hts gX9_put_X6_hasRange rfl rfl rfl (by decide +kernel) ⟨Nat.le_of_ble_eq_true rfl, Nat.le_of_ble_eq_true rfl⟩) hK hN hP hD rfl rfl rfl hl.1 rfl (Nat.le_of_ble_eq_true rfl) dX9_put_43 ⟨Nat.le_of_ble_eq_true rfl, Nat.le_of_ble_eq_true rfl⟩ ?_
        refine lv_if_ne (tgt := 56) hx hb dX9_put_46 (by decide) (fun c_22 => ?_) (fun c_22 => ?_)
        · replace c_22 := bI_t c_22
          refine lv_aload hx hb dX9_put_56 (lv_at hl 0 rfl) ?_
          refine lv_iload_n hx hb dX9_put_58 rfl (lv_at hl 3 rfl) ?_
          refine lv_iload_n hx hb dX9_put_59 rfl (lv_at hl 4 rfl) ?_
          refine kM_v (As := [.int x1, .int x2]) (rest := []) (q0 := 16) ⟨hx, hb, hml, hown, hts⟩ (x_X6_write16 l D cy a _ J (va_up I 10 (I 10)) O (va_up (va_up (va_up (va_up R 13 (R 13)) 15 (R 15)) 17 (R 17)) 19 (R 19)) RO LL Y x1 x2 (pc_in hSh.2.2.1 c_22)  ) (cwV 2 hts gX9_put_X6_write rfl rfl rfl (by decide +kernel) ⟨Nat.le_of_ble_eq_true rfl, Nat.le_of_ble_eq_true rfl⟩) hK hN hP hD hS hA rfl rfl rfl hl.1 rfl (Nat.le_of_ble_eq_true rfl) dX9_put_60 ⟨Nat.le_of_ble_eq_true rfl, Nat.le_of_ble_eq_true rfl⟩ (fun u H locs hw hP hD hS => ?_)
          obtain ⟨w_24, hp_25, rfl⟩ := hw
          have hP : va_P D vwCl (CT cy a J (va_up I 10 (I 10)) O (va_up (va_up (va_up (va_up R 13 (R 13)) 15 (R 15)) 17 w_24) 19 (R 19)) RO (LL ++ Y)) H := hP
          have hD : va_D A (CT cy a J (va_up I 10 (I 10)) O (va_up (va_up (va_up (va_up R 13 (R 13)) 15 (R 15)) 17 w_24) 19 (R 19)) RO (LL ++ Y)) := hD
          refine lv_iconst (v := 0) hx hb dX9_put_63 (by decide) ?_
          exact wret_i hx hb hr hlocks (J, (va_up I 10 (I 10)), O, (va_up (va_up (va_up (va_up R 13 (R 13)) 15 (R 15)) 17 w_24) 19 (R 19)), RO, LL, Y) ⟨(I 10), (R 13), (R 15), w_24, (R 19), ⟨(pc4 c_1 (by rw [hj_2]; rfl) hSh.2.2.1 c_21 c_22), (by rw [pv_ok (pc4 c_1 (by rw [hj_2]; rfl) hSh.2.2.1 c_21 c_22)]; exact RCs_v2 (by rw [hj_2]; rfl) hSh (pc_w (by rw [hj_2]; rfl) hSh.2.2.1 c_21 (pc_in hSh.2.2.1 c_22) hp_25))⟩, rfl⟩ hP hD hS dX9_put_64
        · replace c_22 := bI_f c_22
          refine lv_aload_n hx hb dX9_put_49 rfl (lv_at hl 1 rfl) ?_
          refine lv_ldc (v := (-100001)) hx hb hown hw1 dX9_put_50 ?_
          refine kM_i (As := [.int (-100001)]) (rest := []) (q0 := 0) ⟨hx, hb, hml, hown, hts⟩ (t_X9_finding l D cy a _ J (va_up I 10 (I 10)) O (va_up (va_up (va_up (va_up R 13 (R 13)) 15 (R 15)) 17 (R 17)) 19 (R 19)) RO LL Y ((-100001) : Int32)   ) (cwV 1 hts gX9_put_X9_finding rfl rfl rfl (by decide +kernel) ⟨Nat.le_of_ble_eq_true rfl, Nat.le_of_ble_eq_true rfl⟩) hK hN hP hD hS hA rfl rfl rfl hl.1 rfl (Nat.le_of_ble_eq_true rfl) dX9_put_52 ⟨Nat.le_of_ble_eq_true rfl, Nat.le_of_ble_eq_true rfl⟩ (fun r_26 u H locs hw hP hD hS => ?_)
          obtain ⟨w_27, rfl, rfl⟩ := hw
          have hP : va_P D vwCl (CT cy a J (va_up I 10 w_27) O (va_up (va_up (va_up (va_up R 13 (R 13)) 15 (R 15)) 17 (R 17)) 19 (R 19)) RO (LL ++ Y)) H := hP
          have hD : va_D A (CT cy a J (va_up I 10 w_27) O (va_up (va_up (va_up (va_up R 13 (R 13)) 15 (R 15)) 17 (R 17)) 19 (R 19)) RO (LL ++ Y)) := hD
          exact wret_i hx hb hr hlocks (J, (va_up I 10 w_27), O, (va_up (va_up (va_up (va_up R 13 (R 13)) 15 (R 15)) 17 (R 17)) 19 (R 19)), RO, LL, Y) ⟨w_27, (R 13), (R 15), (R 17), (R 19), ⟨(pc3 c_1 (by rw [hj_2]; rfl) hSh.2.2.1 c_21 c_22), (by rw [pv_no (pc3 c_1 (by rw [hj_2]; rfl) hSh.2.2.1 c_21 c_22) (by decide)]; exact hSh)⟩, rfl⟩ hP hD hS dX9_put_55
      · replace c_21 := bI_t c_21
        refine lv_aload_n hx hb dX9_put_31 rfl (lv_at hl 1 rfl) ?_
        refine lv_ldcw (v := (-100002)) hx hb hown hw2 dX9_put_32 ?_
        refine kM_i (As := [.int (-100002)]) (rest := []) (q0 := 0) ⟨hx, hb, hml, hown, hts⟩ (t_X9_finding l D cy a _ J (va_up I 10 (I 10)) O (va_up (va_up (va_up (va_up R 13 (R 13)) 15 (R 15)) 17 (R 17)) 19 (R 19)) RO LL Y ((-100002) : Int32)   ) (cwV 1 hts gX9_put_X9_finding rfl rfl rfl (by decide +kernel) ⟨Nat.le_of_ble_eq_true rfl, Nat.le_of_ble_eq_true rfl⟩) hK hN hP hD hS hA rfl rfl rfl hl.1 rfl (Nat.le_of_ble_eq_true rfl) dX9_put_35 ⟨Nat.le_of_ble_eq_true rfl, Nat.le_of_ble_eq_true rfl⟩ (fun r_28 u H locs hw hP hD hS => ?_)
        obtain ⟨w_29, rfl, rfl⟩ := hw
        have hP : va_P D vwCl (CT cy a J (va_up I 10 w_29) O (va_up (va_up (va_up (va_up R 13 (R 13)) 15 (R 15)) 17 (R 17)) 19 (R 19)) RO (LL ++ Y)) H := hP
        have hD : va_D A (CT cy a J (va_up I 10 w_29) O (va_up (va_up (va_up (va_up R 13 (R 13)) 15 (R 15)) 17 (R 17)) 19 (R 19)) RO (LL ++ Y)) := hD
        exact wret_i hx hb hr hlocks (J, (va_up I 10 w_29), O, (va_up (va_up (va_up (va_up R 13 (R 13)) 15 (R 15)) 17 (R 17)) 19 (R 19)), RO, LL, Y) ⟨w_29, (R 13), (R 15), (R 17), (R 19), ⟨(pc2 c_1 (by rw [hj_2]; rfl) hSh.2.2.1 c_21), (by rw [pv_no (pc2 c_1 (by rw [hj_2]; rfl) hSh.2.2.1 c_21) (by decide)]; exact hSh)⟩, rfl⟩ hP hD hS dX9_put_38
    · refine wtop_v (y := .ref (a 18)) (by rw [hj_2]; exact congrArg va_rf hRO3) ?_
      refine lv_astore (lv' := [(4, .ref (a 18)), (0, .ref (a 0)), (1, .int x0), (2, .int x1), (3, .int x2)]) hx hb dX9_put_21 hl (by decide) rfl (fun ls hl => ?_)
      refine lv_aload hx hb dX9_put_23 (lv_at hl 0 rfl) ?_
      refine kR_i (As := []) (rest := []) (q0 := 18) ⟨hx, hb, hml, hown, hts⟩ (x_X6_isMissing18 l D cy a _ J (va_up I 10 (I 10)) O (va_up (va_up (va_up (va_up R 13 (R 13)) 15 (R 15)) 17 (R 17)) 19 (R 19)) RO LL Y   ) (cwV 0 hts gX9_put_X6_isMissing rfl rfl rfl (by decide +kernel) ⟨Nat.le_of_ble_eq_true rfl, Nat.le_of_ble_eq_true rfl⟩) hK hN hP hD rfl rfl rfl hl.1 rfl (Nat.le_of_ble_eq_true rfl) dX9_put_25 ⟨Nat.le_of_ble_eq_true rfl, Nat.le_of_ble_eq_true rfl⟩ ?_
      refine lv_if_eq (tgt := 39) hx hb dX9_put_28 (by decide) (fun c_30 => ?_) (fun c_30 => ?_)
      · replace c_30 := bI_f c_30
        refine lv_aload hx hb dX9_put_39 (lv_at hl 0 rfl) ?_
        refine lv_iload_n hx hb dX9_put_41 rfl (lv_at hl 3 rfl) ?_
        refine lv_iconst (v := 1) hx hb dX9_put_42 (by decide) ?_
        refine kR_i (As := [.int x1, .int 1]) (rest := []) (q0 := 18) ⟨hx, hb, hml, hown, hts⟩ (x_X6_hasRange18 l D cy a _ J (va_up I 10 (I 10)) O (va_up (va_up (va_up (va_up R 13 (R 13)) 15 (R 15)) 17 (R 17)) 19 (R 19)) RO LL Y x1 (1 : Int32)  ) (cwV 2 hts gX9_put_X6_hasRange rfl rfl rfl (by decide +kernel) ⟨Nat.le_of_ble_eq_true rfl, Nat.le_of_ble_eq_true rfl⟩) hK hN hP hD rfl rfl rfl hl.1 rfl (Nat.le_of_ble_eq_true rfl) dX9_put_43 ⟨Nat.le_of_ble_eq_true rfl, Nat.le_of_ble_eq_true rfl⟩ ?_
        refine lv_if_ne (tgt := 56) hx hb dX9_put_46 (by decide) (fun c_31 => ?_) (fun c_31 => ?_)
        · replace c_31 := bI_t c_31
          refine lv_aload hx hb dX9_put_56 (lv_at hl 0 rfl) ?_
          refine lv_iload_n hx hb dX9_put_58 rfl (lv_at hl 3 rfl) ?_
          refine lv_iload_n hx hb dX9_put_59 rfl (lv_at hl 4 rfl) ?_
          refine kM_v (As := [.int x1, .int x2]) (rest := []) (q0 := 18) ⟨hx, hb, hml, hown, hts⟩ (x_X6_write18 l D cy a _ J (va_up I 10 (I 10)) O (va_up (va_up (va_up (va_up R 13 (R 13)) 15 (R 15)) 17 (R 17)) 19 (R 19)) RO LL Y x1 x2 (pc_in hSh.2.2.2 c_31)  ) (cwV 2 hts gX9_put_X6_write rfl rfl rfl (by decide +kernel) ⟨Nat.le_of_ble_eq_true rfl, Nat.le_of_ble_eq_true rfl⟩) hK hN hP hD hS hA rfl rfl rfl hl.1 rfl (Nat.le_of_ble_eq_true rfl) dX9_put_60 ⟨Nat.le_of_ble_eq_true rfl, Nat.le_of_ble_eq_true rfl⟩ (fun u H locs hw hP hD hS => ?_)
          obtain ⟨w_33, hp_34, rfl⟩ := hw
          have hP : va_P D vwCl (CT cy a J (va_up I 10 (I 10)) O (va_up (va_up (va_up (va_up R 13 (R 13)) 15 (R 15)) 17 (R 17)) 19 w_33) RO (LL ++ Y)) H := hP
          have hD : va_D A (CT cy a J (va_up I 10 (I 10)) O (va_up (va_up (va_up (va_up R 13 (R 13)) 15 (R 15)) 17 (R 17)) 19 w_33) RO (LL ++ Y)) := hD
          refine lv_iconst (v := 0) hx hb dX9_put_63 (by decide) ?_
          exact wret_i hx hb hr hlocks (J, (va_up I 10 (I 10)), O, (va_up (va_up (va_up (va_up R 13 (R 13)) 15 (R 15)) 17 (R 17)) 19 w_33), RO, LL, Y) ⟨(I 10), (R 13), (R 15), (R 17), w_33, ⟨(pc4 c_1 (by rw [hj_2]; rfl) hSh.2.2.2 c_30 c_31), (by rw [pv_ok (pc4 c_1 (by rw [hj_2]; rfl) hSh.2.2.2 c_30 c_31)]; exact RCs_v3 (by rw [hj_2]; rfl) hSh (pc_w (by rw [hj_2]; rfl) hSh.2.2.2 c_30 (pc_in hSh.2.2.2 c_31) hp_34))⟩, rfl⟩ hP hD hS dX9_put_64
        · replace c_31 := bI_f c_31
          refine lv_aload_n hx hb dX9_put_49 rfl (lv_at hl 1 rfl) ?_
          refine lv_ldc (v := (-100001)) hx hb hown hw1 dX9_put_50 ?_
          refine kM_i (As := [.int (-100001)]) (rest := []) (q0 := 0) ⟨hx, hb, hml, hown, hts⟩ (t_X9_finding l D cy a _ J (va_up I 10 (I 10)) O (va_up (va_up (va_up (va_up R 13 (R 13)) 15 (R 15)) 17 (R 17)) 19 (R 19)) RO LL Y ((-100001) : Int32)   ) (cwV 1 hts gX9_put_X9_finding rfl rfl rfl (by decide +kernel) ⟨Nat.le_of_ble_eq_true rfl, Nat.le_of_ble_eq_true rfl⟩) hK hN hP hD hS hA rfl rfl rfl hl.1 rfl (Nat.le_of_ble_eq_true rfl) dX9_put_52 ⟨Nat.le_of_ble_eq_true rfl, Nat.le_of_ble_eq_true rfl⟩ (fun r_35 u H locs hw hP hD hS => ?_)
          obtain ⟨w_36, rfl, rfl⟩ := hw
          have hP : va_P D vwCl (CT cy a J (va_up I 10 w_36) O (va_up (va_up (va_up (va_up R 13 (R 13)) 15 (R 15)) 17 (R 17)) 19 (R 19)) RO (LL ++ Y)) H := hP
          have hD : va_D A (CT cy a J (va_up I 10 w_36) O (va_up (va_up (va_up (va_up R 13 (R 13)) 15 (R 15)) 17 (R 17)) 19 (R 19)) RO (LL ++ Y)) := hD
          exact wret_i hx hb hr hlocks (J, (va_up I 10 w_36), O, (va_up (va_up (va_up (va_up R 13 (R 13)) 15 (R 15)) 17 (R 17)) 19 (R 19)), RO, LL, Y) ⟨w_36, (R 13), (R 15), (R 17), (R 19), ⟨(pc3 c_1 (by rw [hj_2]; rfl) hSh.2.2.2 c_30 c_31), (by rw [pv_no (pc3 c_1 (by rw [hj_2]; rfl) hSh.2.2.2 c_30 c_31) (by decide)]; exact hSh)⟩, rfl⟩ hP hD hS dX9_put_55
      · replace c_30 := bI_t c_30
        refine lv_aload_n hx hb dX9_put_31 rfl (lv_at hl 1 rfl) ?_
        refine lv_ldcw (v := (-100002)) hx hb hown hw2 dX9_put_32 ?_
        refine kM_i (As := [.int (-100002)]) (rest := []) (q0 := 0) ⟨hx, hb, hml, hown, hts⟩ (t_X9_finding l D cy a _ J (va_up I 10 (I 10)) O (va_up (va_up (va_up (va_up R 13 (R 13)) 15 (R 15)) 17 (R 17)) 19 (R 19)) RO LL Y ((-100002) : Int32)   ) (cwV 1 hts gX9_put_X9_finding rfl rfl rfl (by decide +kernel) ⟨Nat.le_of_ble_eq_true rfl, Nat.le_of_ble_eq_true rfl⟩) hK hN hP hD hS hA rfl rfl rfl hl.1 rfl (Nat.le_of_ble_eq_true rfl) dX9_put_35 ⟨Nat.le_of_ble_eq_true rfl, Nat.le_of_ble_eq_true rfl⟩ (fun r_37 u H locs hw hP hD hS => ?_)
        obtain ⟨w_38, rfl, rfl⟩ := hw
        have hP : va_P D vwCl (CT cy a J (va_up I 10 w_38) O (va_up (va_up (va_up (va_up R 13 (R 13)) 15 (R 15)) 17 (R 17)) 19 (R 19)) RO (LL ++ Y)) H := hP
        have hD : va_D A (CT cy a J (va_up I 10 w_38) O (va_up (va_up (va_up (va_up R 13 (R 13)) 15 (R 15)) 17 (R 17)) 19 (R 19)) RO (LL ++ Y)) := hD
        exact wret_i hx hb hr hlocks (J, (va_up I 10 w_38), O, (va_up (va_up (va_up (va_up R 13 (R 13)) 15 (R 15)) 17 (R 17)) 19 (R 19)), RO, LL, Y) ⟨w_38, (R 13), (R 15), (R 17), (R 19), ⟨(pc2 c_1 (by rw [hj_2]; rfl) hSh.2.2.2 c_30), (by rw [pv_no (pc2 c_1 (by rw [hj_2]; rfl) hSh.2.2.2 c_30) (by decide)]; exact hSh)⟩, rfl⟩ hP hD hS dX9_put_38
  · replace c_1 := bI_f c_1
    refine lv_aload_n hx hb dX9_put_8 rfl (lv_at hl 0 rfl) ?_
    refine lv_ldc (v := (-100001)) hx hb hown hw1 dX9_put_9 ?_
    refine kM_i (As := [.int (-100001)]) (rest := []) (q0 := 0) ⟨hx, hb, hml, hown, hts⟩ (t_X9_finding l D cy a _ J (va_up I 10 (I 10)) O (va_up (va_up (va_up (va_up R 13 (R 13)) 15 (R 15)) 17 (R 17)) 19 (R 19)) RO LL Y ((-100001) : Int32)   ) (cwV 1 hts gX9_put_X9_finding rfl rfl rfl (by decide +kernel) ⟨Nat.le_of_ble_eq_true rfl, Nat.le_of_ble_eq_true rfl⟩) hK hN hP hD hS hA rfl rfl rfl hl.1 rfl (Nat.le_of_ble_eq_true rfl) dX9_put_11 ⟨Nat.le_of_ble_eq_true rfl, Nat.le_of_ble_eq_true rfl⟩ (fun r_39 u H locs hw hP hD hS => ?_)
    obtain ⟨w_40, rfl, rfl⟩ := hw
    have hP : va_P D vwCl (CT cy a J (va_up I 10 w_40) O (va_up (va_up (va_up (va_up R 13 (R 13)) 15 (R 15)) 17 (R 17)) 19 (R 19)) RO (LL ++ Y)) H := hP
    have hD : va_D A (CT cy a J (va_up I 10 w_40) O (va_up (va_up (va_up (va_up R 13 (R 13)) 15 (R 15)) 17 (R 17)) 19 (R 19)) RO (LL ++ Y)) := hD
    exact wret_i hx hb hr hlocks (J, (va_up I 10 w_40), O, (va_up (va_up (va_up (va_up R 13 (R 13)) 15 (R 15)) 17 (R 17)) 19 (R 19)), RO, LL, Y) ⟨w_40, (R 13), (R 15), (R 17), (R 19), ⟨(pw1 c_1), (by rw [pv_no (pw1 c_1) (by decide)]; exact hSh)⟩, rfl⟩ hP hD hS dX9_put_14
theorem dX9_planks_0 : decode cX9_planks 0 = .ok (.aload_n 0, 1) := by decide +kernel
theorem dX9_planks_1 : decode cX9_planks 1 = .ok (.iload_n 1, 1) := by decide +kernel
set_option maxRecDepth 20000 in
theorem ggX9_planks_X9_isSheet : GoodIn wsX9_planks wsX9_isSheet := goodIn_r _ [10, 2, 77, 78, 79, 80, 81, 82, 83, 84, 85, 86, 87] rfl (by decide +kernel)
set_option maxRecDepth 20000 in
theorem gX9_planks_X9_isSheet : GoodIn wsX9_planks (wsV RX9 279 RX9 yX9_isSheet wsX9_isSheet) := goodIn_app (goodIn_r _ [6, 7, 8, 9] rfl (by decide +kernel)) ggX9_planks_X9_isSheet
theorem dX9_planks_2 : decode cX9_planks 2 = .ok (.invokevirtual 279, 3) := by decide +kernel
theorem dX9_planks_5 : decode cX9_planks 5 = .ok (.ifCond .ne 10, 3) := by decide +kernel
theorem dX9_planks_15 : decode cX9_planks 15 = .ok (.aload_n 0, 1) := by decide +kernel
theorem dX9_planks_16 : decode cX9_planks 16 = .ok (.getfield 9, 3) := by decide +kernel
theorem dX9_planks_19 : decode cX9_planks 19 = .ok (.iload_n 1, 1) := by decide +kernel
theorem dX9_planks_20 : decode cX9_planks 20 = .ok (.aaload, 1) := by decide +kernel
set_option maxRecDepth 20000 in
theorem ggX9_planks_X6_isMissing : GoodIn wsX9_planks wsX6_isMissing := goodIn_r _ [20, 21, 88, 89, 90] rfl (by decide +kernel)
set_option maxRecDepth 20000 in
theorem gX9_planks_X6_isMissing : GoodIn wsX9_planks (wsV RX9 289 RX6 yX6_isMissing wsX6_isMissing) := goodIn_app (goodIn_r _ [16, 17, 18, 19] rfl (by decide +kernel)) ggX9_planks_X6_isMissing
theorem dX9_planks_21 : decode cX9_planks 21 = .ok (.invokevirtual 289, 3) := by decide +kernel
theorem dX9_planks_24 : decode cX9_planks 24 = .ok (.ifCond .eq 11, 3) := by decide +kernel
theorem dX9_planks_35 : decode cX9_planks 35 = .ok (.aload_n 0, 1) := by decide +kernel
theorem dX9_planks_36 : decode cX9_planks 36 = .ok (.getfield 9, 3) := by decide +kernel
theorem dX9_planks_39 : decode cX9_planks 39 = .ok (.iload_n 1, 1) := by decide +kernel
theorem dX9_planks_40 : decode cX9_planks 40 = .ok (.aaload, 1) := by decide +kernel
theorem dX9_planks_41 : decode cX9_planks 41 = .ok (.getfield 286, 3) := by decide +kernel
theorem dX9_planks_44 : decode cX9_planks 44 = .ok (.bipush 8, 2) := by decide +kernel
theorem dX9_planks_46 : decode cX9_planks 46 = .ok (.if_icmp .le 10, 3) := by decide +kernel
theorem dX9_planks_56 : decode cX9_planks 56 = .ok (.aload_n 0, 1) := by decide +kernel
theorem dX9_planks_57 : decode cX9_planks 57 = .ok (.aload_n 0, 1) := by decide +kernel
theorem dX9_planks_58 : decode cX9_planks 58 = .ok (.getfield 9, 3) := by decide +kernel
theorem dX9_planks_61 : decode cX9_planks 61 = .ok (.iload_n 1, 1) := by decide +kernel
theorem dX9_planks_62 : decode cX9_planks 62 = .ok (.aaload, 1) := by decide +kernel
set_option maxRecDepth 20000 in
theorem ggX9_planks_X6_toldFields : GoodIn wsX9_planks wsX6_toldFields := goodIn_r _ [25, 26, 27, 88, 89, 90] rfl (by decide +kernel)
set_option maxRecDepth 20000 in
theorem gX9_planks_X6_toldFields : GoodIn wsX9_planks (wsV RX9 311 RX6 yX6_toldFields wsX6_toldFields) := goodIn_app (goodIn_r _ [22, 23, 24, 19] rfl (by decide +kernel)) ggX9_planks_X6_toldFields
theorem dX9_planks_63 : decode cX9_planks 63 = .ok (.invokevirtual 311, 3) := by decide +kernel
set_option maxRecDepth 20000 in
theorem ggX9_planks_X9_becomeFloor : GoodIn wsX9_planks wsX9_becomeFloor := goodIn_r _ [31, 32, 33, 34, 35, 36, 37, 38, 39, 40, 11, 12, 13, 9, 14, 15, 41, 42, 43, 44, 45, 46, 47, 48, 49, 50, 51, 52, 53, 54, 55, 56, 57, 58, 59, 60, 61, 62, 63, 64, 65, 66, 67, 68, 69, 70, 71, 72, 73, 74, 75, 76, 77, 78, 79, 80, 81, 82, 83, 84, 85, 86, 87, 91, 92, 93, 94, 95, 96, 97, 98, 99, 100] rfl (by decide +kernel)
set_option maxRecDepth 20000 in
theorem gX9_planks_X9_becomeFloor : GoodIn wsX9_planks (wsV RX9 56 RX9 yX9_becomeFloor wsX9_becomeFloor) := goodIn_app (goodIn_r _ [28, 29, 30, 9] rfl (by decide +kernel)) ggX9_planks_X9_becomeFloor
theorem dX9_planks_66 : decode cX9_planks 66 = .ok (.invokevirtual 56, 3) := by decide +kernel
theorem dX9_planks_69 : decode cX9_planks 69 = .ok (.ireturn, 1) := by decide +kernel
theorem dX9_planks_49 : decode cX9_planks 49 = .ok (.aload_n 0, 1) := by decide +kernel
theorem dX9_planks_50 : decode cX9_planks 50 = .ok (.ldc 99, 2) := by decide +kernel
set_option maxRecDepth 20000 in
theorem ggX9_planks_X9_finding : GoodIn wsX9_planks wsX9_finding := goodIn_r _ [14, 15, 77, 78, 79, 80, 81, 82, 83, 84, 85, 86, 87] rfl (by decide +kernel)
set_option maxRecDepth 20000 in
theorem gX9_planks_X9_finding : GoodIn wsX9_planks (wsV RX9 44 RX9 yX9_finding wsX9_finding) := goodIn_app (goodIn_r _ [11, 12, 13, 9] rfl (by decide +kernel)) ggX9_planks_X9_finding
theorem dX9_planks_52 : decode cX9_planks 52 = .ok (.invokevirtual 44, 3) := by decide +kernel
theorem dX9_planks_55 : decode cX9_planks 55 = .ok (.ireturn, 1) := by decide +kernel
theorem dX9_planks_27 : decode cX9_planks 27 = .ok (.aload_n 0, 1) := by decide +kernel
theorem dX9_planks_28 : decode cX9_planks 28 = .ok (.ldc_w 292, 3) := by decide +kernel
theorem dX9_planks_31 : decode cX9_planks 31 = .ok (.invokevirtual 44, 3) := by decide +kernel
theorem dX9_planks_34 : decode cX9_planks 34 = .ok (.ireturn, 1) := by decide +kernel
theorem dX9_planks_8 : decode cX9_planks 8 = .ok (.aload_n 0, 1) := by decide +kernel
theorem dX9_planks_9 : decode cX9_planks 9 = .ok (.ldc 43, 2) := by decide +kernel
theorem dX9_planks_11 : decode cX9_planks 11 = .ok (.invokevirtual 44, 3) := by decide +kernel
theorem dX9_planks_14 : decode cX9_planks 14 = .ok (.ireturn, 1) := by decide +kernel
set_option maxRecDepth 20000 in
theorem ihX9_planks_6 : ∀ w ∈ u_ws RX6 TX6 3, w ∈ wsX9_planks := fun _ h => List.mem_cons_of_mem _ (List.mem_append_left _ (List.mem_append_left _ (List.mem_append_right _ h)))
set_option maxRecDepth 20000 in
theorem ihX9_planks_9 : ∀ w ∈ u_ws RX9 TX9 11, w ∈ wsX9_planks := fun _ h => List.mem_cons_of_mem _ (List.mem_append_left _ (List.mem_append_left _ (List.mem_append_left _ (List.mem_append_right _ h))))
set_option maxHeartbeats 4000000 in
set_option maxRecDepth 100000 in
theorem x_X9_planks (l : Launch) (D : va_G) (cy : Nat → ClassId) (a : Nat → Nat) (sz : Nat) (J : Nat → Int64) (I : Nat → Int32) (O : Nat → Option Nat) (R : Nat → Nat → Int32) (RO : Nat → Nat → Option Nat) (LL : va_W) (Y : va_W) (x0 : Int32) (Bs : Nat → Int32) (Zs : Nat → Int32) (Vs : Nat → Nat → Int32) (fl : Int64) (S : List Int32) (P : List PE) (hSh : RCs (I 385) (I 386) (R 13) (I 449) (I 450) (R 15) (I 513) (I 514) (R 17) (I 577) (I 578) (R 19) Bs Zs Vs) (hRA : RCf Y (J 6) (O 7) (I 9) (RO 2) fl S P) (hM : CI a Y I O RO) : Met l yX9_planks wsX9_planks ({ frames := 4, cells := 1, slots := 3, locals := 88 }) (va_Pc [.ref (a 0), .int x0] (PW D cy sz (CT cy a J I O R RO (LL ++ Y)))) (va_Qi (fun r (u : TS) => ∃ (w0 : Int64), ∃ (w1 : Int32), ∃ (w2 : Int32), ∃ (w3 : Option Nat), ∃ (w4 : Nat → Option Nat), ∃ (Y9 : va_W), (r = (aPlA Bs Zs Vs S x0) ∧ (vp_in w1 21) ∧ (layO Y9 w3) ∧ (∀ i, i < 20 → pasO Y9 (w4 i)) ∧ (∀ c, c ∈ Y → c ∈ Y9) ∧ (RCf Y9 w0 (O 7) w1 w4 (aPlF Bs Zs Vs fl S x0) S (aPlP Bs Zs Vs fl S P x0))) ∧ u = ((va_up J 6 w0), (va_up (va_up I 9 w1) 10 w2), (va_up O 8 w3), R, (va_up RO 2 w4), LL, Y9)) (BW D (va_A (CT cy a J I O R RO (LL ++ Y)) sz) (CTu cy a)) (va_A (CT cy a J I O R RO (LL ++ Y)) sz)) 1 3 (va_A (CT cy a J I O R RO (LL ++ Y)) sz) := by
  refine Met.ofW (cc := cX9_planks) (maxL := 2) (ret := (some .int)) (by decide) rfl ?_
  intro p e s m args below meth c s₁ B hml hv
  obtain ⟨rfl, rfl, hP, hK, hN, hD0⟩ := hv
  have hx := B.exec
  have hb := B.bytes
  have hr := B.returns
  have hts := atoms_spec (ws := wsX9_planks) B.pre
  have hown : s.vm.findClass RX9 = some m.cls := findClass_of_methodNamed B.named
  have hlocks := B.notSynchronized
  have hw0 := hts (.fieldLink RX9 9 "ParquetLayer" "sheets" "[LParquetLayer$Sheet;") (by decide +kernel)
  have hw1 := hts (.fieldLink RX9 286 "ParquetLayer$Sheet" "size" "I") (by decide +kernel)
  have hw2 := hts (.constant RX9 99 (-100003)) (by decide +kernel)
  have hw3 := hts (.constant RX9 292 (-100002)) (by decide +kernel)
  have hw4 := hts (.constant RX9 43 (-100001)) (by decide +kernel)
  have hi6 := ihX9_planks_6
  have hi9 := ihX9_planks_9
  have hD := hD0.self (sz := s.heap.size)
  generalize hAe : va_A (CT cy a J I O R RO (LL ++ Y)) s.heap.size = A at hD ⊢
  have hA : ∀ q : Nat, s.heap.size ≤ q → A q := fun q h => by rw [← hAe]; exact Or.inr h
  have hS : va_S A s.heap s.heap [] := va_S.rf
  have hl := lv_entry ([.ref (a 0), .int x0]) (n := 2) (Nat.le_of_ble_eq_true rfl)
  rw [lg_entry_eq]
  generalize (lg_sl ([.ref (a 0), .int x0]) ++ List.replicate (2 - (lg_sl ([.ref (a 0), .int x0])).length) Slot.unset).toArray = ls at hl ⊢
  have hl : lv_has ls 2 [(0, .ref (a 0)), (1, .int x0)] := hl
  have hRO0 := hM.2.2.2.2.2.2.2.2.1
  have hRO1 := hM.2.2.2.2.2.2.2.2.2.1
  have hRO2 := hM.2.2.2.2.2.2.2.2.2.2.1
  have hRO3 := hM.2.2.2.2.2.2.2.2.2.2.2
  have hP : va_P D vwCl (CT cy a (va_up J 6 (J 6)) (va_up (va_up I 9 (I 9)) 10 (I 10)) (va_up O 8 (O 8)) R (va_up RO 2 (RO 2)) (LL ++ Y)) s.heap := hP
  have hD : va_D A (CT cy a (va_up J 6 (J 6)) (va_up (va_up I 9 (I 9)) 10 (I 10)) (va_up O 8 (O 8)) R (va_up RO 2 (RO 2)) (LL ++ Y)) := hD
  refine lv_aload_n hx hb dX9_planks_0 rfl (lv_at hl 0 rfl) ?_
  refine lv_iload_n hx hb dX9_planks_1 rfl (lv_at hl 1 rfl) ?_
  refine kR_i (As := [.int x0]) (rest := []) (q0 := 0) ⟨hx, hb, hml, hown, hts⟩ (t_X9_isSheet l D cy a _ (va_up J 6 (J 6)) (va_up (va_up I 9 (I 9)) 10 (I 10)) (va_up O 8 (O 8)) R (va_up RO 2 (RO 2)) LL Y x0  ) (cwV 1 hts gX9_planks_X9_isSheet rfl rfl rfl (by decide +kernel) ⟨Nat.le_of_ble_eq_true rfl, Nat.le_of_ble_eq_true rfl⟩) hK hN hP hD rfl rfl rfl hl.1 rfl (Nat.le_of_ble_eq_true rfl) dX9_planks_2 ⟨Nat.le_of_ble_eq_true rfl, Nat.le_of_ble_eq_true rfl⟩ ?_
  refine lv_if_ne (tgt := 15) hx hb dX9_planks_5 (by decide) (fun c_1 => ?_) (fun c_1 => ?_)
  · replace c_1 := bI_t c_1
    refine lv_aload_n hx hb dX9_planks_15 rfl (lv_at hl 0 rfl) ?_
    refine va_get (D := D) (ci := 8) (v := .ref (a 1)) (C := RX9) (T := TX9) (N := 11) hx hb hts hi9 hown hK hP 0 rfl rfl 0 (by decide) hw0 (fun _ h9 => h9) rfl dX9_planks_16 ?_
    refine lv_iload_n hx hb dX9_planks_19 rfl (lv_at hl 1 rfl) ?_
    refine va_aldq hx hb hK hP 1 4 rfl rfl (within_in4 c_1) dX9_planks_20 ?_
    rcases in4 (within_in4 c_1) with hj_2 | hj_2 | hj_2 | hj_2
    · refine wtop_v (y := .ref (a 12)) (by rw [hj_2]; exact congrArg va_rf hRO0) ?_
      refine kR_i (As := []) (rest := []) (q0 := 12) ⟨hx, hb, hml, hown, hts⟩ (x_X6_isMissing12 l D cy a _ (va_up J 6 (J 6)) (va_up (va_up I 9 (I 9)) 10 (I 10)) (va_up O 8 (O 8)) R (va_up RO 2 (RO 2)) LL Y   ) (cwV 0 hts gX9_planks_X6_isMissing rfl rfl rfl (by decide +kernel) ⟨Nat.le_of_ble_eq_true rfl, Nat.le_of_ble_eq_true rfl⟩) hK hN hP hD rfl rfl rfl hl.1 rfl (Nat.le_of_ble_eq_true rfl) dX9_planks_21 ⟨Nat.le_of_ble_eq_true rfl, Nat.le_of_ble_eq_true rfl⟩ ?_
      refine lv_if_eq (tgt := 35) hx hb dX9_planks_24 (by decide) (fun c_3 => ?_) (fun c_3 => ?_)
      · replace c_3 := bI_f c_3
        refine lv_aload_n hx hb dX9_planks_35 rfl (lv_at hl 0 rfl) ?_
        refine va_get (D := D) (ci := 8) (v := .ref (a 1)) (C := RX9) (T := TX9) (N := 11) hx hb hts hi9 hown hK hP 0 rfl rfl 0 (by decide) hw0 (fun _ h9 => h9) rfl dX9_planks_36 ?_
        refine lv_iload_n hx hb dX9_planks_39 rfl (lv_at hl 1 rfl) ?_
        refine va_aldq hx hb hK hP 1 4 rfl rfl (within_in4 c_1) dX9_planks_40 ?_
        refine wtop_v (y := .ref (a 12)) (by rw [hj_2]; exact congrArg va_rf hRO0) ?_
        refine va_get (D := D) (ci := 5) (v := .int (I 386)) (C := RX6) (T := TX6) (N := 3) hx hb hts hi6 hown hK hP 12 rfl rfl 2 (by decide) hw1 (fun _ h9 => h9) rfl dX9_planks_41 ?_
        refine lv_bipush (v := 8) hx hb dX9_planks_44 (by decide) ?_
        refine lv_icmp_le (tgt := 56) hx hb dX9_planks_46 (by decide) (fun c_4 => ?_) (fun c_4 => ?_)
        · refine lv_aload_n hx hb dX9_planks_56 rfl (lv_at hl 0 rfl) ?_
          refine lv_aload_n hx hb dX9_planks_57 rfl (lv_at hl 0 rfl) ?_
          refine va_get (D := D) (ci := 8) (v := .ref (a 1)) (C := RX9) (T := TX9) (N := 11) hx hb hts hi9 hown hK hP 0 rfl rfl 0 (by decide) hw0 (fun _ h9 => h9) rfl dX9_planks_58 ?_
          refine lv_iload_n hx hb dX9_planks_61 rfl (lv_at hl 1 rfl) ?_
          refine va_aldq hx hb hK hP 1 4 rfl rfl (within_in4 c_1) dX9_planks_62 ?_
          refine wtop_v (y := .ref (a 12)) (by rw [hj_2]; exact congrArg va_rf hRO0) ?_
          refine kR_l (As := []) (rest := [.ref (a 0)]) (q0 := 12) ⟨hx, hb, hml, hown, hts⟩ (x_X6_toldFields12 l D cy a _ (va_up J 6 (J 6)) (va_up (va_up I 9 (I 9)) 10 (I 10)) (va_up O 8 (O 8)) R (va_up RO 2 (RO 2)) LL Y  (zin hSh.1) ) (cwV 0 hts gX9_planks_X6_toldFields rfl rfl rfl (by decide +kernel) ⟨Nat.le_of_ble_eq_true rfl, Nat.le_of_ble_eq_true rfl⟩) hK hN hP hD rfl rfl rfl hl.1 rfl (Nat.le_of_ble_eq_true rfl) dX9_planks_63 ⟨Nat.le_of_ble_eq_true rfl, Nat.le_of_ble_eq_true rfl⟩ ?_
          refine kM_i (As := [.long (plT (fun y => (R 13) (nI y).toNatClampNeg &&& 255) (plN (I 386)))]) (rest := []) (q0 := 0) ⟨hx, hb, hml, hown, hts⟩ (x_X9_becomeFloor l D cy a _ (va_up J 6 (J 6)) (va_up (va_up I 9 (I 9)) 10 (I 10)) (va_up O 8 (O 8)) R (va_up RO 2 (RO 2)) LL Y (plT (fun y => (R 13) (nI y).toNatClampNeg &&& 255) (plN (I 386))) fl S P hRA ⟨hM.1, hM.2.1, hM.2.2.1, hM.2.2.2.1, hM.2.2.2.2.1, hM.2.2.2.2.2.1, hM.2.2.2.2.2.2.1, hM.2.2.2.2.2.2.2.1, hRO0, hRO1, hRO2, hRO3⟩ ) (cwV 1 hts gX9_planks_X9_becomeFloor rfl rfl rfl (by decide +kernel) ⟨Nat.le_of_ble_eq_true rfl, Nat.le_of_ble_eq_true rfl⟩) hK hN hP hD hS hA rfl rfl rfl hl.1 rfl (Nat.le_of_ble_eq_true rfl) dX9_planks_66 ⟨Nat.le_of_ble_eq_true rfl, Nat.le_of_ble_eq_true rfl⟩ (fun r_5 u H locs hw hP hD hS => ?_)
          obtain ⟨w_6, w_7, w_8, w_9, w_10, Y_11, ⟨rfl, hi_12, hi_13, hi_14, hs_15, hp_16⟩, rfl⟩ := hw
          have hi_17 : chO Y_11 (O 7) := chO_mono hs_15 hM.2.1
          have hmono_18 : ∀ c, c ∈ Y → c ∈ Y_11 := fun c h => hs_15 c ((fun _ h => h) c h)
          have hP : va_P D vwCl (CT cy a (va_up J 6 w_6) (va_up (va_up I 9 w_7) 10 w_8) (va_up O 8 w_9) R (va_up RO 2 w_10) (LL ++ Y_11)) H := hP
          have hD : va_D A (CT cy a (va_up J 6 w_6) (va_up (va_up I 9 w_7) 10 w_8) (va_up O 8 w_9) R (va_up RO 2 w_10) (LL ++ Y_11)) := hD
          exact wret_i hx hb hr hlocks ((va_up J 6 w_6), (va_up (va_up I 9 w_7) 10 w_8), (va_up O 8 w_9), R, (va_up RO 2 w_10), LL, Y_11) ⟨w_6, w_7, w_8, w_9, w_10, Y_11, ⟨(pl_in (fl := fl) (P := P) (lc4 c_1 (by rw [hj_2]; rfl) hSh.1 c_3 c_4) (plC_eq (by rw [hj_2]; rfl) hSh.1 c_4)).1, hi_12, hi_13, hi_14, hmono_18, (plC_in (lc4 c_1 (by rw [hj_2]; rfl) hSh.1 c_3 c_4) (plC_eq (by rw [hj_2]; rfl) hSh.1 c_4) hp_16)⟩, rfl⟩ hP hD hS dX9_planks_69
        · refine lv_aload_n hx hb dX9_planks_49 rfl (lv_at hl 0 rfl) ?_
          refine lv_ldc (v := (-100003)) hx hb hown hw2 dX9_planks_50 ?_
          refine kM_i (As := [.int (-100003)]) (rest := []) (q0 := 0) ⟨hx, hb, hml, hown, hts⟩ (t_X9_finding l D cy a _ (va_up J 6 (J 6)) (va_up (va_up I 9 (I 9)) 10 (I 10)) (va_up O 8 (O 8)) R (va_up RO 2 (RO 2)) LL Y ((-100003) : Int32)   ) (cwV 1 hts gX9_planks_X9_finding rfl rfl rfl (by decide +kernel) ⟨Nat.le_of_ble_eq_true rfl, Nat.le_of_ble_eq_true rfl⟩) hK hN hP hD hS hA rfl rfl rfl hl.1 rfl (Nat.le_of_ble_eq_true rfl) dX9_planks_52 ⟨Nat.le_of_ble_eq_true rfl, Nat.le_of_ble_eq_true rfl⟩ (fun r_19 u H locs hw hP hD hS => ?_)
          obtain ⟨w_20, rfl, rfl⟩ := hw
          have hP : va_P D vwCl (CT cy a (va_up J 6 (J 6)) (va_up (va_up I 9 (I 9)) 10 w_20) (va_up O 8 (O 8)) R (va_up RO 2 (RO 2)) (LL ++ Y)) H := hP
          have hD : va_D A (CT cy a (va_up J 6 (J 6)) (va_up (va_up I 9 (I 9)) 10 w_20) (va_up O 8 (O 8)) R (va_up RO 2 (RO 2)) (LL ++ Y)) := hD
          refine W.widen (k := 1) (n := 3) (Nat.le_of_ble_eq_true rfl) (Nat.le_of_ble_eq_true rfl) ?_
          exact wret_i hx hb hr hlocks ((va_up J 6 (J 6)), (va_up (va_up I 9 (I 9)) 10 w_20), (va_up O 8 (O 8)), R, (va_up RO 2 (RO 2)), LL, Y) ⟨(J 6), (I 9), w_20, (O 8), (RO 2), Y, ⟨(pl_out (V := Vs) (S := S) (fl := fl) (P := P) (lc3 c_1 (by rw [hj_2]; rfl) hSh.1 c_3 c_4) (by decide)).1, hM.1, hM.2.2.1, hM.2.2.2.1, (fun _ h => h), (plC_out (lc3 c_1 (by rw [hj_2]; rfl) hSh.1 c_3 c_4) (by decide) hRA)⟩, rfl⟩ hP hD hS dX9_planks_55
      · replace c_3 := bI_t c_3
        refine lv_aload_n hx hb dX9_planks_27 rfl (lv_at hl 0 rfl) ?_
        refine lv_ldcw (v := (-100002)) hx hb hown hw3 dX9_planks_28 ?_
        refine kM_i (As := [.int (-100002)]) (rest := []) (q0 := 0) ⟨hx, hb, hml, hown, hts⟩ (t_X9_finding l D cy a _ (va_up J 6 (J 6)) (va_up (va_up I 9 (I 9)) 10 (I 10)) (va_up O 8 (O 8)) R (va_up RO 2 (RO 2)) LL Y ((-100002) : Int32)   ) (cwV 1 hts gX9_planks_X9_finding rfl rfl rfl (by decide +kernel) ⟨Nat.le_of_ble_eq_true rfl, Nat.le_of_ble_eq_true rfl⟩) hK hN hP hD hS hA rfl rfl rfl hl.1 rfl (Nat.le_of_ble_eq_true rfl) dX9_planks_31 ⟨Nat.le_of_ble_eq_true rfl, Nat.le_of_ble_eq_true rfl⟩ (fun r_21 u H locs hw hP hD hS => ?_)
        obtain ⟨w_22, rfl, rfl⟩ := hw
        have hP : va_P D vwCl (CT cy a (va_up J 6 (J 6)) (va_up (va_up I 9 (I 9)) 10 w_22) (va_up O 8 (O 8)) R (va_up RO 2 (RO 2)) (LL ++ Y)) H := hP
        have hD : va_D A (CT cy a (va_up J 6 (J 6)) (va_up (va_up I 9 (I 9)) 10 w_22) (va_up O 8 (O 8)) R (va_up RO 2 (RO 2)) (LL ++ Y)) := hD
        refine W.widen (k := 1) (n := 3) (Nat.le_of_ble_eq_true rfl) (Nat.le_of_ble_eq_true rfl) ?_
        exact wret_i hx hb hr hlocks ((va_up J 6 (J 6)), (va_up (va_up I 9 (I 9)) 10 w_22), (va_up O 8 (O 8)), R, (va_up RO 2 (RO 2)), LL, Y) ⟨(J 6), (I 9), w_22, (O 8), (RO 2), Y, ⟨(pl_out (V := Vs) (S := S) (fl := fl) (P := P) (lc2 c_1 (by rw [hj_2]; rfl) hSh.1 c_3) (by decide)).1, hM.1, hM.2.2.1, hM.2.2.2.1, (fun _ h => h), (plC_out (lc2 c_1 (by rw [hj_2]; rfl) hSh.1 c_3) (by decide) hRA)⟩, rfl⟩ hP hD hS dX9_planks_34
    · refine wtop_v (y := .ref (a 14)) (by rw [hj_2]; exact congrArg va_rf hRO1) ?_
      refine kR_i (As := []) (rest := []) (q0 := 14) ⟨hx, hb, hml, hown, hts⟩ (x_X6_isMissing14 l D cy a _ (va_up J 6 (J 6)) (va_up (va_up I 9 (I 9)) 10 (I 10)) (va_up O 8 (O 8)) R (va_up RO 2 (RO 2)) LL Y   ) (cwV 0 hts gX9_planks_X6_isMissing rfl rfl rfl (by decide +kernel) ⟨Nat.le_of_ble_eq_true rfl, Nat.le_of_ble_eq_true rfl⟩) hK hN hP hD rfl rfl rfl hl.1 rfl (Nat.le_of_ble_eq_true rfl) dX9_planks_21 ⟨Nat.le_of_ble_eq_true rfl, Nat.le_of_ble_eq_true rfl⟩ ?_
      refine lv_if_eq (tgt := 35) hx hb dX9_planks_24 (by decide) (fun c_23 => ?_) (fun c_23 => ?_)
      · replace c_23 := bI_f c_23
        refine lv_aload_n hx hb dX9_planks_35 rfl (lv_at hl 0 rfl) ?_
        refine va_get (D := D) (ci := 8) (v := .ref (a 1)) (C := RX9) (T := TX9) (N := 11) hx hb hts hi9 hown hK hP 0 rfl rfl 0 (by decide) hw0 (fun _ h9 => h9) rfl dX9_planks_36 ?_
        refine lv_iload_n hx hb dX9_planks_39 rfl (lv_at hl 1 rfl) ?_
        refine va_aldq hx hb hK hP 1 4 rfl rfl (within_in4 c_1) dX9_planks_40 ?_
        refine wtop_v (y := .ref (a 14)) (by rw [hj_2]; exact congrArg va_rf hRO1) ?_
        refine va_get (D := D) (ci := 5) (v := .int (I 450)) (C := RX6) (T := TX6) (N := 3) hx hb hts hi6 hown hK hP 14 rfl rfl 2 (by decide) hw1 (fun _ h9 => h9) rfl dX9_planks_41 ?_
        refine lv_bipush (v := 8) hx hb dX9_planks_44 (by decide) ?_
        refine lv_icmp_le (tgt := 56) hx hb dX9_planks_46 (by decide) (fun c_24 => ?_) (fun c_24 => ?_)
        · refine lv_aload_n hx hb dX9_planks_56 rfl (lv_at hl 0 rfl) ?_
          refine lv_aload_n hx hb dX9_planks_57 rfl (lv_at hl 0 rfl) ?_
          refine va_get (D := D) (ci := 8) (v := .ref (a 1)) (C := RX9) (T := TX9) (N := 11) hx hb hts hi9 hown hK hP 0 rfl rfl 0 (by decide) hw0 (fun _ h9 => h9) rfl dX9_planks_58 ?_
          refine lv_iload_n hx hb dX9_planks_61 rfl (lv_at hl 1 rfl) ?_
          refine va_aldq hx hb hK hP 1 4 rfl rfl (within_in4 c_1) dX9_planks_62 ?_
          refine wtop_v (y := .ref (a 14)) (by rw [hj_2]; exact congrArg va_rf hRO1) ?_
          refine kR_l (As := []) (rest := [.ref (a 0)]) (q0 := 14) ⟨hx, hb, hml, hown, hts⟩ (x_X6_toldFields14 l D cy a _ (va_up J 6 (J 6)) (va_up (va_up I 9 (I 9)) 10 (I 10)) (va_up O 8 (O 8)) R (va_up RO 2 (RO 2)) LL Y  (zin hSh.2.1) ) (cwV 0 hts gX9_planks_X6_toldFields rfl rfl rfl (by decide +kernel) ⟨Nat.le_of_ble_eq_true rfl, Nat.le_of_ble_eq_true rfl⟩) hK hN hP hD rfl rfl rfl hl.1 rfl (Nat.le_of_ble_eq_true rfl) dX9_planks_63 ⟨Nat.le_of_ble_eq_true rfl, Nat.le_of_ble_eq_true rfl⟩ ?_
          refine kM_i (As := [.long (plT (fun y => (R 15) (nI y).toNatClampNeg &&& 255) (plN (I 450)))]) (rest := []) (q0 := 0) ⟨hx, hb, hml, hown, hts⟩ (x_X9_becomeFloor l D cy a _ (va_up J 6 (J 6)) (va_up (va_up I 9 (I 9)) 10 (I 10)) (va_up O 8 (O 8)) R (va_up RO 2 (RO 2)) LL Y (plT (fun y => (R 15) (nI y).toNatClampNeg &&& 255) (plN (I 450))) fl S P hRA ⟨hM.1, hM.2.1, hM.2.2.1, hM.2.2.2.1, hM.2.2.2.2.1, hM.2.2.2.2.2.1, hM.2.2.2.2.2.2.1, hM.2.2.2.2.2.2.2.1, hRO0, hRO1, hRO2, hRO3⟩ ) (cwV 1 hts gX9_planks_X9_becomeFloor rfl rfl rfl (by decide +kernel) ⟨Nat.le_of_ble_eq_true rfl, Nat.le_of_ble_eq_true rfl⟩) hK hN hP hD hS hA rfl rfl rfl hl.1 rfl (Nat.le_of_ble_eq_true rfl) dX9_planks_66 ⟨Nat.le_of_ble_eq_true rfl, Nat.le_of_ble_eq_true rfl⟩ (fun r_25 u H locs hw hP hD hS => ?_)
          obtain ⟨w_26, w_27, w_28, w_29, w_30, Y_31, ⟨rfl, hi_32, hi_33, hi_34, hs_35, hp_36⟩, rfl⟩ := hw
          have hi_37 : chO Y_31 (O 7) := chO_mono hs_35 hM.2.1
          have hmono_38 : ∀ c, c ∈ Y → c ∈ Y_31 := fun c h => hs_35 c ((fun _ h => h) c h)
          have hP : va_P D vwCl (CT cy a (va_up J 6 w_26) (va_up (va_up I 9 w_27) 10 w_28) (va_up O 8 w_29) R (va_up RO 2 w_30) (LL ++ Y_31)) H := hP
          have hD : va_D A (CT cy a (va_up J 6 w_26) (va_up (va_up I 9 w_27) 10 w_28) (va_up O 8 w_29) R (va_up RO 2 w_30) (LL ++ Y_31)) := hD
          exact wret_i hx hb hr hlocks ((va_up J 6 w_26), (va_up (va_up I 9 w_27) 10 w_28), (va_up O 8 w_29), R, (va_up RO 2 w_30), LL, Y_31) ⟨w_26, w_27, w_28, w_29, w_30, Y_31, ⟨(pl_in (fl := fl) (P := P) (lc4 c_1 (by rw [hj_2]; rfl) hSh.2.1 c_23 c_24) (plC_eq (by rw [hj_2]; rfl) hSh.2.1 c_24)).1, hi_32, hi_33, hi_34, hmono_38, (plC_in (lc4 c_1 (by rw [hj_2]; rfl) hSh.2.1 c_23 c_24) (plC_eq (by rw [hj_2]; rfl) hSh.2.1 c_24) hp_36)⟩, rfl⟩ hP hD hS dX9_planks_69
        · refine lv_aload_n hx hb dX9_planks_49 rfl (lv_at hl 0 rfl) ?_
          refine lv_ldc (v := (-100003)) hx hb hown hw2 dX9_planks_50 ?_
          refine kM_i (As := [.int (-100003)]) (rest := []) (q0 := 0) ⟨hx, hb, hml, hown, hts⟩ (t_X9_finding l D cy a _ (va_up J 6 (J 6)) (va_up (va_up I 9 (I 9)) 10 (I 10)) (va_up O 8 (O 8)) R (va_up RO 2 (RO 2)) LL Y ((-100003) : Int32)   ) (cwV 1 hts gX9_planks_X9_finding rfl rfl rfl (by decide +kernel) ⟨Nat.le_of_ble_eq_true rfl, Nat.le_of_ble_eq_true rfl⟩) hK hN hP hD hS hA rfl rfl rfl hl.1 rfl (Nat.le_of_ble_eq_true rfl) dX9_planks_52 ⟨Nat.le_of_ble_eq_true rfl, Nat.le_of_ble_eq_true rfl⟩ (fun r_39 u H locs hw hP hD hS => ?_)
          obtain ⟨w_40, rfl, rfl⟩ := hw
          have hP : va_P D vwCl (CT cy a (va_up J 6 (J 6)) (va_up (va_up I 9 (I 9)) 10 w_40) (va_up O 8 (O 8)) R (va_up RO 2 (RO 2)) (LL ++ Y)) H := hP
          have hD : va_D A (CT cy a (va_up J 6 (J 6)) (va_up (va_up I 9 (I 9)) 10 w_40) (va_up O 8 (O 8)) R (va_up RO 2 (RO 2)) (LL ++ Y)) := hD
          refine W.widen (k := 1) (n := 3) (Nat.le_of_ble_eq_true rfl) (Nat.le_of_ble_eq_true rfl) ?_
          exact wret_i hx hb hr hlocks ((va_up J 6 (J 6)), (va_up (va_up I 9 (I 9)) 10 w_40), (va_up O 8 (O 8)), R, (va_up RO 2 (RO 2)), LL, Y) ⟨(J 6), (I 9), w_40, (O 8), (RO 2), Y, ⟨(pl_out (V := Vs) (S := S) (fl := fl) (P := P) (lc3 c_1 (by rw [hj_2]; rfl) hSh.2.1 c_23 c_24) (by decide)).1, hM.1, hM.2.2.1, hM.2.2.2.1, (fun _ h => h), (plC_out (lc3 c_1 (by rw [hj_2]; rfl) hSh.2.1 c_23 c_24) (by decide) hRA)⟩, rfl⟩ hP hD hS dX9_planks_55
      · replace c_23 := bI_t c_23
        refine lv_aload_n hx hb dX9_planks_27 rfl (lv_at hl 0 rfl) ?_
        refine lv_ldcw (v := (-100002)) hx hb hown hw3 dX9_planks_28 ?_
        refine kM_i (As := [.int (-100002)]) (rest := []) (q0 := 0) ⟨hx, hb, hml, hown, hts⟩ (t_X9_finding l D cy a _ (va_up J 6 (J 6)) (va_up (va_up I 9 (I 9)) 10 (I 10)) (va_up O 8 (O 8)) R (va_up RO 2 (RO 2)) LL Y ((-100002) : Int32)   ) (cwV 1 hts gX9_planks_X9_finding rfl rfl rfl (by decide +kernel) ⟨Nat.le_of_ble_eq_true rfl, Nat.le_of_ble_eq_true rfl⟩) hK hN hP hD hS hA rfl rfl rfl hl.1 rfl (Nat.le_of_ble_eq_true rfl) dX9_planks_31 ⟨Nat.le_of_ble_eq_true rfl, Nat.le_of_ble_eq_true rfl⟩ (fun r_41 u H locs hw hP hD hS => ?_)
        obtain ⟨w_42, rfl, rfl⟩ := hw
        have hP : va_P D vwCl (CT cy a (va_up J 6 (J 6)) (va_up (va_up I 9 (I 9)) 10 w_42) (va_up O 8 (O 8)) R (va_up RO 2 (RO 2)) (LL ++ Y)) H := hP
        have hD : va_D A (CT cy a (va_up J 6 (J 6)) (va_up (va_up I 9 (I 9)) 10 w_42) (va_up O 8 (O 8)) R (va_up RO 2 (RO 2)) (LL ++ Y)) := hD
        refine W.widen (k := 1) (n := 3) (Nat.le_of_ble_eq_true rfl) (Nat.le_of_ble_eq_true rfl) ?_
        exact wret_i hx hb hr hlocks ((va_up J 6 (J 6)), (va_up (va_up I 9 (I 9)) 10 w_42), (va_up O 8 (O 8)), R, (va_up RO 2 (RO 2)), LL, Y) ⟨(J 6), (I 9), w_42, (O 8), (RO 2), Y, ⟨(pl_out (V := Vs) (S := S) (fl := fl) (P := P) (lc2 c_1 (by rw [hj_2]; rfl) hSh.2.1 c_23) (by decide)).1, hM.1, hM.2.2.1, hM.2.2.2.1, (fun _ h => h), (plC_out (lc2 c_1 (by rw [hj_2]; rfl) hSh.2.1 c_23) (by decide) hRA)⟩, rfl⟩ hP hD hS dX9_planks_34
    · refine wtop_v (y := .ref (a 16)) (by rw [hj_2]; exact congrArg va_rf hRO2) ?_
      refine kR_i (As := []) (rest := []) (q0 := 16) ⟨hx, hb, hml, hown, hts⟩ (x_X6_isMissing16 l D cy a _ (va_up J 6 (J 6)) (va_up (va_up I 9 (I 9)) 10 (I 10)) (va_up O 8 (O 8)) R (va_up RO 2 (RO 2)) LL Y   ) (cwV 0 hts gX9_planks_X6_isMissing rfl rfl rfl (by decide +kernel) ⟨Nat.le_of_ble_eq_true rfl, Nat.le_of_ble_eq_true rfl⟩) hK hN hP hD rfl rfl rfl hl.1 rfl (Nat.le_of_ble_eq_true rfl) dX9_planks_21 ⟨Nat.le_of_ble_eq_true rfl, Nat.le_of_ble_eq_true rfl⟩ ?_
      refine lv_if_eq (tgt := 35) hx hb dX9_planks_24 (by decide) (fun c_43 => ?_) (fun c_43 => ?_)
      · replace c_43 := bI_f c_43
        refine lv_aload_n hx hb dX9_planks_35 rfl (lv_at hl 0 rfl) ?_
        refine va_get (D := D) (ci := 8) (v := .ref (a 1)) (C := RX9) (T := TX9) (N := 11) hx hb hts hi9 hown hK hP 0 rfl rfl 0 (by decide) hw0 (fun _ h9 => h9) rfl dX9_planks_36 ?_
        refine lv_iload_n hx hb dX9_planks_39 rfl (lv_at hl 1 rfl) ?_
        refine va_aldq hx hb hK hP 1 4 rfl rfl (within_in4 c_1) dX9_planks_40 ?_
        refine wtop_v (y := .ref (a 16)) (by rw [hj_2]; exact congrArg va_rf hRO2) ?_
        refine va_get (D := D) (ci := 5) (v := .int (I 514)) (C := RX6) (T := TX6) (N := 3) hx hb hts hi6 hown hK hP 16 rfl rfl 2 (by decide) hw1 (fun _ h9 => h9) rfl dX9_planks_41 ?_
        refine lv_bipush (v := 8) hx hb dX9_planks_44 (by decide) ?_
        refine lv_icmp_le (tgt := 56) hx hb dX9_planks_46 (by decide) (fun c_44 => ?_) (fun c_44 => ?_)
        · refine lv_aload_n hx hb dX9_planks_56 rfl (lv_at hl 0 rfl) ?_
          refine lv_aload_n hx hb dX9_planks_57 rfl (lv_at hl 0 rfl) ?_
          refine va_get (D := D) (ci := 8) (v := .ref (a 1)) (C := RX9) (T := TX9) (N := 11) hx hb hts hi9 hown hK hP 0 rfl rfl 0 (by decide) hw0 (fun _ h9 => h9) rfl dX9_planks_58 ?_
          refine lv_iload_n hx hb dX9_planks_61 rfl (lv_at hl 1 rfl) ?_
          refine va_aldq hx hb hK hP 1 4 rfl rfl (within_in4 c_1) dX9_planks_62 ?_
          refine wtop_v (y := .ref (a 16)) (by rw [hj_2]; exact congrArg va_rf hRO2) ?_
          refine kR_l (As := []) (rest := [.ref (a 0)]) (q0 := 16) ⟨hx, hb, hml, hown, hts⟩ (x_X6_toldFields16 l D cy a _ (va_up J 6 (J 6)) (va_up (va_up I 9 (I 9)) 10 (I 10)) (va_up O 8 (O 8)) R (va_up RO 2 (RO 2)) LL Y  (zin hSh.2.2.1) ) (cwV 0 hts gX9_planks_X6_toldFields rfl rfl rfl (by decide +kernel) ⟨Nat.le_of_ble_eq_true rfl, Nat.le_of_ble_eq_true rfl⟩) hK hN hP hD rfl rfl rfl hl.1 rfl (Nat.le_of_ble_eq_true rfl) dX9_planks_63 ⟨Nat.le_of_ble_eq_true rfl, Nat.le_of_ble_eq_true rfl⟩ ?_
          refine kM_i (As := [.long (plT (fun y => (R 17) (nI y).toNatClampNeg &&& 255) (plN (I 514)))]) (rest := []) (q0 := 0) ⟨hx, hb, hml, hown, hts⟩ (x_X9_becomeFloor l D cy a _ (va_up J 6 (J 6)) (va_up (va_up I 9 (I 9)) 10 (I 10)) (va_up O 8 (O 8)) R (va_up RO 2 (RO 2)) LL Y (plT (fun y => (R 17) (nI y).toNatClampNeg &&& 255) (plN (I 514))) fl S P hRA ⟨hM.1, hM.2.1, hM.2.2.1, hM.2.2.2.1, hM.2.2.2.2.1, hM.2.2.2.2.2.1, hM.2.2.2.2.2.2.1, hM.2.2.2.2.2.2.2.1, hRO0, hRO1, hRO2, hRO3⟩ ) (cwV 1 hts gX9_planks_X9_becomeFloor rfl rfl rfl (by decide +kernel) ⟨Nat.le_of_ble_eq_true rfl, Nat.le_of_ble_eq_true rfl⟩) hK hN hP hD hS hA rfl rfl rfl hl.1 rfl (Nat.le_of_ble_eq_true rfl) dX9_planks_66 ⟨Nat.le_of_ble_eq_true rfl, Nat.le_of_ble_eq_true rfl⟩ (fun r_45 u H locs hw hP hD hS => ?_)
          obtain ⟨w_46, w_47, w_48, w_49, w_50, Y_51, ⟨rfl, hi_52, hi_53, hi_54, hs_55, hp_56⟩, rfl⟩ := hw
          have hi_57 : chO Y_51 (O 7) := chO_mono hs_55 hM.2.1
          have hmono_58 : ∀ c, c ∈ Y → c ∈ Y_51 := fun c h => hs_55 c ((fun _ h => h) c h)
          have hP : va_P D vwCl (CT cy a (va_up J 6 w_46) (va_up (va_up I 9 w_47) 10 w_48) (va_up O 8 w_49) R (va_up RO 2 w_50) (LL ++ Y_51)) H := hP
          have hD : va_D A (CT cy a (va_up J 6 w_46) (va_up (va_up I 9 w_47) 10 w_48) (va_up O 8 w_49) R (va_up RO 2 w_50) (LL ++ Y_51)) := hD
          exact wret_i hx hb hr hlocks ((va_up J 6 w_46), (va_up (va_up I 9 w_47) 10 w_48), (va_up O 8 w_49), R, (va_up RO 2 w_50), LL, Y_51) ⟨w_46, w_47, w_48, w_49, w_50, Y_51, ⟨(pl_in (fl := fl) (P := P) (lc4 c_1 (by rw [hj_2]; rfl) hSh.2.2.1 c_43 c_44) (plC_eq (by rw [hj_2]; rfl) hSh.2.2.1 c_44)).1, hi_52, hi_53, hi_54, hmono_58, (plC_in (lc4 c_1 (by rw [hj_2]; rfl) hSh.2.2.1 c_43 c_44) (plC_eq (by rw [hj_2]; rfl) hSh.2.2.1 c_44) hp_56)⟩, rfl⟩ hP hD hS dX9_planks_69
        · refine lv_aload_n hx hb dX9_planks_49 rfl (lv_at hl 0 rfl) ?_
          refine lv_ldc (v := (-100003)) hx hb hown hw2 dX9_planks_50 ?_
          refine kM_i (As := [.int (-100003)]) (rest := []) (q0 := 0) ⟨hx, hb, hml, hown, hts⟩ (t_X9_finding l D cy a _ (va_up J 6 (J 6)) (va_up (va_up I 9 (I 9)) 10 (I 10)) (va_up O 8 (O 8)) R (va_up RO 2 (RO 2)) LL Y ((-100003) : Int32)   ) (cwV 1 hts gX9_planks_X9_finding rfl rfl rfl (by decide +kernel) ⟨Nat.le_of_ble_eq_true rfl, Nat.le_of_ble_eq_true rfl⟩) hK hN hP hD hS hA rfl rfl rfl hl.1 rfl (Nat.le_of_ble_eq_true rfl) dX9_planks_52 ⟨Nat.le_of_ble_eq_true rfl, Nat.le_of_ble_eq_true rfl⟩ (fun r_59 u H locs hw hP hD hS => ?_)
          obtain ⟨w_60, rfl, rfl⟩ := hw
          have hP : va_P D vwCl (CT cy a (va_up J 6 (J 6)) (va_up (va_up I 9 (I 9)) 10 w_60) (va_up O 8 (O 8)) R (va_up RO 2 (RO 2)) (LL ++ Y)) H := hP
          have hD : va_D A (CT cy a (va_up J 6 (J 6)) (va_up (va_up I 9 (I 9)) 10 w_60) (va_up O 8 (O 8)) R (va_up RO 2 (RO 2)) (LL ++ Y)) := hD
          refine W.widen (k := 1) (n := 3) (Nat.le_of_ble_eq_true rfl) (Nat.le_of_ble_eq_true rfl) ?_
          exact wret_i hx hb hr hlocks ((va_up J 6 (J 6)), (va_up (va_up I 9 (I 9)) 10 w_60), (va_up O 8 (O 8)), R, (va_up RO 2 (RO 2)), LL, Y) ⟨(J 6), (I 9), w_60, (O 8), (RO 2), Y, ⟨(pl_out (V := Vs) (S := S) (fl := fl) (P := P) (lc3 c_1 (by rw [hj_2]; rfl) hSh.2.2.1 c_43 c_44) (by decide)).1, hM.1, hM.2.2.1, hM.2.2.2.1, (fun _ h => h), (plC_out (lc3 c_1 (by rw [hj_2]; rfl) hSh.2.2.1 c_43 c_44) (by decide) hRA)⟩, rfl⟩ hP hD hS dX9_planks_55
      · replace c_43 := bI_t c_43
        refine lv_aload_n hx hb dX9_planks_27 rfl (lv_at hl 0 rfl) ?_
        refine lv_ldcw (v := (-100002)) hx hb hown hw3 dX9_planks_28 ?_
        refine kM_i (As := [.int (-100002)]) (rest := []) (q0 := 0) ⟨hx, hb, hml, hown, hts⟩ (t_X9_finding l D cy a _ (va_up J 6 (J 6)) (va_up (va_up I 9 (I 9)) 10 (I 10)) (va_up O 8 (O 8)) R (va_up RO 2 (RO 2)) LL Y ((-100002) : Int32)   ) (cwV 1 hts gX9_planks_X9_finding rfl rfl rfl (by decide +kernel) ⟨Nat.le_of_ble_eq_true rfl, Nat.le_of_ble_eq_true rfl⟩) hK hN hP hD hS hA rfl rfl rfl hl.1 rfl (Nat.le_of_ble_eq_true rfl) dX9_planks_31 ⟨Nat.le_of_ble_eq_true rfl, Nat.le_of_ble_eq_true rfl⟩ (fun r_61 u H locs hw hP hD hS => ?_)
        obtain ⟨w_62, rfl, rfl⟩ := hw
        have hP : va_P D vwCl (CT cy a (va_up J 6 (J 6)) (va_up (va_up I 9 (I 9)) 10 w_62) (va_up O 8 (O 8)) R (va_up RO 2 (RO 2)) (LL ++ Y)) H := hP
        have hD : va_D A (CT cy a (va_up J 6 (J 6)) (va_up (va_up I 9 (I 9)) 10 w_62) (va_up O 8 (O 8)) R (va_up RO 2 (RO 2)) (LL ++ Y)) := hD
        refine W.widen (k := 1) (n := 3) (Nat.le_of_ble_eq_true rfl) (Nat.le_of_ble_eq_true rfl) ?_
        exact wret_i hx hb hr hlocks ((va_up J 6 (J 6)), (va_up (va_up I 9 (I 9)) 10 w_62), (va_up O 8 (O 8)), R, (va_up RO 2 (RO 2)), LL, Y) ⟨(J 6), (I 9), w_62, (O 8), (RO 2), Y, ⟨(pl_out (V := Vs) (S := S) (fl := fl) (P := P) (lc2 c_1 (by rw [hj_2]; rfl) hSh.2.2.1 c_43) (by decide)).1, hM.1, hM.2.2.1, hM.2.2.2.1, (fun _ h => h), (plC_out (lc2 c_1 (by rw [hj_2]; rfl) hSh.2.2.1 c_43) (by decide) hRA)⟩, rfl⟩ hP hD hS dX9_planks_34
    · refine wtop_v (y := .ref (a 18)) (by rw [hj_2]; exact congrArg va_rf hRO3) ?_
      refine kR_i (As := []) (rest := []) (q0 := 18) ⟨hx, hb, hml, hown, hts⟩ (x_X6_isMissing18 l D cy a _ (va_up J 6 (J 6)) (va_up (va_up I 9 (I 9)) 10 (I 10)) (va_up O 8 (O 8)) R (va_up RO 2 (RO 2)) LL Y   ) (cwV 0 hts gX9_planks_X6_isMissing rfl rfl rfl (by decide +kernel) ⟨Nat.le_of_ble_eq_true rfl, Nat.le_of_ble_eq_true rfl⟩) hK hN hP hD rfl rfl rfl hl.1 rfl (Nat.le_of_ble_eq_true rfl) dX9_planks_21 ⟨Nat.le_of_ble_eq_true rfl, Nat.le_of_ble_eq_true rfl⟩ ?_
      refine lv_if_eq (tgt := 35) hx hb dX9_planks_24 (by decide) (fun c_63 => ?_) (fun c_63 => ?_)
      · replace c_63 := bI_f c_63
        refine lv_aload_n hx hb dX9_planks_35 rfl (lv_at hl 0 rfl) ?_
        refine va_get (D := D) (ci := 8) (v := .ref (a 1)) (C := RX9) (T := TX9) (N := 11) hx hb hts hi9 hown hK hP 0 rfl rfl 0 (by decide) hw0 (fun _ h9 => h9) rfl dX9_planks_36 ?_
        refine lv_iload_n hx hb dX9_planks_39 rfl (lv_at hl 1 rfl) ?_
        refine va_aldq hx hb hK hP 1 4 rfl rfl (within_in4 c_1) dX9_planks_40 ?_
        refine wtop_v (y := .ref (a 18)) (by rw [hj_2]; exact congrArg va_rf hRO3) ?_
        refine va_get (D := D) (ci := 5) (v := .int (I 578)) (C := RX6) (T := TX6) (N := 3) hx hb hts hi6 hown hK hP 18 rfl rfl 2 (by decide) hw1 (fun _ h9 => h9) rfl dX9_planks_41 ?_
        refine lv_bipush (v := 8) hx hb dX9_planks_44 (by decide) ?_
        refine lv_icmp_le (tgt := 56) hx hb dX9_planks_46 (by decide) (fun c_64 => ?_) (fun c_64 => ?_)
        · refine lv_aload_n hx hb dX9_planks_56 rfl (lv_at hl 0 rfl) ?_
          refine lv_aload_n hx hb dX9_planks_57 rfl (lv_at hl 0 rfl) ?_
          refine va_get (D := D) (ci := 8) (v := .ref (a 1)) (C := RX9) (T := TX9) (N := 11) hx hb hts hi9 hown hK hP 0 rfl rfl 0 (by decide) hw0 (fun _ h9 => h9) rfl dX9_planks_58 ?_
          refine lv_iload_n hx hb dX9_planks_61 rfl (lv_at hl 1 rfl) ?_
          refine va_aldq hx hb hK hP 1 4 rfl rfl (within_in4 c_1) dX9_planks_62 ?_
          refine wtop_v (y := .ref (a 18)) (by rw [hj_2]; exact congrArg va_rf hRO3) ?_
          refine kR_l (As := []) (rest := [.ref (a 0)]) (q0 := 18) ⟨hx, hb, hml, hown, hts⟩ (x_X6_toldFields18 l D cy a _ (va_up J 6 (J 6)) (va_up (va_up I 9 (I 9)) 10 (I 10)) (va_up O 8 (O 8)) R (va_up RO 2 (RO 2)) LL Y  (zin hSh.2.2.2) ) (cwV 0 hts gX9_planks_X6_toldFields rfl rfl rfl (by decide +kernel) ⟨Nat.le_of_ble_eq_true rfl, Nat.le_of_ble_eq_true rfl⟩) hK hN hP hD rfl rfl rfl hl.1 rfl (Nat.le_of_ble_eq_true rfl) dX9_planks_63 ⟨Nat.le_of_ble_eq_true rfl, Nat.le_of_ble_eq_true rfl⟩ ?_
          refine kM_i (As := [.long (plT (fun y => (R 19) (nI y).toNatClampNeg &&& 255) (plN (I 578)))]) (rest := []) (q0 := 0) ⟨hx, hb, hml, hown, hts⟩ (x_X9_becomeFloor l D cy a _ (va_up J 6 (J 6)) (va_up (va_up I 9 (I 9)) 10 (I 10)) (va_up O 8 (O 8)) R (va_up RO 2 (RO 2)) LL Y (plT (fun y => (R 19) (nI y).toNatClampNeg &&& 255) (plN (I 578))) fl S P hRA ⟨hM.1, hM.2.1, hM.2.2.1, hM.2.2.2.1, hM.2.2.2.2.1, hM.2.2.2.2.2.1, hM.2.2.2.2.2.2.1, hM.2.2.2.2.2.2.2.1, hRO0, hRO1, hRO2, hRO3⟩ ) (cwV 1 hts gX9_planks_X9_becomeFloor rfl rfl rfl (by decide +kernel) ⟨Nat.le_of_ble_eq_true rfl, Nat.le_of_ble_eq_true rfl⟩) hK hN hP hD hS hA rfl rfl rfl hl.1 rfl (Nat.le_of_ble_eq_true rfl) dX9_planks_66 ⟨Nat.le_of_ble_eq_true rfl, Nat.le_of_ble_eq_true rfl⟩ (fun r_65 u H locs hw hP hD hS => ?_)
          obtain ⟨w_66, w_67, w_68, w_69, w_70, Y_71, ⟨rfl, hi_72, hi_73, hi_74, hs_75, hp_76⟩, rfl⟩ := hw
          have hi_77 : chO Y_71 (O 7) := chO_mono hs_75 hM.2.1
          have hmono_78 : ∀ c, c ∈ Y → c ∈ Y_71 := fun c h => hs_75 c ((fun _ h => h) c h)
          have hP : va_P D vwCl (CT cy a (va_up J 6 w_66) (va_up (va_up I 9 w_67) 10 w_68) (va_up O 8 w_69) R (va_up RO 2 w_70) (LL ++ Y_71)) H := hP
          have hD : va_D A (CT cy a (va_up J 6 w_66) (va_up (va_up I 9 w_67) 10 w_68) (va_up O 8 w_69) R (va_up RO 2 w_70) (LL ++ Y_71)) := hD
          exact wret_i hx hb hr hlocks ((va_up J 6 w_66), (va_up (va_up I 9 w_67) 10 w_68), (va_up O 8 w_69), R, (va_up RO 2 w_70), LL, Y_71) ⟨w_66, w_67, w_68, w_69, w_70, Y_71, ⟨(pl_in (fl := fl) (P := P) (lc4 c_1 (by rw [hj_2]; rfl) hSh.2.2.2 c_63 c_64) (plC_eq (by rw [hj_2]; rfl) hSh.2.2.2 c_64)).1, hi_72, hi_73, hi_74, hmono_78, (plC_in (lc4 c_1 (by rw [hj_2]; rfl) hSh.2.2.2 c_63 c_64) (plC_eq (by rw [hj_2]; rfl) hSh.2.2.2 c_64) hp_76)⟩, rfl⟩ hP hD hS dX9_planks_69
        · refine lv_aload_n hx hb dX9_planks_49 rfl (lv_at hl 0 rfl) ?_
          refine lv_ldc (v := (-100003)) hx hb hown hw2 dX9_planks_50 ?_
          refine kM_i (As := [.int (-100003)]) (rest := []) (q0 := 0) ⟨hx, hb, hml, hown, hts⟩ (t_X9_finding l D cy a _ (va_up J 6 (J 6)) (va_up (va_up I 9 (I 9)) 10 (I 10)) (va_up O 8 (O 8)) R (va_up RO 2 (RO 2)) LL Y ((-100003) : Int32)   ) (cwV 1 hts gX9_planks_X9_finding rfl rfl rfl (by decide +kernel) ⟨Nat.le_of_ble_eq_true rfl, Nat.le_of_ble_eq_true rfl⟩) hK hN hP hD hS hA rfl rfl rfl hl.1 rfl (Nat.le_of_ble_eq_true rfl) dX9_planks_52 ⟨Nat.le_of_ble_eq_true rfl, Nat.le_of_ble_eq_true rfl⟩ (fun r_79 u H locs hw hP hD hS => ?_)
          obtain ⟨w_80, rfl, rfl⟩ := hw
          have hP : va_P D vwCl (CT cy a (va_up J 6 (J 6)) (va_up (va_up I 9 (I 9)) 10 w_80) (va_up O 8 (O 8)) R (va_up RO 2 (RO 2)) (LL ++ Y)) H := hP
          have hD : va_D A (CT cy a (va_up J 6 (J 6)) (va_up (va_up I 9 (I 9)) 10 w_80) (va_up O 8 (O 8)) R (va_up RO 2 (RO 2)) (LL ++ Y)) := hD
          refine W.widen (k := 1) (n := 3) (Nat.le_of_ble_eq_true rfl) (Nat.le_of_ble_eq_true rfl) ?_
          exact wret_i hx hb hr hlocks ((va_up J 6 (J 6)), (va_up (va_up I 9 (I 9)) 10 w_80), (va_up O 8 (O 8)), R, (va_up RO 2 (RO 2)), LL, Y) ⟨(J 6), (I 9), w_80, (O 8), (RO 2), Y, ⟨(pl_out (V := Vs) (S := S) (fl := fl) (P := P) (lc3 c_1 (by rw [hj_2]; rfl) hSh.2.2.2 c_63 c_64) (by decide)).1, hM.1, hM.2.2.1, hM.2.2.2.1, (fun _ h => h), (plC_out (lc3 c_1 (by rw [hj_2]; rfl) hSh.2.2.2 c_63 c_64) (by decide) hRA)⟩, rfl⟩ hP hD hS dX9_planks_55
      · replace c_63 := bI_t c_63
        refine lv_aload_n hx hb dX9_planks_27 rfl (lv_at hl 0 rfl) ?_
        refine lv_ldcw (v := (-100002)) hx hb hown hw3 dX9_planks_28 ?_
        refine kM_i (As := [.int (-100002)]) (rest := []) (q0 := 0) ⟨hx, hb, hml, hown, hts⟩ (t_X9_finding l D cy a _ (va_up J 6 (J 6)) (va_up (va_up I 9 (I 9)) 10 (I 10)) (va_up O 8 (O 8)) R (va_up RO 2 (RO 2)) LL Y ((-100002) : Int32)   ) (cwV 1 hts gX9_planks_X9_finding rfl rfl rfl (by decide +kernel) ⟨Nat.le_of_ble_eq_true rfl, Nat.le_of_ble_eq_true rfl⟩) hK hN hP hD hS hA rfl rfl rfl hl.1 rfl (Nat.le_of_ble_eq_true rfl) dX9_planks_31 ⟨Nat.le_of_ble_eq_true rfl, Nat.le_of_ble_eq_true rfl⟩ (fun r_81 u H locs hw hP hD hS => ?_)
        obtain ⟨w_82, rfl, rfl⟩ := hw
        have hP : va_P D vwCl (CT cy a (va_up J 6 (J 6)) (va_up (va_up I 9 (I 9)) 10 w_82) (va_up O 8 (O 8)) R (va_up RO 2 (RO 2)) (LL ++ Y)) H := hP
        have hD : va_D A (CT cy a (va_up J 6 (J 6)) (va_up (va_up I 9 (I 9)) 10 w_82) (va_up O 8 (O 8)) R (va_up RO 2 (RO 2)) (LL ++ Y)) := hD
        refine W.widen (k := 1) (n := 3) (Nat.le_of_ble_eq_true rfl) (Nat.le_of_ble_eq_true rfl) ?_
        exact wret_i hx hb hr hlocks ((va_up J 6 (J 6)), (va_up (va_up I 9 (I 9)) 10 w_82), (va_up O 8 (O 8)), R, (va_up RO 2 (RO 2)), LL, Y) ⟨(J 6), (I 9), w_82, (O 8), (RO 2), Y, ⟨(pl_out (V := Vs) (S := S) (fl := fl) (P := P) (lc2 c_1 (by rw [hj_2]; rfl) hSh.2.2.2 c_63) (by decide)).1, hM.1, hM.2.2.1, hM.2.2.2.1, (fun _ h => h), (plC_out (lc2 c_1 (by rw [hj_2]; rfl) hSh.2.2.2 c_63) (by decide) hRA)⟩, rfl⟩ hP hD hS dX9_planks_34
  · replace c_1 := bI_f c_1
    refine lv_aload_n hx hb dX9_planks_8 rfl (lv_at hl 0 rfl) ?_
    refine lv_ldc (v := (-100001)) hx hb hown hw4 dX9_planks_9 ?_
    refine kM_i (As := [.int (-100001)]) (rest := []) (q0 := 0) ⟨hx, hb, hml, hown, hts⟩ (t_X9_finding l D cy a _ (va_up J 6 (J 6)) (va_up (va_up I 9 (I 9)) 10 (I 10)) (va_up O 8 (O 8)) R (va_up RO 2 (RO 2)) LL Y ((-100001) : Int32)   ) (cwV 1 hts gX9_planks_X9_finding rfl rfl rfl (by decide +kernel) ⟨Nat.le_of_ble_eq_true rfl, Nat.le_of_ble_eq_true rfl⟩) hK hN hP hD hS hA rfl rfl rfl hl.1 rfl (Nat.le_of_ble_eq_true rfl) dX9_planks_11 ⟨Nat.le_of_ble_eq_true rfl, Nat.le_of_ble_eq_true rfl⟩ (fun r_83 u H locs hw hP hD hS => ?_)
    obtain ⟨w_84, rfl, rfl⟩ := hw
    have hP : va_P D vwCl (CT cy a (va_up J 6 (J 6)) (va_up (va_up I 9 (I 9)) 10 w_84) (va_up O 8 (O 8)) R (va_up RO 2 (RO 2)) (LL ++ Y)) H := hP
    have hD : va_D A (CT cy a (va_up J 6 (J 6)) (va_up (va_up I 9 (I 9)) 10 w_84) (va_up O 8 (O 8)) R (va_up RO 2 (RO 2)) (LL ++ Y)) := hD
    refine W.widen (k := 1) (n := 3) (Nat.le_of_ble_eq_true rfl) (Nat.le_of_ble_eq_true rfl) ?_
    exact wret_i hx hb hr hlocks ((va_up J 6 (J 6)), (va_up (va_up I 9 (I 9)) 10 w_84), (va_up O 8 (O 8)), R, (va_up RO 2 (RO 2)), LL, Y) ⟨(J 6), (I 9), w_84, (O 8), (RO 2), Y, ⟨(pl_out (V := Vs) (S := S) (fl := fl) (P := P) (lw1 c_1) (by decide)).1, hM.1, hM.2.2.1, hM.2.2.2.1, (fun _ h => h), (plC_out (lw1 c_1) (by decide) hRA)⟩, rfl⟩ hP hD hS dX9_planks_14
