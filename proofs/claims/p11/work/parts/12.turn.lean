theorem dX10_partner_0 : decode cX10_partner 0 = .ok (.iload_n 1, 1) := by decide +kernel
set_option maxRecDepth 20000 in
theorem ggX10_partner_X10_isField : GoodIn wsX10_partner wsX10_isField := goodIn_r _ [10, 11, 12, 9, 13] rfl (by decide +kernel)
set_option maxRecDepth 20000 in
theorem gX10_partner_X10_isField : GoodIn wsX10_partner (va_wsS RX10 147 yX10_isField wsX10_isField) := goodIn_app (goodIn_r _ [7, 8, 9] rfl (by decide +kernel)) ggX10_partner_X10_isField
theorem dX10_partner_1 : decode cX10_partner 1 = .ok (.invokestatic 147, 3) := by decide +kernel
theorem dX10_partner_4 : decode cX10_partner 4 = .ok (.ifCond .ne 10, 3) := by decide +kernel
theorem dX10_partner_14 : decode cX10_partner 14 = .ok (.aload_n 0, 1) := by decide +kernel
theorem dX10_partner_15 : decode cX10_partner 15 = .ok (.getfield 88, 3) := by decide +kernel
theorem dX10_partner_18 : decode cX10_partner 18 = .ok (.ifCond .eq 14, 3) := by decide +kernel
theorem dX10_partner_32 : decode cX10_partner 32 = .ok (.aload_n 0, 1) := by decide +kernel
theorem dX10_partner_33 : decode cX10_partner 33 = .ok (.ldc 98, 2) := by decide +kernel
set_option maxRecDepth 20000 in
theorem ggX10_partner_X10_finding : GoodIn wsX10_partner wsX10_finding := goodIn_r _ [17, 18, 22, 23, 24, 25, 26, 27, 28, 29, 30, 31, 32, 33, 34, 35, 36, 37, 38, 39, 40, 41, 42, 43, 44, 45, 46, 47, 48, 49, 50, 51] rfl (by decide +kernel)
set_option maxRecDepth 20000 in
theorem gX10_partner_X10_finding : GoodIn wsX10_partner (wsV RX10 99 RX10 yX10_finding wsX10_finding) := goodIn_app (goodIn_r _ [14, 15, 16, 9] rfl (by decide +kernel)) ggX10_partner_X10_finding
theorem dX10_partner_35 : decode cX10_partner 35 = .ok (.invokevirtual 99, 3) := by decide +kernel
theorem dX10_partner_38 : decode cX10_partner 38 = .ok (.ireturn, 1) := by decide +kernel
theorem dX10_partner_21 : decode cX10_partner 21 = .ok (.aload_n 0, 1) := by decide +kernel
theorem dX10_partner_22 : decode cX10_partner 22 = .ok (.getfield 81, 3) := by decide +kernel
theorem dX10_partner_25 : decode cX10_partner 25 = .ok (.iload_n 1, 1) := by decide +kernel
set_option maxRecDepth 20000 in
theorem ggX10_partner_X10_hasBit : GoodIn wsX10_partner wsX10_hasBit := goodIn_r _ [21] rfl (by decide +kernel)
set_option maxRecDepth 20000 in
theorem gX10_partner_X10_hasBit : GoodIn wsX10_partner (va_wsS RX10 74 yX10_hasBit wsX10_hasBit) := goodIn_app (goodIn_r _ [19, 20, 9] rfl (by decide +kernel)) ggX10_partner_X10_hasBit
theorem dX10_partner_26 : decode cX10_partner 26 = .ok (.invokestatic 74, 3) := by decide +kernel
theorem dX10_partner_29 : decode cX10_partner 29 = .ok (.ifCond .ne 10, 3) := by decide +kernel
theorem dX10_partner_39 : decode cX10_partner 39 = .ok (.aload_n 0, 1) := by decide +kernel
theorem dX10_partner_40 : decode cX10_partner 40 = .ok (.getfield 92, 3) := by decide +kernel
theorem dX10_partner_43 : decode cX10_partner 43 = .ok (.iload_n 1, 1) := by decide +kernel
theorem dX10_partner_44 : decode cX10_partner 44 = .ok (.invokestatic 74, 3) := by decide +kernel
theorem dX10_partner_47 : decode cX10_partner 47 = .ok (.ifCond .eq 7, 3) := by decide +kernel
theorem dX10_partner_54 : decode cX10_partner 54 = .ok (.aload_n 0, 1) := by decide +kernel
theorem dX10_partner_55 : decode cX10_partner 55 = .ok (.getfield 95, 3) := by decide +kernel
theorem dX10_partner_58 : decode cX10_partner 58 = .ok (.iload_n 1, 1) := by decide +kernel
theorem dX10_partner_59 : decode cX10_partner 59 = .ok (.invokestatic 74, 3) := by decide +kernel
theorem dX10_partner_62 : decode cX10_partner 62 = .ok (.ifCond .eq 8, 3) := by decide +kernel
theorem dX10_partner_70 : decode cX10_partner 70 = .ok (.iload_n 1, 1) := by decide +kernel
theorem dX10_partner_71 : decode cX10_partner 71 = .ok (.bipush 8, 2) := by decide +kernel
theorem dX10_partner_73 : decode cX10_partner 73 = .ok (.irem, 1) := by decide +kernel
theorem dX10_partner_74 : decode cX10_partner 74 = .ok (.ifCond .le 22, 3) := by decide +kernel
theorem dX10_partner_96 : decode cX10_partner 96 = .ok (.iload_n 1, 1) := by decide +kernel
theorem dX10_partner_97 : decode cX10_partner 97 = .ok (.bipush 8, 2) := by decide +kernel
theorem dX10_partner_99 : decode cX10_partner 99 = .ok (.isub, 1) := by decide +kernel
theorem dX10_partner_100 : decode cX10_partner 100 = .ok (.ireturn, 1) := by decide +kernel
theorem dX10_partner_77 : decode cX10_partner 77 = .ok (.aload_n 0, 1) := by decide +kernel
theorem dX10_partner_78 : decode cX10_partner 78 = .ok (.getfield 92, 3) := by decide +kernel
theorem dX10_partner_81 : decode cX10_partner 81 = .ok (.iload_n 1, 1) := by decide +kernel
theorem dX10_partner_82 : decode cX10_partner 82 = .ok (.iconst 1, 1) := by decide +kernel
theorem dX10_partner_83 : decode cX10_partner 83 = .ok (.isub, 1) := by decide +kernel
theorem dX10_partner_84 : decode cX10_partner 84 = .ok (.invokestatic 74, 3) := by decide +kernel
theorem dX10_partner_87 : decode cX10_partner 87 = .ok (.ifCond .eq 9, 3) := by decide +kernel
theorem dX10_partner_90 : decode cX10_partner 90 = .ok (.iload_n 1, 1) := by decide +kernel
theorem dX10_partner_91 : decode cX10_partner 91 = .ok (.iconst 1, 1) := by decide +kernel
theorem dX10_partner_92 : decode cX10_partner 92 = .ok (.isub, 1) := by decide +kernel
theorem dX10_partner_93 : decode cX10_partner 93 = .ok (.goto 7, 3) := by decide +kernel
theorem dX10_partner_65 : decode cX10_partner 65 = .ok (.iload_n 1, 1) := by decide +kernel
theorem dX10_partner_66 : decode cX10_partner 66 = .ok (.bipush 8, 2) := by decide +kernel
theorem dX10_partner_68 : decode cX10_partner 68 = .ok (.iadd, 1) := by decide +kernel
theorem dX10_partner_69 : decode cX10_partner 69 = .ok (.ireturn, 1) := by decide +kernel
theorem dX10_partner_50 : decode cX10_partner 50 = .ok (.iload_n 1, 1) := by decide +kernel
theorem dX10_partner_51 : decode cX10_partner 51 = .ok (.iconst 1, 1) := by decide +kernel
theorem dX10_partner_52 : decode cX10_partner 52 = .ok (.iadd, 1) := by decide +kernel
theorem dX10_partner_53 : decode cX10_partner 53 = .ok (.ireturn, 1) := by decide +kernel
theorem dX10_partner_7 : decode cX10_partner 7 = .ok (.aload_n 0, 1) := by decide +kernel
theorem dX10_partner_8 : decode cX10_partner 8 = .ok (.ldc 141, 2) := by decide +kernel
theorem dX10_partner_10 : decode cX10_partner 10 = .ok (.invokevirtual 99, 3) := by decide +kernel
theorem dX10_partner_13 : decode cX10_partner 13 = .ok (.ireturn, 1) := by decide +kernel
set_option maxRecDepth 20000 in
theorem ihX10_partner_10 : ∀ w ∈ u_ws RX10 TX10 30, w ∈ wsX10_partner := fun _ h => List.mem_cons_of_mem _ (List.mem_append_right _ h)
set_option maxHeartbeats 4000000 in
set_option maxRecDepth 100000 in
theorem t_X10_partner (l : Launch) (D : va_G) (cy : Nat → ClassId) (a : Nat → Nat) (sz : Nat) (J : Nat → Int64) (I : Nat → Int32) (R : Nat → Nat → Int32) (RJ : Nat → Nat → Int64) (x0 : Int32) (hM : MI I R) : Met l yX10_partner wsX10_partner ({ frames := 2, cells := 0, slots := 0, locals := 42 }) (va_Pc [.ref (a 0), .int x0] (PW D cy sz (MW cy a J I R RJ))) (va_Qi (fun r (u : MS) => ∃ (w0 : Int32), (True) ∧ u = (J, (va_up I 13 w0), R, RJ)) (BW D (va_A (MW cy a J I R RJ) sz) (MWu cy a)) (va_A (MW cy a J I R RJ) sz)) 0 0 (va_A (MW cy a J I R RJ) sz) := by
  refine Met.ofW (cc := cX10_partner) (maxL := 2) (ret := (some .int)) (by decide) rfl ?_
  intro p e s m args below meth c s₁ B hml hv
  obtain ⟨rfl, rfl, hP, hK, hN, hD0⟩ := hv
  have hx := B.exec
  have hb := B.bytes
  have hr := B.returns
  have hts := atoms_spec (ws := wsX10_partner) B.pre
  have hown : s.vm.findClass RX10 = some m.cls := findClass_of_methodNamed B.named
  have hlocks := B.notSynchronized
  have hw0 := hts (.fieldLink RX10 88 "ParquetLayerModel" "isLaid" "Z") (by decide +kernel)
  have hw1 := hts (.constant RX10 98 (-100006)) (by decide +kernel)
  have hw2 := hts (.fieldLink RX10 81 "ParquetLayerModel" "floor" "J") (by decide +kernel)
  have hw3 := hts (.fieldLink RX10 92 "ParquetLayerModel" "along" "J") (by decide +kernel)
  have hw4 := hts (.fieldLink RX10 95 "ParquetLayerModel" "across" "J") (by decide +kernel)
  have hw5 := hts (.constant RX10 141 (-100001)) (by decide +kernel)
  have hi10 := ihX10_partner_10
  have hD := hD0.self (sz := s.heap.size)
  generalize hAe : va_A (MW cy a J I R RJ) s.heap.size = A at hD ⊢
  have hA : ∀ q : Nat, s.heap.size ≤ q → A q := fun q h => by rw [← hAe]; exact Or.inr h
  have hS : va_S A s.heap s.heap [] := va_S.rf
  have hl := lv_entry ([.ref (a 0), .int x0]) (n := 2) (Nat.le_of_ble_eq_true rfl)
  rw [lg_entry_eq]
  generalize (lg_sl ([.ref (a 0), .int x0]) ++ List.replicate (2 - (lg_sl ([.ref (a 0), .int x0])).length) Slot.unset).toArray = ls at hl ⊢
  have hl : lv_has ls 2 [(0, .ref (a 0)), (1, .int x0)] := hl
  have hP : va_P D vwCl (MW cy a J (va_up I 13 (I 13)) R RJ) s.heap := hP
  have hD : va_D A (MW cy a J (va_up I 13 (I 13)) R RJ) := hD
  refine lv_iload_n hx hb dX10_partner_0 rfl (lv_at hl 1 rfl) ?_
  refine kS_i (As := [.int x0]) (rest := []) ⟨hx, hb, hml, hown, hts⟩ (c_X10_isField l x0) (va_cwS 1 hts gX10_partner_X10_isField rfl rfl rfl (by decide +kernel) ⟨Nat.le_of_ble_eq_true rfl, Nat.le_of_ble_eq_true rfl⟩) rfl hl.1 rfl (Nat.le_of_ble_eq_true rfl) dX10_partner_1 ⟨Nat.le_of_ble_eq_true rfl, Nat.le_of_ble_eq_true rfl⟩ ?_
  refine lv_if_ne (tgt := 14) hx hb dX10_partner_4 (by decide) (fun c_1 => ?_) (fun c_1 => ?_)
  · replace c_1 := bI_t c_1
    refine lv_aload_n hx hb dX10_partner_14 rfl (lv_at hl 0 rfl) ?_
    refine va_get (D := D) (ci := 9) (v := .int (I 3)) (C := RX10) (T := TX10) (N := 30) hx hb hts hi10 hown hK hP 0 rfl rfl 3 (by decide) hw0 (fun _ h9 => h9) rfl dX10_partner_15 ?_
    refine lv_if_eq (tgt := 32) hx hb dX10_partner_18 (by decide) (fun c_2 => ?_) (fun c_2 => ?_)
    · refine lv_aload_n hx hb dX10_partner_32 rfl (lv_at hl 0 rfl) ?_
      refine lv_ldc (v := (-100006)) hx hb hown hw1 dX10_partner_33 ?_
      refine kM_i (As := [.int (-100006)]) (rest := []) (q0 := 0) ⟨hx, hb, hml, hown, hts⟩ (c_X10_finding l D cy a _ J (va_up I 13 (I 13)) R RJ (-100006) ) (cwV 1 hts gX10_partner_X10_finding rfl rfl rfl (by decide +kernel) ⟨Nat.le_of_ble_eq_true rfl, Nat.le_of_ble_eq_true rfl⟩) hK hN hP hD hS hA rfl rfl rfl hl.1 rfl (Nat.le_of_ble_eq_true rfl) dX10_partner_35 ⟨Nat.le_of_ble_eq_true rfl, Nat.le_of_ble_eq_true rfl⟩ (fun r_3 u H locs hw hP hD hS => ?_)
      obtain ⟨rfl, rfl⟩ := hw
      have hP : va_P D vwCl (MW cy a J (va_up I 13 ((I 13) + 1)) R RJ) H := hP
      have hD : va_D A (MW cy a J (va_up I 13 ((I 13) + 1)) R RJ) := hD
      exact wret_i hx hb hr hlocks (J, (va_up I 13 ((I 13) + 1)), R, RJ) ⟨((I 13) + 1), trivial, rfl⟩ hP hD hS dX10_partner_38
    · refine lv_aload_n hx hb dX10_partner_21 rfl (lv_at hl 0 rfl) ?_
      refine va_get (D := D) (ci := 9) (v := .long (J 0)) (C := RX10) (T := TX10) (N := 30) hx hb hts hi10 hown hK hP 0 rfl rfl 0 (by decide) hw2 (fun _ h9 => h9) rfl dX10_partner_22 ?_
      refine lv_iload_n hx hb dX10_partner_25 rfl (lv_at hl 1 rfl) ?_
      refine kS_i (As := [.long (J 0), .int x0]) (rest := []) ⟨hx, hb, hml, hown, hts⟩ (c_X10_hasBit l (J 0) x0) (va_cwS 2 hts gX10_partner_X10_hasBit rfl rfl rfl (by decide +kernel) ⟨Nat.le_of_ble_eq_true rfl, Nat.le_of_ble_eq_true rfl⟩) rfl hl.1 rfl (Nat.le_of_ble_eq_true rfl) dX10_partner_26 ⟨Nat.le_of_ble_eq_true rfl, Nat.le_of_ble_eq_true rfl⟩ ?_
      refine lv_if_ne (tgt := 39) hx hb dX10_partner_29 (by decide) (fun c_4 => ?_) (fun c_4 => ?_)
      · replace c_4 := bI_t c_4
        refine lv_aload_n hx hb dX10_partner_39 rfl (lv_at hl 0 rfl) ?_
        refine va_get (D := D) (ci := 9) (v := .long (J 4)) (C := RX10) (T := TX10) (N := 30) hx hb hts hi10 hown hK hP 0 rfl rfl 4 (by decide) hw3 (fun _ h9 => h9) rfl dX10_partner_40 ?_
        refine lv_iload_n hx hb dX10_partner_43 rfl (lv_at hl 1 rfl) ?_
        refine kS_i (As := [.long (J 4), .int x0]) (rest := []) ⟨hx, hb, hml, hown, hts⟩ (c_X10_hasBit l (J 4) x0) (va_cwS 2 hts gX10_partner_X10_hasBit rfl rfl rfl (by decide +kernel) ⟨Nat.le_of_ble_eq_true rfl, Nat.le_of_ble_eq_true rfl⟩) rfl hl.1 rfl (Nat.le_of_ble_eq_true rfl) dX10_partner_44 ⟨Nat.le_of_ble_eq_true rfl, Nat.le_of_ble_eq_true rfl⟩ ?_
        refine lv_if_eq (tgt := 54) hx hb dX10_partner_47 (by decide) (fun c_5 => ?_) (fun c_5 => ?_)
        · replace c_5 := bI_f c_5
          refine lv_aload_n hx hb dX10_partner_54 rfl (lv_at hl 0 rfl) ?_
          refine va_get (D := D) (ci := 9) (v := .long (J 5)) (C := RX10) (T := TX10) (N := 30) hx hb hts hi10 hown hK hP 0 rfl rfl 5 (by decide) hw4 (fun _ h9 => h9) rfl dX10_partner_55 ?_
          refine lv_iload_n hx hb dX10_partner_58 rfl (lv_at hl 1 rfl) ?_
          refine kS_i (As := [.long (J 5), .int x0]) (rest := []) ⟨hx, hb, hml, hown, hts⟩ (c_X10_hasBit l (J 5) x0) (va_cwS 2 hts gX10_partner_X10_hasBit rfl rfl rfl (by decide +kernel) ⟨Nat.le_of_ble_eq_true rfl, Nat.le_of_ble_eq_true rfl⟩) rfl hl.1 rfl (Nat.le_of_ble_eq_true rfl) dX10_partner_59 ⟨Nat.le_of_ble_eq_true rfl, Nat.le_of_ble_eq_true rfl⟩ ?_
          refine lv_if_eq (tgt := 70) hx hb dX10_partner_62 (by decide) (fun c_6 => ?_) (fun c_6 => ?_)
          · replace c_6 := bI_f c_6
            refine lv_iload_n hx hb dX10_partner_70 rfl (lv_at hl 1 rfl) ?_
            refine lv_bipush (v := 8) hx hb dX10_partner_71 (by decide) ?_
            refine lv_irem hx hb dX10_partner_73 (by decide) ?_
            refine lv_if_le (tgt := 96) hx hb dX10_partner_74 (by decide) (fun c_7 => ?_) (fun c_7 => ?_)
            · refine lv_iload_n hx hb dX10_partner_96 rfl (lv_at hl 1 rfl) ?_
              refine lv_bipush (v := 8) hx hb dX10_partner_97 (by decide) ?_
              refine lv_isub hx hb dX10_partner_99 ?_
              exact wret_i hx hb hr hlocks (J, (va_up I 13 (I 13)), R, RJ) ⟨(I 13), trivial, rfl⟩ hP hD hS dX10_partner_100
            · refine lv_aload_n hx hb dX10_partner_77 rfl (lv_at hl 0 rfl) ?_
              refine va_get (D := D) (ci := 9) (v := .long (J 4)) (C := RX10) (T := TX10) (N := 30) hx hb hts hi10 hown hK hP 0 rfl rfl 4 (by decide) hw3 (fun _ h9 => h9) rfl dX10_partner_78 ?_
              refine lv_iload_n hx hb dX10_partner_81 rfl (lv_at hl 1 rfl) ?_
              refine lv_iconst (v := 1) hx hb dX10_partner_82 (by decide) ?_
              refine lv_isub hx hb dX10_partner_83 ?_
              refine kS_i (As := [.long (J 4), .int (x0 - 1)]) (rest := []) ⟨hx, hb, hml, hown, hts⟩ (c_X10_hasBit l (J 4) (x0 - 1)) (va_cwS 2 hts gX10_partner_X10_hasBit rfl rfl rfl (by decide +kernel) ⟨Nat.le_of_ble_eq_true rfl, Nat.le_of_ble_eq_true rfl⟩) rfl hl.1 rfl (Nat.le_of_ble_eq_true rfl) dX10_partner_84 ⟨Nat.le_of_ble_eq_true rfl, Nat.le_of_ble_eq_true rfl⟩ ?_
              refine lv_if_eq (tgt := 96) hx hb dX10_partner_87 (by decide) (fun c_8 => ?_) (fun c_8 => ?_)
              · replace c_8 := bI_f c_8
                refine lv_iload_n hx hb dX10_partner_96 rfl (lv_at hl 1 rfl) ?_
                refine lv_bipush (v := 8) hx hb dX10_partner_97 (by decide) ?_
                refine lv_isub hx hb dX10_partner_99 ?_
                exact wret_i hx hb hr hlocks (J, (va_up I 13 (I 13)), R, RJ) ⟨(I 13), trivial, rfl⟩ hP hD hS dX10_partner_100
              · replace c_8 := bI_t c_8
                refine lv_iload_n hx hb dX10_partner_90 rfl (lv_at hl 1 rfl) ?_
                refine lv_iconst (v := 1) hx hb dX10_partner_91 (by decide) ?_
                refine lv_isub hx hb dX10_partner_92 ?_
                refine lv_goto (tgt := 100) hx hb dX10_partner_93 (by decide) ?_
                exact wret_i hx hb hr hlocks (J, (va_up I 13 (I 13)), R, RJ) ⟨(I 13), trivial, rfl⟩ hP hD hS dX10_partner_100
          · replace c_6 := bI_t c_6
            refine lv_iload_n hx hb dX10_partner_65 rfl (lv_at hl 1 rfl) ?_
            refine lv_bipush (v := 8) hx hb dX10_partner_66 (by decide) ?_
            refine lv_iadd hx hb dX10_partner_68 ?_
            exact wret_i hx hb hr hlocks (J, (va_up I 13 (I 13)), R, RJ) ⟨(I 13), trivial, rfl⟩ hP hD hS dX10_partner_69
        · replace c_5 := bI_t c_5
          refine lv_iload_n hx hb dX10_partner_50 rfl (lv_at hl 1 rfl) ?_
          refine lv_iconst (v := 1) hx hb dX10_partner_51 (by decide) ?_
          refine lv_iadd hx hb dX10_partner_52 ?_
          exact wret_i hx hb hr hlocks (J, (va_up I 13 (I 13)), R, RJ) ⟨(I 13), trivial, rfl⟩ hP hD hS dX10_partner_53
      · replace c_4 := bI_f c_4
        refine lv_aload_n hx hb dX10_partner_32 rfl (lv_at hl 0 rfl) ?_
        refine lv_ldc (v := (-100006)) hx hb hown hw1 dX10_partner_33 ?_
        refine kM_i (As := [.int (-100006)]) (rest := []) (q0 := 0) ⟨hx, hb, hml, hown, hts⟩ (c_X10_finding l D cy a _ J (va_up I 13 (I 13)) R RJ (-100006) ) (cwV 1 hts gX10_partner_X10_finding rfl rfl rfl (by decide +kernel) ⟨Nat.le_of_ble_eq_true rfl, Nat.le_of_ble_eq_true rfl⟩) hK hN hP hD hS hA rfl rfl rfl hl.1 rfl (Nat.le_of_ble_eq_true rfl) dX10_partner_35 ⟨Nat.le_of_ble_eq_true rfl, Nat.le_of_ble_eq_true rfl⟩ (fun r_9 u H locs hw hP hD hS => ?_)
        obtain ⟨rfl, rfl⟩ := hw
        have hP : va_P D vwCl (MW cy a J (va_up I 13 ((I 13) + 1)) R RJ) H := hP
        have hD : va_D A (MW cy a J (va_up I 13 ((I 13) + 1)) R RJ) := hD
        exact wret_i hx hb hr hlocks (J, (va_up I 13 ((I 13) + 1)), R, RJ) ⟨((I 13) + 1), trivial, rfl⟩ hP hD hS dX10_partner_38
  · replace c_1 := bI_f c_1
    refine lv_aload_n hx hb dX10_partner_7 rfl (lv_at hl 0 rfl) ?_
    refine lv_ldc (v := (-100001)) hx hb hown hw5 dX10_partner_8 ?_
    refine kM_i (As := [.int (-100001)]) (rest := []) (q0 := 0) ⟨hx, hb, hml, hown, hts⟩ (c_X10_finding l D cy a _ J (va_up I 13 (I 13)) R RJ (-100001) ) (cwV 1 hts gX10_partner_X10_finding rfl rfl rfl (by decide +kernel) ⟨Nat.le_of_ble_eq_true rfl, Nat.le_of_ble_eq_true rfl⟩) hK hN hP hD hS hA rfl rfl rfl hl.1 rfl (Nat.le_of_ble_eq_true rfl) dX10_partner_10 ⟨Nat.le_of_ble_eq_true rfl, Nat.le_of_ble_eq_true rfl⟩ (fun r_10 u H locs hw hP hD hS => ?_)
    obtain ⟨rfl, rfl⟩ := hw
    have hP : va_P D vwCl (MW cy a J (va_up I 13 ((I 13) + 1)) R RJ) H := hP
    have hD : va_D A (MW cy a J (va_up I 13 ((I 13) + 1)) R RJ) := hD
    exact wret_i hx hb hr hlocks (J, (va_up I 13 ((I 13) + 1)), R, RJ) ⟨((I 13) + 1), trivial, rfl⟩ hP hD hS dX10_partner_13
theorem dX10_turnAt_0 : decode cX10_turnAt 0 = .ok (.iload 5, 2) := by decide +kernel
theorem dX10_turnAt_2 : decode cX10_turnAt 2 = .ok (.bipush 8, 2) := by decide +kernel
theorem dX10_turnAt_4 : decode cX10_turnAt 4 = .ok (.irem, 1) := by decide +kernel
theorem dX10_turnAt_5 : decode cX10_turnAt 5 = .ok (.bipush 6, 2) := by decide +kernel
theorem dX10_turnAt_7 : decode cX10_turnAt 7 = .ok (.if_icmp .gt 13, 3) := by decide +kernel
theorem dX10_turnAt_20 : decode cX10_turnAt 20 = .ok (.iconst 0, 1) := by decide +kernel
theorem dX10_turnAt_21 : decode cX10_turnAt 21 = .ok (.ireturn, 1) := by decide +kernel
theorem dX10_turnAt_10 : decode cX10_turnAt 10 = .ok (.iload 5, 2) := by decide +kernel
theorem dX10_turnAt_12 : decode cX10_turnAt 12 = .ok (.bipush 8, 2) := by decide +kernel
theorem dX10_turnAt_14 : decode cX10_turnAt 14 = .ok (.idiv, 1) := by decide +kernel
theorem dX10_turnAt_15 : decode cX10_turnAt 15 = .ok (.bipush 6, 2) := by decide +kernel
theorem dX10_turnAt_17 : decode cX10_turnAt 17 = .ok (.if_icmp .le 5, 3) := by decide +kernel
theorem dX10_turnAt_22 : decode cX10_turnAt 22 = .ok (.lload_n 1, 1) := by decide +kernel
theorem dX10_turnAt_23 : decode cX10_turnAt 23 = .ok (.iload 5, 2) := by decide +kernel
set_option maxRecDepth 20000 in
theorem ggX10_turnAt_X10_hasBit : GoodIn wsX10_turnAt wsX10_hasBit := goodIn_r _ [6] rfl (by decide +kernel)
set_option maxRecDepth 20000 in
theorem gX10_turnAt_X10_hasBit : GoodIn wsX10_turnAt (va_wsS RX10 74 yX10_hasBit wsX10_hasBit) := goodIn_app (goodIn_r _ [3, 4, 5] rfl (by decide +kernel)) ggX10_turnAt_X10_hasBit
theorem dX10_turnAt_25 : decode cX10_turnAt 25 = .ok (.invokestatic 74, 3) := by decide +kernel
theorem dX10_turnAt_28 : decode cX10_turnAt 28 = .ok (.ifCond .eq 48, 3) := by decide +kernel
theorem dX10_turnAt_76 : decode cX10_turnAt 76 = .ok (.lload_n 3, 1) := by decide +kernel
theorem dX10_turnAt_77 : decode cX10_turnAt 77 = .ok (.iload 5, 2) := by decide +kernel
theorem dX10_turnAt_79 : decode cX10_turnAt 79 = .ok (.invokestatic 74, 3) := by decide +kernel
theorem dX10_turnAt_82 : decode cX10_turnAt 82 = .ok (.ifCond .eq 46, 3) := by decide +kernel
theorem dX10_turnAt_128 : decode cX10_turnAt 128 = .ok (.iconst 0, 1) := by decide +kernel
theorem dX10_turnAt_129 : decode cX10_turnAt 129 = .ok (.ireturn, 1) := by decide +kernel
theorem dX10_turnAt_85 : decode cX10_turnAt 85 = .ok (.lload_n 3, 1) := by decide +kernel
theorem dX10_turnAt_86 : decode cX10_turnAt 86 = .ok (.iload 5, 2) := by decide +kernel
theorem dX10_turnAt_88 : decode cX10_turnAt 88 = .ok (.iconst 1, 1) := by decide +kernel
theorem dX10_turnAt_89 : decode cX10_turnAt 89 = .ok (.iadd, 1) := by decide +kernel
theorem dX10_turnAt_90 : decode cX10_turnAt 90 = .ok (.invokestatic 74, 3) := by decide +kernel
theorem dX10_turnAt_93 : decode cX10_turnAt 93 = .ok (.ifCond .eq 35, 3) := by decide +kernel
theorem dX10_turnAt_96 : decode cX10_turnAt 96 = .ok (.aload_n 0, 1) := by decide +kernel
theorem dX10_turnAt_97 : decode cX10_turnAt 97 = .ok (.getfield 187, 3) := by decide +kernel
theorem dX10_turnAt_100 : decode cX10_turnAt 100 = .ok (.iload 5, 2) := by decide +kernel
theorem dX10_turnAt_102 : decode cX10_turnAt 102 = .ok (.invokestatic 74, 3) := by decide +kernel
theorem dX10_turnAt_105 : decode cX10_turnAt 105 = .ok (.ifCond .ne 17, 3) := by decide +kernel
theorem dX10_turnAt_122 : decode cX10_turnAt 122 = .ok (.iconst 0, 1) := by decide +kernel
theorem dX10_turnAt_123 : decode cX10_turnAt 123 = .ok (.goto 4, 3) := by decide +kernel
theorem dX10_turnAt_127 : decode cX10_turnAt 127 = .ok (.ireturn, 1) := by decide +kernel
theorem dX10_turnAt_108 : decode cX10_turnAt 108 = .ok (.aload_n 0, 1) := by decide +kernel
theorem dX10_turnAt_109 : decode cX10_turnAt 109 = .ok (.getfield 187, 3) := by decide +kernel
theorem dX10_turnAt_112 : decode cX10_turnAt 112 = .ok (.iload 5, 2) := by decide +kernel
theorem dX10_turnAt_114 : decode cX10_turnAt 114 = .ok (.iconst 1, 1) := by decide +kernel
theorem dX10_turnAt_115 : decode cX10_turnAt 115 = .ok (.iadd, 1) := by decide +kernel
theorem dX10_turnAt_116 : decode cX10_turnAt 116 = .ok (.invokestatic 74, 3) := by decide +kernel
theorem dX10_turnAt_119 : decode cX10_turnAt 119 = .ok (.ifCond .eq 7, 3) := by decide +kernel
theorem dX10_turnAt_126 : decode cX10_turnAt 126 = .ok (.iconst 2, 1) := by decide +kernel
theorem dX10_turnAt_31 : decode cX10_turnAt 31 = .ok (.lload_n 1, 1) := by decide +kernel
theorem dX10_turnAt_32 : decode cX10_turnAt 32 = .ok (.iload 5, 2) := by decide +kernel
theorem dX10_turnAt_34 : decode cX10_turnAt 34 = .ok (.bipush 8, 2) := by decide +kernel
theorem dX10_turnAt_36 : decode cX10_turnAt 36 = .ok (.iadd, 1) := by decide +kernel
theorem dX10_turnAt_37 : decode cX10_turnAt 37 = .ok (.invokestatic 74, 3) := by decide +kernel
theorem dX10_turnAt_40 : decode cX10_turnAt 40 = .ok (.ifCond .eq 36, 3) := by decide +kernel
theorem dX10_turnAt_43 : decode cX10_turnAt 43 = .ok (.aload_n 0, 1) := by decide +kernel
theorem dX10_turnAt_44 : decode cX10_turnAt 44 = .ok (.getfield 184, 3) := by decide +kernel
theorem dX10_turnAt_47 : decode cX10_turnAt 47 = .ok (.iload 5, 2) := by decide +kernel
theorem dX10_turnAt_49 : decode cX10_turnAt 49 = .ok (.invokestatic 74, 3) := by decide +kernel
theorem dX10_turnAt_52 : decode cX10_turnAt 52 = .ok (.ifCond .ne 18, 3) := by decide +kernel
theorem dX10_turnAt_70 : decode cX10_turnAt 70 = .ok (.iconst 0, 1) := by decide +kernel
theorem dX10_turnAt_71 : decode cX10_turnAt 71 = .ok (.goto 4, 3) := by decide +kernel
theorem dX10_turnAt_75 : decode cX10_turnAt 75 = .ok (.ireturn, 1) := by decide +kernel
theorem dX10_turnAt_55 : decode cX10_turnAt 55 = .ok (.aload_n 0, 1) := by decide +kernel
theorem dX10_turnAt_56 : decode cX10_turnAt 56 = .ok (.getfield 184, 3) := by decide +kernel
theorem dX10_turnAt_59 : decode cX10_turnAt 59 = .ok (.iload 5, 2) := by decide +kernel
theorem dX10_turnAt_61 : decode cX10_turnAt 61 = .ok (.bipush 8, 2) := by decide +kernel
theorem dX10_turnAt_63 : decode cX10_turnAt 63 = .ok (.iadd, 1) := by decide +kernel
theorem dX10_turnAt_64 : decode cX10_turnAt 64 = .ok (.invokestatic 74, 3) := by decide +kernel
theorem dX10_turnAt_67 : decode cX10_turnAt 67 = .ok (.ifCond .eq 7, 3) := by decide +kernel
theorem dX10_turnAt_74 : decode cX10_turnAt 74 = .ok (.iconst 1, 1) := by decide +kernel
set_option maxRecDepth 20000 in
theorem ihX10_turnAt_10 : ∀ w ∈ u_ws RX10 TX10 30, w ∈ wsX10_turnAt := fun _ h => List.mem_cons_of_mem _ (List.mem_append_right _ h)
set_option maxHeartbeats 4000000 in
set_option maxRecDepth 100000 in
theorem t_X10_turnAt (l : Launch) (D : va_G) (cy : Nat → ClassId) (a : Nat → Nat) (sz : Nat) (J : Nat → Int64) (I : Nat → Int32) (R : Nat → Nat → Int32) (RJ : Nat → Nat → Int64) (x0 : Int64) (x1 : Int64) (x2 : Int32) : Met l yX10_turnAt wsX10_turnAt ({ frames := 1, cells := 0, slots := 0, locals := 22 }) (va_Pc [.ref (a 0), .long x0, .long x1, .int x2] (PW D cy sz (MW cy a J I R RJ))) (va_Qi (fun r (u : MS) => (True) ∧ u = (J, I, R, RJ)) (BW D (va_A (MW cy a J I R RJ) sz) (MWu cy a)) (va_A (MW cy a J I R RJ) sz)) 0 0 (va_A (MW cy a J I R RJ) sz) := by
  refine Met.ofW (cc := cX10_turnAt) (maxL := 6) (ret := (some .int)) (by decide) rfl ?_
  intro p e s m args below meth c s₁ B hml hv
  obtain ⟨rfl, rfl, hP, hK, hN, hD0⟩ := hv
  have hx := B.exec
  have hb := B.bytes
  have hr := B.returns
  have hts := atoms_spec (ws := wsX10_turnAt) B.pre
  have hown : s.vm.findClass RX10 = some m.cls := findClass_of_methodNamed B.named
  have hlocks := B.notSynchronized
  have hw0 := hts (.fieldLink RX10 187 "ParquetLayerModel" "mustAcross" "J") (by decide +kernel)
  have hw1 := hts (.fieldLink RX10 184 "ParquetLayerModel" "mustAlong" "J") (by decide +kernel)
  have hi10 := ihX10_turnAt_10
  have hD := hD0.self (sz := s.heap.size)
  generalize hAe : va_A (MW cy a J I R RJ) s.heap.size = A at hD ⊢
  have hA : ∀ q : Nat, s.heap.size ≤ q → A q := fun q h => by rw [← hAe]; exact Or.inr h
  have hS : va_S A s.heap s.heap [] := va_S.rf
  have hl := lv_entry ([.ref (a 0), .long x0, .long x1, .int x2]) (n := 6) (Nat.le_of_ble_eq_true rfl)
  rw [lg_entry_eq]
  generalize (lg_sl ([.ref (a 0), .long x0, .long x1, .int x2]) ++ List.replicate (6 - (lg_sl ([.ref (a 0), .long x0, .long x1, .int x2])).length) Slot.unset).toArray = ls at hl ⊢
  have hl : lv_has ls 6 [(0, .ref (a 0)), (1, .long x0), (3, .long x1), (5, .int x2)] := hl
  refine lv_iload hx hb dX10_turnAt_0 (lv_at hl 3 rfl) ?_
  refine lv_bipush (v := 8) hx hb dX10_turnAt_2 (by decide) ?_
  refine lv_irem hx hb dX10_turnAt_4 (by decide) ?_
  refine lv_bipush (v := 6) hx hb dX10_turnAt_5 (by decide) ?_
  refine lv_icmp_gt (tgt := 20) hx hb dX10_turnAt_7 (by decide) (fun c_1 => ?_) (fun c_1 => ?_)
  · refine lv_iconst (v := 0) hx hb dX10_turnAt_20 (by decide) ?_
    exact wret_i hx hb hr hlocks (J, I, R, RJ) ⟨trivial, rfl⟩ hP hD hS dX10_turnAt_21
  · refine lv_iload hx hb dX10_turnAt_10 (lv_at hl 3 rfl) ?_
    refine lv_bipush (v := 8) hx hb dX10_turnAt_12 (by decide) ?_
    refine lv_idiv hx hb dX10_turnAt_14 (by decide) ?_
    refine lv_bipush (v := 6) hx hb dX10_turnAt_15 (by decide) ?_
    refine lv_icmp_le (tgt := 22) hx hb dX10_turnAt_17 (by decide) (fun c_2 => ?_) (fun c_2 => ?_)
    · refine lv_lload_n hx hb dX10_turnAt_22 rfl (lv_at hl 1 rfl) ?_
      refine lv_iload hx hb dX10_turnAt_23 (lv_at hl 3 rfl) ?_
      refine kS_i (As := [.long x0, .int x2]) (rest := []) ⟨hx, hb, hml, hown, hts⟩ (c_X10_hasBit l x0 x2) (va_cwS 2 hts gX10_turnAt_X10_hasBit rfl rfl rfl (by decide +kernel) ⟨Nat.le_of_ble_eq_true rfl, Nat.le_of_ble_eq_true rfl⟩) rfl hl.1 rfl (Nat.le_of_ble_eq_true rfl) dX10_turnAt_25 ⟨Nat.le_of_ble_eq_true rfl, Nat.le_of_ble_eq_true rfl⟩ ?_
      refine lv_if_eq (tgt := 76) hx hb dX10_turnAt_28 (by decide) (fun c_3 => ?_) (fun c_3 => ?_)
      · replace c_3 := bI_f c_3
        refine lv_lload_n hx hb dX10_turnAt_76 rfl (lv_at hl 2 rfl) ?_
        refine lv_iload hx hb dX10_turnAt_77 (lv_at hl 3 rfl) ?_
        refine kS_i (As := [.long x1, .int x2]) (rest := []) ⟨hx, hb, hml, hown, hts⟩ (c_X10_hasBit l x1 x2) (va_cwS 2 hts gX10_turnAt_X10_hasBit rfl rfl rfl (by decide +kernel) ⟨Nat.le_of_ble_eq_true rfl, Nat.le_of_ble_eq_true rfl⟩) rfl hl.1 rfl (Nat.le_of_ble_eq_true rfl) dX10_turnAt_79 ⟨Nat.le_of_ble_eq_true rfl, Nat.le_of_ble_eq_true rfl⟩ ?_
        refine lv_if_eq (tgt := 128) hx hb dX10_turnAt_82 (by decide) (fun c_4 => ?_) (fun c_4 => ?_)
        · replace c_4 := bI_f c_4
          refine lv_iconst (v := 0) hx hb dX10_turnAt_128 (by decide) ?_
          exact wret_i hx hb hr hlocks (J, I, R, RJ) ⟨trivial, rfl⟩ hP hD hS dX10_turnAt_129
        · replace c_4 := bI_t c_4
          refine lv_lload_n hx hb dX10_turnAt_85 rfl (lv_at hl 2 rfl) ?_
          refine lv_iload hx hb dX10_turnAt_86 (lv_at hl 3 rfl) ?_
          refine lv_iconst (v := 1) hx hb dX10_turnAt_88 (by decide) ?_
          refine lv_iadd hx hb dX10_turnAt_89 ?_
          refine kS_i (As := [.long x1, .int (x2 + 1)]) (rest := []) ⟨hx, hb, hml, hown, hts⟩ (c_X10_hasBit l x1 (x2 + 1)) (va_cwS 2 hts gX10_turnAt_X10_hasBit rfl rfl rfl (by decide +kernel) ⟨Nat.le_of_ble_eq_true rfl, Nat.le_of_ble_eq_true rfl⟩) rfl hl.1 rfl (Nat.le_of_ble_eq_true rfl) dX10_turnAt_90 ⟨Nat.le_of_ble_eq_true rfl, Nat.le_of_ble_eq_true rfl⟩ ?_
          refine lv_if_eq (tgt := 128) hx hb dX10_turnAt_93 (by decide) (fun c_5 => ?_) (fun c_5 => ?_)
          · replace c_5 := bI_f c_5
            refine lv_iconst (v := 0) hx hb dX10_turnAt_128 (by decide) ?_
            exact wret_i hx hb hr hlocks (J, I, R, RJ) ⟨trivial, rfl⟩ hP hD hS dX10_turnAt_129
          · replace c_5 := bI_t c_5
            refine lv_aload_n hx hb dX10_turnAt_96 rfl (lv_at hl 0 rfl) ?_
            refine va_get (D := D) (ci := 9) (v := .long (J 20)) (C := RX10) (T := TX10) (N := 30) hx hb hts hi10 hown hK hP 0 rfl rfl 20 (by decide) hw0 (fun _ h9 => h9) rfl dX10_turnAt_97 ?_
            refine lv_iload hx hb dX10_turnAt_100 (lv_at hl 3 rfl) ?_
            refine kS_i (As := [.long (J 20), .int x2]) (rest := []) ⟨hx, hb, hml, hown, hts⟩ (c_X10_hasBit l (J 20) x2) (va_cwS 2 hts gX10_turnAt_X10_hasBit rfl rfl rfl (by decide +kernel) ⟨Nat.le_of_ble_eq_true rfl, Nat.le_of_ble_eq_true rfl⟩) rfl hl.1 rfl (Nat.le_of_ble_eq_true rfl) dX10_turnAt_102 ⟨Nat.le_of_ble_eq_true rfl, Nat.le_of_ble_eq_true rfl⟩ ?_
            refine lv_if_ne (tgt := 122) hx hb dX10_turnAt_105 (by decide) (fun c_6 => ?_) (fun c_6 => ?_)
            · replace c_6 := bI_t c_6
              refine lv_iconst (v := 0) hx hb dX10_turnAt_122 (by decide) ?_
              refine lv_goto (tgt := 127) hx hb dX10_turnAt_123 (by decide) ?_
              exact wret_i hx hb hr hlocks (J, I, R, RJ) ⟨trivial, rfl⟩ hP hD hS dX10_turnAt_127
            · replace c_6 := bI_f c_6
              refine lv_aload_n hx hb dX10_turnAt_108 rfl (lv_at hl 0 rfl) ?_
              refine va_get (D := D) (ci := 9) (v := .long (J 20)) (C := RX10) (T := TX10) (N := 30) hx hb hts hi10 hown hK hP 0 rfl rfl 20 (by decide) hw0 (fun _ h9 => h9) rfl dX10_turnAt_109 ?_
              refine lv_iload hx hb dX10_turnAt_112 (lv_at hl 3 rfl) ?_
              refine lv_iconst (v := 1) hx hb dX10_turnAt_114 (by decide) ?_
              refine lv_iadd hx hb dX10_turnAt_115 ?_
              refine kS_i (As := [.long (J 20), .int (x2 + 1)]) (rest := []) ⟨hx, hb, hml, hown, hts⟩ (c_X10_hasBit l (J 20) (x2 + 1)) (va_cwS 2 hts gX10_turnAt_X10_hasBit rfl rfl rfl (by decide +kernel) ⟨Nat.le_of_ble_eq_true rfl, Nat.le_of_ble_eq_true rfl⟩) rfl hl.1 rfl (Nat.le_of_ble_eq_true rfl) dX10_turnAt_116 ⟨Nat.le_of_ble_eq_true rfl, Nat.le_of_ble_eq_true rfl⟩ ?_
              refine lv_if_eq (tgt := 126) hx hb dX10_turnAt_119 (by decide) (fun c_7 => ?_) (fun c_7 => ?_)
              · replace c_7 := bI_f c_7
                refine lv_iconst (v := 2) hx hb dX10_turnAt_126 (by decide) ?_
                exact wret_i hx hb hr hlocks (J, I, R, RJ) ⟨trivial, rfl⟩ hP hD hS dX10_turnAt_127
              · replace c_7 := bI_t c_7
                refine lv_iconst (v := 0) hx hb dX10_turnAt_122 (by decide) ?_
                refine lv_goto (tgt := 127) hx hb dX10_turnAt_123 (by decide) ?_
                exact wret_i hx hb hr hlocks (J, I, R, RJ) ⟨trivial, rfl⟩ hP hD hS dX10_turnAt_127
      · replace c_3 := bI_t c_3
        refine lv_lload_n hx hb dX10_turnAt_31 rfl (lv_at hl 1 rfl) ?_
        refine lv_iload hx hb dX10_turnAt_32 (lv_at hl 3 rfl) ?_
        refine lv_bipush (v := 8) hx hb dX10_turnAt_34 (by decide) ?_
        refine lv_iadd hx hb dX10_turnAt_36 ?_
        refine kS_i (As := [.long x0, .int (x2 + 8)]) (rest := []) ⟨hx, hb, hml, hown, hts⟩ (c_X10_hasBit l x0 (x2 + 8)) (va_cwS 2 hts gX10_turnAt_X10_hasBit rfl rfl rfl (by decide +kernel) ⟨Nat.le_of_ble_eq_true rfl, Nat.le_of_ble_eq_true rfl⟩) rfl hl.1 rfl (Nat.le_of_ble_eq_true rfl) dX10_turnAt_37 ⟨Nat.le_of_ble_eq_true rfl, Nat.le_of_ble_eq_true rfl⟩ ?_
        refine lv_if_eq (tgt := 76) hx hb dX10_turnAt_40 (by decide) (fun c_8 => ?_) (fun c_8 => ?_)
        · replace c_8 := bI_f c_8
          refine lv_lload_n hx hb dX10_turnAt_76 rfl (lv_at hl 2 rfl) ?_
          refine lv_iload hx hb dX10_turnAt_77 (lv_at hl 3 rfl) ?_
          refine kS_i (As := [.long x1, .int x2]) (rest := []) ⟨hx, hb, hml, hown, hts⟩ (c_X10_hasBit l x1 x2) (va_cwS 2 hts gX10_turnAt_X10_hasBit rfl rfl rfl (by decide +kernel) ⟨Nat.le_of_ble_eq_true rfl, Nat.le_of_ble_eq_true rfl⟩) rfl hl.1 rfl (Nat.le_of_ble_eq_true rfl) dX10_turnAt_79 ⟨Nat.le_of_ble_eq_true rfl, Nat.le_of_ble_eq_true rfl⟩ ?_
          refine lv_if_eq (tgt := 128) hx hb dX10_turnAt_82 (by decide) (fun c_9 => ?_) (fun c_9 => ?_)
          · replace c_9 := bI_f c_9
            refine lv_iconst (v := 0) hx hb dX10_turnAt_128 (by decide) ?_
            exact wret_i hx hb hr hlocks (J, I, R, RJ) ⟨trivial, rfl⟩ hP hD hS dX10_turnAt_129
          · replace c_9 := bI_t c_9
            refine lv_lload_n hx hb dX10_turnAt_85 rfl (lv_at hl 2 rfl) ?_
            refine lv_iload hx hb dX10_turnAt_86 (lv_at hl 3 rfl) ?_
            refine lv_iconst (v := 1) hx hb dX10_turnAt_88 (by decide) ?_
            refine lv_iadd hx hb dX10_turnAt_89 ?_
            refine kS_i (As := [.long x1, .int (x2 + 1)]) (rest := []) ⟨hx, hb, hml, hown, hts⟩ (c_X10_hasBit l x1 (x2 + 1)) (va_cwS 2 hts gX10_turnAt_X10_hasBit rfl rfl rfl (by decide +kernel) ⟨Nat.le_of_ble_eq_true rfl, Nat.le_of_ble_eq_true rfl⟩) rfl hl.1 rfl (Nat.le_of_ble_eq_true rfl) dX10_turnAt_90 ⟨Nat.le_of_ble_eq_true rfl, Nat.le_of_ble_eq_true rfl⟩ ?_
            refine lv_if_eq (tgt := 128) hx hb dX10_turnAt_93 (by decide) (fun c_10 => ?_) (fun c_10 => ?_)
            · replace c_10 := bI_f c_10
              refine lv_iconst (v := 0) hx hb dX10_turnAt_128 (by decide) ?_
              exact wret_i hx hb hr hlocks (J, I, R, RJ) ⟨trivial, rfl⟩ hP hD hS dX10_turnAt_129
            · replace c_10 := bI_t c_10
              refine lv_aload_n hx hb dX10_turnAt_96 rfl (lv_at hl 0 rfl) ?_
              refine va_get (D := D) (ci := 9) (v := .long (J 20)) (C := RX10) (T := TX10) (N := 30) hx hb hts hi10 hown hK hP 0 rfl rfl 20 (by decide) hw0 (fun _ h9 => h9) rfl dX10_turnAt_97 ?_
              refine lv_iload hx hb dX10_turnAt_100 (lv_at hl 3 rfl) ?_
              refine kS_i (As := [.long (J 20), .int x2]) (rest := []) ⟨hx, hb, hml, hown, hts⟩ (c_X10_hasBit l (J 20) x2) (va_cwS 2 hts gX10_turnAt_X10_hasBit rfl rfl rfl (by decide +kernel) ⟨Nat.le_of_ble_eq_true rfl, Nat.le_of_ble_eq_true rfl⟩) rfl hl.1 rfl (Nat.le_of_ble_eq_true rfl) dX10_turnAt_102 ⟨Nat.le_of_ble_eq_true rfl, Nat.le_of_ble_eq_true rfl⟩ ?_
              refine lv_if_ne (tgt := 122) hx hb dX10_turnAt_105 (by decide) (fun c_11 => ?_) (fun c_11 => ?_)
              · replace c_11 := bI_t c_11
                refine lv_iconst (v := 0) hx hb dX10_turnAt_122 (by decide) ?_
                refine lv_goto (tgt := 127) hx hb dX10_turnAt_123 (by decide) ?_
                exact wret_i hx hb hr hlocks (J, I, R, RJ) ⟨trivial, rfl⟩ hP hD hS dX10_turnAt_127
              · replace c_11 := bI_f c_11
                refine lv_aload_n hx hb dX10_turnAt_108 rfl (lv_at hl 0 rfl) ?_
                refine va_get (D := D) (ci := 9) (v := .long (J 20)) (C := RX10) (T := TX10) (N := 30) hx hb hts hi10 hown hK hP 0 rfl rfl 20 (by decide) hw0 (fun _ h9 => h9) rfl dX10_turnAt_109 ?_
                refine lv_iload hx hb dX10_turnAt_112 (lv_at hl 3 rfl) ?_
                refine lv_iconst (v := 1) hx hb dX10_turnAt_114 (by decide) ?_
                refine lv_iadd hx hb dX10_turnAt_115 ?_
                refine kS_i (As := [.long (J 20), .int (x2 + 1)]) (rest := []) ⟨hx, hb, hml, hown, hts⟩ (c_X10_hasBit l (J 20) (x2 + 1)) (va_cwS 2 hts gX10_turnAt_X10_hasBit rfl rfl rfl (by decide +kernel) ⟨Nat.le_of_ble_eq_true rfl, Nat.le_of_ble_eq_true rfl⟩) rfl hl.1 rfl (Nat.le_of_ble_eq_true rfl) dX10_turnAt_116 ⟨Nat.le_of_ble_eq_true rfl, Nat.le_of_ble_eq_true rfl⟩ ?_
                refine lv_if_eq (tgt := 126) hx hb dX10_turnAt_119 (by decide) (fun c_12 => ?_) (fun c_12 => ?_)
                · replace c_12 := bI_f c_12
                  refine lv_iconst (v := 2) hx hb dX10_turnAt_126 (by decide) ?_
                  exact wret_i hx hb hr hlocks (J, I, R, RJ) ⟨trivial, rfl⟩ hP hD hS dX10_turnAt_127
                · replace c_12 := bI_t c_12
                  refine lv_iconst (v := 0) hx hb dX10_turnAt_122 (by decide) ?_
                  refine lv_goto (tgt := 127) hx hb dX10_turnAt_123 (by decide) ?_
                  exact wret_i hx hb hr hlocks (J, I, R, RJ) ⟨trivial, rfl⟩ hP hD hS dX10_turnAt_127
        · replace c_8 := bI_t c_8
          refine lv_aload_n hx hb dX10_turnAt_43 rfl (lv_at hl 0 rfl) ?_
          refine va_get (D := D) (ci := 9) (v := .long (J 19)) (C := RX10) (T := TX10) (N := 30) hx hb hts hi10 hown hK hP 0 rfl rfl 19 (by decide) hw1 (fun _ h9 => h9) rfl dX10_turnAt_44 ?_
          refine lv_iload hx hb dX10_turnAt_47 (lv_at hl 3 rfl) ?_
          refine kS_i (As := [.long (J 19), .int x2]) (rest := []) ⟨hx, hb, hml, hown, hts⟩ (c_X10_hasBit l (J 19) x2) (va_cwS 2 hts gX10_turnAt_X10_hasBit rfl rfl rfl (by decide +kernel) ⟨Nat.le_of_ble_eq_true rfl, Nat.le_of_ble_eq_true rfl⟩) rfl hl.1 rfl (Nat.le_of_ble_eq_true rfl) dX10_turnAt_49 ⟨Nat.le_of_ble_eq_true rfl, Nat.le_of_ble_eq_true rfl⟩ ?_
          refine lv_if_ne (tgt := 70) hx hb dX10_turnAt_52 (by decide) (fun c_13 => ?_) (fun c_13 => ?_)
          · replace c_13 := bI_t c_13
            refine lv_iconst (v := 0) hx hb dX10_turnAt_70 (by decide) ?_
            refine lv_goto (tgt := 75) hx hb dX10_turnAt_71 (by decide) ?_
            exact wret_i hx hb hr hlocks (J, I, R, RJ) ⟨trivial, rfl⟩ hP hD hS dX10_turnAt_75
          · replace c_13 := bI_f c_13
            refine lv_aload_n hx hb dX10_turnAt_55 rfl (lv_at hl 0 rfl) ?_
            refine va_get (D := D) (ci := 9) (v := .long (J 19)) (C := RX10) (T := TX10) (N := 30) hx hb hts hi10 hown hK hP 0 rfl rfl 19 (by decide) hw1 (fun _ h9 => h9) rfl dX10_turnAt_56 ?_
            refine lv_iload hx hb dX10_turnAt_59 (lv_at hl 3 rfl) ?_
            refine lv_bipush (v := 8) hx hb dX10_turnAt_61 (by decide) ?_
            refine lv_iadd hx hb dX10_turnAt_63 ?_
            refine kS_i (As := [.long (J 19), .int (x2 + 8)]) (rest := []) ⟨hx, hb, hml, hown, hts⟩ (c_X10_hasBit l (J 19) (x2 + 8)) (va_cwS 2 hts gX10_turnAt_X10_hasBit rfl rfl rfl (by decide +kernel) ⟨Nat.le_of_ble_eq_true rfl, Nat.le_of_ble_eq_true rfl⟩) rfl hl.1 rfl (Nat.le_of_ble_eq_true rfl) dX10_turnAt_64 ⟨Nat.le_of_ble_eq_true rfl, Nat.le_of_ble_eq_true rfl⟩ ?_
            refine lv_if_eq (tgt := 74) hx hb dX10_turnAt_67 (by decide) (fun c_14 => ?_) (fun c_14 => ?_)
            · replace c_14 := bI_f c_14
              refine lv_iconst (v := 1) hx hb dX10_turnAt_74 (by decide) ?_
              exact wret_i hx hb hr hlocks (J, I, R, RJ) ⟨trivial, rfl⟩ hP hD hS dX10_turnAt_75
            · replace c_14 := bI_t c_14
              refine lv_iconst (v := 0) hx hb dX10_turnAt_70 (by decide) ?_
              refine lv_goto (tgt := 75) hx hb dX10_turnAt_71 (by decide) ?_
              exact wret_i hx hb hr hlocks (J, I, R, RJ) ⟨trivial, rfl⟩ hP hD hS dX10_turnAt_75
    · refine lv_iconst (v := 0) hx hb dX10_turnAt_20 (by decide) ?_
      exact wret_i hx hb hr hlocks (J, I, R, RJ) ⟨trivial, rfl⟩ hP hD hS dX10_turnAt_21
theorem dX10_turns_22 : decode cX10_turns 22 = .ok (.iload_n 2, 1) := by decide +kernel
theorem dX10_turns_23 : decode cX10_turns 23 = .ok (.bipush 64, 2) := by decide +kernel
theorem dX10_turns_25 : decode cX10_turns 25 = .ok (.if_icmp .ge 33, 3) := by decide +kernel
theorem dX10_turns_58 : decode cX10_turns 58 = .ok (.iload_n 1, 1) := by decide +kernel
theorem dX10_turns_59 : decode cX10_turns 59 = .ok (.ireturn, 1) := by decide +kernel
theorem dX10_turns_28 : decode cX10_turns 28 = .ok (.iload_n 1, 1) := by decide +kernel
theorem dX10_turns_29 : decode cX10_turns 29 = .ok (.aload_n 0, 1) := by decide +kernel
theorem dX10_turns_30 : decode cX10_turns 30 = .ok (.aload_n 0, 1) := by decide +kernel
theorem dX10_turns_31 : decode cX10_turns 31 = .ok (.getfield 92, 3) := by decide +kernel
theorem dX10_turns_34 : decode cX10_turns 34 = .ok (.aload_n 0, 1) := by decide +kernel
theorem dX10_turns_35 : decode cX10_turns 35 = .ok (.getfield 95, 3) := by decide +kernel
theorem dX10_turns_38 : decode cX10_turns 38 = .ok (.iload_n 2, 1) := by decide +kernel
set_option maxRecDepth 20000 in
theorem ggX10_turns_X10_turnAt : GoodIn wsX10_turns wsX10_turnAt := goodIn_r _ [47, 15, 16, 48, 49, 8, 50, 51, 52, 53, 54, 55, 56, 57, 58, 59, 60, 61, 62, 63, 64, 65, 66, 67, 68, 69, 70, 71, 72, 73, 74, 75, 76, 77, 78, 79, 80] rfl (by decide +kernel)
set_option maxRecDepth 20000 in
theorem gX10_turns_X10_turnAt : GoodIn wsX10_turns (wsV RX10 231 RX10 yX10_turnAt wsX10_turnAt) := goodIn_app (goodIn_r _ [44, 45, 46, 8] rfl (by decide +kernel)) ggX10_turns_X10_turnAt
theorem dX10_turns_39 : decode cX10_turns 39 = .ok (.invokevirtual 231, 3) := by decide +kernel
theorem dX10_turns_42 : decode cX10_turns 42 = .ok (.ifCond .le 7, 3) := by decide +kernel
theorem dX10_turns_49 : decode cX10_turns 49 = .ok (.iconst 0, 1) := by decide +kernel
theorem dX10_turns_50 : decode cX10_turns 50 = .ok (.iadd, 1) := by decide +kernel
theorem dX10_turns_51 : decode cX10_turns 51 = .ok (.istore_n 1, 1) := by decide +kernel
theorem dX10_turns_52 : decode cX10_turns 52 = .ok (.iinc 2 1, 3) := by decide +kernel
theorem dX10_turns_55 : decode cX10_turns 55 = .ok (.goto (-33), 3) := by decide +kernel
theorem dX10_turns_45 : decode cX10_turns 45 = .ok (.iconst 1, 1) := by decide +kernel
theorem dX10_turns_46 : decode cX10_turns 46 = .ok (.goto 4, 3) := by decide +kernel
theorem dX10_turns_0 : decode cX10_turns 0 = .ok (.aload_n 0, 1) := by decide +kernel
theorem dX10_turns_1 : decode cX10_turns 1 = .ok (.getfield 88, 3) := by decide +kernel
theorem dX10_turns_4 : decode cX10_turns 4 = .ok (.ifCond .ne 10, 3) := by decide +kernel
theorem dX10_turns_14 : decode cX10_turns 14 = .ok (.aload_n 0, 1) := by decide +kernel
set_option maxRecDepth 20000 in
theorem ggX10_turns_X10_findGlued : GoodIn wsX10_turns wsX10_findGlued := goodIn_r _ [14, 15, 16, 17, 18, 19, 20, 21, 8, 22, 23, 24, 25, 26, 27, 28, 29, 30, 31, 32, 33, 34, 35, 36, 37, 38, 39, 40, 41, 42, 43, 51, 52, 53, 54, 55, 56, 57, 58, 59, 60, 61, 62, 63, 64, 65, 66, 67, 68, 69, 70, 71, 72, 73, 74, 75, 76, 77, 78, 79, 80] rfl (by decide +kernel)
set_option maxRecDepth 20000 in
theorem gX10_turns_X10_findGlued : GoodIn wsX10_turns (wsV RX10 201 RX10 yX10_findGlued wsX10_findGlued) := goodIn_app (goodIn_r _ [11, 12, 13, 8] rfl (by decide +kernel)) ggX10_turns_X10_findGlued
theorem dX10_turns_15 : decode cX10_turns 15 = .ok (.invokevirtual 201, 3) := by decide +kernel
theorem dX10_turns_18 : decode cX10_turns 18 = .ok (.iconst 0, 1) := by decide +kernel
theorem dX10_turns_19 : decode cX10_turns 19 = .ok (.istore_n 1, 1) := by decide +kernel
theorem dX10_turns_20 : decode cX10_turns 20 = .ok (.iconst 0, 1) := by decide +kernel
theorem dX10_turns_21 : decode cX10_turns 21 = .ok (.istore_n 2, 1) := by decide +kernel
theorem dX10_turns_7 : decode cX10_turns 7 = .ok (.aload_n 0, 1) := by decide +kernel
theorem dX10_turns_8 : decode cX10_turns 8 = .ok (.ldc 98, 2) := by decide +kernel
set_option maxRecDepth 20000 in
theorem ggX10_turns_X10_finding : GoodIn wsX10_turns wsX10_finding := goodIn_r _ [9, 10, 51, 52, 53, 54, 55, 56, 57, 58, 59, 60, 61, 62, 63, 64, 65, 66, 67, 68, 69, 70, 71, 72, 73, 74, 75, 76, 77, 78, 79, 80] rfl (by decide +kernel)
set_option maxRecDepth 20000 in
theorem gX10_turns_X10_finding : GoodIn wsX10_turns (wsV RX10 99 RX10 yX10_finding wsX10_finding) := goodIn_app (goodIn_r _ [5, 6, 7, 8] rfl (by decide +kernel)) ggX10_turns_X10_finding
theorem dX10_turns_10 : decode cX10_turns 10 = .ok (.invokevirtual 99, 3) := by decide +kernel
theorem dX10_turns_13 : decode cX10_turns 13 = .ok (.ireturn, 1) := by decide +kernel
set_option maxRecDepth 20000 in
theorem ihX10_turns_10 : ∀ w ∈ u_ws RX10 TX10 30, w ∈ wsX10_turns := fun _ h => List.mem_cons_of_mem _ (List.mem_append_right _ h)
set_option maxHeartbeats 4000000 in
set_option maxRecDepth 100000 in
theorem t_X10_turns (l : Launch) (D : va_G) (cy : Nat → ClassId) (a : Nat → Nat) (sz : Nat) (J : Nat → Int64) (I : Nat → Int32) (R : Nat → Nat → Int32) (RJ : Nat → Nat → Int64)  (hM : MI I R) : Met l yX10_turns wsX10_turns ({ frames := 3, cells := 0, slots := 0, locals := 64 }) (va_Pc [.ref (a 0)] (PW D cy sz (MW cy a J I R RJ))) (va_Qi (fun r (u : MS) => ∃ (w0 : Int64), ∃ (w1 : Int64), ∃ (w2 : Int64), ∃ (w3 : Int32), (True) ∧ u = ((va_up (va_up (va_up J 19 w0) 20 w1) 21 w2), (va_up I 13 w3), R, RJ)) (BW D (va_A (MW cy a J I R RJ) sz) (MWu cy a)) (va_A (MW cy a J I R RJ) sz)) 0 0 (va_A (MW cy a J I R RJ) sz) := by
  refine Met.ofW (cc := cX10_turns) (maxL := 3) (ret := (some .int)) (by decide) rfl ?_
  intro p e s m args below meth c s₁ B hml hv
  obtain ⟨rfl, rfl, hP, hK, hN, hD0⟩ := hv
  have hx := B.exec
  have hb := B.bytes
  have hr := B.returns
  have hts := atoms_spec (ws := wsX10_turns) B.pre
  have hown : s.vm.findClass RX10 = some m.cls := findClass_of_methodNamed B.named
  have hlocks := B.notSynchronized
  have hw0 := hts (.fieldLink RX10 92 "ParquetLayerModel" "along" "J") (by decide +kernel)
  have hw1 := hts (.fieldLink RX10 95 "ParquetLayerModel" "across" "J") (by decide +kernel)
  have hw2 := hts (.fieldLink RX10 88 "ParquetLayerModel" "isLaid" "Z") (by decide +kernel)
  have hw3 := hts (.constant RX10 98 (-100006)) (by decide +kernel)
  have hi10 := ihX10_turns_10
  have hD := hD0.self (sz := s.heap.size)
  generalize hAe : va_A (MW cy a J I R RJ) s.heap.size = A at hD ⊢
  have hA : ∀ q : Nat, s.heap.size ≤ q → A q := fun q h => by rw [← hAe]; exact Or.inr h
  have hS : va_S A s.heap s.heap [] := va_S.rf
  have hl := lv_entry ([.ref (a 0)]) (n := 3) (Nat.le_of_ble_eq_true rfl)
  rw [lg_entry_eq]
  generalize (lg_sl ([.ref (a 0)]) ++ List.replicate (3 - (lg_sl ([.ref (a 0)])).length) Slot.unset).toArray = ls at hl ⊢
  have hl : lv_has ls 3 [(0, .ref (a 0))] := hl
  have hP : va_P D vwCl (MW cy a (va_up (va_up (va_up J 19 (J 19)) 20 (J 20)) 21 (J 21)) (va_up I 13 (I 13)) R RJ) s.heap := hP
  have hD : va_D A (MW cy a (va_up (va_up (va_up J 19 (J 19)) 20 (J 20)) 21 (J 21)) (va_up I 13 (I 13)) R RJ) := hD
  have lp22 : ∀ (n22 : Nat), ∀ (i : Nat) (v1_22 : Int32) (m0_22 : Int64) (m1_22 : Int64) (m2_22 : Int64) (m3_22 : Int32), (i ≤ 64) → (64 - i) < n22 → ∀ (H : Heap) (locs : List Loc), va_P D vwCl (MW cy a (va_up (va_up (va_up J 19 m0_22) 20 m1_22) 21 m2_22) (va_up I 13 m3_22) R RJ) H → va_D A (MW cy a (va_up (va_up (va_up J 19 m0_22) 20 m1_22) 21 m2_22) (va_up I 13 m3_22) R RJ) → va_S A s.heap H locs → ∀ (ls : Array Slot), lv_has ls 3 [(0, .ref (a 0)), (1, .int v1_22), (2, .int (nI i))] → W p l e (headSpec wsX10_turns ({ frames := 3, cells := 0, slots := 0, locals := 64 })).room s m ([.ref (a 0)] : List Value).toArray below meth c H locs 0 0 (MQ below (va_Qi (fun r (u : MS) => ∃ (w0 : Int64), ∃ (w1 : Int64), ∃ (w2 : Int64), ∃ (w3 : Int32), (True) ∧ u = ((va_up (va_up (va_up J 19 w0) 20 w1) 21 w2), (va_up I 13 w3), R, RJ)) (BW D A (MWu cy a)) A) ([.ref (a 0)] : List Value).toArray s 0 0 A) (F0 m 22 ls []) := by
    intro n22
    induction n22 with
    | zero => intro i v1_22 m0_22 m1_22 m2_22 m3_22 hi hn; exact absurd hn (Nat.not_lt_zero _)
    | succ n22 ih22 =>
      intro i v1_22 m0_22 m1_22 m2_22 m3_22 hi hn22 H locs hP hD hS ls hl
      refine lv_iload_n hx hb dX10_turns_22 rfl (lv_at hl 2 rfl) ?_
      refine lv_bipush (v := 64) hx hb dX10_turns_23 (by decide) ?_
      refine lv_icmp_ge (tgt := 58) hx hb dX10_turns_25 (by decide) (fun c_1 => ?_) (fun c_1 => ?_)
      · refine lv_iload_n hx hb dX10_turns_58 rfl (lv_at hl 1 rfl) ?_
        exact wret_i hx hb hr hlocks ((va_up (va_up (va_up J 19 m0_22) 20 m1_22) 21 m2_22), (va_up I 13 m3_22), R, RJ) ⟨m0_22, m1_22, m2_22, m3_22, trivial, rfl⟩ hP hD hS dX10_turns_59
      · have hlt_i := ctr_lt (N := 64) (by decide) hi c_1
        refine lv_iload_n hx hb dX10_turns_28 rfl (lv_at hl 1 rfl) ?_
        refine lv_aload_n hx hb dX10_turns_29 rfl (lv_at hl 0 rfl) ?_
        refine lv_aload_n hx hb dX10_turns_30 rfl (lv_at hl 0 rfl) ?_
        refine va_get (D := D) (ci := 9) (v := .long (J 4)) (C := RX10) (T := TX10) (N := 30) hx hb hts hi10 hown hK hP 0 rfl rfl 4 (by decide) hw0 (fun _ h9 => h9) rfl dX10_turns_31 ?_
        refine lv_aload_n hx hb dX10_turns_34 rfl (lv_at hl 0 rfl) ?_
        refine va_get (D := D) (ci := 9) (v := .long (J 5)) (C := RX10) (T := TX10) (N := 30) hx hb hts hi10 hown hK hP 0 rfl rfl 5 (by decide) hw1 (fun _ h9 => h9) rfl dX10_turns_35 ?_
        refine lv_iload_n hx hb dX10_turns_38 rfl (lv_at hl 2 rfl) ?_
        refine kM_i (As := [.long (J 4), .long (J 5), .int (nI i)]) (rest := [.int v1_22]) (q0 := 0) ⟨hx, hb, hml, hown, hts⟩ (t_X10_turnAt l D cy a _ (va_up (va_up (va_up J 19 m0_22) 20 m1_22) 21 m2_22) (va_up I 13 m3_22) R RJ (J 4) (J 5) (nI i)  ) (cwV 3 hts gX10_turns_X10_turnAt rfl rfl rfl (by decide +kernel) ⟨Nat.le_of_ble_eq_true rfl, Nat.le_of_ble_eq_true rfl⟩) hK hN hP hD hS hA rfl rfl rfl hl.1 rfl (Nat.le_of_ble_eq_true rfl) dX10_turns_39 ⟨Nat.le_of_ble_eq_true rfl, Nat.le_of_ble_eq_true rfl⟩ (fun r_2 u H locs hw hP hD hS => ?_)
        obtain ⟨-, rfl⟩ := hw
        have hP : va_P D vwCl (MW cy a (va_up (va_up (va_up J 19 m0_22) 20 m1_22) 21 m2_22) (va_up I 13 m3_22) R RJ) H := hP
        have hD : va_D A (MW cy a (va_up (va_up (va_up J 19 m0_22) 20 m1_22) 21 m2_22) (va_up I 13 m3_22) R RJ) := hD
        refine lv_if_le (tgt := 49) hx hb dX10_turns_42 (by decide) (fun c_3 => ?_) (fun c_3 => ?_)
        · refine lv_iconst (v := 0) hx hb dX10_turns_49 (by decide) ?_
          refine lv_iadd hx hb dX10_turns_50 ?_
          refine lv_istore_n (lv' := [(1, .int (v1_22 + 0)), (0, .ref (a 0)), (2, .int (nI i))]) hx hb dX10_turns_51 rfl hl (by decide) rfl (fun ls hl => ?_)
          refine lv_iinc (v := nI (i + 1)) (lv' := [(2, .int (nI (i + 1))), (1, .int (v1_22 + 0)), (0, .ref (a 0))]) hx hb dX10_turns_52 hl (k := 2) rfl (nI_1 _) (by decide) rfl (fun ls hl => ?_)
          refine lv_goto (tgt := 22) hx hb dX10_turns_55 (by decide) ?_
          exact ih22 (i + 1) (v1_22 + 0) m0_22 m1_22 m2_22 m3_22 (by omega) (by omega) _ _ hP hD hS ls (lv_sub hl [2, 1, 0] rfl)
        · refine lv_iconst (v := 1) hx hb dX10_turns_45 (by decide) ?_
          refine lv_goto (tgt := 50) hx hb dX10_turns_46 (by decide) ?_
          refine lv_iadd hx hb dX10_turns_50 ?_
          refine lv_istore_n (lv' := [(1, .int (v1_22 + 1)), (0, .ref (a 0)), (2, .int (nI i))]) hx hb dX10_turns_51 rfl hl (by decide) rfl (fun ls hl => ?_)
          refine lv_iinc (v := nI (i + 1)) (lv' := [(2, .int (nI (i + 1))), (1, .int (v1_22 + 1)), (0, .ref (a 0))]) hx hb dX10_turns_52 hl (k := 2) rfl (nI_1 _) (by decide) rfl (fun ls hl => ?_)
          refine lv_goto (tgt := 22) hx hb dX10_turns_55 (by decide) ?_
          exact ih22 (i + 1) (v1_22 + 1) m0_22 m1_22 m2_22 m3_22 (by omega) (by omega) _ _ hP hD hS ls (lv_sub hl [2, 1, 0] rfl)
  refine lv_aload_n hx hb dX10_turns_0 rfl (lv_at hl 0 rfl) ?_
  refine va_get (D := D) (ci := 9) (v := .int (I 3)) (C := RX10) (T := TX10) (N := 30) hx hb hts hi10 hown hK hP 0 rfl rfl 3 (by decide) hw2 (fun _ h9 => h9) rfl dX10_turns_1 ?_
  refine lv_if_ne (tgt := 14) hx hb dX10_turns_4 (by decide) (fun c_4 => ?_) (fun c_4 => ?_)
  · refine lv_aload_n hx hb dX10_turns_14 rfl (lv_at hl 0 rfl) ?_
    refine kM_v (As := []) (rest := []) (q0 := 0) ⟨hx, hb, hml, hown, hts⟩ (t_X10_findGlued l D cy a _ (va_up (va_up (va_up J 19 (J 19)) 20 (J 20)) 21 (J 21)) (va_up I 13 (I 13)) R RJ   ⟨hM.1, hM.2.1, hM.2.2.1, hM.2.2.2.1, hM.2.2.2.2.1, hM.2.2.2.2.2⟩) (cwV 0 hts gX10_turns_X10_findGlued rfl rfl rfl (by decide +kernel) ⟨Nat.le_of_ble_eq_true rfl, Nat.le_of_ble_eq_true rfl⟩) hK hN hP hD hS hA rfl rfl rfl hl.1 rfl (Nat.le_of_ble_eq_true rfl) dX10_turns_15 ⟨Nat.le_of_ble_eq_true rfl, Nat.le_of_ble_eq_true rfl⟩ (fun u H locs hw hP hD hS => ?_)
    obtain ⟨w_6, w_7, w_8, -, rfl⟩ := hw
    have hP : va_P D vwCl (MW cy a (va_up (va_up (va_up J 19 w_6) 20 w_7) 21 w_8) (va_up I 13 (I 13)) R RJ) H := hP
    have hD : va_D A (MW cy a (va_up (va_up (va_up J 19 w_6) 20 w_7) 21 w_8) (va_up I 13 (I 13)) R RJ) := hD
    refine lv_iconst (v := 0) hx hb dX10_turns_18 (by decide) ?_
    refine lv_istore_n (lv' := [(1, .int 0), (0, .ref (a 0))]) hx hb dX10_turns_19 rfl hl (by decide) rfl (fun ls hl => ?_)
    refine lv_iconst (v := 0) hx hb dX10_turns_20 (by decide) ?_
    refine lv_istore_n (lv' := [(2, .int 0), (1, .int 0), (0, .ref (a 0))]) hx hb dX10_turns_21 rfl hl (by decide) rfl (fun ls hl => ?_)
    exact lp22 _ 0 (0 : Int32) w_6 w_7 w_8 (I 13) (by omega) (Nat.lt_succ_self _) _ _ hP hD hS ls (lv_sub hl [2, 1, 0] rfl)
  · refine lv_aload_n hx hb dX10_turns_7 rfl (lv_at hl 0 rfl) ?_
    refine lv_ldc (v := (-100006)) hx hb hown hw3 dX10_turns_8 ?_
    refine kM_i (As := [.int (-100006)]) (rest := []) (q0 := 0) ⟨hx, hb, hml, hown, hts⟩ (c_X10_finding l D cy a _ (va_up (va_up (va_up J 19 (J 19)) 20 (J 20)) 21 (J 21)) (va_up I 13 (I 13)) R RJ (-100006) ) (cwV 1 hts gX10_turns_X10_finding rfl rfl rfl (by decide +kernel) ⟨Nat.le_of_ble_eq_true rfl, Nat.le_of_ble_eq_true rfl⟩) hK hN hP hD hS hA rfl rfl rfl hl.1 rfl (Nat.le_of_ble_eq_true rfl) dX10_turns_10 ⟨Nat.le_of_ble_eq_true rfl, Nat.le_of_ble_eq_true rfl⟩ (fun r_9 u H locs hw hP hD hS => ?_)
    obtain ⟨rfl, rfl⟩ := hw
    have hP : va_P D vwCl (MW cy a (va_up (va_up (va_up J 19 (J 19)) 20 (J 20)) 21 (J 21)) (va_up I 13 ((I 13) + 1)) R RJ) H := hP
    have hD : va_D A (MW cy a (va_up (va_up (va_up J 19 (J 19)) 20 (J 20)) 21 (J 21)) (va_up I 13 ((I 13) + 1)) R RJ) := hD
    exact wret_i hx hb hr hlocks ((va_up (va_up (va_up J 19 (J 19)) 20 (J 20)) 21 (J 21)), (va_up I 13 ((I 13) + 1)), R, RJ) ⟨(J 19), (J 20), (J 21), ((I 13) + 1), trivial, rfl⟩ hP hD hS dX10_turns_13
