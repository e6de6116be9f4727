theorem dX10_all_0 : decode cX10_all 0 = .ok (.iload_n 1, 1) := by decide +kernel
theorem dX10_all_1 : decode cX10_all 1 = .ok (.iconst 0, 1) := by decide +kernel
theorem dX10_all_2 : decode cX10_all 2 = .ok (.iconst 3, 1) := by decide +kernel
set_option maxRecDepth 20000 in
theorem ggX10_all_X10_within : GoodIn wsX10_all wsX10_within := goodIn_r _ [8] rfl (by decide +kernel)
set_option maxRecDepth 20000 in
theorem gX10_all_X10_within : GoodIn wsX10_all (va_wsS RX10 70 yX10_within wsX10_within) := goodIn_app (goodIn_r _ [5, 6, 7] rfl (by decide +kernel)) ggX10_all_X10_within
theorem dX10_all_3 : decode cX10_all 3 = .ok (.invokestatic 70, 3) := by decide +kernel
theorem dX10_all_6 : decode cX10_all 6 = .ok (.ifCond .ne 10, 3) := by decide +kernel
theorem dX10_all_16 : decode cX10_all 16 = .ok (.iload_n 1, 1) := by decide +kernel
theorem dX10_all_17 : decode cX10_all 17 = .ok (.ifCond .ne 10, 3) := by decide +kernel
theorem dX10_all_27 : decode cX10_all 27 = .ok (.iload_n 1, 1) := by decide +kernel
theorem dX10_all_28 : decode cX10_all 28 = .ok (.iconst 1, 1) := by decide +kernel
theorem dX10_all_29 : decode cX10_all 29 = .ok (.if_icmp .ne 10, 3) := by decide +kernel
theorem dX10_all_39 : decode cX10_all 39 = .ok (.iload_n 1, 1) := by decide +kernel
theorem dX10_all_40 : decode cX10_all 40 = .ok (.iconst 2, 1) := by decide +kernel
theorem dX10_all_41 : decode cX10_all 41 = .ok (.if_icmp .ne 18, 3) := by decide +kernel
theorem dX10_all_59 : decode cX10_all 59 = .ok (.aload_n 0, 1) := by decide +kernel
theorem dX10_all_60 : decode cX10_all 60 = .ok (.getfield 66, 3) := by decide +kernel
theorem dX10_all_63 : decode cX10_all 63 = .ok (.ireturn, 1) := by decide +kernel
theorem dX10_all_44 : decode cX10_all 44 = .ok (.aload_n 0, 1) := by decide +kernel
theorem dX10_all_45 : decode cX10_all 45 = .ok (.getfield 88, 3) := by decide +kernel
theorem dX10_all_48 : decode cX10_all 48 = .ok (.ifCond .eq 7, 3) := by decide +kernel
theorem dX10_all_55 : decode cX10_all 55 = .ok (.iconst 0, 1) := by decide +kernel
theorem dX10_all_56 : decode cX10_all 56 = .ok (.goto 7, 3) := by decide +kernel
theorem dX10_all_51 : decode cX10_all 51 = .ok (.iconst 1, 1) := by decide +kernel
theorem dX10_all_52 : decode cX10_all 52 = .ok (.goto 11, 3) := by decide +kernel
theorem dX10_all_32 : decode cX10_all 32 = .ok (.aload_n 0, 1) := by decide +kernel
set_option maxRecDepth 20000 in
theorem ggX10_all_X10_gluedMany : GoodIn wsX10_all wsX10_gluedMany := goodIn_r _ [16, 2, 17, 18, 19, 7, 20, 21, 22, 23, 24, 25, 26, 27, 28, 29, 30, 31, 32, 33, 34, 35, 36, 37, 38, 39, 40, 41, 42, 43, 44, 45, 46, 47, 48, 49, 50, 51, 52, 53, 54, 55] rfl (by decide +kernel)
set_option maxRecDepth 20000 in
theorem gX10_all_X10_gluedMany : GoodIn wsX10_all (wsV RX10 160 RX10 yX10_gluedMany wsX10_gluedMany) := goodIn_app (goodIn_r _ [13, 14, 15, 7] rfl (by decide +kernel)) ggX10_all_X10_gluedMany
theorem dX10_all_33 : decode cX10_all 33 = .ok (.invokevirtual 160, 3) := by decide +kernel
theorem dX10_all_36 : decode cX10_all 36 = .ok (.goto 27, 3) := by decide +kernel
theorem dX10_all_20 : decode cX10_all 20 = .ok (.aload_n 0, 1) := by decide +kernel
theorem dX10_all_21 : decode cX10_all 21 = .ok (.getfield 85, 3) := by decide +kernel
theorem dX10_all_24 : decode cX10_all 24 = .ok (.goto 39, 3) := by decide +kernel
theorem dX10_all_9 : decode cX10_all 9 = .ok (.aload_n 0, 1) := by decide +kernel
theorem dX10_all_10 : decode cX10_all 10 = .ok (.ldc 141, 2) := by decide +kernel
set_option maxRecDepth 20000 in
theorem ggX10_all_X10_finding : GoodIn wsX10_all wsX10_finding := goodIn_r _ [12, 4, 26, 27, 28, 29, 30, 31, 32, 33, 34, 35, 36, 37, 38, 39, 40, 41, 42, 43, 44, 45, 46, 47, 48, 49, 50, 51, 52, 53, 54, 55] rfl (by decide +kernel)
set_option maxRecDepth 20000 in
theorem gX10_all_X10_finding : GoodIn wsX10_all (wsV RX10 99 RX10 yX10_finding wsX10_finding) := goodIn_app (goodIn_r _ [9, 10, 11, 7] rfl (by decide +kernel)) ggX10_all_X10_finding
theorem dX10_all_12 : decode cX10_all 12 = .ok (.invokevirtual 99, 3) := by decide +kernel
theorem dX10_all_15 : decode cX10_all 15 = .ok (.ireturn, 1) := by decide +kernel
set_option maxRecDepth 20000 in
theorem ihX10_all_10 : ∀ w ∈ u_ws RX10 TX10 30, w ∈ wsX10_all := fun _ h => List.mem_cons_of_mem _ (List.mem_append_right _ h)
set_option maxHeartbeats 4000000 in
set_option maxRecDepth 100000 in
theorem t_X10_all (l : Launch) (D : va_G) (cy : Nat → ClassId) (a : Nat → Nat) (sz : Nat) (J : Nat → Int64) (I : Nat → Int32) (R : Nat → Nat → Int32) (RJ : Nat → Nat → Int64) (x0 : Int32) (hM : MI I R) : Met l yX10_all wsX10_all ({ frames := 3, cells := 0, slots := 0, locals := 64 }) (va_Pc [.ref (a 0), .int x0] (PW D cy sz (MW cy a J I R RJ))) (va_Qi (fun r (u : MS) => ∃ (w0 : Int32), (True) ∧ u = (J, (va_up I 13 w0), R, RJ)) (BW D (va_A (MW cy a J I R RJ) sz) (MWu cy a)) (va_A (MW cy a J I R RJ) sz)) 0 0 (va_A (MW cy a J I R RJ) sz) := by
  refine Met.ofW (cc := cX10_all) (maxL := 2) (ret := (some .int)) (by decide) rfl ?_
  intro p e s m args below meth c s₁ B hml hv
  obtain ⟨rfl, rfl, hP, hK, hN, hD0⟩ := hv
  have hx := B.exec
  have hb := B.bytes
  have hr := B.returns
  have hts := atoms_spec (ws := wsX10_all) B.pre
  have hown : s.vm.findClass RX10 = some m.cls := findClass_of_methodNamed B.named
  have hlocks := B.notSynchronized
  have hw0 := hts (.fieldLink RX10 66 "ParquetLayerModel" "findings" "I") (by decide +kernel)
  have hw1 := hts (.fieldLink RX10 88 "ParquetLayerModel" "isLaid" "Z") (by decide +kernel)
  have hw2 := hts (.fieldLink RX10 85 "ParquetLayerModel" "stones" "I") (by decide +kernel)
  have hw3 := hts (.constant RX10 141 (-100001)) (by decide +kernel)
  have hi10 := ihX10_all_10
  have hD := hD0.self (sz := s.heap.size)
  generalize hAe : va_A (MW cy a J I R RJ) s.heap.size = A at hD ⊢
  have hA : ∀ q : Nat, s.heap.size ≤ q → A q := fun q h => by rw [← hAe]; exact Or.inr h
  have hS : va_S A s.heap s.heap [] := va_S.rf
  have hl := lv_entry ([.ref (a 0), .int x0]) (n := 2) (Nat.le_of_ble_eq_true rfl)
  rw [lg_entry_eq]
  generalize (lg_sl ([.ref (a 0), .int x0]) ++ List.replicate (2 - (lg_sl ([.ref (a 0), .int x0])).length) Slot.unset).toArray = ls at hl ⊢
  have hl : lv_has ls 2 [(0, .ref (a 0)), (1, .int x0)] := hl
  have hP : va_P D vwCl (MW cy a J (va_up I 13 (I 13)) R RJ) s.heap := hP
  have hD : va_D A (MW cy a J (va_up I 13 (I 13)) R RJ) := hD
  refine lv_iload_n hx hb dX10_all_0 rfl (lv_at hl 1 rfl) ?_
  refine lv_iconst (v := 0) hx hb dX10_all_1 (by decide) ?_
  refine lv_iconst (v := 3) hx hb dX10_all_2 (by decide) ?_
  refine kS_i (As := [.int x0, .int 0, .int 3]) (rest := []) ⟨hx, hb, hml, hown, hts⟩ (c_X10_within l x0 0 3) (va_cwS 3 hts gX10_all_X10_within rfl rfl rfl (by decide +kernel) ⟨Nat.le_of_ble_eq_true rfl, Nat.le_of_ble_eq_true rfl⟩) rfl hl.1 rfl (Nat.le_of_ble_eq_true rfl) dX10_all_3 ⟨Nat.le_of_ble_eq_true rfl, Nat.le_of_ble_eq_true rfl⟩ ?_
  refine lv_if_ne (tgt := 16) hx hb dX10_all_6 (by decide) (fun c_1 => ?_) (fun c_1 => ?_)
  · replace c_1 := bI_t c_1
    refine lv_iload_n hx hb dX10_all_16 rfl (lv_at hl 1 rfl) ?_
    refine lv_if_ne (tgt := 27) hx hb dX10_all_17 (by decide) (fun c_2 => ?_) (fun c_2 => ?_)
    · refine lv_iload_n hx hb dX10_all_27 rfl (lv_at hl 1 rfl) ?_
      refine lv_iconst (v := 1) hx hb dX10_all_28 (by decide) ?_
      refine lv_icmp_ne (tgt := 39) hx hb dX10_all_29 (by decide) (fun c_3 => ?_) (fun c_3 => ?_)
      · refine lv_iload_n hx hb dX10_all_39 rfl (lv_at hl 1 rfl) ?_
        refine lv_iconst (v := 2) hx hb dX10_all_40 (by decide) ?_
        refine lv_icmp_ne (tgt := 59) hx hb dX10_all_41 (by decide) (fun c_4 => ?_) (fun c_4 => ?_)
        · refine lv_aload_n hx hb dX10_all_59 rfl (lv_at hl 0 rfl) ?_
          refine va_get (D := D) (ci := 9) (v := .int (I 13)) (C := RX10) (T := TX10) (N := 30) hx hb hts hi10 hown hK hP 0 rfl rfl 13 (by decide) hw0 (fun _ h9 => h9) rfl dX10_all_60 ?_
          exact wret_i hx hb hr hlocks (J, (va_up I 13 (I 13)), R, RJ) ⟨(I 13), trivial, rfl⟩ hP hD hS dX10_all_63
        · refine lv_aload_n hx hb dX10_all_44 rfl (lv_at hl 0 rfl) ?_
          refine va_get (D := D) (ci := 9) (v := .int (I 3)) (C := RX10) (T := TX10) (N := 30) hx hb hts hi10 hown hK hP 0 rfl rfl 3 (by decide) hw1 (fun _ h9 => h9) rfl dX10_all_45 ?_
          refine lv_if_eq (tgt := 55) hx hb dX10_all_48 (by decide) (fun c_5 => ?_) (fun c_5 => ?_)
          · refine lv_iconst (v := 0) hx hb dX10_all_55 (by decide) ?_
            refine lv_goto (tgt := 63) hx hb dX10_all_56 (by decide) ?_
            exact wret_i hx hb hr hlocks (J, (va_up I 13 (I 13)), R, RJ) ⟨(I 13), trivial, rfl⟩ hP hD hS dX10_all_63
          · refine lv_iconst (v := 1) hx hb dX10_all_51 (by decide) ?_
            refine lv_goto (tgt := 63) hx hb dX10_all_52 (by decide) ?_
            exact wret_i hx hb hr hlocks (J, (va_up I 13 (I 13)), R, RJ) ⟨(I 13), trivial, rfl⟩ hP hD hS dX10_all_63
      · refine lv_aload_n hx hb dX10_all_32 rfl (lv_at hl 0 rfl) ?_
        refine kM_i (As := []) (rest := []) (q0 := 0) ⟨hx, hb, hml, hown, hts⟩ (t_X10_gluedMany l D cy a _ J (va_up I 13 (I 13)) R RJ   ⟨hM.1, hM.2.1, hM.2.2.1, hM.2.2.2.1, hM.2.2.2.2.1, hM.2.2.2.2.2⟩) (cwV 0 hts gX10_all_X10_gluedMany rfl rfl rfl (by decide +kernel) ⟨Nat.le_of_ble_eq_true rfl, Nat.le_of_ble_eq_true rfl⟩) hK hN hP hD hS hA rfl rfl rfl hl.1 rfl (Nat.le_of_ble_eq_true rfl) dX10_all_33 ⟨Nat.le_of_ble_eq_true rfl, Nat.le_of_ble_eq_true rfl⟩ (fun r_6 u H locs hw hP hD hS => ?_)
        obtain ⟨-, rfl⟩ := hw
        have hP : va_P D vwCl (MW cy a J (va_up I 13 (I 13)) R RJ) H := hP
        have hD : va_D A (MW cy a J (va_up I 13 (I 13)) R RJ) := hD
        refine lv_goto (tgt := 63) hx hb dX10_all_36 (by decide) ?_
        exact wret_i hx hb hr hlocks (J, (va_up I 13 (I 13)), R, RJ) ⟨(I 13), trivial, rfl⟩ hP hD hS dX10_all_63
    · refine lv_aload_n hx hb dX10_all_20 rfl (lv_at hl 0 rfl) ?_
      refine va_get (D := D) (ci := 9) (v := .int (I 1)) (C := RX10) (T := TX10) (N := 30) hx hb hts hi10 hown hK hP 0 rfl rfl 1 (by decide) hw2 (fun _ h9 => h9) rfl dX10_all_21 ?_
      refine lv_goto (tgt := 63) hx hb dX10_all_24 (by decide) ?_
      exact wret_i hx hb hr hlocks (J, (va_up I 13 (I 13)), R, RJ) ⟨(I 13), trivial, rfl⟩ hP hD hS dX10_all_63
  · replace c_1 := bI_f c_1
    refine lv_aload_n hx hb dX10_all_9 rfl (lv_at hl 0 rfl) ?_
    refine lv_ldc (v := (-100001)) hx hb hown hw3 dX10_all_10 ?_
    refine kM_i (As := [.int (-100001)]) (rest := []) (q0 := 0) ⟨hx, hb, hml, hown, hts⟩ (c_X10_finding l D cy a _ J (va_up I 13 (I 13)) R RJ (-100001) ) (cwV 1 hts gX10_all_X10_finding rfl rfl rfl (by decide +kernel) ⟨Nat.le_of_ble_eq_true rfl, Nat.le_of_ble_eq_true rfl⟩) hK hN hP hD hS hA rfl rfl rfl hl.1 rfl (Nat.le_of_ble_eq_true rfl) dX10_all_12 ⟨Nat.le_of_ble_eq_true rfl, Nat.le_of_ble_eq_true rfl⟩ (fun r_7 u H locs hw hP hD hS => ?_)
    obtain ⟨rfl, rfl⟩ := hw
    have hP : va_P D vwCl (MW cy a J (va_up I 13 ((I 13) + 1)) R RJ) H := hP
    have hD : va_D A (MW cy a J (va_up I 13 ((I 13) + 1)) R RJ) := hD
    exact wret_i hx hb hr hlocks (J, (va_up I 13 ((I 13) + 1)), R, RJ) ⟨((I 13) + 1), trivial, rfl⟩ hP hD hS dX10_all_15
