theorem or1_t : ∀ m : Fin 128, nI m.val ||| 1 = nI (m.val / 2 * 2 + 1) := by decide +kernel
theorem or128_t : ∀ m : Fin 128, nI m.val ||| 128 = nI (m.val + 128) := by decide +kernel
theorem wix {a b : Nat} : (256 : Int32) * nI a + nI b = nI (256 * a + b) := by
  rw [← nI_add, ← pk_mul]; rfl
theorem ix_w {j q : Nat} (hj : j < 65) (hq : q < 256) : vp_in ((256 : Int32) * nI j + nI q) 16640 := by
  rw [wix]; exact vp_in_nI (by omega) (by decide)
def m_may (fl tk al ac : Int64) (f : Int32) (b : Bool) : Bool := !decide (m_place f b = 0) && (decide (m_place f b &&& (fl ^^^ (-1)) = 0) && (decide (m_place f b &&& tk = 0) || m_hasBit (if b then ac else al) f))
theorem dX10_isWhole_0 : decode cX10_isWhole 0 = .ok (.aload_n 0, 1) := by decide +kernel
theorem dX10_isWhole_1 : decode cX10_isWhole 1 = .ok (.getfield 81, 3) := by decide +kernel
theorem dX10_isWhole_4 : decode cX10_isWhole 4 = .ok (.lconst 0, 1) := by decide +kernel
theorem dX10_isWhole_5 : decode cX10_isWhole 5 = .ok (.lcmp, 1) := by decide +kernel
theorem dX10_isWhole_6 : decode cX10_isWhole 6 = .ok (.ifCond .eq 32, 3) := by decide +kernel
theorem dX10_isWhole_38 : decode cX10_isWhole 38 = .ok (.iconst 0, 1) := by decide +kernel
theorem dX10_isWhole_39 : decode cX10_isWhole 39 = .ok (.ireturn, 1) := by decide +kernel
theorem dX10_isWhole_9 : decode cX10_isWhole 9 = .ok (.aload_n 0, 1) := by decide +kernel
set_option maxRecDepth 20000 in
theorem ggX10_isWhole_X10_gluedMany : GoodIn wsX10_isWhole wsX10_gluedMany := goodIn_r _ [6, 7, 8, 9, 10, 5, 11, 12, 13, 14, 15, 16, 38, 39, 40, 41, 42, 43, 44, 45, 46, 47, 48, 49, 50, 51, 52, 53, 54, 55, 56, 57, 58, 59, 60, 61, 62, 63, 64, 65, 66, 67] rfl (by decide +kernel)
set_option maxRecDepth 20000 in
theorem gX10_isWhole_X10_gluedMany : GoodIn wsX10_isWhole (wsV RX10 160 RX10 yX10_gluedMany wsX10_gluedMany) := goodIn_app (goodIn_r _ [2, 3, 4, 5] rfl (by decide +kernel)) ggX10_isWhole_X10_gluedMany
theorem dX10_isWhole_10 : decode cX10_isWhole 10 = .ok (.invokevirtual 160, 3) := by decide +kernel
theorem dX10_isWhole_13 : decode cX10_isWhole 13 = .ok (.ifCond .ne 25, 3) := by decide +kernel
theorem dX10_isWhole_16 : decode cX10_isWhole 16 = .ok (.aload_n 0, 1) := by decide +kernel
theorem dX10_isWhole_17 : decode cX10_isWhole 17 = .ok (.iconst 1, 1) := by decide +kernel
set_option maxRecDepth 20000 in
theorem ggX10_isWhole_X10_pieces : GoodIn wsX10_isWhole wsX10_pieces := goodIn_r _ [20, 21, 1, 22, 23, 5, 24, 25, 26, 27, 28, 29, 30, 31, 32, 33, 34, 35, 36, 37, 38, 39, 40, 41, 42, 43, 44, 45, 46, 47, 48, 49, 50, 51, 52, 53, 54, 55, 56, 57, 58, 59, 60, 61, 62, 63, 64, 65, 66, 67] rfl (by decide +kernel)
set_option maxRecDepth 20000 in
theorem gX10_isWhole_X10_pieces : GoodIn wsX10_isWhole (wsV RX10 164 RX10 yX10_pieces wsX10_pieces) := goodIn_app (goodIn_r _ [17, 18, 19, 5] rfl (by decide +kernel)) ggX10_isWhole_X10_pieces
theorem dX10_isWhole_18 : decode cX10_isWhole 18 = .ok (.invokevirtual 164, 3) := by decide +kernel
theorem dX10_isWhole_21 : decode cX10_isWhole 21 = .ok (.iconst 1, 1) := by decide +kernel
theorem dX10_isWhole_22 : decode cX10_isWhole 22 = .ok (.if_icmp .ne 16, 3) := by decide +kernel
theorem dX10_isWhole_25 : decode cX10_isWhole 25 = .ok (.aload_n 0, 1) := by decide +kernel
theorem dX10_isWhole_26 : decode cX10_isWhole 26 = .ok (.iconst 0, 1) := by decide +kernel
theorem dX10_isWhole_27 : decode cX10_isWhole 27 = .ok (.invokevirtual 164, 3) := by decide +kernel
theorem dX10_isWhole_30 : decode cX10_isWhole 30 = .ok (.iconst 1, 1) := by decide +kernel
theorem dX10_isWhole_31 : decode cX10_isWhole 31 = .ok (.if_icmp .ne 7, 3) := by decide +kernel
theorem dX10_isWhole_34 : decode cX10_isWhole 34 = .ok (.iconst 1, 1) := by decide +kernel
theorem dX10_isWhole_35 : decode cX10_isWhole 35 = .ok (.goto 4, 3) := by decide +kernel
set_option maxRecDepth 20000 in
theorem ihX10_isWhole_10 : ∀ w ∈ u_ws RX10 TX10 30, w ∈ wsX10_isWhole := fun _ h => List.mem_cons_of_mem _ (List.mem_append_right _ h)
set_option maxHeartbeats 4000000 in
set_option maxRecDepth 100000 in
theorem t_X10_isWhole (l : Launch) (D : va_G) (cy : Nat → ClassId) (a : Nat → Nat) (sz : Nat) (J : Nat → Int64) (I : Nat → Int32) (R : Nat → Nat → Int32) (RJ : Nat → Nat → Int64)  (hM : MI I R) : Met l yX10_isWhole wsX10_isWhole ({ frames := 5, cells := 0, slots := 0, locals := 116 }) (va_Pc [.ref (a 0)] (PW D cy sz (MW cy a J I R RJ))) (va_Qi (fun r (u : MS) => ∃ (w0 : Nat → Int32), ∃ (b : Bool), (r = bI b ∧ (b = true → ¬ J 0 = 0)) ∧ u = (J, I, (va_up R 11 w0), RJ)) (BW D (va_A (MW cy a J I R RJ) sz) (MWu cy a)) (va_A (MW cy a J I R RJ) sz)) 0 0 (va_A (MW cy a J I R RJ) sz) := by
  refine Met.ofW (cc := cX10_isWhole) (maxL := 1) (ret := (some .boolean)) (by decide) rfl ?_
  intro p e s m args below meth c s₁ B hml hv
  obtain ⟨rfl, rfl, hP, hK, hN, hD0⟩ := hv
  have hx := B.exec
  have hb := B.bytes
  have hr := B.returns
  have hts := atoms_spec (ws := wsX10_isWhole) B.pre
  have hown : s.vm.findClass RX10 = some m.cls := findClass_of_methodNamed B.named
  have hlocks := B.notSynchronized
  have hw0 := hts (.fieldLink RX10 81 "ParquetLayerModel" "floor" "J") (by decide +kernel)
  have hi10 := ihX10_isWhole_10
  have hD := hD0.self (sz := s.heap.size)
  generalize hAe : va_A (MW cy a J I R RJ) s.heap.size = A at hD ⊢
  have hA : ∀ q : Nat, s.heap.size ≤ q → A q := fun q h => by rw [← hAe]; exact Or.inr h
  have hS : va_S A s.heap s.heap [] := va_S.rf
  have hl := lv_entry ([.ref (a 0)]) (n := 1) (Nat.le_of_ble_eq_true rfl)
  rw [lg_entry_eq]
  generalize (lg_sl ([.ref (a 0)]) ++ List.replicate (1 - (lg_sl ([.ref (a 0)])).length) Slot.unset).toArray = ls at hl ⊢
  have hl : lv_has ls 1 [(0, .ref (a 0))] := hl
  have hP : va_P D vwCl (MW cy a J I (va_up R 11 (R 11)) RJ) s.heap := hP
  have hD : va_D A (MW cy a J I (va_up R 11 (R 11)) RJ) := hD
  refine lv_aload_n hx hb dX10_isWhole_0 rfl (lv_at hl 0 rfl) ?_
  refine va_get (D := D) (ci := 9) (v := .long (J 0)) (C := RX10) (T := TX10) (N := 30) hx hb hts hi10 hown hK hP 0 rfl rfl 0 (by decide) hw0 (fun _ h9 => h9) rfl dX10_isWhole_1 ?_
  refine lv_lconst (v := 0) hx hb dX10_isWhole_4 (by decide) ?_
  refine W.lcmp hx hb dX10_isWhole_5 ?_
  refine lv_if_eq (tgt := 38) hx hb dX10_isWhole_6 (by decide) (fun c_1 => ?_) (fun c_1 => ?_)
  · replace c_1 := (lg_cmp_eq _ _).mp c_1
    refine lv_iconst (v := 0) hx hb dX10_isWhole_38 (by decide) ?_
    exact wret_z hx hb hr hlocks rfl (J, I, (va_up R 11 (R 11)), RJ) ⟨(R 11), false, ⟨rfl, (fun z => absurd z (by decide))⟩, rfl⟩ hP hD hS dX10_isWhole_39
  · replace c_1 := fun z => c_1 ((lg_cmp_eq _ _).mpr z)
    refine lv_aload_n hx hb dX10_isWhole_9 rfl (lv_at hl 0 rfl) ?_
    refine kM_i (As := []) (rest := []) (q0 := 0) ⟨hx, hb, hml, hown, hts⟩ (t_X10_gluedMany l D cy a _ J I (va_up R 11 (R 11)) RJ   ⟨hM.1, hM.2.1, hM.2.2.1, hM.2.2.2.1, hM.2.2.2.2.1, hM.2.2.2.2.2⟩) (cwV 0 hts gX10_isWhole_X10_gluedMany rfl rfl rfl (by decide +kernel) ⟨Nat.le_of_ble_eq_true rfl, Nat.le_of_ble_eq_true rfl⟩) hK hN hP hD hS hA rfl rfl rfl hl.1 rfl (Nat.le_of_ble_eq_true rfl) dX10_isWhole_10 ⟨Nat.le_of_ble_eq_true rfl, Nat.le_of_ble_eq_true rfl⟩ (fun r_2 u H locs hw hP hD hS => ?_)
    obtain ⟨-, rfl⟩ := hw
    have hP : va_P D vwCl (MW cy a J I (va_up R 11 (R 11)) RJ) H := hP
    have hD : va_D A (MW cy a J I (va_up R 11 (R 11)) RJ) := hD
    refine lv_if_ne (tgt := 38) hx hb dX10_isWhole_13 (by decide) (fun c_3 => ?_) (fun c_3 => ?_)
    · refine lv_iconst (v := 0) hx hb dX10_isWhole_38 (by decide) ?_
      exact wret_z hx hb hr hlocks rfl (J, I, (va_up R 11 (R 11)), RJ) ⟨(R 11), false, ⟨rfl, (fun z => absurd z (by decide))⟩, rfl⟩ hP hD hS dX10_isWhole_39
    · refine lv_aload_n hx hb dX10_isWhole_16 rfl (lv_at hl 0 rfl) ?_
      refine lv_iconst (v := 1) hx hb dX10_isWhole_17 (by decide) ?_
      refine kM_i (As := [.int 1]) (rest := []) (q0 := 0) ⟨hx, hb, hml, hown, hts⟩ (t_X10_pieces l D cy a _ J I (va_up R 11 (R 11)) RJ true  ) (cwV 1 hts gX10_isWhole_X10_pieces rfl rfl rfl (by decide +kernel) ⟨Nat.le_of_ble_eq_true rfl, Nat.le_of_ble_eq_true rfl⟩) hK hN hP hD hS hA rfl rfl rfl hl.1 rfl (Nat.le_of_ble_eq_true rfl) dX10_isWhole_18 ⟨Nat.le_of_ble_eq_true rfl, Nat.le_of_ble_eq_true rfl⟩ (fun r_4 u H locs hw hP hD hS => ?_)
      obtain ⟨w_5, -, rfl⟩ := hw
      have hP : va_P D vwCl (MW cy a J I (va_up R 11 w_5) RJ) H := hP
      have hD : va_D A (MW cy a J I (va_up R 11 w_5) RJ) := hD
      refine lv_iconst (v := 1) hx hb dX10_isWhole_21 (by decide) ?_
      refine lv_icmp_ne (tgt := 38) hx hb dX10_isWhole_22 (by decide) (fun c_6 => ?_) (fun c_6 => ?_)
      · refine lv_iconst (v := 0) hx hb dX10_isWhole_38 (by decide) ?_
        exact wret_z hx hb hr hlocks rfl (J, I, (va_up R 11 w_5), RJ) ⟨w_5, false, ⟨rfl, (fun z => absurd z (by decide))⟩, rfl⟩ hP hD hS dX10_isWhole_39
      · refine lv_aload_n hx hb dX10_isWhole_25 rfl (lv_at hl 0 rfl) ?_
        refine lv_iconst (v := 0) hx hb dX10_isWhole_26 (by decide) ?_
        refine kM_i (As := [.int 0]) (rest := []) (q0 := 0) ⟨hx, hb, hml, hown, hts⟩ (t_X10_pieces l D cy a _ J I (va_up R 11 w_5) RJ false  ) (cwV 1 hts gX10_isWhole_X10_pieces rfl rfl rfl (by decide +kernel) ⟨Nat.le_of_ble_eq_true rfl, Nat.le_of_ble_eq_true rfl⟩) hK hN hP hD hS hA rfl rfl rfl hl.1 rfl (Nat.le_of_ble_eq_true rfl) dX10_isWhole_27 ⟨Nat.le_of_ble_eq_true rfl, Nat.le_of_ble_eq_true rfl⟩ (fun r_7 u H locs hw hP hD hS => ?_)
        obtain ⟨w_8, -, rfl⟩ := hw
        have hP : va_P D vwCl (MW cy a J I (va_up R 11 w_8) RJ) H := hP
        have hD : va_D A (MW cy a J I (va_up R 11 w_8) RJ) := hD
        refine lv_iconst (v := 1) hx hb dX10_isWhole_30 (by decide) ?_
        refine lv_icmp_ne (tgt := 38) hx hb dX10_isWhole_31 (by decide) (fun c_9 => ?_) (fun c_9 => ?_)
        · refine lv_iconst (v := 0) hx hb dX10_isWhole_38 (by decide) ?_
          exact wret_z hx hb hr hlocks rfl (J, I, (va_up R 11 w_8), RJ) ⟨w_8, false, ⟨rfl, (fun z => absurd z (by decide))⟩, rfl⟩ hP hD hS dX10_isWhole_39
        · refine lv_iconst (v := 1) hx hb dX10_isWhole_34 (by decide) ?_
          refine lv_goto (tgt := 39) hx hb dX10_isWhole_35 (by decide) ?_
          exact wret_z hx hb hr hlocks rfl (J, I, (va_up R 11 w_8), RJ) ⟨w_8, true, ⟨rfl, (fun _ => c_1)⟩, rfl⟩ hP hD hS dX10_isWhole_39
theorem dX10_floor_20 : decode cX10_floor 20 = .ok (.iload_n 3, 1) := by decide +kernel
theorem dX10_floor_21 : decode cX10_floor 21 = .ok (.bipush 64, 2) := by decide +kernel
theorem dX10_floor_23 : decode cX10_floor 23 = .ok (.if_icmp .ge 42, 3) := by decide +kernel
theorem dX10_floor_65 : decode cX10_floor 65 = .ok (.iload_n 1, 1) := by decide +kernel
theorem dX10_floor_66 : decode cX10_floor 66 = .ok (.ifCond .ne 13, 3) := by decide +kernel
theorem dX10_floor_79 : decode cX10_floor 79 = .ok (.iload_n 1, 1) := by decide +kernel
theorem dX10_floor_80 : decode cX10_floor 80 = .ok (.iconst 1, 1) := by decide +kernel
theorem dX10_floor_81 : decode cX10_floor 81 = .ok (.if_icmp .ne 7, 3) := by decide +kernel
theorem dX10_floor_88 : decode cX10_floor 88 = .ok (.iload_n 1, 1) := by decide +kernel
theorem dX10_floor_89 : decode cX10_floor 89 = .ok (.iconst 2, 1) := by decide +kernel
theorem dX10_floor_90 : decode cX10_floor 90 = .ok (.if_icmp .ne 11, 3) := by decide +kernel
theorem dX10_floor_101 : decode cX10_floor 101 = .ok (.aload_n 0, 1) := by decide +kernel
set_option maxRecDepth 20000 in
theorem ggX10_floor_X10_isWhole : GoodIn wsX10_floor wsX10_isWhole := goodIn_r _ [39, 2, 40, 41, 42, 5, 43, 44, 45, 46, 47, 48, 49, 50, 51, 52, 53, 21, 22, 23, 24, 25, 26, 27, 28, 29, 30, 31, 3, 4, 6, 12, 13, 14, 32, 33, 34, 35, 54, 55, 56, 57, 58, 59, 60, 61, 62, 63, 64, 65, 66, 67, 68, 69, 70, 71, 72, 73, 74, 75, 76, 77, 78, 79, 80, 81, 82, 83] rfl (by decide +kernel)
set_option maxRecDepth 20000 in
theorem gX10_floor_X10_isWhole : GoodIn wsX10_floor (wsV RX10 172 RX10 yX10_isWhole wsX10_isWhole) := goodIn_app (goodIn_r _ [36, 37, 38, 5] rfl (by decide +kernel)) ggX10_floor_X10_isWhole
theorem dX10_floor_102 : decode cX10_floor 102 = .ok (.invokevirtual 172, 3) := by decide +kernel
theorem dX10_floor_105 : decode cX10_floor 105 = .ok (.ifCond .eq 7, 3) := by decide +kernel
theorem dX10_floor_112 : decode cX10_floor 112 = .ok (.iconst 0, 1) := by decide +kernel
theorem dX10_floor_113 : decode cX10_floor 113 = .ok (.ireturn, 1) := by decide +kernel
theorem dX10_floor_108 : decode cX10_floor 108 = .ok (.iconst 1, 1) := by decide +kernel
theorem dX10_floor_109 : decode cX10_floor 109 = .ok (.goto 4, 3) := by decide +kernel
theorem dX10_floor_93 : decode cX10_floor 93 = .ok (.aload_n 0, 1) := by decide +kernel
theorem dX10_floor_94 : decode cX10_floor 94 = .ok (.iconst 1, 1) := by decide +kernel
set_option maxRecDepth 20000 in
theorem ggX10_floor_X10_pieces : GoodIn wsX10_floor wsX10_pieces := goodIn_r _ [24, 25, 2, 26, 27, 5, 28, 29, 30, 31, 3, 4, 6, 12, 13, 14, 32, 33, 34, 35, 54, 55, 56, 57, 58, 59, 60, 61, 62, 63, 64, 65, 66, 67, 68, 69, 70, 71, 72, 73, 74, 75, 76, 77, 78, 79, 80, 81, 82, 83] rfl (by decide +kernel)
set_option maxRecDepth 20000 in
theorem gX10_floor_X10_pieces : GoodIn wsX10_floor (wsV RX10 164 RX10 yX10_pieces wsX10_pieces) := goodIn_app (goodIn_r _ [21, 22, 23, 5] rfl (by decide +kernel)) ggX10_floor_X10_pieces
theorem dX10_floor_95 : decode cX10_floor 95 = .ok (.invokevirtual 164, 3) := by decide +kernel
theorem dX10_floor_98 : decode cX10_floor 98 = .ok (.goto 15, 3) := by decide +kernel
theorem dX10_floor_84 : decode cX10_floor 84 = .ok (.iload_n 2, 1) := by decide +kernel
theorem dX10_floor_85 : decode cX10_floor 85 = .ok (.goto 28, 3) := by decide +kernel
theorem dX10_floor_69 : decode cX10_floor 69 = .ok (.aload_n 0, 1) := by decide +kernel
theorem dX10_floor_70 : decode cX10_floor 70 = .ok (.getfield 81, 3) := by decide +kernel
set_option maxRecDepth 20000 in
theorem ggX10_floor_X10_many : GoodIn wsX10_floor wsX10_many := goodIn_r _ [20, 12, 13, 5, 14] rfl (by decide +kernel)
set_option maxRecDepth 20000 in
theorem gX10_floor_X10_many : GoodIn wsX10_floor (va_wsS RX10 137 yX10_many wsX10_many) := goodIn_app (goodIn_r _ [18, 19, 5] rfl (by decide +kernel)) ggX10_floor_X10_many
theorem dX10_floor_73 : decode cX10_floor 73 = .ok (.invokestatic 137, 3) := by decide +kernel
theorem dX10_floor_76 : decode cX10_floor 76 = .ok (.goto 37, 3) := by decide +kernel
theorem dX10_floor_26 : decode cX10_floor 26 = .ok (.iload_n 2, 1) := by decide +kernel
theorem dX10_floor_27 : decode cX10_floor 27 = .ok (.aload_n 0, 1) := by decide +kernel
theorem dX10_floor_28 : decode cX10_floor 28 = .ok (.getfield 81, 3) := by decide +kernel
theorem dX10_floor_31 : decode cX10_floor 31 = .ok (.iload_n 3, 1) := by decide +kernel
set_option maxRecDepth 20000 in
theorem ggX10_floor_X10_hasBit : GoodIn wsX10_floor wsX10_hasBit := goodIn_r _ [14] rfl (by decide +kernel)
set_option maxRecDepth 20000 in
theorem gX10_floor_X10_hasBit : GoodIn wsX10_floor (va_wsS RX10 74 yX10_hasBit wsX10_hasBit) := goodIn_app (goodIn_r _ [12, 13, 5] rfl (by decide +kernel)) ggX10_floor_X10_hasBit
theorem dX10_floor_32 : decode cX10_floor 32 = .ok (.invokestatic 74, 3) := by decide +kernel
theorem dX10_floor_35 : decode cX10_floor 35 = .ok (.ifCond .eq 21, 3) := by decide +kernel
theorem dX10_floor_56 : decode cX10_floor 56 = .ok (.iconst 0, 1) := by decide +kernel
theorem dX10_floor_57 : decode cX10_floor 57 = .ok (.iadd, 1) := by decide +kernel
theorem dX10_floor_58 : decode cX10_floor 58 = .ok (.istore_n 2, 1) := by decide +kernel
theorem dX10_floor_59 : decode cX10_floor 59 = .ok (.iinc 3 1, 3) := by decide +kernel
theorem dX10_floor_62 : decode cX10_floor 62 = .ok (.goto (-42), 3) := by decide +kernel
theorem dX10_floor_38 : decode cX10_floor 38 = .ok (.iload_n 3, 1) := by decide +kernel
theorem dX10_floor_39 : decode cX10_floor 39 = .ok (.bipush 8, 2) := by decide +kernel
theorem dX10_floor_41 : decode cX10_floor 41 = .ok (.irem, 1) := by decide +kernel
theorem dX10_floor_42 : decode cX10_floor 42 = .ok (.iload_n 3, 1) := by decide +kernel
theorem dX10_floor_43 : decode cX10_floor 43 = .ok (.bipush 8, 2) := by decide +kernel
theorem dX10_floor_45 : decode cX10_floor 45 = .ok (.idiv, 1) := by decide +kernel
set_option maxRecDepth 20000 in
theorem ggX10_floor_X10_isDark : GoodIn wsX10_floor wsX10_isDark := goodIn_r _ [17] rfl (by decide +kernel)
set_option maxRecDepth 20000 in
theorem gX10_floor_X10_isDark : GoodIn wsX10_floor (va_wsS RX10 168 yX10_isDark wsX10_isDark) := goodIn_app (goodIn_r _ [15, 16, 5] rfl (by decide +kernel)) ggX10_floor_X10_isDark
theorem dX10_floor_46 : decode cX10_floor 46 = .ok (.invokestatic 168, 3) := by decide +kernel
theorem dX10_floor_49 : decode cX10_floor 49 = .ok (.ifCond .eq 7, 3) := by decide +kernel
theorem dX10_floor_52 : decode cX10_floor 52 = .ok (.iconst 1, 1) := by decide +kernel
theorem dX10_floor_53 : decode cX10_floor 53 = .ok (.goto 4, 3) := by decide +kernel
theorem dX10_floor_0 : decode cX10_floor 0 = .ok (.iload_n 1, 1) := by decide +kernel
theorem dX10_floor_1 : decode cX10_floor 1 = .ok (.iconst 0, 1) := by decide +kernel
theorem dX10_floor_2 : decode cX10_floor 2 = .ok (.iconst 3, 1) := by decide +kernel
set_option maxRecDepth 20000 in
theorem ggX10_floor_X10_within : GoodIn wsX10_floor wsX10_within := goodIn_r _ [6] rfl (by decide +kernel)
set_option maxRecDepth 20000 in
theorem gX10_floor_X10_within : GoodIn wsX10_floor (va_wsS RX10 70 yX10_within wsX10_within) := goodIn_app (goodIn_r _ [3, 4, 5] rfl (by decide +kernel)) ggX10_floor_X10_within
theorem dX10_floor_3 : decode cX10_floor 3 = .ok (.invokestatic 70, 3) := by decide +kernel
theorem dX10_floor_6 : decode cX10_floor 6 = .ok (.ifCond .ne 10, 3) := by decide +kernel
theorem dX10_floor_16 : decode cX10_floor 16 = .ok (.iconst 0, 1) := by decide +kernel
theorem dX10_floor_17 : decode cX10_floor 17 = .ok (.istore_n 2, 1) := by decide +kernel
theorem dX10_floor_18 : decode cX10_floor 18 = .ok (.iconst 0, 1) := by decide +kernel
theorem dX10_floor_19 : decode cX10_floor 19 = .ok (.istore_n 3, 1) := by decide +kernel
theorem dX10_floor_9 : decode cX10_floor 9 = .ok (.aload_n 0, 1) := by decide +kernel
theorem dX10_floor_10 : decode cX10_floor 10 = .ok (.ldc 141, 2) := by decide +kernel
set_option maxRecDepth 20000 in
theorem ggX10_floor_X10_finding : GoodIn wsX10_floor wsX10_finding := goodIn_r _ [10, 11, 54, 55, 56, 57, 58, 59, 60, 61, 62, 63, 64, 65, 66, 67, 68, 69, 70, 71, 72, 73, 74, 75, 76, 77, 78, 79, 80, 81, 82, 83] rfl (by decide +kernel)
set_option maxRecDepth 20000 in
theorem gX10_floor_X10_finding : GoodIn wsX10_floor (wsV RX10 99 RX10 yX10_finding wsX10_finding) := goodIn_app (goodIn_r _ [7, 8, 9, 5] rfl (by decide +kernel)) ggX10_floor_X10_finding
theorem dX10_floor_12 : decode cX10_floor 12 = .ok (.invokevirtual 99, 3) := by decide +kernel
theorem dX10_floor_15 : decode cX10_floor 15 = .ok (.ireturn, 1) := by decide +kernel
set_option maxRecDepth 20000 in
theorem ihX10_floor_10 : ∀ w ∈ u_ws RX10 TX10 30, w ∈ wsX10_floor := fun _ h => List.mem_cons_of_mem _ (List.mem_append_right _ h)
set_option maxHeartbeats 4000000 in
set_option maxRecDepth 100000 in
theorem t_X10_floor (l : Launch) (D : va_G) (cy : Nat → ClassId) (a : Nat → Nat) (sz : Nat) (J : Nat → Int64) (I : Nat → Int32) (R : Nat → Nat → Int32) (RJ : Nat → Nat → Int64) (x0 : Int32) (hM : MI I R) : Met l yX10_floor wsX10_floor ({ frames := 6, cells := 0, slots := 0, locals := 136 }) (va_Pc [.ref (a 0), .int x0] (PW D cy sz (MW cy a J I R RJ))) (va_Qi (fun r (u : MS) => ∃ (w0 : Int32), ∃ (w1 : Nat → Int32), (True) ∧ u = (J, (va_up I 13 w0), (va_up R 11 w1), RJ)) (BW D (va_A (MW cy a J I R RJ) sz) (MWu cy a)) (va_A (MW cy a J I R RJ) sz)) 0 0 (va_A (MW cy a J I R RJ) sz) := by
  refine Met.ofW (cc := cX10_floor) (maxL := 4) (ret := (some .int)) (by decide) rfl ?_
  intro p e s m args below meth c s₁ B hml hv
  obtain ⟨rfl, rfl, hP, hK, hN, hD0⟩ := hv
  have hx := B.exec
  have hb := B.bytes
  have hr := B.returns
  have hts := atoms_spec (ws := wsX10_floor) B.pre
  have hown : s.vm.findClass RX10 = some m.cls := findClass_of_methodNamed B.named
  have hlocks := B.notSynchronized
  have hw0 := hts (.fieldLink RX10 81 "ParquetLayerModel" "floor" "J") (by decide +kernel)
  have hw1 := hts (.constant RX10 141 (-100001)) (by decide +kernel)
  have hi10 := ihX10_floor_10
  have hD := hD0.self (sz := s.heap.size)
  generalize hAe : va_A (MW cy a J I R RJ) s.heap.size = A at hD ⊢
  have hA : ∀ q : Nat, s.heap.size ≤ q → A q := fun q h => by rw [← hAe]; exact Or.inr h
  have hS : va_S A s.heap s.heap [] := va_S.rf
  have hl := lv_entry ([.ref (a 0), .int x0]) (n := 4) (Nat.le_of_ble_eq_true rfl)
  rw [lg_entry_eq]
  generalize (lg_sl ([.ref (a 0), .int x0]) ++ List.replicate (4 - (lg_sl ([.ref (a 0), .int x0])).length) Slot.unset).toArray = ls at hl ⊢
  have hl : lv_has ls 4 [(0, .ref (a 0)), (1, .int x0)] := hl
  have hP : va_P D vwCl (MW cy a J (va_up I 13 (I 13)) (va_up R 11 (R 11)) RJ) s.heap := hP
  have hD : va_D A (MW cy a J (va_up I 13 (I 13)) (va_up R 11 (R 11)) RJ) := hD
  have lp20 : ∀ (n20 : Nat), ∀ (i : Nat) (v2_20 : Int32) (m0_20 : Int32) (m1_20 : Nat → Int32), (i ≤ 64) → (64 - i) < n20 → ∀ (H : Heap) (locs : List Loc), va_P D vwCl (MW cy a J (va_up I 13 m0_20) (va_up R 11 m1_20) RJ) H → va_D A (MW cy a J (va_up I 13 m0_20) (va_up R 11 m1_20) RJ) → va_S A s.heap H locs → ∀ (ls : Array Slot), lv_has ls 4 [(0, .ref (a 0)), (1, .int x0), (2, .int v2_20), (3, .int (nI i))] → W p l e (headSpec wsX10_floor ({ frames := 6, cells := 0, slots := 0, locals := 136 })).room s m ([.ref (a 0), .int x0] : List Value).toArray below meth c H locs 0 0 (MQ below (va_Qi (fun r (u : MS) => ∃ (w0 : Int32), ∃ (w1 : Nat → Int32), (True) ∧ u = (J, (va_up I 13 w0), (va_up R 11 w1), RJ)) (BW D A (MWu cy a)) A) ([.ref (a 0), .int x0] : List Value).toArray s 0 0 A) (F0 m 20 ls []) := by
    intro n20
    induction n20 with
    | zero => intro i v2_20 m0_20 m1_20 hi hn; exact absurd hn (Nat.not_lt_zero _)
    | succ n20 ih20 =>
      intro i v2_20 m0_20 m1_20 hi hn20 H locs hP hD hS ls hl
      refine lv_iload_n hx hb dX10_floor_20 rfl (lv_at hl 3 rfl) ?_
      refine lv_bipush (v := 64) hx hb dX10_floor_21 (by decide) ?_
      refine lv_icmp_ge (tgt := 65) hx hb dX10_floor_23 (by decide) (fun c_1 => ?_) (fun c_1 => ?_)
      · refine lv_iload_n hx hb dX10_floor_65 rfl (lv_at hl 1 rfl) ?_
        refine lv_if_ne (tgt := 79) hx hb dX10_floor_66 (by decide) (fun c_2 => ?_) (fun c_2 => ?_)
        · refine lv_iload_n hx hb dX10_floor_79 rfl (lv_at hl 1 rfl) ?_
          refine lv_iconst (v := 1) hx hb dX10_floor_80 (by decide) ?_
          refine lv_icmp_ne (tgt := 88) hx hb dX10_floor_81 (by decide) (fun c_3 => ?_) (fun c_3 => ?_)
          · refine lv_iload_n hx hb dX10_floor_88 rfl (lv_at hl 1 rfl) ?_
            refine lv_iconst (v := 2) hx hb dX10_floor_89 (by decide) ?_
            refine lv_icmp_ne (tgt := 101) hx hb dX10_floor_90 (by decide) (fun c_4 => ?_) (fun c_4 => ?_)
            · refine lv_aload_n hx hb dX10_floor_101 rfl (lv_at hl 0 rfl) ?_
              refine kM_i (As := []) (rest := []) (q0 := 0) ⟨hx, hb, hml, hown, hts⟩ (t_X10_isWhole l D cy a _ J (va_up I 13 m0_20) (va_up R 11 m1_20) RJ   ⟨hM.1, hM.2.1, hM.2.2.1, hM.2.2.2.1, hM.2.2.2.2.1, hM.2.2.2.2.2⟩) (cwV 0 hts gX10_floor_X10_isWhole rfl rfl rfl (by decide +kernel) ⟨Nat.le_of_ble_eq_true rfl, Nat.le_of_ble_eq_true rfl⟩) hK hN hP hD hS hA rfl rfl rfl hl.1 rfl (Nat.le_of_ble_eq_true rfl) dX10_floor_102 ⟨Nat.le_of_ble_eq_true rfl, Nat.le_of_ble_eq_true rfl⟩ (fun r_5 u H locs hw hP hD hS => ?_)
              obtain ⟨w_6, zb_7, ⟨rfl, hp_8⟩, rfl⟩ := hw
              have hP : va_P D vwCl (MW cy a J (va_up I 13 m0_20) (va_up R 11 w_6) RJ) H := hP
              have hD : va_D A (MW cy a J (va_up I 13 m0_20) (va_up R 11 w_6) RJ) := hD
              refine lv_if_eq (tgt := 112) hx hb dX10_floor_105 (by decide) (fun c_9 => ?_) (fun c_9 => ?_)
              · replace c_9 := bI_f c_9
                refine lv_iconst (v := 0) hx hb dX10_floor_112 (by decide) ?_
                exact wret_i hx hb hr hlocks (J, (va_up I 13 m0_20), (va_up R 11 w_6), RJ) ⟨m0_20, w_6, trivial, rfl⟩ hP hD hS dX10_floor_113
              · replace c_9 := bI_t c_9
                refine lv_iconst (v := 1) hx hb dX10_floor_108 (by decide) ?_
                refine lv_goto (tgt := 113) hx hb dX10_floor_109 (by decide) ?_
                exact wret_i hx hb hr hlocks (J, (va_up I 13 m0_20), (va_up R 11 w_6), RJ) ⟨m0_20, w_6, trivial, rfl⟩ hP hD hS dX10_floor_113
            · refine lv_aload_n hx hb dX10_floor_93 rfl (lv_at hl 0 rfl) ?_
              refine lv_iconst (v := 1) hx hb dX10_floor_94 (by decide) ?_
              refine kM_i (As := [.int 1]) (rest := []) (q0 := 0) ⟨hx, hb, hml, hown, hts⟩ (t_X10_pieces l D cy a _ J (va_up I 13 m0_20) (va_up R 11 m1_20) RJ true  ) (cwV 1 hts gX10_floor_X10_pieces rfl rfl rfl (by decide +kernel) ⟨Nat.le_of_ble_eq_true rfl, Nat.le_of_ble_eq_true rfl⟩) hK hN hP hD hS hA rfl rfl rfl hl.1 rfl (Nat.le_of_ble_eq_true rfl) dX10_floor_95 ⟨Nat.le_of_ble_eq_true rfl, Nat.le_of_ble_eq_true rfl⟩ (fun r_10 u H locs hw hP hD hS => ?_)
              obtain ⟨w_11, -, rfl⟩ := hw
              have hP : va_P D vwCl (MW cy a J (va_up I 13 m0_20) (va_up R 11 w_11) RJ) H := hP
              have hD : va_D A (MW cy a J (va_up I 13 m0_20) (va_up R 11 w_11) RJ) := hD
              refine lv_goto (tgt := 113) hx hb dX10_floor_98 (by decide) ?_
              exact wret_i hx hb hr hlocks (J, (va_up I 13 m0_20), (va_up R 11 w_11), RJ) ⟨m0_20, w_11, trivial, rfl⟩ hP hD hS dX10_floor_113
          · refine lv_iload_n hx hb dX10_floor_84 rfl (lv_at hl 2 rfl) ?_
            refine lv_goto (tgt := 113) hx hb dX10_floor_85 (by decide) ?_
            exact wret_i hx hb hr hlocks (J, (va_up I 13 m0_20), (va_up R 11 m1_20), RJ) ⟨m0_20, m1_20, trivial, rfl⟩ hP hD hS dX10_floor_113
        · refine lv_aload_n hx hb dX10_floor_69 rfl (lv_at hl 0 rfl) ?_
          refine va_get (D := D) (ci := 9) (v := .long (J 0)) (C := RX10) (T := TX10) (N := 30) hx hb hts hi10 hown hK hP 0 rfl rfl 0 (by decide) hw0 (fun _ h9 => h9) rfl dX10_floor_70 ?_
          refine kS_i (As := [.long (J 0)]) (rest := []) ⟨hx, hb, hml, hown, hts⟩ (c_X10_many l (J 0)) (va_cwS 1 hts gX10_floor_X10_many rfl rfl rfl (by decide +kernel) ⟨Nat.le_of_ble_eq_true rfl, Nat.le_of_ble_eq_true rfl⟩) rfl hl.1 rfl (Nat.le_of_ble_eq_true rfl) dX10_floor_73 ⟨Nat.le_of_ble_eq_true rfl, Nat.le_of_ble_eq_true rfl⟩ ?_
          refine lv_goto (tgt := 113) hx hb dX10_floor_76 (by decide) ?_
          exact wret_i hx hb hr hlocks (J, (va_up I 13 m0_20), (va_up R 11 m1_20), RJ) ⟨m0_20, m1_20, trivial, rfl⟩ hP hD hS dX10_floor_113
      · have hlt_i := ctr_lt (N := 64) (by decide) hi c_1
        refine lv_iload_n hx hb dX10_floor_26 rfl (lv_at hl 2 rfl) ?_
        refine lv_aload_n hx hb dX10_floor_27 rfl (lv_at hl 0 rfl) ?_
        refine va_get (D := D) (ci := 9) (v := .long (J 0)) (C := RX10) (T := TX10) (N := 30) hx hb hts hi10 hown hK hP 0 rfl rfl 0 (by decide) hw0 (fun _ h9 => h9) rfl dX10_floor_28 ?_
        refine lv_iload_n hx hb dX10_floor_31 rfl (lv_at hl 3 rfl) ?_
        refine kS_i (As := [.long (J 0), .int (nI i)]) (rest := [.int v2_20]) ⟨hx, hb, hml, hown, hts⟩ (c_X10_hasBit l (J 0) (nI i)) (va_cwS 2 hts gX10_floor_X10_hasBit rfl rfl rfl (by decide +kernel) ⟨Nat.le_of_ble_eq_true rfl, Nat.le_of_ble_eq_true rfl⟩) rfl hl.1 rfl (Nat.le_of_ble_eq_true rfl) dX10_floor_32 ⟨Nat.le_of_ble_eq_true rfl, Nat.le_of_ble_eq_true rfl⟩ ?_
        refine lv_if_eq (tgt := 56) hx hb dX10_floor_35 (by decide) (fun c_12 => ?_) (fun c_12 => ?_)
        · replace c_12 := bI_f c_12
          refine lv_iconst (v := 0) hx hb dX10_floor_56 (by decide) ?_
          refine lv_iadd hx hb dX10_floor_57 ?_
          refine lv_istore_n (lv' := [(2, .int (v2_20 + 0)), (0, .ref (a 0)), (1, .int x0), (3, .int (nI i))]) hx hb dX10_floor_58 rfl hl (by decide) rfl (fun ls hl => ?_)
          refine lv_iinc (v := nI (i + 1)) (lv' := [(3, .int (nI (i + 1))), (2, .int (v2_20 + 0)), (0, .ref (a 0)), (1, .int x0)]) hx hb dX10_floor_59 hl (k := 3) rfl (nI_1 _) (by decide) rfl (fun ls hl => ?_)
          refine lv_goto (tgt := 20) hx hb dX10_floor_62 (by decide) ?_
          exact ih20 (i + 1) (v2_20 + 0) m0_20 m1_20 (by omega) (by omega) _ _ hP hD hS ls (lv_sub hl [2, 3, 1, 0] rfl)
        · replace c_12 := bI_t c_12
          refine lv_iload_n hx hb dX10_floor_38 rfl (lv_at hl 3 rfl) ?_
          refine lv_bipush (v := 8) hx hb dX10_floor_39 (by decide) ?_
          refine lv_irem hx hb dX10_floor_41 (by decide) ?_
          refine lv_iload_n hx hb dX10_floor_42 rfl (lv_at hl 3 rfl) ?_
          refine lv_bipush (v := 8) hx hb dX10_floor_43 (by decide) ?_
          refine lv_idiv hx hb dX10_floor_45 (by decide) ?_
          refine kS_i (As := [.int ((nI i) - (nI i) / 8 * 8), .int ((nI i) / 8)]) (rest := [.int v2_20]) ⟨hx, hb, hml, hown, hts⟩ (c_X10_isDark l ((nI i) - (nI i) / 8 * 8) ((nI i) / 8)) (va_cwS 2 hts gX10_floor_X10_isDark rfl rfl rfl (by decide +kernel) ⟨Nat.le_of_ble_eq_true rfl, Nat.le_of_ble_eq_true rfl⟩) rfl hl.1 rfl (Nat.le_of_ble_eq_true rfl) dX10_floor_46 ⟨Nat.le_of_ble_eq_true rfl, Nat.le_of_ble_eq_true rfl⟩ ?_
          refine lv_if_eq (tgt := 56) hx hb dX10_floor_49 (by decide) (fun c_13 => ?_) (fun c_13 => ?_)
          · replace c_13 := bI_f c_13
            refine lv_iconst (v := 0) hx hb dX10_floor_56 (by decide) ?_
            refine lv_iadd hx hb dX10_floor_57 ?_
            refine lv_istore_n (lv' := [(2, .int (v2_20 + 0)), (0, .ref (a 0)), (1, .int x0), (3, .int (nI i))]) hx hb dX10_floor_58 rfl hl (by decide) rfl (fun ls hl => ?_)
            refine lv_iinc (v := nI (i + 1)) (lv' := [(3, .int (nI (i + 1))), (2, .int (v2_20 + 0)), (0, .ref (a 0)), (1, .int x0)]) hx hb dX10_floor_59 hl (k := 3) rfl (nI_1 _) (by decide) rfl (fun ls hl => ?_)
            refine lv_goto (tgt := 20) hx hb dX10_floor_62 (by decide) ?_
            exact ih20 (i + 1) (v2_20 + 0) m0_20 m1_20 (by omega) (by omega) _ _ hP hD hS ls (lv_sub hl [2, 3, 1, 0] rfl)
          · replace c_13 := bI_t c_13
            refine lv_iconst (v := 1) hx hb dX10_floor_52 (by decide) ?_
            refine lv_goto (tgt := 57) hx hb dX10_floor_53 (by decide) ?_
            refine lv_iadd hx hb dX10_floor_57 ?_
            refine lv_istore_n (lv' := [(2, .int (v2_20 + 1)), (0, .ref (a 0)), (1, .int x0), (3, .int (nI i))]) hx hb dX10_floor_58 rfl hl (by decide) rfl (fun ls hl => ?_)
            refine lv_iinc (v := nI (i + 1)) (lv' := [(3, .int (nI (i + 1))), (2, .int (v2_20 + 1)), (0, .ref (a 0)), (1, .int x0)]) hx hb dX10_floor_59 hl (k := 3) rfl (nI_1 _) (by decide) rfl (fun ls hl => ?_)
            refine lv_goto (tgt := 20) hx hb dX10_floor_62 (by decide) ?_
            exact ih20 (i + 1) (v2_20 + 1) m0_20 m1_20 (by omega) (by omega) _ _ hP hD hS ls (lv_sub hl [2, 3, 1, 0] rfl)
  refine lv_iload_n hx hb dX10_floor_0 rfl (lv_at hl 1 rfl) ?_
  refine lv_iconst (v := 0) hx hb dX10_floor_1 (by decide) ?_
  refine lv_iconst (v := 3) hx hb dX10_floor_2 (by decide) ?_
  refine kS_i (As := [.int x0, .int 0, .int 3]) (rest := []) ⟨hx, hb, hml, hown, hts⟩ (c_X10_within l x0 0 3) (va_cwS 3 hts gX10_floor_X10_within rfl rfl rfl (by decide +kernel) ⟨Nat.le_of_ble_eq_true rfl, Nat.le_of_ble_eq_true rfl⟩) rfl hl.1 rfl (Nat.le_of_ble_eq_true rfl) dX10_floor_3 ⟨Nat.le_of_ble_eq_true rfl, Nat.le_of_ble_eq_true rfl⟩ ?_
  refine lv_if_ne (tgt := 16) hx hb dX10_floor_6 (by decide) (fun c_14 => ?_) (fun c_14 => ?_)
  · replace c_14 := bI_t c_14
    refine lv_iconst (v := 0) hx hb dX10_floor_16 (by decide) ?_
    refine lv_istore_n (lv' := [(2, .int 0), (0, .ref (a 0)), (1, .int x0)]) hx hb dX10_floor_17 rfl hl (by decide) rfl (fun ls hl => ?_)
    refine lv_iconst (v := 0) hx hb dX10_floor_18 (by decide) ?_
    refine lv_istore_n (lv' := [(3, .int 0), (2, .int 0), (0, .ref (a 0)), (1, .int x0)]) hx hb dX10_floor_19 rfl hl (by decide) rfl (fun ls hl => ?_)
    exact lp20 _ 0 (0 : Int32) (I 13) (R 11) (by omega) (Nat.lt_succ_self _) _ _ hP hD hS ls (lv_sub hl [2, 3, 1, 0] rfl)
  · replace c_14 := bI_f c_14
    refine lv_aload_n hx hb dX10_floor_9 rfl (lv_at hl 0 rfl) ?_
    refine lv_ldc (v := (-100001)) hx hb hown hw1 dX10_floor_10 ?_
    refine kM_i (As := [.int (-100001)]) (rest := []) (q0 := 0) ⟨hx, hb, hml, hown, hts⟩ (c_X10_finding l D cy a _ J (va_up I 13 (I 13)) (va_up R 11 (R 11)) RJ (-100001) ) (cwV 1 hts gX10_floor_X10_finding rfl rfl rfl (by decide +kernel) ⟨Nat.le_of_ble_eq_true rfl, Nat.le_of_ble_eq_true rfl⟩) hK hN hP hD hS hA rfl rfl rfl hl.1 rfl (Nat.le_of_ble_eq_true rfl) dX10_floor_12 ⟨Nat.le_of_ble_eq_true rfl, Nat.le_of_ble_eq_true rfl⟩ (fun r_15 u H locs hw hP hD hS => ?_)
    obtain ⟨rfl, rfl⟩ := hw
    have hP : va_P D vwCl (MW cy a J (va_up I 13 ((I 13) + 1)) (va_up R 11 (R 11)) RJ) H := hP
    have hD : va_D A (MW cy a J (va_up I 13 ((I 13) + 1)) (va_up R 11 (R 11)) RJ) := hD
    exact wret_i hx hb hr hlocks (J, (va_up I 13 ((I 13) + 1)), (va_up R 11 (R 11)), RJ) ⟨((I 13) + 1), (R 11), trivial, rfl⟩ hP hD hS dX10_floor_15
theorem dX10_must_0 : decode cX10_must 0 = .ok (.aload_n 0, 1) := by decide +kernel
theorem dX10_must_1 : decode cX10_must 1 = .ok (.dup, 1) := by decide +kernel
theorem dX10_must_2 : decode cX10_must 2 = .ok (.getfield 181, 3) := by decide +kernel
theorem dX10_must_5 : decode cX10_must 5 = .ok (.iload_n 1, 1) := by decide +kernel
theorem dX10_must_6 : decode cX10_must 6 = .ok (.iload_n 2, 1) := by decide +kernel
set_option maxRecDepth 20000 in
theorem ggX10_must_X10_place : GoodIn wsX10_must wsX10_place := goodIn_r _ [7, 8] rfl (by decide +kernel)
set_option maxRecDepth 20000 in
theorem gX10_must_X10_place : GoodIn wsX10_must (va_wsS RX10 122 yX10_place wsX10_place) := goodIn_app (goodIn_r _ [4, 5, 6] rfl (by decide +kernel)) ggX10_must_X10_place
theorem dX10_must_7 : decode cX10_must 7 = .ok (.invokestatic 122, 3) := by decide +kernel
theorem dX10_must_10 : decode cX10_must 10 = .ok (.lor, 1) := by decide +kernel
theorem dX10_must_11 : decode cX10_must 11 = .ok (.putfield 181, 3) := by decide +kernel
theorem dX10_must_14 : decode cX10_must 14 = .ok (.aload_n 0, 1) := by decide +kernel
theorem dX10_must_15 : decode cX10_must 15 = .ok (.dup, 1) := by decide +kernel
theorem dX10_must_16 : decode cX10_must 16 = .ok (.getfield 184, 3) := by decide +kernel
theorem dX10_must_19 : decode cX10_must 19 = .ok (.iload_n 2, 1) := by decide +kernel
theorem dX10_must_20 : decode cX10_must 20 = .ok (.ifCond .eq 7, 3) := by decide +kernel
theorem dX10_must_27 : decode cX10_must 27 = .ok (.lconst 1, 1) := by decide +kernel
theorem dX10_must_28 : decode cX10_must 28 = .ok (.iload_n 1, 1) := by decide +kernel
theorem dX10_must_29 : decode cX10_must 29 = .ok (.lshl, 1) := by decide +kernel
theorem dX10_must_30 : decode cX10_must 30 = .ok (.lor, 1) := by decide +kernel
theorem dX10_must_31 : decode cX10_must 31 = .ok (.putfield 184, 3) := by decide +kernel
theorem dX10_must_34 : decode cX10_must 34 = .ok (.aload_n 0, 1) := by decide +kernel
theorem dX10_must_35 : decode cX10_must 35 = .ok (.dup, 1) := by decide +kernel
theorem dX10_must_36 : decode cX10_must 36 = .ok (.getfield 187, 3) := by decide +kernel
theorem dX10_must_39 : decode cX10_must 39 = .ok (.iload_n 2, 1) := by decide +kernel
theorem dX10_must_40 : decode cX10_must 40 = .ok (.ifCond .eq 9, 3) := by decide +kernel
theorem dX10_must_49 : decode cX10_must 49 = .ok (.lconst 0, 1) := by decide +kernel
theorem dX10_must_50 : decode cX10_must 50 = .ok (.lor, 1) := by decide +kernel
theorem dX10_must_51 : decode cX10_must 51 = .ok (.putfield 187, 3) := by decide +kernel
theorem dX10_must_54 : decode cX10_must 54 = .ok (.return_, 1) := by decide +kernel
theorem dX10_must_43 : decode cX10_must 43 = .ok (.lconst 1, 1) := by decide +kernel
theorem dX10_must_44 : decode cX10_must 44 = .ok (.iload_n 1, 1) := by decide +kernel
theorem dX10_must_45 : decode cX10_must 45 = .ok (.lshl, 1) := by decide +kernel
theorem dX10_must_46 : decode cX10_must 46 = .ok (.goto 4, 3) := by decide +kernel
theorem dX10_must_23 : decode cX10_must 23 = .ok (.lconst 0, 1) := by decide +kernel
theorem dX10_must_24 : decode cX10_must 24 = .ok (.goto 6, 3) := by decide +kernel
set_option maxRecDepth 20000 in
theorem ihX10_must_10 : ∀ w ∈ u_ws RX10 TX10 30, w ∈ wsX10_must := fun _ h => List.mem_cons_of_mem _ (List.mem_append_right _ h)
set_option maxHeartbeats 4000000 in
set_option maxRecDepth 100000 in
theorem t_X10_must (l : Launch) (D : va_G) (cy : Nat → ClassId) (a : Nat → Nat) (sz : Nat) (J : Nat → Int64) (I : Nat → Int32) (R : Nat → Nat → Int32) (RJ : Nat → Nat → Int64) (x0 : Int32) (x1 : Bool) : Met l yX10_must wsX10_must ({ frames := 1, cells := 0, slots := 0, locals := 21 }) (va_Pc [.ref (a 0), .int x0, .int (bI x1)] (PW D cy sz (MW cy a J I R RJ))) (va_Qv (fun (u : MS) => ∃ (w0 : Int64), ∃ (w1 : Int64), ∃ (w2 : Int64), (True) ∧ u = ((va_up (va_up (va_up J 19 w0) 20 w1) 21 w2), I, R, RJ)) (BW D (va_A (MW cy a J I R RJ) sz) (MWu cy a)) (va_A (MW cy a J I R RJ) sz)) 0 0 (va_A (MW cy a J I R RJ) sz) := by
  refine Met.ofW (cc := cX10_must) (maxL := 3) (ret := none) (by decide) rfl ?_
  intro p e s m args below meth c s₁ B hml hv
  obtain ⟨rfl, rfl, hP, hK, hN, hD0⟩ := hv
  have hx := B.exec
  have hb := B.bytes
  have hr := B.returns
  have hts := atoms_spec (ws := wsX10_must) B.pre
  have hown : s.vm.findClass RX10 = some m.cls := findClass_of_methodNamed B.named
  have hlocks := B.notSynchronized
  have hw0 := hts (.fieldLink RX10 181 "ParquetLayerModel" "taken" "J") (by decide +kernel)
  have hw1 := hts (.fieldLink RX10 184 "ParquetLayerModel" "mustAlong" "J") (by decide +kernel)
  have hw2 := hts (.fieldLink RX10 187 "ParquetLayerModel" "mustAcross" "J") (by decide +kernel)
  have hi10 := ihX10_must_10
  have hD := hD0.self (sz := s.heap.size)
  generalize hAe : va_A (MW cy a J I R RJ) s.heap.size = A at hD ⊢
  have hA : ∀ q : Nat, s.heap.size ≤ q → A q := fun q h => by rw [← hAe]; exact Or.inr h
  have hS : va_S A s.heap s.heap [] := va_S.rf
  have hl := lv_entry ([.ref (a 0), .int x0, .int (bI x1)]) (n := 3) (Nat.le_of_ble_eq_true rfl)
  rw [lg_entry_eq]
  generalize (lg_sl ([.ref (a 0), .int x0, .int (bI x1)]) ++ List.replicate (3 - (lg_sl ([.ref (a 0), .int x0, .int (bI x1)])).length) Slot.unset).toArray = ls at hl ⊢
  have hl : lv_has ls 3 [(0, .ref (a 0)), (1, .int x0), (2, .int (bI x1))] := hl
  have hP : va_P D vwCl (MW cy a (va_up (va_up (va_up J 19 (J 19)) 20 (J 20)) 21 (J 21)) I R RJ) s.heap := hP
  have hD : va_D A (MW cy a (va_up (va_up (va_up J 19 (J 19)) 20 (J 20)) 21 (J 21)) I R RJ) := hD
  refine lv_aload_n hx hb dX10_must_0 rfl (lv_at hl 0 rfl) ?_
  refine lv_dup hx hb dX10_must_1 rfl ?_
  refine va_get (D := D) (ci := 9) (v := .long (J 21)) (C := RX10) (T := TX10) (N := 30) hx hb hts hi10 hown hK hP 0 rfl rfl 21 (by decide) hw0 (fun _ h9 => h9) rfl dX10_must_2 ?_
  refine lv_iload_n hx hb dX10_must_5 rfl (lv_at hl 1 rfl) ?_
  refine lv_iload_n hx hb dX10_must_6 rfl (lv_at hl 2 rfl) ?_
  refine kS_l (As := [.int x0, .int (bI x1)]) (rest := [.long (J 21), .ref (a 0)]) ⟨hx, hb, hml, hown, hts⟩ (c_X10_place l x0 x1) (va_cwS 2 hts gX10_must_X10_place rfl rfl rfl (by decide +kernel) ⟨Nat.le_of_ble_eq_true rfl, Nat.le_of_ble_eq_true rfl⟩) rfl hl.1 rfl (Nat.le_of_ble_eq_true rfl) dX10_must_7 ⟨Nat.le_of_ble_eq_true rfl, Nat.le_of_ble_eq_true rfl⟩ ?_
  refine lv_lor hx hb dX10_must_10 ?_
  refine va_put (D := D) (ci := 9) (v := .long ((J 21) ||| (m_place x0 x1))) (ty := .long) (C := RX10) (T := TX10) (N := 30) hx hb hts hi10 tyX10 tyX10_ok nmX10 hown hK hP hD hS 0 rfl rfl 21 (by decide) hw0 (fun _ h9 => h9) rfl (by decide +kernel) rfl rfl (Nat.le_of_ble_eq_true rfl) dX10_must_11 (fun H locs hP hD hS => ?_)
  have hP : va_P D vwCl (MW cy a (va_up (va_up (va_up J 19 (J 19)) 20 (J 20)) 21 ((J 21) ||| (m_place x0 x1))) I R RJ) H := hP
  have hD : va_D A (MW cy a (va_up (va_up (va_up J 19 (J 19)) 20 (J 20)) 21 ((J 21) ||| (m_place x0 x1))) I R RJ) := hD
  refine lv_aload_n hx hb dX10_must_14 rfl (lv_at hl 0 rfl) ?_
  refine lv_dup hx hb dX10_must_15 rfl ?_
  refine va_get (D := D) (ci := 9) (v := .long (J 19)) (C := RX10) (T := TX10) (N := 30) hx hb hts hi10 hown hK hP 0 rfl rfl 19 (by decide) hw1 (fun _ h9 => h9) rfl dX10_must_16 ?_
  refine lv_iload_n hx hb dX10_must_19 rfl (lv_at hl 2 rfl) ?_
  refine lv_if_eq (tgt := 27) hx hb dX10_must_20 (by decide) (fun c_1 => ?_) (fun c_1 => ?_)
  · replace c_1 := bI_f c_1
    refine lv_lconst (v := 1) hx hb dX10_must_27 (by decide) ?_
    refine lv_iload_n hx hb dX10_must_28 rfl (lv_at hl 1 rfl) ?_
    refine lv_lshl (v := (1 : Int64) <<< ((x0 : Int32).toInt64 &&& 63)) hx hb dX10_must_29 rfl ?_
    refine lv_lor hx hb dX10_must_30 ?_
    refine va_put (D := D) (ci := 9) (v := .long ((J 19) ||| ((1 : Int64) <<< ((x0 : Int32).toInt64 &&& 63)))) (ty := .long) (C := RX10) (T := TX10) (N := 30) hx hb hts hi10 tyX10 tyX10_ok nmX10 hown hK hP hD hS 0 rfl rfl 19 (by decide) hw1 (fun _ h9 => h9) rfl (by decide +kernel) rfl rfl (Nat.le_of_ble_eq_true rfl) dX10_must_31 (fun H locs hP hD hS => ?_)
    have hP : va_P D vwCl (MW cy a (va_up (va_up (va_up J 19 ((J 19) ||| ((1 : Int64) <<< ((x0 : Int32).toInt64 &&& 63)))) 20 (J 20)) 21 ((J 21) ||| (m_place x0 x1))) I R RJ) H := hP
    have hD : va_D A (MW cy a (va_up (va_up (va_up J 19 ((J 19) ||| ((1 : Int64) <<< ((x0 : Int32).toInt64 &&& 63)))) 20 (J 20)) 21 ((J 21) ||| (m_place x0 x1))) I R RJ) := hD
    refine lv_aload_n hx hb dX10_must_34 rfl (lv_at hl 0 rfl) ?_
    refine lv_dup hx hb dX10_must_35 rfl ?_
    refine va_get (D := D) (ci := 9) (v := .long (J 20)) (C := RX10) (T := TX10) (N := 30) hx hb hts hi10 hown hK hP 0 rfl rfl 20 (by decide) hw2 (fun _ h9 => h9) rfl dX10_must_36 ?_
    refine lv_iload_n hx hb dX10_must_39 rfl (lv_at hl 2 rfl) ?_
    refine lv_if_eq (tgt := 49) hx hb dX10_must_40 (by decide) (fun c_2 => ?_) (fun c_2 => ?_)
    · replace c_2 := bI_f c_2
      refine lv_lconst (v := 0) hx hb dX10_must_49 (by decide) ?_
      refine lv_lor hx hb dX10_must_50 ?_
      refine va_put (D := D) (ci := 9) (v := .long ((J 20) ||| 0)) (ty := .long) (C := RX10) (T := TX10) (N := 30) hx hb hts hi10 tyX10 tyX10_ok nmX10 hown hK hP hD hS 0 rfl rfl 20 (by decide) hw2 (fun _ h9 => h9) rfl (by decide +kernel) rfl rfl (Nat.le_of_ble_eq_true rfl) dX10_must_51 (fun H locs hP hD hS => ?_)
      have hP : va_P D vwCl (MW cy a (va_up (va_up (va_up J 19 ((J 19) ||| ((1 : Int64) <<< ((x0 : Int32).toInt64 &&& 63)))) 20 ((J 20) ||| 0)) 21 ((J 21) ||| (m_place x0 x1))) I R RJ) H := hP
      have hD : va_D A (MW cy a (va_up (va_up (va_up J 19 ((J 19) ||| ((1 : Int64) <<< ((x0 : Int32).toInt64 &&& 63)))) 20 ((J 20) ||| 0)) 21 ((J 21) ||| (m_place x0 x1))) I R RJ) := hD
      exact wret_v hx hb hr hlocks ((va_up (va_up (va_up J 19 ((J 19) ||| ((1 : Int64) <<< ((x0 : Int32).toInt64 &&& 63)))) 20 ((J 20) ||| 0)) 21 ((J 21) ||| (m_place x0 x1))), I, R, RJ) ⟨((J 19) ||| ((1 : Int64) <<< ((x0 : Int32).toInt64 &&& 63))), ((J 20) ||| 0), ((J 21) ||| (m_place x0 x1)), trivial, rfl⟩ hP hD hS dX10_must_54
    · replace c_2 := bI_t c_2
      refine lv_lconst (v := 1) hx hb dX10_must_43 (by decide) ?_
      refine lv_iload_n hx hb dX10_must_44 rfl (lv_at hl 1 rfl) ?_
      refine lv_lshl (v := (1 : Int64) <<< ((x0 : Int32).toInt64 &&& 63)) hx hb dX10_must_45 rfl ?_
      refine lv_goto (tgt := 50) hx hb dX10_must_46 (by decide) ?_
      refine lv_lor hx hb dX10_must_50 ?_
      refine va_put (D := D) (ci := 9) (v := .long ((J 20) ||| ((1 : Int64) <<< ((x0 : Int32).toInt64 &&& 63)))) (ty := .long) (C := RX10) (T := TX10) (N := 30) hx hb hts hi10 tyX10 tyX10_ok nmX10 hown hK hP hD hS 0 rfl rfl 20 (by decide) hw2 (fun _ h9 => h9) rfl (by decide +kernel) rfl rfl (Nat.le_of_ble_eq_true rfl) dX10_must_51 (fun H locs hP hD hS => ?_)
      have hP : va_P D vwCl (MW cy a (va_up (va_up (va_up J 19 ((J 19) ||| ((1 : Int64) <<< ((x0 : Int32).toInt64 &&& 63)))) 20 ((J 20) ||| ((1 : Int64) <<< ((x0 : Int32).toInt64 &&& 63)))) 21 ((J 21) ||| (m_place x0 x1))) I R RJ) H := hP
      have hD : va_D A (MW cy a (va_up (va_up (va_up J 19 ((J 19) ||| ((1 : Int64) <<< ((x0 : Int32).toInt64 &&& 63)))) 20 ((J 20) ||| ((1 : Int64) <<< ((x0 : Int32).toInt64 &&& 63)))) 21 ((J 21) ||| (m_place x0 x1))) I R RJ) := hD
      exact wret_v hx hb hr hlocks ((va_up (va_up (va_up J 19 ((J 19) ||| ((1 : Int64) <<< ((x0 : Int32).toInt64 &&& 63)))) 20 ((J 20) ||| ((1 : Int64) <<< ((x0 : Int32).toInt64 &&& 63)))) 21 ((J 21) ||| (m_place x0 x1))), I, R, RJ) ⟨((J 19) ||| ((1 : Int64) <<< ((x0 : Int32).toInt64 &&& 63))), ((J 20) ||| ((1 : Int64) <<< ((x0 : Int32).toInt64 &&& 63))), ((J 21) ||| (m_place x0 x1)), trivial, rfl⟩ hP hD hS dX10_must_54
  · replace c_1 := bI_t c_1
    refine lv_lconst (v := 0) hx hb dX10_must_23 (by decide) ?_
    refine lv_goto (tgt := 30) hx hb dX10_must_24 (by decide) ?_
    refine lv_lor hx hb dX10_must_30 ?_
    refine va_put (D := D) (ci := 9) (v := .long ((J 19) ||| 0)) (ty := .long) (C := RX10) (T := TX10) (N := 30) hx hb hts hi10 tyX10 tyX10_ok nmX10 hown hK hP hD hS 0 rfl rfl 19 (by decide) hw1 (fun _ h9 => h9) rfl (by decide +kernel) rfl rfl (Nat.le_of_ble_eq_true rfl) dX10_must_31 (fun H locs hP hD hS => ?_)
    have hP : va_P D vwCl (MW cy a (va_up (va_up (va_up J 19 ((J 19) ||| 0)) 20 (J 20)) 21 ((J 21) ||| (m_place x0 x1))) I R RJ) H := hP
    have hD : va_D A (MW cy a (va_up (va_up (va_up J 19 ((J 19) ||| 0)) 20 (J 20)) 21 ((J 21) ||| (m_place x0 x1))) I R RJ) := hD
    refine lv_aload_n hx hb dX10_must_34 rfl (lv_at hl 0 rfl) ?_
    refine lv_dup hx hb dX10_must_35 rfl ?_
    refine va_get (D := D) (ci := 9) (v := .long (J 20)) (C := RX10) (T := TX10) (N := 30) hx hb hts hi10 hown hK hP 0 rfl rfl 20 (by decide) hw2 (fun _ h9 => h9) rfl dX10_must_36 ?_
    refine lv_iload_n hx hb dX10_must_39 rfl (lv_at hl 2 rfl) ?_
    refine lv_if_eq (tgt := 49) hx hb dX10_must_40 (by decide) (fun c_3 => ?_) (fun c_3 => ?_)
    · replace c_3 := bI_f c_3
      refine lv_lconst (v := 0) hx hb dX10_must_49 (by decide) ?_
      refine lv_lor hx hb dX10_must_50 ?_
      refine va_put (D := D) (ci := 9) (v := .long ((J 20) ||| 0)) (ty := .long) (C := RX10) (T := TX10) (N := 30) hx hb hts hi10 tyX10 tyX10_ok nmX10 hown hK hP hD hS 0 rfl rfl 20 (by decide) hw2 (fun _ h9 => h9) rfl (by decide +kernel) rfl rfl (Nat.le_of_ble_eq_true rfl) dX10_must_51 (fun H locs hP hD hS => ?_)
      have hP : va_P D vwCl (MW cy a (va_up (va_up (va_up J 19 ((J 19) ||| 0)) 20 ((J 20) ||| 0)) 21 ((J 21) ||| (m_place x0 x1))) I R RJ) H := hP
      have hD : va_D A (MW cy a (va_up (va_up (va_up J 19 ((J 19) ||| 0)) 20 ((J 20) ||| 0)) 21 ((J 21) ||| (m_place x0 x1))) I R RJ) := hD
      exact wret_v hx hb hr hlocks ((va_up (va_up (va_up J 19 ((J 19) ||| 0)) 20 ((J 20) ||| 0)) 21 ((J 21) ||| (m_place x0 x1))), I, R, RJ) ⟨((J 19) ||| 0), ((J 20) ||| 0), ((J 21) ||| (m_place x0 x1)), trivial, rfl⟩ hP hD hS dX10_must_54
    · replace c_3 := bI_t c_3
      refine lv_lconst (v := 1) hx hb dX10_must_43 (by decide) ?_
      refine lv_iload_n hx hb dX10_must_44 rfl (lv_at hl 1 rfl) ?_
      refine lv_lshl (v := (1 : Int64) <<< ((x0 : Int32).toInt64 &&& 63)) hx hb dX10_must_45 rfl ?_
      refine lv_goto (tgt := 50) hx hb dX10_must_46 (by decide) ?_
      refine lv_lor hx hb dX10_must_50 ?_
      refine va_put (D := D) (ci := 9) (v := .long ((J 20) ||| ((1 : Int64) <<< ((x0 : Int32).toInt64 &&& 63)))) (ty := .long) (C := RX10) (T := TX10) (N := 30) hx hb hts hi10 tyX10 tyX10_ok nmX10 hown hK hP hD hS 0 rfl rfl 20 (by decide) hw2 (fun _ h9 => h9) rfl (by decide +kernel) rfl rfl (Nat.le_of_ble_eq_true rfl) dX10_must_51 (fun H locs hP hD hS => ?_)
      have hP : va_P D vwCl (MW cy a (va_up (va_up (va_up J 19 ((J 19) ||| 0)) 20 ((J 20) ||| ((1 : Int64) <<< ((x0 : Int32).toInt64 &&& 63)))) 21 ((J 21) ||| (m_place x0 x1))) I R RJ) H := hP
      have hD : va_D A (MW cy a (va_up (va_up (va_up J 19 ((J 19) ||| 0)) 20 ((J 20) ||| ((1 : Int64) <<< ((x0 : Int32).toInt64 &&& 63)))) 21 ((J 21) ||| (m_place x0 x1))) I R RJ) := hD
      exact wret_v hx hb hr hlocks ((va_up (va_up (va_up J 19 ((J 19) ||| 0)) 20 ((J 20) ||| ((1 : Int64) <<< ((x0 : Int32).toInt64 &&& 63)))) 21 ((J 21) ||| (m_place x0 x1))), I, R, RJ) ⟨((J 19) ||| 0), ((J 20) ||| ((1 : Int64) <<< ((x0 : Int32).toInt64 &&& 63))), ((J 21) ||| (m_place x0 x1)), trivial, rfl⟩ hP hD hS dX10_must_54
theorem dX10_findGlued_17 : decode cX10_findGlued 17 = .ok (.iload_n 1, 1) := by decide +kernel
theorem dX10_findGlued_18 : decode cX10_findGlued 18 = .ok (.aload_n 0, 1) := by decide +kernel
theorem dX10_findGlued_19 : decode cX10_findGlued 19 = .ok (.getfield 85, 3) := by decide +kernel
theorem dX10_findGlued_22 : decode cX10_findGlued 22 = .ok (.if_icmp .ge 31, 3) := by decide +kernel
theorem dX10_findGlued_53 : decode cX10_findGlued 53 = .ok (.return_, 1) := by decide +kernel
theorem dX10_findGlued_25 : decode cX10_findGlued 25 = .ok (.aload_n 0, 1) := by decide +kernel
theorem dX10_findGlued_26 : decode cX10_findGlued 26 = .ok (.iload_n 1, 1) := by decide +kernel
set_option maxRecDepth 20000 in
theorem ggX10_findGlued_X10_isGlued : GoodIn wsX10_findGlued wsX10_isGlued := goodIn_r _ [9, 10, 11, 12, 8, 13, 14, 31, 32, 33, 34, 35, 36, 37, 38, 39, 40, 41, 42, 43, 44, 45, 46, 47, 48, 49, 50, 51, 52, 53, 54, 55, 56, 57, 58, 59, 60] rfl (by decide +kernel)
set_option maxRecDepth 20000 in
theorem gX10_findGlued_X10_isGlued : GoodIn wsX10_findGlued (wsV RX10 157 RX10 yX10_isGlued wsX10_isGlued) := goodIn_app (goodIn_r _ [5, 6, 7, 8] rfl (by decide +kernel)) ggX10_findGlued_X10_isGlued
theorem dX10_findGlued_27 : decode cX10_findGlued 27 = .ok (.invokevirtual 157, 3) := by decide +kernel
theorem dX10_findGlued_30 : decode cX10_findGlued 30 = .ok (.ifCond .eq 17, 3) := by decide +kernel
theorem dX10_findGlued_47 : decode cX10_findGlued 47 = .ok (.iinc 1 1, 3) := by decide +kernel
theorem dX10_findGlued_50 : decode cX10_findGlued 50 = .ok (.goto (-33), 3) := by decide +kernel
theorem dX10_findGlued_33 : decode cX10_findGlued 33 = .ok (.aload_n 0, 1) := by decide +kernel
theorem dX10_findGlued_34 : decode cX10_findGlued 34 = .ok (.aload_n 0, 1) := by decide +kernel
theorem dX10_findGlued_35 : decode cX10_findGlued 35 = .ok (.iload_n 1, 1) := by decide +kernel
set_option maxRecDepth 20000 in
theorem ggX10_findGlued_X10_fieldOf : GoodIn wsX10_findGlued wsX10_fieldOf := goodIn_r _ [18, 14, 31, 32, 33, 34, 35, 36, 37, 38, 39, 40, 41, 42, 43, 44, 45, 46, 47, 48, 49, 50, 51, 52, 53, 54, 55, 56, 57, 58, 59, 60] rfl (by decide +kernel)
set_option maxRecDepth 20000 in
theorem gX10_findGlued_X10_fieldOf : GoodIn wsX10_findGlued (wsV RX10 115 RX10 yX10_fieldOf wsX10_fieldOf) := goodIn_app (goodIn_r _ [15, 16, 17, 8] rfl (by decide +kernel)) ggX10_findGlued_X10_fieldOf
theorem dX10_findGlued_36 : decode cX10_findGlued 36 = .ok (.invokevirtual 115, 3) := by decide +kernel
theorem dX10_findGlued_39 : decode cX10_findGlued 39 = .ok (.aload_n 0, 1) := by decide +kernel
theorem dX10_findGlued_40 : decode cX10_findGlued 40 = .ok (.iload_n 1, 1) := by decide +kernel
set_option maxRecDepth 20000 in
theorem ggX10_findGlued_X10_isAcross : GoodIn wsX10_findGlued wsX10_isAcross := goodIn_r _ [22, 14, 31, 32, 33, 34, 35, 36, 37, 38, 39, 40, 41, 42, 43, 44, 45, 46, 47, 48, 49, 50, 51, 52, 53, 54, 55, 56, 57, 58, 59, 60] rfl (by decide +kernel)
set_option maxRecDepth 20000 in
theorem gX10_findGlued_X10_isAcross : GoodIn wsX10_findGlued (wsV RX10 118 RX10 yX10_isAcross wsX10_isAcross) := goodIn_app (goodIn_r _ [19, 20, 21, 8] rfl (by decide +kernel)) ggX10_findGlued_X10_isAcross
theorem dX10_findGlued_41 : decode cX10_findGlued 41 = .ok (.invokevirtual 118, 3) := by decide +kernel
set_option maxRecDepth 20000 in
theorem ggX10_findGlued_X10_must : GoodIn wsX10_findGlued wsX10_must := goodIn_r _ [26, 3, 1, 2, 27, 28, 8, 29, 30, 31, 32, 33, 34, 35, 36, 37, 38, 39, 40, 41, 42, 43, 44, 45, 46, 47, 48, 49, 50, 51, 52, 53, 54, 55, 56, 57, 58, 59, 60] rfl (by decide +kernel)
set_option maxRecDepth 20000 in
theorem gX10_findGlued_X10_must : GoodIn wsX10_findGlued (wsV RX10 190 RX10 yX10_must wsX10_must) := goodIn_app (goodIn_r _ [23, 24, 25, 8] rfl (by decide +kernel)) ggX10_findGlued_X10_must
theorem dX10_findGlued_44 : decode cX10_findGlued 44 = .ok (.invokevirtual 190, 3) := by decide +kernel
theorem dX10_findGlued_0 : decode cX10_findGlued 0 = .ok (.aload_n 0, 1) := by decide +kernel
theorem dX10_findGlued_1 : decode cX10_findGlued 1 = .ok (.lconst 0, 1) := by decide +kernel
theorem dX10_findGlued_2 : decode cX10_findGlued 2 = .ok (.putfield 184, 3) := by decide +kernel
theorem dX10_findGlued_5 : decode cX10_findGlued 5 = .ok (.aload_n 0, 1) := by decide +kernel
theorem dX10_findGlued_6 : decode cX10_findGlued 6 = .ok (.lconst 0, 1) := by decide +kernel
theorem dX10_findGlued_7 : decode cX10_findGlued 7 = .ok (.putfield 187, 3) := by decide +kernel
theorem dX10_findGlued_10 : decode cX10_findGlued 10 = .ok (.aload_n 0, 1) := by decide +kernel
theorem dX10_findGlued_11 : decode cX10_findGlued 11 = .ok (.lconst 0, 1) := by decide +kernel
theorem dX10_findGlued_12 : decode cX10_findGlued 12 = .ok (.putfield 181, 3) := by decide +kernel
theorem dX10_findGlued_15 : decode cX10_findGlued 15 = .ok (.iconst 0, 1) := by decide +kernel
theorem dX10_findGlued_16 : decode cX10_findGlued 16 = .ok (.istore_n 1, 1) := by decide +kernel
set_option maxRecDepth 20000 in
theorem ihX10_findGlued_10 : ∀ w ∈ u_ws RX10 TX10 30, w ∈ wsX10_findGlued := fun _ h => List.mem_cons_of_mem _ (List.mem_append_right _ h)
set_option maxHeartbeats 4000000 in
set_option maxRecDepth 100000 in
theorem t_X10_findGlued (l : Launch) (D : va_G) (cy : Nat → ClassId) (a : Nat → Nat) (sz : Nat) (J : Nat → Int64) (I : Nat → Int32) (R : Nat → Nat → Int32) (RJ : Nat → Nat → Int64)  (hM : MI I R) : Met l yX10_findGlued wsX10_findGlued ({ frames := 2, cells := 0, slots := 0, locals := 43 }) (va_Pc [.ref (a 0)] (PW D cy sz (MW cy a J I R RJ))) (va_Qv (fun (u : MS) => ∃ (w0 : Int64), ∃ (w1 : Int64), ∃ (w2 : Int64), (True) ∧ u = ((va_up (va_up (va_up J 19 w0) 20 w1) 21 w2), I, R, RJ)) (BW D (va_A (MW cy a J I R RJ) sz) (MWu cy a)) (va_A (MW cy a J I R RJ) sz)) 0 0 (va_A (MW cy a J I R RJ) sz) := by
  refine Met.ofW (cc := cX10_findGlued) (maxL := 2) (ret := none) (by decide) rfl ?_
  intro p e s m args below meth c s₁ B hml hv
  obtain ⟨rfl, rfl, hP, hK, hN, hD0⟩ := hv
  have hx := B.exec
  have hb := B.bytes
  have hr := B.returns
  have hts := atoms_spec (ws := wsX10_findGlued) B.pre
  have hown : s.vm.findClass RX10 = some m.cls := findClass_of_methodNamed B.named
  have hlocks := B.notSynchronized
  have hw0 := hts (.fieldLink RX10 85 "ParquetLayerModel" "stones" "I") (by decide +kernel)
  have hw1 := hts (.fieldLink RX10 184 "ParquetLayerModel" "mustAlong" "J") (by decide +kernel)
  have hw2 := hts (.fieldLink RX10 187 "ParquetLayerModel" "mustAcross" "J") (by decide +kernel)
  have hw3 := hts (.fieldLink RX10 181 "ParquetLayerModel" "taken" "J") (by decide +kernel)
  have hi10 := ihX10_findGlued_10
  have hD := hD0.self (sz := s.heap.size)
  generalize hAe : va_A (MW cy a J I R RJ) s.heap.size = A at hD ⊢
  have hA : ∀ q : Nat, s.heap.size ≤ q → A q := fun q h => by rw [← hAe]; exact Or.inr h
  have hS : va_S A s.heap s.heap [] := va_S.rf
  have hl := lv_entry ([.ref (a 0)]) (n := 2) (Nat.le_of_ble_eq_true rfl)
  rw [lg_entry_eq]
  generalize (lg_sl ([.ref (a 0)]) ++ List.replicate (2 - (lg_sl ([.ref (a 0)])).length) Slot.unset).toArray = ls at hl ⊢
  have hl : lv_has ls 2 [(0, .ref (a 0))] := hl
  obtain ⟨ns, hns, hI1⟩ := vp_in_of hM.1 (by decide)
  have hP : va_P D vwCl (MW cy a (va_up (va_up (va_up J 19 (J 19)) 20 (J 20)) 21 (J 21)) I R RJ) s.heap := hP
  have hD : va_D A (MW cy a (va_up (va_up (va_up J 19 (J 19)) 20 (J 20)) 21 (J 21)) I R RJ) := hD
  have lp17 : ∀ (n17 : Nat), ∀ (i : Nat) (m0_17 : Int64) (m1_17 : Int64) (m2_17 : Int64), (i ≤ ns) → (ns - i) < n17 → ∀ (H : Heap) (locs : List Loc), va_P D vwCl (MW cy a (va_up (va_up (va_up J 19 m0_17) 20 m1_17) 21 m2_17) I R RJ) H → va_D A (MW cy a (va_up (va_up (va_up J 19 m0_17) 20 m1_17) 21 m2_17) I R RJ) → va_S A s.heap H locs → ∀ (ls : Array Slot), lv_has ls 2 [(0, .ref (a 0)), (1, .int (nI i))] → W p l e (headSpec wsX10_findGlued ({ frames := 2, cells := 0, slots := 0, locals := 43 })).room s m ([.ref (a 0)] : List Value).toArray below meth c H locs 0 0 (MQ below (va_Qv (fun (u : MS) => ∃ (w0 : Int64), ∃ (w1 : Int64), ∃ (w2 : Int64), (True) ∧ u = ((va_up (va_up (va_up J 19 w0) 20 w1) 21 w2), I, R, RJ)) (BW D A (MWu cy a)) A) ([.ref (a 0)] : List Value).toArray s 0 0 A) (F0 m 17 ls []) := by
    intro n17
    induction n17 with
    | zero => intro i m0_17 m1_17 m2_17 hi hn; exact absurd hn (Nat.not_lt_zero _)
    | succ n17 ih17 =>
      intro i m0_17 m1_17 m2_17 hi hn17 H locs hP hD hS ls hl
      refine lv_iload_n hx hb dX10_findGlued_17 rfl (lv_at hl 1 rfl) ?_
      refine lv_aload_n hx hb dX10_findGlued_18 rfl (lv_at hl 0 rfl) ?_
      refine va_get (D := D) (ci := 9) (v := .int (I 1)) (C := RX10) (T := TX10) (N := 30) hx hb hts hi10 hown hK hP 0 rfl rfl 1 (by decide) hw0 (fun _ h9 => h9) rfl dX10_findGlued_19 ?_
      refine lv_icmp_ge (tgt := 53) hx hb dX10_findGlued_22 (by decide) (fun c_1 => ?_) (fun c_1 => ?_)
      · exact wret_v hx hb hr hlocks ((va_up (va_up (va_up J 19 m0_17) 20 m1_17) 21 m2_17), I, R, RJ) ⟨m0_17, m1_17, m2_17, trivial, rfl⟩ hP hD hS dX10_findGlued_53
      · have hlt := ctr_lt (N := ns) (by omega) hi (by rw [← hI1]; exact c_1)
        refine lv_aload_n hx hb dX10_findGlued_25 rfl (lv_at hl 0 rfl) ?_
        refine lv_iload_n hx hb dX10_findGlued_26 rfl (lv_at hl 1 rfl) ?_
        refine kR_i (As := [.int (nI i)]) (rest := []) (q0 := 0) ⟨hx, hb, hml, hown, hts⟩ (c_X10_isGlued l D cy a _ (va_up (va_up (va_up J 19 m0_17) 20 m1_17) 21 m2_17) I R RJ (nI i) (vp_in_nI (by omega) (by decide))) (cwV 1 hts gX10_findGlued_X10_isGlued rfl rfl rfl (by decide +kernel) ⟨Nat.le_of_ble_eq_true rfl, Nat.le_of_ble_eq_true rfl⟩) hK hN hP hD rfl rfl rfl hl.1 rfl (Nat.le_of_ble_eq_true rfl) dX10_findGlued_27 ⟨Nat.le_of_ble_eq_true rfl, Nat.le_of_ble_eq_true rfl⟩ ?_
        refine lv_if_eq (tgt := 47) hx hb dX10_findGlued_30 (by decide) (fun c_2 => ?_) (fun c_2 => ?_)
        · replace c_2 := bI_f c_2
          refine lv_iinc (v := nI (i + 1)) (lv' := [(1, .int (nI (i + 1))), (0, .ref (a 0))]) hx hb dX10_findGlued_47 hl (k := 1) rfl (nI_1 _) (by decide) rfl (fun ls hl => ?_)
          refine lv_goto (tgt := 17) hx hb dX10_findGlued_50 (by decide) ?_
          exact ih17 (i + 1) m0_17 m1_17 m2_17 (by omega) (by omega) _ _ hP hD hS ls (lv_sub hl [1, 0] rfl)
        · replace c_2 := bI_t c_2
          refine lv_aload_n hx hb dX10_findGlued_33 rfl (lv_at hl 0 rfl) ?_
          refine lv_aload_n hx hb dX10_findGlued_34 rfl (lv_at hl 0 rfl) ?_
          refine lv_iload_n hx hb dX10_findGlued_35 rfl (lv_at hl 1 rfl) ?_
          refine kR_i (As := [.int (nI i)]) (rest := [.ref (a 0)]) (q0 := 0) ⟨hx, hb, hml, hown, hts⟩ (c_X10_fieldOf l D cy a _ (va_up (va_up (va_up J 19 m0_17) 20 m1_17) 21 m2_17) I R RJ (nI i) (vp_in_nI (by omega) (by decide))) (cwV 1 hts gX10_findGlued_X10_fieldOf rfl rfl rfl (by decide +kernel) ⟨Nat.le_of_ble_eq_true rfl, Nat.le_of_ble_eq_true rfl⟩) hK hN hP hD rfl rfl rfl hl.1 rfl (Nat.le_of_ble_eq_true rfl) dX10_findGlued_36 ⟨Nat.le_of_ble_eq_true rfl, Nat.le_of_ble_eq_true rfl⟩ ?_
          refine lv_aload_n hx hb dX10_findGlued_39 rfl (lv_at hl 0 rfl) ?_
          refine lv_iload_n hx hb dX10_findGlued_40 rfl (lv_at hl 1 rfl) ?_
          refine kR_i (As := [.int (nI i)]) (rest := [.int ((((R 1) (nI i).toNatClampNeg) >>> ((2 : Int32) &&& 31)) &&& 63), .ref (a 0)]) (q0 := 0) ⟨hx, hb, hml, hown, hts⟩ (c_X10_isAcross l D cy a _ (va_up (va_up (va_up J 19 m0_17) 20 m1_17) 21 m2_17) I R RJ (nI i) (vp_in_nI (by omega) (by decide))) (cwV 1 hts gX10_findGlued_X10_isAcross rfl rfl rfl (by decide +kernel) ⟨Nat.le_of_ble_eq_true rfl, Nat.le_of_ble_eq_true rfl⟩) hK hN hP hD rfl rfl rfl hl.1 rfl (Nat.le_of_ble_eq_true rfl) dX10_findGlued_41 ⟨Nat.le_of_ble_eq_true rfl, Nat.le_of_ble_eq_true rfl⟩ ?_
          refine kM_v (As := [.int ((((R 1) (nI i).toNatClampNeg) >>> ((2 : Int32) &&& 31)) &&& 63), .int (bI (m_acr ((R 1) (nI i).toNatClampNeg)))]) (rest := []) (q0 := 0) ⟨hx, hb, hml, hown, hts⟩ (t_X10_must l D cy a _ (va_up (va_up (va_up J 19 m0_17) 20 m1_17) 21 m2_17) I R RJ ((((R 1) (nI i).toNatClampNeg) >>> ((2 : Int32) &&& 31)) &&& 63) (m_acr ((R 1) (nI i).toNatClampNeg))  ) (cwV 2 hts gX10_findGlued_X10_must rfl rfl rfl (by decide +kernel) ⟨Nat.le_of_ble_eq_true rfl, Nat.le_of_ble_eq_true rfl⟩) hK hN hP hD hS hA rfl rfl rfl hl.1 rfl (Nat.le_of_ble_eq_true rfl) dX10_findGlued_44 ⟨Nat.le_of_ble_eq_true rfl, Nat.le_of_ble_eq_true rfl⟩ (fun u H locs hw hP hD hS => ?_)
          obtain ⟨w_4, w_5, w_6, -, rfl⟩ := hw
          have hP : va_P D vwCl (MW cy a (va_up (va_up (va_up J 19 w_4) 20 w_5) 21 w_6) I R RJ) H := hP
          have hD : va_D A (MW cy a (va_up (va_up (va_up J 19 w_4) 20 w_5) 21 w_6) I R RJ) := hD
          refine lv_iinc (v := nI (i + 1)) (lv' := [(1, .int (nI (i + 1))), (0, .ref (a 0))]) hx hb dX10_findGlued_47 hl (k := 1) rfl (nI_1 _) (by decide) rfl (fun ls hl => ?_)
          refine lv_goto (tgt := 17) hx hb dX10_findGlued_50 (by decide) ?_
          exact ih17 (i + 1) w_4 w_5 w_6 (by omega) (by omega) _ _ hP hD hS ls (lv_sub hl [1, 0] rfl)
  refine lv_aload_n hx hb dX10_findGlued_0 rfl (lv_at hl 0 rfl) ?_
  refine lv_lconst (v := 0) hx hb dX10_findGlued_1 (by decide) ?_
  refine va_put (D := D) (ci := 9) (v := .long 0) (ty := .long) (C := RX10) (T := TX10) (N := 30) hx hb hts hi10 tyX10 tyX10_ok nmX10 hown hK hP hD hS 0 rfl rfl 19 (by decide) hw1 (fun _ h9 => h9) rfl (by decide +kernel) rfl rfl (Nat.le_of_ble_eq_true rfl) dX10_findGlued_2 (fun H locs hP hD hS => ?_)
  have hP : va_P D vwCl (MW cy a (va_up (va_up (va_up J 19 0) 20 (J 20)) 21 (J 21)) I R RJ) H := hP
  have hD : va_D A (MW cy a (va_up (va_up (va_up J 19 0) 20 (J 20)) 21 (J 21)) I R RJ) := hD
  refine lv_aload_n hx hb dX10_findGlued_5 rfl (lv_at hl 0 rfl) ?_
  refine lv_lconst (v := 0) hx hb dX10_findGlued_6 (by decide) ?_
  refine va_put (D := D) (ci := 9) (v := .long 0) (ty := .long) (C := RX10) (T := TX10) (N := 30) hx hb hts hi10 tyX10 tyX10_ok nmX10 hown hK hP hD hS 0 rfl rfl 20 (by decide) hw2 (fun _ h9 => h9) rfl (by decide +kernel) rfl rfl (Nat.le_of_ble_eq_true rfl) dX10_findGlued_7 (fun H locs hP hD hS => ?_)
  have hP : va_P D vwCl (MW cy a (va_up (va_up (va_up J 19 0) 20 0) 21 (J 21)) I R RJ) H := hP
  have hD : va_D A (MW cy a (va_up (va_up (va_up J 19 0) 20 0) 21 (J 21)) I R RJ) := hD
  refine lv_aload_n hx hb dX10_findGlued_10 rfl (lv_at hl 0 rfl) ?_
  refine lv_lconst (v := 0) hx hb dX10_findGlued_11 (by decide) ?_
  refine va_put (D := D) (ci := 9) (v := .long 0) (ty := .long) (C := RX10) (T := TX10) (N := 30) hx hb hts hi10 tyX10 tyX10_ok nmX10 hown hK hP hD hS 0 rfl rfl 21 (by decide) hw3 (fun _ h9 => h9) rfl (by decide +kernel) rfl rfl (Nat.le_of_ble_eq_true rfl) dX10_findGlued_12 (fun H locs hP hD hS => ?_)
  have hP : va_P D vwCl (MW cy a (va_up (va_up (va_up J 19 0) 20 0) 21 0) I R RJ) H := hP
  have hD : va_D A (MW cy a (va_up (va_up (va_up J 19 0) 20 0) 21 0) I R RJ) := hD
  refine lv_iconst (v := 0) hx hb dX10_findGlued_15 (by decide) ?_
  refine lv_istore_n (lv' := [(1, .int 0), (0, .ref (a 0))]) hx hb dX10_findGlued_16 rfl hl (by decide) rfl (fun ls hl => ?_)
  exact lp17 _ 0 0 0 0 (by omega) (Nat.lt_succ_self _) _ _ hP hD hS ls (lv_sub hl [1, 0] rfl)
theorem dX10_mayLie_0 : decode cX10_mayLie 0 = .ok (.iload_n 1, 1) := by decide +kernel
theorem dX10_mayLie_1 : decode cX10_mayLie 1 = .ok (.iload_n 2, 1) := by decide +kernel
set_option maxRecDepth 20000 in
theorem ggX10_mayLie_X10_place : GoodIn wsX10_mayLie wsX10_place := goodIn_r _ [9, 10] rfl (by decide +kernel)
set_option maxRecDepth 20000 in
theorem gX10_mayLie_X10_place : GoodIn wsX10_mayLie (va_wsS RX10 122 yX10_place wsX10_place) := goodIn_app (goodIn_r _ [6, 7, 8] rfl (by decide +kernel)) ggX10_mayLie_X10_place
theorem dX10_mayLie_2 : decode cX10_mayLie 2 = .ok (.invokestatic 122, 3) := by decide +kernel
theorem dX10_mayLie_5 : decode cX10_mayLie 5 = .ok (.lstore_n 3, 1) := by decide +kernel
theorem dX10_mayLie_6 : decode cX10_mayLie 6 = .ok (.lload_n 3, 1) := by decide +kernel
theorem dX10_mayLie_7 : decode cX10_mayLie 7 = .ok (.lconst 0, 1) := by decide +kernel
theorem dX10_mayLie_8 : decode cX10_mayLie 8 = .ok (.lcmp, 1) := by decide +kernel
theorem dX10_mayLie_9 : decode cX10_mayLie 9 = .ok (.ifCond .eq 18, 3) := by decide +kernel
theorem dX10_mayLie_27 : decode cX10_mayLie 27 = .ok (.iconst 0, 1) := by decide +kernel
theorem dX10_mayLie_28 : decode cX10_mayLie 28 = .ok (.ireturn, 1) := by decide +kernel
theorem dX10_mayLie_12 : decode cX10_mayLie 12 = .ok (.lload_n 3, 1) := by decide +kernel
theorem dX10_mayLie_13 : decode cX10_mayLie 13 = .ok (.aload_n 0, 1) := by decide +kernel
theorem dX10_mayLie_14 : decode cX10_mayLie 14 = .ok (.getfield 81, 3) := by decide +kernel
theorem dX10_mayLie_17 : decode cX10_mayLie 17 = .ok (.ldc2_w 126, 3) := by decide +kernel
theorem dX10_mayLie_20 : decode cX10_mayLie 20 = .ok (.lxor, 1) := by decide +kernel
theorem dX10_mayLie_21 : decode cX10_mayLie 21 = .ok (.land, 1) := by decide +kernel
theorem dX10_mayLie_22 : decode cX10_mayLie 22 = .ok (.lconst 0, 1) := by decide +kernel
theorem dX10_mayLie_23 : decode cX10_mayLie 23 = .ok (.lcmp, 1) := by decide +kernel
theorem dX10_mayLie_24 : decode cX10_mayLie 24 = .ok (.ifCond .eq 5, 3) := by decide +kernel
theorem dX10_mayLie_29 : decode cX10_mayLie 29 = .ok (.lload_n 3, 1) := by decide +kernel
theorem dX10_mayLie_30 : decode cX10_mayLie 30 = .ok (.aload_n 0, 1) := by decide +kernel
theorem dX10_mayLie_31 : decode cX10_mayLie 31 = .ok (.getfield 181, 3) := by decide +kernel
theorem dX10_mayLie_34 : decode cX10_mayLie 34 = .ok (.land, 1) := by decide +kernel
theorem dX10_mayLie_35 : decode cX10_mayLie 35 = .ok (.lconst 0, 1) := by decide +kernel
theorem dX10_mayLie_36 : decode cX10_mayLie 36 = .ok (.lcmp, 1) := by decide +kernel
theorem dX10_mayLie_37 : decode cX10_mayLie 37 = .ok (.ifCond .eq 25, 3) := by decide +kernel
theorem dX10_mayLie_62 : decode cX10_mayLie 62 = .ok (.iconst 1, 1) := by decide +kernel
theorem dX10_mayLie_63 : decode cX10_mayLie 63 = .ok (.goto 4, 3) := by decide +kernel
theorem dX10_mayLie_67 : decode cX10_mayLie 67 = .ok (.ireturn, 1) := by decide +kernel
theorem dX10_mayLie_40 : decode cX10_mayLie 40 = .ok (.iload_n 2, 1) := by decide +kernel
theorem dX10_mayLie_41 : decode cX10_mayLie 41 = .ok (.ifCond .eq 10, 3) := by decide +kernel
theorem dX10_mayLie_51 : decode cX10_mayLie 51 = .ok (.aload_n 0, 1) := by decide +kernel
theorem dX10_mayLie_52 : decode cX10_mayLie 52 = .ok (.getfield 184, 3) := by decide +kernel
theorem dX10_mayLie_55 : decode cX10_mayLie 55 = .ok (.iload_n 1, 1) := by decide +kernel
set_option maxRecDepth 20000 in
theorem ggX10_mayLie_X10_hasBit : GoodIn wsX10_mayLie wsX10_hasBit := goodIn_r _ [13] rfl (by decide +kernel)
set_option maxRecDepth 20000 in
theorem gX10_mayLie_X10_hasBit : GoodIn wsX10_mayLie (va_wsS RX10 74 yX10_hasBit wsX10_hasBit) := goodIn_app (goodIn_r _ [11, 12, 8] rfl (by decide +kernel)) ggX10_mayLie_X10_hasBit
theorem dX10_mayLie_56 : decode cX10_mayLie 56 = .ok (.invokestatic 74, 3) := by decide +kernel
theorem dX10_mayLie_59 : decode cX10_mayLie 59 = .ok (.ifCond .eq 7, 3) := by decide +kernel
theorem dX10_mayLie_66 : decode cX10_mayLie 66 = .ok (.iconst 0, 1) := by decide +kernel
theorem dX10_mayLie_44 : decode cX10_mayLie 44 = .ok (.aload_n 0, 1) := by decide +kernel
theorem dX10_mayLie_45 : decode cX10_mayLie 45 = .ok (.getfield 187, 3) := by decide +kernel
theorem dX10_mayLie_48 : decode cX10_mayLie 48 = .ok (.goto 7, 3) := by decide +kernel
set_option maxRecDepth 20000 in
theorem ihX10_mayLie_10 : ∀ w ∈ u_ws RX10 TX10 30, w ∈ wsX10_mayLie := fun _ h => List.mem_cons_of_mem _ (List.mem_append_right _ h)
set_option maxHeartbeats 4000000 in
set_option maxRecDepth 100000 in
theorem c_X10_mayLie (l : Launch) (D : va_G) (cy : Nat → ClassId) (a : Nat → Nat) (sz : Nat) (J : Nat → Int64) (I : Nat → Int32) (R : Nat → Nat → Int32) (RJ : Nat → Nat → Int64) (x0 : Int32) (x1 : Bool) : Met l yX10_mayLie wsX10_mayLie ({ frames := 1, cells := 0, slots := 0, locals := 22 }) (va_Pc [.ref (a 0), .int x0, .int (bI x1)] (PW D cy sz (MW cy a J I R RJ))) (vp_Si (fun r => r = bI (m_may (J 0) (J 21) (J 19) (J 20) x0 x1))) 0 0 (fun _ => False) := by
  refine Met.ofW (cc := cX10_mayLie) (maxL := 5) (ret := (some .boolean)) (by decide) rfl ?_
  intro p e s m args below meth c s₁ B hml hv
  obtain ⟨rfl, rfl, hP, hK, hN, hD0⟩ := hv
  have hx := B.exec
  have hb := B.bytes
  have hr := B.returns
  have hts := atoms_spec (ws := wsX10_mayLie) B.pre
  have hown : s.vm.findClass RX10 = some m.cls := findClass_of_methodNamed B.named
  have hlocks := B.notSynchronized
  have hw0 := hts (.fieldLink RX10 81 "ParquetLayerModel" "floor" "J") (by decide +kernel)
  have hw1 := hts (.constantLong RX10 126 (-1)) (by decide +kernel)
  have hw2 := hts (.fieldLink RX10 181 "ParquetLayerModel" "taken" "J") (by decide +kernel)
  have hw3 := hts (.fieldLink RX10 184 "ParquetLayerModel" "mustAlong" "J") (by decide +kernel)
  have hw4 := hts (.fieldLink RX10 187 "ParquetLayerModel" "mustAcross" "J") (by decide +kernel)
  have hi10 := ihX10_mayLie_10
  have hD := hD0
  have hl := lv_entry ([.ref (a 0), .int x0, .int (bI x1)]) (n := 5) (Nat.le_of_ble_eq_true rfl)
  rw [lg_entry_eq]
  generalize (lg_sl ([.ref (a 0), .int x0, .int (bI x1)]) ++ List.replicate (5 - (lg_sl ([.ref (a 0), .int x0, .int (bI x1)])).length) Slot.unset).toArray = ls at hl ⊢
  have hl : lv_has ls 5 [(0, .ref (a 0)), (1, .int x0), (2, .int (bI x1))] := hl
  refine lv_iload_n hx hb dX10_mayLie_0 rfl (lv_at hl 1 rfl) ?_
  refine lv_iload_n hx hb dX10_mayLie_1 rfl (lv_at hl 2 rfl) ?_
  refine kS_l (As := [.int x0, .int (bI x1)]) (rest := []) ⟨hx, hb, hml, hown, hts⟩ (c_X10_place l x0 x1) (va_cwS 2 hts gX10_mayLie_X10_place rfl rfl rfl (by decide +kernel) ⟨Nat.le_of_ble_eq_true rfl, Nat.le_of_ble_eq_true rfl⟩) rfl hl.1 rfl (Nat.le_of_ble_eq_true rfl) dX10_mayLie_2 ⟨Nat.le_of_ble_eq_true rfl, Nat.le_of_ble_eq_true rfl⟩ ?_
  refine lv_lstore_n (lv' := [(3, .long (m_place x0 x1)), (0, .ref (a 0)), (1, .int x0), (2, .int (bI x1))]) hx hb dX10_mayLie_5 rfl hl (by decide) rfl (fun ls hl => ?_)
  refine lv_lload_n hx hb dX10_mayLie_6 rfl (lv_at hl 0 rfl) ?_
  refine lv_lconst (v := 0) hx hb dX10_mayLie_7 (by decide) ?_
  refine W.lcmp hx hb dX10_mayLie_8 ?_
  refine lv_if_eq (tgt := 27) hx hb dX10_mayLie_9 (by decide) (fun c_1 => ?_) (fun c_1 => ?_)
  · replace c_1 := (lg_cmp_eq _ _).mp c_1
    refine lv_iconst (v := 0) hx hb dX10_mayLie_27 (by decide) ?_
    exact pret_z hx hb hr hlocks (by simp only [m_may, c_1, decide_true, decide_false, Bool.not_false, Bool.not_true, Bool.true_and, Bool.and_true, Bool.false_and, Bool.and_false, Bool.or_true, Bool.true_or, Bool.false_or, Bool.or_false] <;> simp_all [bI]) dX10_mayLie_28
  · replace c_1 := fun z => c_1 ((lg_cmp_eq _ _).mpr z)
    refine lv_lload_n hx hb dX10_mayLie_12 rfl (lv_at hl 0 rfl) ?_
    refine lv_aload_n hx hb dX10_mayLie_13 rfl (lv_at hl 1 rfl) ?_
    refine va_get (D := D) (ci := 9) (v := .long (J 0)) (C := RX10) (T := TX10) (N := 30) hx hb hts hi10 hown hK hP 0 rfl rfl 0 (by decide) hw0 (fun _ h9 => h9) rfl dX10_mayLie_14 ?_
    refine lv_ldc2 (v := (-1)) hx hb hown hw1 dX10_mayLie_17 ?_
    refine lv_lxor hx hb dX10_mayLie_20 ?_
    refine lv_land hx hb dX10_mayLie_21 ?_
    refine lv_lconst (v := 0) hx hb dX10_mayLie_22 (by decide) ?_
    refine W.lcmp hx hb dX10_mayLie_23 ?_
    refine lv_if_eq (tgt := 29) hx hb dX10_mayLie_24 (by decide) (fun c_2 => ?_) (fun c_2 => ?_)
    · replace c_2 := (lg_cmp_eq _ _).mp c_2
      refine lv_lload_n hx hb dX10_mayLie_29 rfl (lv_at hl 0 rfl) ?_
      refine lv_aload_n hx hb dX10_mayLie_30 rfl (lv_at hl 1 rfl) ?_
      refine va_get (D := D) (ci := 9) (v := .long (J 21)) (C := RX10) (T := TX10) (N := 30) hx hb hts hi10 hown hK hP 0 rfl rfl 21 (by decide) hw2 (fun _ h9 => h9) rfl dX10_mayLie_31 ?_
      refine lv_land hx hb dX10_mayLie_34 ?_
      refine lv_lconst (v := 0) hx hb dX10_mayLie_35 (by decide) ?_
      refine W.lcmp hx hb dX10_mayLie_36 ?_
      refine lv_if_eq (tgt := 62) hx hb dX10_mayLie_37 (by decide) (fun c_3 => ?_) (fun c_3 => ?_)
      · replace c_3 := (lg_cmp_eq _ _).mp c_3
        refine lv_iconst (v := 1) hx hb dX10_mayLie_62 (by decide) ?_
        refine lv_goto (tgt := 67) hx hb dX10_mayLie_63 (by decide) ?_
        exact pret_z hx hb hr hlocks (by have h1 : ¬ m_place x0 x1 = 0 := c_1; simp only [m_may, h1, c_2, c_3, decide_true, decide_false, Bool.not_false, Bool.not_true, Bool.true_and, Bool.and_true, Bool.false_and, Bool.and_false, Bool.or_true, Bool.true_or, Bool.false_or, Bool.or_false] <;> simp_all [bI]) dX10_mayLie_67
      · replace c_3 := fun z => c_3 ((lg_cmp_eq _ _).mpr z)
        refine lv_iload_n hx hb dX10_mayLie_40 rfl (lv_at hl 3 rfl) ?_
        refine lv_if_eq (tgt := 51) hx hb dX10_mayLie_41 (by decide) (fun c_4 => ?_) (fun c_4 => ?_)
        · replace c_4 := bI_f c_4
          refine lv_aload_n hx hb dX10_mayLie_51 rfl (lv_at hl 1 rfl) ?_
          refine va_get (D := D) (ci := 9) (v := .long (J 19)) (C := RX10) (T := TX10) (N := 30) hx hb hts hi10 hown hK hP 0 rfl rfl 19 (by decide) hw3 (fun _ h9 => h9) rfl dX10_mayLie_52 ?_
          refine lv_iload_n hx hb dX10_mayLie_55 rfl (lv_at hl 2 rfl) ?_
          refine kS_i (As := [.long (J 19), .int x0]) (rest := []) ⟨hx, hb, hml, hown, hts⟩ (c_X10_hasBit l (J 19) x0) (va_cwS 2 hts gX10_mayLie_X10_hasBit rfl rfl rfl (by decide +kernel) ⟨Nat.le_of_ble_eq_true rfl, Nat.le_of_ble_eq_true rfl⟩) rfl hl.1 rfl (Nat.le_of_ble_eq_true rfl) dX10_mayLie_56 ⟨Nat.le_of_ble_eq_true rfl, Nat.le_of_ble_eq_true rfl⟩ ?_
          refine lv_if_eq (tgt := 66) hx hb dX10_mayLie_59 (by decide) (fun c_5 => ?_) (fun c_5 => ?_)
          · replace c_5 := bI_f c_5
            refine lv_iconst (v := 0) hx hb dX10_mayLie_66 (by decide) ?_
            exact pret_z hx hb hr hlocks (by have h1 : ¬ m_place x0 x1 = 0 := c_1; have h3 : ¬ m_place x0 x1 &&& J 21 = 0 := c_3; simp only [m_may, h1, c_2, h3, decide_true, decide_false, Bool.not_false, Bool.not_true, Bool.true_and, Bool.and_true, Bool.false_and, Bool.and_false, Bool.or_true, Bool.true_or, Bool.false_or, Bool.or_false] <;> simp_all [bI]) dX10_mayLie_67
          · replace c_5 := bI_t c_5
            refine lv_iconst (v := 1) hx hb dX10_mayLie_62 (by decide) ?_
            refine lv_goto (tgt := 67) hx hb dX10_mayLie_63 (by decide) ?_
            exact pret_z hx hb hr hlocks (by have h1 : ¬ m_place x0 x1 = 0 := c_1; have h3 : ¬ m_place x0 x1 &&& J 21 = 0 := c_3; simp only [m_may, h1, c_2, h3, decide_true, decide_false, Bool.not_false, Bool.not_true, Bool.true_and, Bool.and_true, Bool.false_and, Bool.and_false, Bool.or_true, Bool.true_or, Bool.false_or, Bool.or_false] <;> simp_all [bI]) dX10_mayLie_67
        · replace c_4 := bI_t c_4
          refine lv_aload_n hx hb dX10_mayLie_44 rfl (lv_at hl 1 rfl) ?_
          refine va_get (D := D) (ci := 9) (v := .long (J 20)) (C := RX10) (T := TX10) (N := 30) hx hb hts hi10 hown hK hP 0 rfl rfl 20 (by decide) hw4 (fun _ h9 => h9) rfl dX10_mayLie_45 ?_
          refine lv_goto (tgt := 55) hx hb dX10_mayLie_48 (by decide) ?_
          refine lv_iload_n hx hb dX10_mayLie_55 rfl (lv_at hl 2 rfl) ?_
          refine kS_i (As := [.long (J 20), .int x0]) (rest := []) ⟨hx, hb, hml, hown, hts⟩ (c_X10_hasBit l (J 20) x0) (va_cwS 2 hts gX10_mayLie_X10_hasBit rfl rfl rfl (by decide +kernel) ⟨Nat.le_of_ble_eq_true rfl, Nat.le_of_ble_eq_true rfl⟩) rfl hl.1 rfl (Nat.le_of_ble_eq_true rfl) dX10_mayLie_56 ⟨Nat.le_of_ble_eq_true rfl, Nat.le_of_ble_eq_true rfl⟩ ?_
          refine lv_if_eq (tgt := 66) hx hb dX10_mayLie_59 (by decide) (fun c_6 => ?_) (fun c_6 => ?_)
          · replace c_6 := bI_f c_6
            refine lv_iconst (v := 0) hx hb dX10_mayLie_66 (by decide) ?_
            exact pret_z hx hb hr hlocks (by have h1 : ¬ m_place x0 x1 = 0 := c_1; have h3 : ¬ m_place x0 x1 &&& J 21 = 0 := c_3; simp only [m_may, h1, c_2, h3, decide_true, decide_false, Bool.not_false, Bool.not_true, Bool.true_and, Bool.and_true, Bool.false_and, Bool.and_false, Bool.or_true, Bool.true_or, Bool.false_or, Bool.or_false] <;> simp_all [bI]) dX10_mayLie_67
          · replace c_6 := bI_t c_6
            refine lv_iconst (v := 1) hx hb dX10_mayLie_62 (by decide) ?_
            refine lv_goto (tgt := 67) hx hb dX10_mayLie_63 (by decide) ?_
            exact pret_z hx hb hr hlocks (by have h1 : ¬ m_place x0 x1 = 0 := c_1; have h3 : ¬ m_place x0 x1 &&& J 21 = 0 := c_3; simp only [m_may, h1, c_2, h3, decide_true, decide_false, Bool.not_false, Bool.not_true, Bool.true_and, Bool.and_true, Bool.false_and, Bool.and_false, Bool.or_true, Bool.true_or, Bool.false_or, Bool.or_false] <;> simp_all [bI]) dX10_mayLie_67
    · replace c_2 := fun z => c_2 ((lg_cmp_eq _ _).mpr z)
      refine lv_iconst (v := 0) hx hb dX10_mayLie_27 (by decide) ?_
      exact pret_z hx hb hr hlocks (by have h1 : ¬ m_place x0 x1 = 0 := c_1; have h2 : ¬ m_place x0 x1 &&& (J 0 ^^^ (-1)) = 0 := c_2; simp only [m_may, h1, h2, decide_true, decide_false, Bool.not_false, Bool.not_true, Bool.true_and, Bool.and_true, Bool.false_and, Bool.and_false, Bool.or_true, Bool.true_or, Bool.false_or, Bool.or_false] <;> simp_all [bI]) dX10_mayLie_28
theorem dX10_waysAt_0 : decode cX10_waysAt 0 = .ok (.aload_n 0, 1) := by decide +kernel
theorem dX10_waysAt_1 : decode cX10_waysAt 1 = .ok (.getfield 45, 3) := by decide +kernel
theorem dX10_waysAt_4 : decode cX10_waysAt 4 = .ok (.sipush 256, 3) := by decide +kernel
theorem dX10_waysAt_7 : decode cX10_waysAt 7 = .ok (.iload_n 1, 1) := by decide +kernel
theorem dX10_waysAt_8 : decode cX10_waysAt 8 = .ok (.imul, 1) := by decide +kernel
theorem dX10_waysAt_9 : decode cX10_waysAt 9 = .ok (.iload_n 2, 1) := by decide +kernel
theorem dX10_waysAt_10 : decode cX10_waysAt 10 = .ok (.iadd, 1) := by decide +kernel
theorem dX10_waysAt_11 : decode cX10_waysAt 11 = .ok (.iaload, 1) := by decide +kernel
theorem dX10_waysAt_12 : decode cX10_waysAt 12 = .ok (.ireturn, 1) := by decide +kernel
set_option maxRecDepth 20000 in
theorem ihX10_waysAt_10 : ∀ w ∈ u_ws RX10 TX10 30, w ∈ wsX10_waysAt := fun _ h => List.mem_cons_of_mem _ (List.mem_append_right _ h)
set_option maxHeartbeats 4000000 in
set_option maxRecDepth 100000 in
theorem c_X10_waysAt (l : Launch) (D : va_G) (cy : Nat → ClassId) (a : Nat → Nat) (sz : Nat) (J : Nat → Int64) (I : Nat → Int32) (R : Nat → Nat → Int32) (RJ : Nat → Nat → Int64) (x0 : Int32) (x1 : Int32) (hx0 : vp_in ((256 : Int32) * x0 + x1) 16640) : Met l yX10_waysAt wsX10_waysAt ({ frames := 0, cells := 0, slots := 0, locals := 0 }) (va_Pc [.ref (a 0), .int x0, .int x1] (PW D cy sz (MW cy a J I R RJ))) (vp_Si (fun r => r = (R 12) ((256 : Int32) * x0 + x1).toNatClampNeg)) 0 0 (fun _ => False) := by
  refine Met.ofW (cc := cX10_waysAt) (maxL := 3) (ret := (some .int)) (by decide) rfl ?_
  intro p e s m args below meth c s₁ B hml hv
  obtain ⟨rfl, rfl, hP, hK, hN, hD0⟩ := hv
  have hx := B.exec
  have hb := B.bytes
  have hr := B.returns
  have hts := atoms_spec (ws := wsX10_waysAt) B.pre
  have hown : s.vm.findClass RX10 = some m.cls := findClass_of_methodNamed B.named
  have hlocks := B.notSynchronized
  have hw0 := hts (.fieldLink RX10 45 "ParquetLayerModel" "ways" "[I") (by decide +kernel)
  have hi10 := ihX10_waysAt_10
  have hD := hD0
  have hl := lv_entry ([.ref (a 0), .int x0, .int x1]) (n := 3) (Nat.le_of_ble_eq_true rfl)
  rw [lg_entry_eq]
  generalize (lg_sl ([.ref (a 0), .int x0, .int x1]) ++ List.replicate (3 - (lg_sl ([.ref (a 0), .int x0, .int x1])).length) Slot.unset).toArray = ls at hl ⊢
  have hl : lv_has ls 3 [(0, .ref (a 0)), (1, .int x0), (2, .int x1)] := hl
  refine lv_aload_n hx hb dX10_waysAt_0 rfl (lv_at hl 0 rfl) ?_
  refine va_get (D := D) (ci := 9) (v := .ref (a 12)) (C := RX10) (T := TX10) (N := 30) hx hb hts hi10 hown hK hP 0 rfl rfl 18 (by decide) hw0 (fun _ h9 => h9) rfl dX10_waysAt_1 ?_
  refine lv_sipush (v := 256) hx hb dX10_waysAt_4 (by decide) ?_
  refine lv_iload_n hx hb dX10_waysAt_7 rfl (lv_at hl 1 rfl) ?_
  refine lv_imul hx hb dX10_waysAt_8 ?_
  refine lv_iload_n hx hb dX10_waysAt_9 rfl (lv_at hl 2 rfl) ?_
  refine lv_iadd hx hb dX10_waysAt_10 ?_
  refine va_iald hx hb hK hP 12 0 rfl rfl hx0 dX10_waysAt_11 ?_
  exact pret_i hx hb hr hlocks rfl dX10_waysAt_12
theorem dX10_walk_17 : decode cX10_walk 17 = .ok (.iload 4, 2) := by decide +kernel
theorem dX10_walk_19 : decode cX10_walk 19 = .ok (.bipush 64, 2) := by decide +kernel
theorem dX10_walk_21 : decode cX10_walk 21 = .ok (.if_icmp .ge 157, 3) := by decide +kernel
theorem dX10_walk_178 : decode cX10_walk 178 = .ok (.return_, 1) := by decide +kernel
theorem dX10_walk_24 : decode cX10_walk 24 = .ok (.iload_n 3, 1) := by decide +kernel
theorem dX10_walk_25 : decode cX10_walk 25 = .ok (.iconst 1, 1) := by decide +kernel
theorem dX10_walk_26 : decode cX10_walk 26 = .ok (.ishr, 1) := by decide +kernel
theorem dX10_walk_27 : decode cX10_walk 27 = .ok (.istore 5, 2) := by decide +kernel
theorem dX10_walk_29 : decode cX10_walk 29 = .ok (.aload_n 0, 1) := by decide +kernel
theorem dX10_walk_30 : decode cX10_walk 30 = .ok (.getfield 81, 3) := by decide +kernel
theorem dX10_walk_33 : decode cX10_walk 33 = .ok (.iload 4, 2) := by decide +kernel
set_option maxRecDepth 20000 in
theorem ggX10_walk_X10_hasBit : GoodIn wsX10_walk wsX10_hasBit := goodIn_r _ [7] rfl (by decide +kernel)
set_option maxRecDepth 20000 in
theorem gX10_walk_X10_hasBit : GoodIn wsX10_walk (va_wsS RX10 74 yX10_hasBit wsX10_hasBit) := goodIn_app (goodIn_r _ [4, 5, 6] rfl (by decide +kernel)) ggX10_walk_X10_hasBit
theorem dX10_walk_35 : decode cX10_walk 35 = .ok (.invokestatic 74, 3) := by decide +kernel
theorem dX10_walk_38 : decode cX10_walk 38 = .ok (.ifCond .eq 131, 3) := by decide +kernel
theorem dX10_walk_169 : decode cX10_walk 169 = .ok (.iload 5, 2) := by decide +kernel
theorem dX10_walk_171 : decode cX10_walk 171 = .ok (.istore_n 3, 1) := by decide +kernel
theorem dX10_walk_172 : decode cX10_walk 172 = .ok (.iinc 4 1, 3) := by decide +kernel
theorem dX10_walk_175 : decode cX10_walk 175 = .ok (.goto (-158), 3) := by decide +kernel
theorem dX10_walk_41 : decode cX10_walk 41 = .ok (.iload_n 3, 1) := by decide +kernel
theorem dX10_walk_42 : decode cX10_walk 42 = .ok (.iconst 1, 1) := by decide +kernel
theorem dX10_walk_43 : decode cX10_walk 43 = .ok (.iand, 1) := by decide +kernel
theorem dX10_walk_44 : decode cX10_walk 44 = .ok (.ifCond .ne 125, 3) := by decide +kernel
theorem dX10_walk_47 : decode cX10_walk 47 = .ok (.aload_n 0, 1) := by decide +kernel
theorem dX10_walk_48 : decode cX10_walk 48 = .ok (.iload 4, 2) := by decide +kernel
theorem dX10_walk_50 : decode cX10_walk 50 = .ok (.iconst 0, 1) := by decide +kernel
set_option maxRecDepth 20000 in
theorem ggX10_walk_X10_mayLie : GoodIn wsX10_walk wsX10_mayLie := goodIn_r _ [11, 3, 12, 13, 14, 15, 16, 17, 6, 18, 19, 4, 5, 7, 25, 26, 27, 28, 29, 30, 31, 32, 33, 34, 35, 36, 37, 38, 39, 40, 41, 42, 43, 44, 45, 46, 47, 48, 49, 50, 51, 52, 53, 54] rfl (by decide +kernel)
set_option maxRecDepth 20000 in
theorem gX10_walk_X10_mayLie : GoodIn wsX10_walk (wsV RX10 194 RX10 yX10_mayLie wsX10_mayLie) := goodIn_app (goodIn_r _ [8, 9, 10, 6] rfl (by decide +kernel)) ggX10_walk_X10_mayLie
theorem dX10_walk_51 : decode cX10_walk 51 = .ok (.invokevirtual 194, 3) := by decide +kernel
theorem dX10_walk_54 : decode cX10_walk 54 = .ok (.ifCond .eq 24, 3) := by decide +kernel
theorem dX10_walk_78 : decode cX10_walk 78 = .ok (.iconst 0, 1) := by decide +kernel
theorem dX10_walk_79 : decode cX10_walk 79 = .ok (.istore 6, 2) := by decide +kernel
theorem dX10_walk_81 : decode cX10_walk 81 = .ok (.iload_n 2, 1) := by decide +kernel
theorem dX10_walk_82 : decode cX10_walk 82 = .ok (.iload 6, 2) := by decide +kernel
theorem dX10_walk_84 : decode cX10_walk 84 = .ok (.if_icmp .ge 7, 3) := by decide +kernel
theorem dX10_walk_91 : decode cX10_walk 91 = .ok (.iconst 0, 1) := by decide +kernel
theorem dX10_walk_92 : decode cX10_walk 92 = .ok (.istore 7, 2) := by decide +kernel
theorem dX10_walk_94 : decode cX10_walk 94 = .ok (.iload_n 2, 1) := by decide +kernel
theorem dX10_walk_95 : decode cX10_walk 95 = .ok (.iload 7, 2) := by decide +kernel
theorem dX10_walk_97 : decode cX10_walk 97 = .ok (.ifCond .eq 7, 3) := by decide +kernel
theorem dX10_walk_104 : decode cX10_walk 104 = .ok (.iload 6, 2) := by decide +kernel
theorem dX10_walk_106 : decode cX10_walk 106 = .ok (.isub, 1) := by decide +kernel
theorem dX10_walk_107 : decode cX10_walk 107 = .ok (.istore_n 2, 1) := by decide +kernel
theorem dX10_walk_108 : decode cX10_walk 108 = .ok (.aload_n 0, 1) := by decide +kernel
theorem dX10_walk_109 : decode cX10_walk 109 = .ok (.dup, 1) := by decide +kernel
theorem dX10_walk_110 : decode cX10_walk 110 = .ok (.getfield 210, 3) := by decide +kernel
theorem dX10_walk_113 : decode cX10_walk 113 = .ok (.iload 7, 2) := by decide +kernel
theorem dX10_walk_115 : decode cX10_walk 115 = .ok (.ifCond .eq 10, 3) := by decide +kernel
theorem dX10_walk_125 : decode cX10_walk 125 = .ok (.lconst 0, 1) := by decide +kernel
theorem dX10_walk_126 : decode cX10_walk 126 = .ok (.lor, 1) := by decide +kernel
theorem dX10_walk_127 : decode cX10_walk 127 = .ok (.putfield 210, 3) := by decide +kernel
theorem dX10_walk_130 : decode cX10_walk 130 = .ok (.aload_n 0, 1) := by decide +kernel
theorem dX10_walk_131 : decode cX10_walk 131 = .ok (.dup, 1) := by decide +kernel
theorem dX10_walk_132 : decode cX10_walk 132 = .ok (.getfield 213, 3) := by decide +kernel
theorem dX10_walk_135 : decode cX10_walk 135 = .ok (.iload 7, 2) := by decide +kernel
theorem dX10_walk_137 : decode cX10_walk 137 = .ok (.ifCond .eq 7, 3) := by decide +kernel
theorem dX10_walk_144 : decode cX10_walk 144 = .ok (.lconst 1, 1) := by decide +kernel
theorem dX10_walk_145 : decode cX10_walk 145 = .ok (.iload 4, 2) := by decide +kernel
theorem dX10_walk_147 : decode cX10_walk 147 = .ok (.lshl, 1) := by decide +kernel
theorem dX10_walk_148 : decode cX10_walk 148 = .ok (.lor, 1) := by decide +kernel
theorem dX10_walk_149 : decode cX10_walk 149 = .ok (.putfield 213, 3) := by decide +kernel
theorem dX10_walk_152 : decode cX10_walk 152 = .ok (.iload 5, 2) := by decide +kernel
theorem dX10_walk_154 : decode cX10_walk 154 = .ok (.iload 7, 2) := by decide +kernel
theorem dX10_walk_156 : decode cX10_walk 156 = .ok (.ifCond .eq 7, 3) := by decide +kernel
theorem dX10_walk_163 : decode cX10_walk 163 = .ok (.sipush 128, 3) := by decide +kernel
theorem dX10_walk_166 : decode cX10_walk 166 = .ok (.ior, 1) := by decide +kernel
theorem dX10_walk_167 : decode cX10_walk 167 = .ok (.istore 5, 2) := by decide +kernel
theorem dX10_walk_87 : decode cX10_walk 87 = .ok (.iconst 1, 1) := by decide +kernel
theorem dX10_walk_88 : decode cX10_walk 88 = .ok (.goto 4, 3) := by decide +kernel
theorem dX10_walk_100 : decode cX10_walk 100 = .ok (.iconst 0, 1) := by decide +kernel
theorem dX10_walk_101 : decode cX10_walk 101 = .ok (.goto 5, 3) := by decide +kernel
theorem dX10_walk_118 : decode cX10_walk 118 = .ok (.lconst 1, 1) := by decide +kernel
theorem dX10_walk_119 : decode cX10_walk 119 = .ok (.iload 4, 2) := by decide +kernel
theorem dX10_walk_121 : decode cX10_walk 121 = .ok (.lshl, 1) := by decide +kernel
theorem dX10_walk_122 : decode cX10_walk 122 = .ok (.goto 4, 3) := by decide +kernel
theorem dX10_walk_140 : decode cX10_walk 140 = .ok (.lconst 0, 1) := by decide +kernel
theorem dX10_walk_141 : decode cX10_walk 141 = .ok (.goto 7, 3) := by decide +kernel
theorem dX10_walk_159 : decode cX10_walk 159 = .ok (.iconst 1, 1) := by decide +kernel
theorem dX10_walk_160 : decode cX10_walk 160 = .ok (.goto 6, 3) := by decide +kernel
theorem dX10_walk_57 : decode cX10_walk 57 = .ok (.iload_n 3, 1) := by decide +kernel
theorem dX10_walk_58 : decode cX10_walk 58 = .ok (.iconst 2, 1) := by decide +kernel
theorem dX10_walk_59 : decode cX10_walk 59 = .ok (.iand, 1) := by decide +kernel
theorem dX10_walk_60 : decode cX10_walk 60 = .ok (.ifCond .ne 18, 3) := by decide +kernel
theorem dX10_walk_63 : decode cX10_walk 63 = .ok (.aload_n 0, 1) := by decide +kernel
theorem dX10_walk_64 : decode cX10_walk 64 = .ok (.iload 4, 2) := by decide +kernel
theorem dX10_walk_66 : decode cX10_walk 66 = .ok (.iconst 1, 1) := by decide +kernel
theorem dX10_walk_67 : decode cX10_walk 67 = .ok (.iadd, 1) := by decide +kernel
theorem dX10_walk_68 : decode cX10_walk 68 = .ok (.iload 5, 2) := by decide +kernel
theorem dX10_walk_70 : decode cX10_walk 70 = .ok (.iconst 1, 1) := by decide +kernel
theorem dX10_walk_71 : decode cX10_walk 71 = .ok (.ior, 1) := by decide +kernel
set_option maxRecDepth 20000 in
theorem ggX10_walk_X10_waysAt : GoodIn wsX10_walk wsX10_waysAt := goodIn_r _ [23, 24, 25, 26, 27, 28, 29, 30, 31, 32, 33, 34, 35, 36, 37, 38, 39, 40, 41, 42, 43, 44, 45, 46, 47, 48, 49, 50, 51, 52, 53, 54] rfl (by decide +kernel)
set_option maxRecDepth 20000 in
theorem gX10_walk_X10_waysAt : GoodIn wsX10_walk (wsV RX10 197 RX10 yX10_waysAt wsX10_waysAt) := goodIn_app (goodIn_r _ [20, 21, 22, 6] rfl (by decide +kernel)) ggX10_walk_X10_waysAt
theorem dX10_walk_72 : decode cX10_walk 72 = .ok (.invokevirtual 197, 3) := by decide +kernel
theorem dX10_walk_75 : decode cX10_walk 75 = .ok (.goto 4, 3) := by decide +kernel
theorem dX10_walk_0 : decode cX10_walk 0 = .ok (.iload_n 1, 1) := by decide +kernel
theorem dX10_walk_1 : decode cX10_walk 1 = .ok (.istore_n 2, 1) := by decide +kernel
theorem dX10_walk_2 : decode cX10_walk 2 = .ok (.iconst 0, 1) := by decide +kernel
theorem dX10_walk_3 : decode cX10_walk 3 = .ok (.istore_n 3, 1) := by decide +kernel
theorem dX10_walk_4 : decode cX10_walk 4 = .ok (.aload_n 0, 1) := by decide +kernel
theorem dX10_walk_5 : decode cX10_walk 5 = .ok (.lconst 0, 1) := by decide +kernel
theorem dX10_walk_6 : decode cX10_walk 6 = .ok (.putfield 210, 3) := by decide +kernel
theorem dX10_walk_9 : decode cX10_walk 9 = .ok (.aload_n 0, 1) := by decide +kernel
theorem dX10_walk_10 : decode cX10_walk 10 = .ok (.lconst 0, 1) := by decide +kernel
theorem dX10_walk_11 : decode cX10_walk 11 = .ok (.putfield 213, 3) := by decide +kernel
theorem dX10_walk_14 : decode cX10_walk 14 = .ok (.iconst 0, 1) := by decide +kernel
theorem dX10_walk_15 : decode cX10_walk 15 = .ok (.istore 4, 2) := by decide +kernel
set_option maxRecDepth 20000 in
theorem ihX10_walk_10 : ∀ w ∈ u_ws RX10 TX10 30, w ∈ wsX10_walk := fun _ h => List.mem_cons_of_mem _ (List.mem_append_right _ h)
set_option maxHeartbeats 4000000 in
set_option maxRecDepth 100000 in
theorem t_X10_walk (l : Launch) (D : va_G) (cy : Nat → ClassId) (a : Nat → Nat) (sz : Nat) (J : Nat → Int64) (I : Nat → Int32) (R : Nat → Nat → Int32) (RJ : Nat → Nat → Int64) (x0 : Int32) : Met l yX10_walk wsX10_walk ({ frames := 2, cells := 0, slots := 0, locals := 46 }) (va_Pc [.ref (a 0), .int x0] (PW D cy sz (MW cy a J I R RJ))) (va_Qv (fun (u : MS) => ∃ (w0 : Int64), ∃ (w1 : Int64), (True) ∧ u = ((va_up (va_up J 22 w0) 23 w1), I, R, RJ)) (BW D (va_A (MW cy a J I R RJ) sz) (MWu cy a)) (va_A (MW cy a J I R RJ) sz)) 0 0 (va_A (MW cy a J I R RJ) sz) := by
  refine Met.ofW (cc := cX10_walk) (maxL := 8) (ret := none) (by decide) rfl ?_
  intro p e s m args below meth c s₁ B hml hv
  obtain ⟨rfl, rfl, hP, hK, hN, hD0⟩ := hv
  have hx := B.exec
  have hb := B.bytes
  have hr := B.returns
  have hts := atoms_spec (ws := wsX10_walk) B.pre
  have hown : s.vm.findClass RX10 = some m.cls := findClass_of_methodNamed B.named
  have hlocks := B.notSynchronized
  have hw0 := hts (.fieldLink RX10 81 "ParquetLayerModel" "floor" "J") (by decide +kernel)
  have hw1 := hts (.fieldLink RX10 210 "ParquetLayerModel" "walkAlong" "J") (by decide +kernel)
  have hw2 := hts (.fieldLink RX10 213 "ParquetLayerModel" "walkAcross" "J") (by decide +kernel)
  have hi10 := ihX10_walk_10
  have hD := hD0.self (sz := s.heap.size)
  generalize hAe : va_A (MW cy a J I R RJ) s.heap.size = A at hD ⊢
  have hA : ∀ q : Nat, s.heap.size ≤ q → A q := fun q h => by rw [← hAe]; exact Or.inr h
  have hS : va_S A s.heap s.heap [] := va_S.rf
  have hl := lv_entry ([.ref (a 0), .int x0]) (n := 8) (Nat.le_of_ble_eq_true rfl)
  rw [lg_entry_eq]
  generalize (lg_sl ([.ref (a 0), .int x0]) ++ List.replicate (8 - (lg_sl ([.ref (a 0), .int x0])).length) Slot.unset).toArray = ls at hl ⊢
  have hl : lv_has ls 8 [(0, .ref (a 0)), (1, .int x0)] := hl
  have hP : va_P D vwCl (MW cy a (va_up (va_up J 22 (J 22)) 23 (J 23)) I R RJ) s.heap := hP
  have hD : va_D A (MW cy a (va_up (va_up J 22 (J 22)) 23 (J 23)) I R RJ) := hD
  have lp17 : ∀ (n17 : Nat), ∀ (i : Nat) (mk : Nat) (v2_17 : Int32) (m0_17 : Int64) (m1_17 : Int64), (i ≤ 64) → (mk < 256) → (64 - i) < n17 → ∀ (H : Heap) (locs : List Loc), va_P D vwCl (MW cy a (va_up (va_up J 22 m0_17) 23 m1_17) I R RJ) H → va_D A (MW cy a (va_up (va_up J 22 m0_17) 23 m1_17) I R RJ) → va_S A s.heap H locs → ∀ (ls : Array Slot), lv_has ls 8 [(0, .ref (a 0)), (1, .int x0), (2, .int v2_17), (3, .int (nI mk)), (4, .int (nI i))] → W p l e (headSpec wsX10_walk ({ frames := 2, cells := 0, slots := 0, locals := 46 })).room s m ([.ref (a 0), .int x0] : List Value).toArray below meth c H locs 0 0 (MQ below (va_Qv (fun (u : MS) => ∃ (w0 : Int64), ∃ (w1 : Int64), (True) ∧ u = ((va_up (va_up J 22 w0) 23 w1), I, R, RJ)) (BW D A (MWu cy a)) A) ([.ref (a 0), .int x0] : List Value).toArray s 0 0 A) (F0 m 17 ls []) := by
    intro n17
    induction n17 with
    | zero => intro i mk v2_17 m0_17 m1_17 hi hmk hn; exact absurd hn (Nat.not_lt_zero _)
    | succ n17 ih17 =>
      intro i mk v2_17 m0_17 m1_17 hi hmk hn17 H locs hP hD hS ls hl
      refine lv_iload hx hb dX10_walk_17 (lv_at hl 4 rfl) ?_
      refine lv_bipush (v := 64) hx hb dX10_walk_19 (by decide) ?_
      refine lv_icmp_ge (tgt := 178) hx hb dX10_walk_21 (by decide) (fun c_1 => ?_) (fun c_1 => ?_)
      · exact wret_v hx hb hr hlocks ((va_up (va_up J 22 m0_17) 23 m1_17), I, R, RJ) ⟨m0_17, m1_17, trivial, rfl⟩ hP hD hS dX10_walk_178
      · have hlt_i := ctr_lt (N := 64) (by decide) hi c_1
        refine lv_iload_n hx hb dX10_walk_24 rfl (lv_at hl 3 rfl) ?_
        refine lv_iconst (v := 1) hx hb dX10_walk_25 (by decide) ?_
        refine lv_ishr hx hb dX10_walk_26 ?_
        refine wtop_i (y := nI (mk / 2)) (pk_shrN (by omega) _ 1 (by decide)) ?_
        refine lv_istore (lv' := [(5, .int (nI (mk / 2))), (0, .ref (a 0)), (1, .int x0), (2, .int v2_17), (3, .int (nI mk)), (4, .int (nI i))]) hx hb dX10_walk_27 hl (by decide) rfl (fun ls hl => ?_)
        refine lv_aload_n hx hb dX10_walk_29 rfl (lv_at hl 1 rfl) ?_
        refine va_get (D := D) (ci := 9) (v := .long (J 0)) (C := RX10) (T := TX10) (N := 30) hx hb hts hi10 hown hK hP 0 rfl rfl 0 (by decide) hw0 (fun _ h9 => h9) rfl dX10_walk_30 ?_
        refine lv_iload hx hb dX10_walk_33 (lv_at hl 5 rfl) ?_
        refine kS_i (As := [.long (J 0), .int (nI i)]) (rest := []) ⟨hx, hb, hml, hown, hts⟩ (c_X10_hasBit l (J 0) (nI i)) (va_cwS 2 hts gX10_walk_X10_hasBit rfl rfl rfl (by decide +kernel) ⟨Nat.le_of_ble_eq_true rfl, Nat.le_of_ble_eq_true rfl⟩) rfl hl.1 rfl (Nat.le_of_ble_eq_true rfl) dX10_walk_35 ⟨Nat.le_of_ble_eq_true rfl, Nat.le_of_ble_eq_true rfl⟩ ?_
        refine lv_if_eq (tgt := 169) hx hb dX10_walk_38 (by decide) (fun c_2 => ?_) (fun c_2 => ?_)
        · replace c_2 := bI_f c_2
          refine lv_iload hx hb dX10_walk_169 (lv_at hl 0 rfl) ?_
          refine lv_istore_n (lv' := [(3, .int (nI (mk / 2))), (5, .int (nI (mk / 2))), (0, .ref (a 0)), (1, .int x0), (2, .int v2_17), (4, .int (nI i))]) hx hb dX10_walk_171 rfl hl (by decide) rfl (fun ls hl => ?_)
          refine lv_iinc (v := nI (i + 1)) (lv' := [(4, .int (nI (i + 1))), (3, .int (nI (mk / 2))), (5, .int (nI (mk / 2))), (0, .ref (a 0)), (1, .int x0), (2, .int v2_17)]) hx hb dX10_walk_172 hl (k := 5) rfl (nI_1 _) (by decide) rfl (fun ls hl => ?_)
          refine lv_goto (tgt := 17) hx hb dX10_walk_175 (by decide) ?_
          exact ih17 (i + 1) (mk / 2) v2_17 m0_17 m1_17 (by omega) (by omega) (by omega) _ _ hP hD hS ls (lv_sub hl [3, 4, 5, 1, 0] rfl)
        · replace c_2 := bI_t c_2
          refine lv_iload_n hx hb dX10_walk_41 rfl (lv_at hl 4 rfl) ?_
          refine lv_iconst (v := 1) hx hb dX10_walk_42 (by decide) ?_
          refine lv_iand hx hb dX10_walk_43 ?_
          refine lv_if_ne (tgt := 169) hx hb dX10_walk_44 (by decide) (fun c_3 => ?_) (fun c_3 => ?_)
          · refine lv_iload hx hb dX10_walk_169 (lv_at hl 0 rfl) ?_
            refine lv_istore_n (lv' := [(3, .int (nI (mk / 2))), (5, .int (nI (mk / 2))), (0, .ref (a 0)), (1, .int x0), (2, .int v2_17), (4, .int (nI i))]) hx hb dX10_walk_171 rfl hl (by decide) rfl (fun ls hl => ?_)
            refine lv_iinc (v := nI (i + 1)) (lv' := [(4, .int (nI (i + 1))), (3, .int (nI (mk / 2))), (5, .int (nI (mk / 2))), (0, .ref (a 0)), (1, .int x0), (2, .int v2_17)]) hx hb dX10_walk_172 hl (k := 5) rfl (nI_1 _) (by decide) rfl (fun ls hl => ?_)
            refine lv_goto (tgt := 17) hx hb dX10_walk_175 (by decide) ?_
            exact ih17 (i + 1) (mk / 2) v2_17 m0_17 m1_17 (by omega) (by omega) (by omega) _ _ hP hD hS ls (lv_sub hl [3, 4, 5, 1, 0] rfl)
          · refine lv_aload_n hx hb dX10_walk_47 rfl (lv_at hl 1 rfl) ?_
            refine lv_iload hx hb dX10_walk_48 (lv_at hl 5 rfl) ?_
            refine lv_iconst (v := 0) hx hb dX10_walk_50 (by decide) ?_
            refine kR_i (As := [.int (nI i), .int 0]) (rest := []) (q0 := 0) ⟨hx, hb, hml, hown, hts⟩ (c_X10_mayLie l D cy a _ (va_up (va_up J 22 m0_17) 23 m1_17) I R RJ (nI i) false ) (cwV 2 hts gX10_walk_X10_mayLie rfl rfl rfl (by decide +kernel) ⟨Nat.le_of_ble_eq_true rfl, Nat.le_of_ble_eq_true rfl⟩) hK hN hP hD rfl rfl rfl hl.1 rfl (Nat.le_of_ble_eq_true rfl) dX10_walk_51 ⟨Nat.le_of_ble_eq_true rfl, Nat.le_of_ble_eq_true rfl⟩ ?_
            refine lv_if_eq (tgt := 78) hx hb dX10_walk_54 (by decide) (fun c_4 => ?_) (fun c_4 => ?_)
            · replace c_4 := bI_f c_4
              refine lv_iconst (v := 0) hx hb dX10_walk_78 (by decide) ?_
              refine lv_istore (lv' := [(6, .int 0), (5, .int (nI (mk / 2))), (0, .ref (a 0)), (1, .int x0), (2, .int v2_17), (3, .int (nI mk)), (4, .int (nI i))]) hx hb dX10_walk_79 hl (by decide) rfl (fun ls hl => ?_)
              refine lv_iload_n hx hb dX10_walk_81 rfl (lv_at hl 4 rfl) ?_
              refine lv_iload hx hb dX10_walk_82 (lv_at hl 0 rfl) ?_
              refine lv_icmp_ge (tgt := 91) hx hb dX10_walk_84 (by decide) (fun c_5 => ?_) (fun c_5 => ?_)
              · refine lv_iconst (v := 0) hx hb dX10_walk_91 (by decide) ?_
                refine lv_istore (lv' := [(7, .int 0), (6, .int 0), (5, .int (nI (mk / 2))), (0, .ref (a 0)), (1, .int x0), (2, .int v2_17), (3, .int (nI mk)), (4, .int (nI i))]) hx hb dX10_walk_92 hl (by decide) rfl (fun ls hl => ?_)
                refine lv_iload_n hx hb dX10_walk_94 rfl (lv_at hl 5 rfl) ?_
                refine lv_iload hx hb dX10_walk_95 (lv_at hl 0 rfl) ?_
                refine lv_if_eq (tgt := 104) hx hb dX10_walk_97 (by decide) (fun c_6 => ?_) (fun c_6 => absurd (by decide) c_6)
                refine lv_iload hx hb dX10_walk_104 (lv_at hl 1 rfl) ?_
                refine lv_isub hx hb dX10_walk_106 ?_
                refine lv_istore_n (lv' := [(2, .int (v2_17 - 0)), (7, .int 0), (6, .int 0), (5, .int (nI (mk / 2))), (0, .ref (a 0)), (1, .int x0), (3, .int (nI mk)), (4, .int (nI i))]) hx hb dX10_walk_107 rfl hl (by decide) rfl (fun ls hl => ?_)
                refine lv_aload_n hx hb dX10_walk_108 rfl (lv_at hl 4 rfl) ?_
                refine lv_dup hx hb dX10_walk_109 rfl ?_
                refine va_get (D := D) (ci := 9) (v := .long m0_17) (C := RX10) (T := TX10) (N := 30) hx hb hts hi10 hown hK hP 0 rfl rfl 22 (by decide) hw1 (fun _ h9 => h9) rfl dX10_walk_110 ?_
                refine lv_iload hx hb dX10_walk_113 (lv_at hl 1 rfl) ?_
                refine lv_if_eq (tgt := 125) hx hb dX10_walk_115 (by decide) (fun c_7 => ?_) (fun c_7 => absurd (by decide) c_7)
                refine lv_lconst (v := 0) hx hb dX10_walk_125 (by decide) ?_
                refine lv_lor hx hb dX10_walk_126 ?_
                refine va_put (D := D) (ci := 9) (v := .long (m0_17 ||| 0)) (ty := .long) (C := RX10) (T := TX10) (N := 30) hx hb hts hi10 tyX10 tyX10_ok nmX10 hown hK hP hD hS 0 rfl rfl 22 (by decide) hw1 (fun _ h9 => h9) rfl (by decide +kernel) rfl rfl (Nat.le_of_ble_eq_true rfl) dX10_walk_127 (fun H locs hP hD hS => ?_)
                have hP : va_P D vwCl (MW cy a (va_up (va_up J 22 (m0_17 ||| 0)) 23 m1_17) I R RJ) H := hP
                have hD : va_D A (MW cy a (va_up (va_up J 22 (m0_17 ||| 0)) 23 m1_17) I R RJ) := hD
                refine lv_aload_n hx hb dX10_walk_130 rfl (lv_at hl 4 rfl) ?_
                refine lv_dup hx hb dX10_walk_131 rfl ?_
                refine va_get (D := D) (ci := 9) (v := .long m1_17) (C := RX10) (T := TX10) (N := 30) hx hb hts hi10 hown hK hP 0 rfl rfl 23 (by decide) hw2 (fun _ h9 => h9) rfl dX10_walk_132 ?_
                refine lv_iload hx hb dX10_walk_135 (lv_at hl 1 rfl) ?_
                refine lv_if_eq (tgt := 144) hx hb dX10_walk_137 (by decide) (fun c_8 => ?_) (fun c_8 => absurd (by decide) c_8)
                refine lv_lconst (v := 1) hx hb dX10_walk_144 (by decide) ?_
                refine lv_iload hx hb dX10_walk_145 (lv_at hl 7 rfl) ?_
                refine lv_lshl (v := (1 : Int64) <<< ((nI i : Int32).toInt64 &&& 63)) hx hb dX10_walk_147 rfl ?_
                refine lv_lor hx hb dX10_walk_148 ?_
                refine va_put (D := D) (ci := 9) (v := .long (m1_17 ||| ((1 : Int64) <<< ((nI i : Int32).toInt64 &&& 63)))) (ty := .long) (C := RX10) (T := TX10) (N := 30) hx hb hts hi10 tyX10 tyX10_ok nmX10 hown hK hP hD hS 0 rfl rfl 23 (by decide) hw2 (fun _ h9 => h9) rfl (by decide +kernel) rfl rfl (Nat.le_of_ble_eq_true rfl) dX10_walk_149 (fun H locs hP hD hS => ?_)
                have hP : va_P D vwCl (MW cy a (va_up (va_up J 22 (m0_17 ||| 0)) 23 (m1_17 ||| ((1 : Int64) <<< ((nI i : Int32).toInt64 &&& 63)))) I R RJ) H := hP
                have hD : va_D A (MW cy a (va_up (va_up J 22 (m0_17 ||| 0)) 23 (m1_17 ||| ((1 : Int64) <<< ((nI i : Int32).toInt64 &&& 63)))) I R RJ) := hD
                refine lv_iload hx hb dX10_walk_152 (lv_at hl 3 rfl) ?_
                refine lv_iload hx hb dX10_walk_154 (lv_at hl 1 rfl) ?_
                refine lv_if_eq (tgt := 163) hx hb dX10_walk_156 (by decide) (fun c_9 => ?_) (fun c_9 => absurd (by decide) c_9)
                refine lv_sipush (v := 128) hx hb dX10_walk_163 (by decide) ?_
                refine lv_ior hx hb dX10_walk_166 ?_
                refine wtop_i (y := nI (mk / 2 + 128)) (or128_t ⟨mk / 2, by omega⟩) ?_
                refine lv_istore (lv' := [(5, .int (nI (mk / 2 + 128))), (2, .int (v2_17 - 0)), (7, .int 0), (6, .int 0), (0, .ref (a 0)), (1, .int x0), (3, .int (nI mk)), (4, .int (nI i))]) hx hb dX10_walk_167 hl (by decide) rfl (fun ls hl => ?_)
                refine lv_iload hx hb dX10_walk_169 (lv_at hl 0 rfl) ?_
                refine lv_istore_n (lv' := [(3, .int (nI (mk / 2 + 128))), (5, .int (nI (mk / 2 + 128))), (2, .int (v2_17 - 0)), (7, .int 0), (6, .int 0), (0, .ref (a 0)), (1, .int x0), (4, .int (nI i))]) hx hb dX10_walk_171 rfl hl (by decide) rfl (fun ls hl => ?_)
                refine lv_iinc (v := nI (i + 1)) (lv' := [(4, .int (nI (i + 1))), (3, .int (nI (mk / 2 + 128))), (5, .int (nI (mk / 2 + 128))), (2, .int (v2_17 - 0)), (7, .int 0), (6, .int 0), (0, .ref (a 0)), (1, .int x0)]) hx hb dX10_walk_172 hl (k := 7) rfl (nI_1 _) (by decide) rfl (fun ls hl => ?_)
                refine lv_goto (tgt := 17) hx hb dX10_walk_175 (by decide) ?_
                exact ih17 (i + 1) (mk / 2 + 128) (v2_17 - 0) (m0_17 ||| 0) (m1_17 ||| ((1 : Int64) <<< ((nI i : Int32).toInt64 &&& 63))) (by omega) (by omega) (by omega) _ _ hP hD hS ls (lv_sub hl [6, 7, 3, 1, 0] rfl)
              · refine lv_iconst (v := 1) hx hb dX10_walk_87 (by decide) ?_
                refine lv_goto (tgt := 92) hx hb dX10_walk_88 (by decide) ?_
                refine lv_istore (lv' := [(7, .int 1), (6, .int 0), (5, .int (nI (mk / 2))), (0, .ref (a 0)), (1, .int x0), (2, .int v2_17), (3, .int (nI mk)), (4, .int (nI i))]) hx hb dX10_walk_92 hl (by decide) rfl (fun ls hl => ?_)
                refine lv_iload_n hx hb dX10_walk_94 rfl (lv_at hl 5 rfl) ?_
                refine lv_iload hx hb dX10_walk_95 (lv_at hl 0 rfl) ?_
                refine lv_if_eq (tgt := 104) hx hb dX10_walk_97 (by decide) (fun c_10 => absurd c_10 (by decide)) (fun c_10 => ?_)
                refine lv_iconst (v := 0) hx hb dX10_walk_100 (by decide) ?_
                refine lv_goto (tgt := 106) hx hb dX10_walk_101 (by decide) ?_
                refine lv_isub hx hb dX10_walk_106 ?_
                refine lv_istore_n (lv' := [(2, .int (v2_17 - 0)), (7, .int 1), (6, .int 0), (5, .int (nI (mk / 2))), (0, .ref (a 0)), (1, .int x0), (3, .int (nI mk)), (4, .int (nI i))]) hx hb dX10_walk_107 rfl hl (by decide) rfl (fun ls hl => ?_)
                refine lv_aload_n hx hb dX10_walk_108 rfl (lv_at hl 4 rfl) ?_
                refine lv_dup hx hb dX10_walk_109 rfl ?_
                refine va_get (D := D) (ci := 9) (v := .long m0_17) (C := RX10) (T := TX10) (N := 30) hx hb hts hi10 hown hK hP 0 rfl rfl 22 (by decide) hw1 (fun _ h9 => h9) rfl dX10_walk_110 ?_
                refine lv_iload hx hb dX10_walk_113 (lv_at hl 1 rfl) ?_
                refine lv_if_eq (tgt := 125) hx hb dX10_walk_115 (by decide) (fun c_11 => absurd c_11 (by decide)) (fun c_11 => ?_)
                refine lv_lconst (v := 1) hx hb dX10_walk_118 (by decide) ?_
                refine lv_iload hx hb dX10_walk_119 (lv_at hl 7 rfl) ?_
                refine lv_lshl (v := (1 : Int64) <<< ((nI i : Int32).toInt64 &&& 63)) hx hb dX10_walk_121 rfl ?_
                refine lv_goto (tgt := 126) hx hb dX10_walk_122 (by decide) ?_
                refine lv_lor hx hb dX10_walk_126 ?_
                refine va_put (D := D) (ci := 9) (v := .long (m0_17 ||| ((1 : Int64) <<< ((nI i : Int32).toInt64 &&& 63)))) (ty := .long) (C := RX10) (T := TX10) (N := 30) hx hb hts hi10 tyX10 tyX10_ok nmX10 hown hK hP hD hS 0 rfl rfl 22 (by decide) hw1 (fun _ h9 => h9) rfl (by decide +kernel) rfl rfl (Nat.le_of_ble_eq_true rfl) dX10_walk_127 (fun H locs hP hD hS => ?_)
                have hP : va_P D vwCl (MW cy a (va_up (va_up J 22 (m0_17 ||| ((1 : Int64) <<< ((nI i : Int32).toInt64 &&& 63)))) 23 m1_17) I R RJ) H := hP
                have hD : va_D A (MW cy a (va_up (va_up J 22 (m0_17 ||| ((1 : Int64) <<< ((nI i : Int32).toInt64 &&& 63)))) 23 m1_17) I R RJ) := hD
                refine lv_aload_n hx hb dX10_walk_130 rfl (lv_at hl 4 rfl) ?_
                refine lv_dup hx hb dX10_walk_131 rfl ?_
                refine va_get (D := D) (ci := 9) (v := .long m1_17) (C := RX10) (T := TX10) (N := 30) hx hb hts hi10 hown hK hP 0 rfl rfl 23 (by decide) hw2 (fun _ h9 => h9) rfl dX10_walk_132 ?_
                refine lv_iload hx hb dX10_walk_135 (lv_at hl 1 rfl) ?_
                refine lv_if_eq (tgt := 144) hx hb dX10_walk_137 (by decide) (fun c_12 => absurd c_12 (by decide)) (fun c_12 => ?_)
                refine lv_lconst (v := 0) hx hb dX10_walk_140 (by decide) ?_
                refine lv_goto (tgt := 148) hx hb dX10_walk_141 (by decide) ?_
                refine lv_lor hx hb dX10_walk_148 ?_
                refine va_put (D := D) (ci := 9) (v := .long (m1_17 ||| 0)) (ty := .long) (C := RX10) (T := TX10) (N := 30) hx hb hts hi10 tyX10 tyX10_ok nmX10 hown hK hP hD hS 0 rfl rfl 23 (by decide) hw2 (fun _ h9 => h9) rfl (by decide +kernel) rfl rfl (Nat.le_of_ble_eq_true rfl) dX10_walk_149 (fun H locs hP hD hS => ?_)
                have hP : va_P D vwCl (MW cy a (va_up (va_up J 22 (m0_17 ||| ((1 : Int64) <<< ((nI i : Int32).toInt64 &&& 63)))) 23 (m1_17 ||| 0)) I R RJ) H := hP
                have hD : va_D A (MW cy a (va_up (va_up J 22 (m0_17 ||| ((1 : Int64) <<< ((nI i : Int32).toInt64 &&& 63)))) 23 (m1_17 ||| 0)) I R RJ) := hD
                refine lv_iload hx hb dX10_walk_152 (lv_at hl 3 rfl) ?_
                refine lv_iload hx hb dX10_walk_154 (lv_at hl 1 rfl) ?_
                refine lv_if_eq (tgt := 163) hx hb dX10_walk_156 (by decide) (fun c_13 => absurd c_13 (by decide)) (fun c_13 => ?_)
                refine lv_iconst (v := 1) hx hb dX10_walk_159 (by decide) ?_
                refine lv_goto (tgt := 166) hx hb dX10_walk_160 (by decide) ?_
                refine lv_ior hx hb dX10_walk_166 ?_
                refine wtop_i (y := nI (mk / 2 / 2 * 2 + 1)) (or1_t ⟨mk / 2, by omega⟩) ?_
                refine lv_istore (lv' := [(5, .int (nI (mk / 2 / 2 * 2 + 1))), (2, .int (v2_17 - 0)), (7, .int 1), (6, .int 0), (0, .ref (a 0)), (1, .int x0), (3, .int (nI mk)), (4, .int (nI i))]) hx hb dX10_walk_167 hl (by decide) rfl (fun ls hl => ?_)
                refine lv_iload hx hb dX10_walk_169 (lv_at hl 0 rfl) ?_
                refine lv_istore_n (lv' := [(3, .int (nI (mk / 2 / 2 * 2 + 1))), (5, .int (nI (mk / 2 / 2 * 2 + 1))), (2, .int (v2_17 - 0)), (7, .int 1), (6, .int 0), (0, .ref (a 0)), (1, .int x0), (4, .int (nI i))]) hx hb dX10_walk_171 rfl hl (by decide) rfl (fun ls hl => ?_)
                refine lv_iinc (v := nI (i + 1)) (lv' := [(4, .int (nI (i + 1))), (3, .int (nI (mk / 2 / 2 * 2 + 1))), (5, .int (nI (mk / 2 / 2 * 2 + 1))), (2, .int (v2_17 - 0)), (7, .int 1), (6, .int 0), (0, .ref (a 0)), (1, .int x0)]) hx hb dX10_walk_172 hl (k := 7) rfl (nI_1 _) (by decide) rfl (fun ls hl => ?_)
                refine lv_goto (tgt := 17) hx hb dX10_walk_175 (by decide) ?_
                exact ih17 (i + 1) (mk / 2 / 2 * 2 + 1) (v2_17 - 0) (m0_17 ||| ((1 : Int64) <<< ((nI i : Int32).toInt64 &&& 63))) (m1_17 ||| 0) (by omega) (by omega) (by omega) _ _ hP hD hS ls (lv_sub hl [6, 7, 3, 1, 0] rfl)
            · replace c_4 := bI_t c_4
              refine lv_iload_n hx hb dX10_walk_57 rfl (lv_at hl 4 rfl) ?_
              refine lv_iconst (v := 2) hx hb dX10_walk_58 (by decide) ?_
              refine lv_iand hx hb dX10_walk_59 ?_
              refine lv_if_ne (tgt := 78) hx hb dX10_walk_60 (by decide) (fun c_14 => ?_) (fun c_14 => ?_)
              · refine lv_iconst (v := 0) hx hb dX10_walk_78 (by decide) ?_
                refine lv_istore (lv' := [(6, .int 0), (5, .int (nI (mk / 2))), (0, .ref (a 0)), (1, .int x0), (2, .int v2_17), (3, .int (nI mk)), (4, .int (nI i))]) hx hb dX10_walk_79 hl (by decide) rfl (fun ls hl => ?_)
                refine lv_iload_n hx hb dX10_walk_81 rfl (lv_at hl 4 rfl) ?_
                refine lv_iload hx hb dX10_walk_82 (lv_at hl 0 rfl) ?_
                refine lv_icmp_ge (tgt := 91) hx hb dX10_walk_84 (by decide) (fun c_15 => ?_) (fun c_15 => ?_)
                · refine lv_iconst (v := 0) hx hb dX10_walk_91 (by decide) ?_
                  refine lv_istore (lv' := [(7, .int 0), (6, .int 0), (5, .int (nI (mk / 2))), (0, .ref (a 0)), (1, .int x0), (2, .int v2_17), (3, .int (nI mk)), (4, .int (nI i))]) hx hb dX10_walk_92 hl (by decide) rfl (fun ls hl => ?_)
                  refine lv_iload_n hx hb dX10_walk_94 rfl (lv_at hl 5 rfl) ?_
                  refine lv_iload hx hb dX10_walk_95 (lv_at hl 0 rfl) ?_
                  refine lv_if_eq (tgt := 104) hx hb dX10_walk_97 (by decide) (fun c_16 => ?_) (fun c_16 => absurd (by decide) c_16)
                  refine lv_iload hx hb dX10_walk_104 (lv_at hl 1 rfl) ?_
                  refine lv_isub hx hb dX10_walk_106 ?_
                  refine lv_istore_n (lv' := [(2, .int (v2_17 - 0)), (7, .int 0), (6, .int 0), (5, .int (nI (mk / 2))), (0, .ref (a 0)), (1, .int x0), (3, .int (nI mk)), (4, .int (nI i))]) hx hb dX10_walk_107 rfl hl (by decide) rfl (fun ls hl => ?_)
                  refine lv_aload_n hx hb dX10_walk_108 rfl (lv_at hl 4 rfl) ?_
                  refine lv_dup hx hb dX10_walk_109 rfl ?_
                  refine va_get (D := D) (ci := 9) (v := .long m0_17) (C := RX10) (T := TX10) (N := 30) hx hb hts hi10 hown hK hP 0 rfl rfl 22 (by decide) hw1 (fun _ h9 => h9) rfl dX10_walk_110 ?_
                  refine lv_iload hx hb dX10_walk_113 (lv_at hl 1 rfl) ?_
                  refine lv_if_eq (tgt := 125) hx hb dX10_walk_115 (by decide) (fun c_17 => ?_) (fun c_17 => absurd (by decide) c_17)
                  refine lv_lconst (v := 0) hx hb dX10_walk_125 (by decide) ?_
                  refine lv_lor hx hb dX10_walk_126 ?_
                  refine va_put (D := D) (ci := 9) (v := .long (m0_17 ||| 0)) (ty := .long) (C := RX10) (T := TX10) (N := 30) hx hb hts hi10 tyX10 tyX10_ok nmX10 hown hK hP hD hS 0 rfl rfl 22 (by decide) hw1 (fun _ h9 => h9) rfl (by decide +kernel) rfl rfl (Nat.le_of_ble_eq_true rfl) dX10_walk_127 (fun H locs hP hD hS => ?_)
                  have hP : va_P D vwCl (MW cy a (va_up (va_up J 22 (m0_17 ||| 0)) 23 m1_17) I R RJ) H := hP
                  have hD : va_D A (MW cy a (va_up (va_up J 22 (m0_17 ||| 0)) 23 m1_17) I R RJ) := hD
                  refine lv_aload_n hx hb dX10_walk_130 rfl (lv_at hl 4 rfl) ?_
                  refine lv_dup hx hb dX10_walk_131 rfl ?_
                  refine va_get (D := D) (ci := 9) (v := .long m1_17) (C := RX10) (T := TX10) (N := 30) hx hb hts hi10 hown hK hP 0 rfl rfl 23 (by decide) hw2 (fun _ h9 => h9) rfl dX10_walk_132 ?_
                  refine lv_iload hx hb dX10_walk_135 (lv_at hl 1 rfl) ?_
                  refine lv_if_eq (tgt := 144) hx hb dX10_walk_137 (by decide) (fun c_18 => ?_) (fun c_18 => absurd (by decide) c_18)
                  refine lv_lconst (v := 1) hx hb dX10_walk_144 (by decide) ?_
                  refine lv_iload hx hb dX10_walk_145 (lv_at hl 7 rfl) ?_
                  refine lv_lshl (v := (1 : Int64) <<< ((nI i : Int32).toInt64 &&& 63)) hx hb dX10_walk_147 rfl ?_
                  refine lv_lor hx hb dX10_walk_148 ?_
                  refine va_put (D := D) (ci := 9) (v := .long (m1_17 ||| ((1 : Int64) <<< ((nI i : Int32).toInt64 &&& 63)))) (ty := .long) (C := RX10) (T := TX10) (N := 30) hx hb hts hi10 tyX10 tyX10_ok nmX10 hown hK hP hD hS 0 rfl rfl 23 (by decide) hw2 (fun _ h9 => h9) rfl (by decide +kernel) rfl rfl (Nat.le_of_ble_eq_true rfl) dX10_walk_149 (fun H locs hP hD hS => ?_)
                  have hP : va_P D vwCl (MW cy a (va_up (va_up J 22 (m0_17 ||| 0)) 23 (m1_17 ||| ((1 : Int64) <<< ((nI i : Int32).toInt64 &&& 63)))) I R RJ) H := hP
                  have hD : va_D A (MW cy a (va_up (va_up J 22 (m0_17 ||| 0)) 23 (m1_17 ||| ((1 : Int64) <<< ((nI i : Int32).toInt64 &&& 63)))) I R RJ) := hD
                  refine lv_iload hx hb dX10_walk_152 (lv_at hl 3 rfl) ?_
                  refine lv_iload hx hb dX10_walk_154 (lv_at hl 1 rfl) ?_
                  refine lv_if_eq (tgt := 163) hx hb dX10_walk_156 (by decide) (fun c_19 => ?_) (fun c_19 => absurd (by decide) c_19)
                  refine lv_sipush (v := 128) hx hb dX10_walk_163 (by decide) ?_
                  refine lv_ior hx hb dX10_walk_166 ?_
                  refine wtop_i (y := nI (mk / 2 + 128)) (or128_t ⟨mk / 2, by omega⟩) ?_
                  refine lv_istore (lv' := [(5, .int (nI (mk / 2 + 128))), (2, .int (v2_17 - 0)), (7, .int 0), (6, .int 0), (0, .ref (a 0)), (1, .int x0), (3, .int (nI mk)), (4, .int (nI i))]) hx hb dX10_walk_167 hl (by decide) rfl (fun ls hl => ?_)
                  refine lv_iload hx hb dX10_walk_169 (lv_at hl 0 rfl) ?_
                  refine lv_istore_n (lv' := [(3, .int (nI (mk / 2 + 128))), (5, .int (nI (mk / 2 + 128))), (2, .int (v2_17 - 0)), (7, .int 0), (6, .int 0), (0, .ref (a 0)), (1, .int x0), (4, .int (nI i))]) hx hb dX10_walk_171 rfl hl (by decide) rfl (fun ls hl => ?_)
                  refine lv_iinc (v := nI (i + 1)) (lv' := [(4, .int (nI (i + 1))), (3, .int (nI (mk / 2 + 128))), (5, .int (nI (mk / 2 + 128))), (2, .int (v2_17 - 0)), (7, .int 0), (6, .int 0), (0, .ref (a 0)), (1, .int x0)]) hx hb dX10_walk_172 hl (k := 7) rfl (nI_1 _) (by decide) rfl (fun ls hl => ?_)
                  refine lv_goto (tgt := 17) hx hb dX10_walk_175 (by decide) ?_
                  exact ih17 (i + 1) (mk / 2 + 128) (v2_17 - 0) (m0_17 ||| 0) (m1_17 ||| ((1 : Int64) <<< ((nI i : Int32).toInt64 &&& 63))) (by omega) (by omega) (by omega) _ _ hP hD hS ls (lv_sub hl [6, 7, 3, 1, 0] rfl)
                · refine lv_iconst (v := 1) hx hb dX10_walk_87 (by decide) ?_
                  refine lv_goto (tgt := 92) hx hb dX10_walk_88 (by decide) ?_
                  refine lv_istore (lv' := [(7, .int 1), (6, .int 0), (5, .int (nI (mk / 2))), (0, .ref (a 0)), (1, .int x0), (2, .int v2_17), (3, .int (nI mk)), (4, .int (nI i))]) hx hb dX10_walk_92 hl (by decide) rfl (fun ls hl => ?_)
                  refine lv_iload_n hx hb dX10_walk_94 rfl (lv_at hl 5 rfl) ?_
                  refine lv_iload hx hb dX10_walk_95 (lv_at hl 0 rfl) ?_
                  refine lv_if_eq (tgt := 104) hx hb dX10_walk_97 (by decide) (fun c_20 => absurd c_20 (by decide)) (fun c_20 => ?_)
                  refine lv_iconst (v := 0) hx hb dX10_walk_100 (by decide) ?_
                  refine lv_goto (tgt := 106) hx hb dX10_walk_101 (by decide) ?_
                  refine lv_isub hx hb dX10_walk_106 ?_
                  refine lv_istore_n (lv' := [(2, .int (v2_17 - 0)), (7, .int 1), (6, .int 0), (5, .int (nI (mk / 2))), (0, .ref (a 0)), (1, .int x0), (3, .int (nI mk)), (4, .int (nI i))]) hx hb dX10_walk_107 rfl hl (by decide) rfl (fun ls hl => ?_)
                  refine lv_aload_n hx hb dX10_walk_108 rfl (lv_at hl 4 rfl) ?_
                  refine lv_dup hx hb dX10_walk_109 rfl ?_
                  refine va_get (D := D) (ci := 9) (v := .long m0_17) (C := RX10) (T := TX10) (N := 30) hx hb hts hi10 hown hK hP 0 rfl rfl 22 (by decide) hw1 (fun _ h9 => h9) rfl dX10_walk_110 ?_
                  refine lv_iload hx hb dX10_walk_113 (lv_at hl 1 rfl) ?_
                  refine lv_if_eq (tgt := 125) hx hb dX10_walk_115 (by decide) (fun c_21 => absurd c_21 (by decide)) (fun c_21 => ?_)
                  refine lv_lconst (v := 1) hx hb dX10_walk_118 (by decide) ?_
                  refine lv_iload hx hb dX10_walk_119 (lv_at hl 7 rfl) ?_
                  refine lv_lshl (v := (1 : Int64) <<< ((nI i : Int32).toInt64 &&& 63)) hx hb dX10_walk_121 rfl ?_
                  refine lv_goto (tgt := 126) hx hb dX10_walk_122 (by decide) ?_
                  refine lv_lor hx hb dX10_walk_126 ?_
                  refine va_put (D := D) (ci := 9) (v := .long (m0_17 ||| ((1 : Int64) <<< ((nI i : Int32).toInt64 &&& 63)))) (ty := .long) (C := RX10) (T := TX10) (N := 30) hx hb hts hi10 tyX10 tyX10_ok nmX10 hown hK hP hD hS 0 rfl rfl 22 (by decide) hw1 (fun _ h9 => h9) rfl (by decide +kernel) rfl rfl (Nat.le_of_ble_eq_true rfl) dX10_walk_127 (fun H locs hP hD hS => ?_)
                  have hP : va_P D vwCl (MW cy a (va_up (va_up J 22 (m0_17 ||| ((1 : Int64) <<< ((nI i : Int32).toInt64 &&& 63)))) 23 m1_17) I R RJ) H := hP
                  have hD : va_D A (MW cy a (va_up (va_up J 22 (m0_17 ||| ((1 : Int64) <<< ((nI i : Int32).toInt64 &&& 63)))) 23 m1_17) I R RJ) := hD
                  refine lv_aload_n hx hb dX10_walk_130 rfl (lv_at hl 4 rfl) ?_
                  refine lv_dup hx hb dX10_walk_131 rfl ?_
                  refine va_get (D := D) (ci := 9) (v := .long m1_17) (C := RX10) (T := TX10) (N := 30) hx hb hts hi10 hown hK hP 0 rfl rfl 23 (by decide) hw2 (fun _ h9 => h9) rfl dX10_walk_132 ?_
                  refine lv_iload hx hb dX10_walk_135 (lv_at hl 1 rfl) ?_
                  refine lv_if_eq (tgt := 144) hx hb dX10_walk_137 (by decide) (fun c_22 => absurd c_22 (by decide)) (fun c_22 => ?_)
                  refine lv_lconst (v := 0) hx hb dX10_walk_140 (by decide) ?_
                  refine lv_goto (tgt := 148) hx hb dX10_walk_141 (by decide) ?_
                  refine lv_lor hx hb dX10_walk_148 ?_
                  refine va_put (D := D) (ci := 9) (v := .long (m1_17 ||| 0)) (ty := .long) (C := RX10) (T := TX10) (N := 30) hx hb hts hi10 tyX10 tyX10_ok nmX10 hown hK hP hD hS 0 rfl rfl 23 (by decide) hw2 (fun _ h9 => h9) rfl (by decide +kernel) rfl rfl (Nat.le_of_ble_eq_true rfl) dX10_walk_149 (fun H locs hP hD hS => ?_)
                  have hP : va_P D vwCl (MW cy a (va_up (va_up J 22 (m0_17 ||| ((1 : Int64) <<< ((nI i : Int32).toInt64 &&& 63)))) 23 (m1_17 ||| 0)) I R RJ) H := hP
                  have hD : va_D A (MW cy a (va_up (va_up J 22 (m0_17 ||| ((1 : Int64) <<< ((nI i : Int32).toInt64 &&& 63)))) 23 (m1_17 ||| 0)) I R RJ) := hD
                  refine lv_iload hx hb dX10_walk_152 (lv_at hl 3 rfl) ?_
                  refine lv_iload hx hb dX10_walk_154 (lv_at hl 1 rfl) ?_
                  refine lv_if_eq (tgt := 163) hx hb dX10_walk_156 (by decide) (fun c_23 => absurd c_23 (by decide)) (fun c_23 => ?_)
                  refine lv_iconst (v := 1) hx hb dX10_walk_159 (by decide) ?_
                  refine lv_goto (tgt := 166) hx hb dX10_walk_160 (by decide) ?_
                  refine lv_ior hx hb dX10_walk_166 ?_
                  refine wtop_i (y := nI (mk / 2 / 2 * 2 + 1)) (or1_t ⟨mk / 2, by omega⟩) ?_
                  refine lv_istore (lv' := [(5, .int (nI (mk / 2 / 2 * 2 + 1))), (2, .int (v2_17 - 0)), (7, .int 1), (6, .int 0), (0, .ref (a 0)), (1, .int x0), (3, .int (nI mk)), (4, .int (nI i))]) hx hb dX10_walk_167 hl (by decide) rfl (fun ls hl => ?_)
                  refine lv_iload hx hb dX10_walk_169 (lv_at hl 0 rfl) ?_
                  refine lv_istore_n (lv' := [(3, .int (nI (mk / 2 / 2 * 2 + 1))), (5, .int (nI (mk / 2 / 2 * 2 + 1))), (2, .int (v2_17 - 0)), (7, .int 1), (6, .int 0), (0, .ref (a 0)), (1, .int x0), (4, .int (nI i))]) hx hb dX10_walk_171 rfl hl (by decide) rfl (fun ls hl => ?_)
                  refine lv_iinc (v := nI (i + 1)) (lv' := [(4, .int (nI (i + 1))), (3, .int (nI (mk / 2 / 2 * 2 + 1))), (5, .int (nI (mk / 2 / 2 * 2 + 1))), (2, .int (v2_17 - 0)), (7, .int 1), (6, .int 0), (0, .ref (a 0)), (1, .int x0)]) hx hb dX10_walk_172 hl (k := 7) rfl (nI_1 _) (by decide) rfl (fun ls hl => ?_)
                  refine lv_goto (tgt := 17) hx hb dX10_walk_175 (by decide) ?_
                  exact ih17 (i + 1) (mk / 2 / 2 * 2 + 1) (v2_17 - 0) (m0_17 ||| ((1 : Int64) <<< ((nI i : Int32).toInt64 &&& 63))) (m1_17 ||| 0) (by omega) (by omega) (by omega) _ _ hP hD hS ls (lv_sub hl [6, 7, 3, 1, 0] rfl)
              · refine lv_aload_n hx hb dX10_walk_63 rfl (lv_at hl 1 rfl) ?_
                refine lv_iload hx hb dX10_walk_64 (lv_at hl 5 rfl) ?_
                refine lv_iconst (v := 1) hx hb dX10_walk_66 (by decide) ?_
                refine lv_iadd hx hb dX10_walk_67 ?_
                refine wtop_i (y := nI (i + 1)) (nI_1 _) ?_
                refine lv_iload hx hb dX10_walk_68 (lv_at hl 0 rfl) ?_
                refine lv_iconst (v := 1) hx hb dX10_walk_70 (by decide) ?_
                refine lv_ior hx hb dX10_walk_71 ?_
                refine wtop_i (y := nI (mk / 2 / 2 * 2 + 1)) (or1_t ⟨mk / 2, by omega⟩) ?_
                refine kR_i (As := [.int (nI (i + 1)), .int (nI (mk / 2 / 2 * 2 + 1))]) (rest := []) (q0 := 0) ⟨hx, hb, hml, hown, hts⟩ (c_X10_waysAt l D cy a _ (va_up (va_up J 22 m0_17) 23 m1_17) I R RJ (nI (i + 1)) (nI (mk / 2 / 2 * 2 + 1)) (ix_w (by omega) (by omega))) (cwV 2 hts gX10_walk_X10_waysAt rfl rfl rfl (by decide +kernel) ⟨Nat.le_of_ble_eq_true rfl, Nat.le_of_ble_eq_true rfl⟩) hK hN hP hD rfl rfl rfl hl.1 rfl (Nat.le_of_ble_eq_true rfl) dX10_walk_72 ⟨Nat.le_of_ble_eq_true rfl, Nat.le_of_ble_eq_true rfl⟩ ?_
                refine lv_goto (tgt := 79) hx hb dX10_walk_75 (by decide) ?_
                refine lv_istore (lv' := [(6, .int ((R 12) ((256 : Int32) * (nI (i + 1)) + (nI (mk / 2 / 2 * 2 + 1))).toNatClampNeg)), (5, .int (nI (mk / 2))), (0, .ref (a 0)), (1, .int x0), (2, .int v2_17), (3, .int (nI mk)), (4, .int (nI i))]) hx hb dX10_walk_79 hl (by decide) rfl (fun ls hl => ?_)
                refine lv_iload_n hx hb dX10_walk_81 rfl (lv_at hl 4 rfl) ?_
                refine lv_iload hx hb dX10_walk_82 (lv_at hl 0 rfl) ?_
                refine lv_icmp_ge (tgt := 91) hx hb dX10_walk_84 (by decide) (fun c_24 => ?_) (fun c_24 => ?_)
                · refine lv_iconst (v := 0) hx hb dX10_walk_91 (by decide) ?_
                  refine lv_istore (lv' := [(7, .int 0), (6, .int ((R 12) ((256 : Int32) * (nI (i + 1)) + (nI (mk / 2 / 2 * 2 + 1))).toNatClampNeg)), (5, .int (nI (mk / 2))), (0, .ref (a 0)), (1, .int x0), (2, .int v2_17), (3, .int (nI mk)), (4, .int (nI i))]) hx hb dX10_walk_92 hl (by decide) rfl (fun ls hl => ?_)
                  refine lv_iload_n hx hb dX10_walk_94 rfl (lv_at hl 5 rfl) ?_
                  refine lv_iload hx hb dX10_walk_95 (lv_at hl 0 rfl) ?_
                  refine lv_if_eq (tgt := 104) hx hb dX10_walk_97 (by decide) (fun c_25 => ?_) (fun c_25 => absurd (by decide) c_25)
                  refine lv_iload hx hb dX10_walk_104 (lv_at hl 1 rfl) ?_
                  refine lv_isub hx hb dX10_walk_106 ?_
                  refine lv_istore_n (lv' := [(2, .int (v2_17 - ((R 12) ((256 : Int32) * (nI (i + 1)) + (nI (mk / 2 / 2 * 2 + 1))).toNatClampNeg))), (7, .int 0), (6, .int ((R 12) ((256 : Int32) * (nI (i + 1)) + (nI (mk / 2 / 2 * 2 + 1))).toNatClampNeg)), (5, .int (nI (mk / 2))), (0, .ref (a 0)), (1, .int x0), (3, .int (nI mk)), (4, .int (nI i))]) hx hb dX10_walk_107 rfl hl (by decide) rfl (fun ls hl => ?_)
                  refine lv_aload_n hx hb dX10_walk_108 rfl (lv_at hl 4 rfl) ?_
                  refine lv_dup hx hb dX10_walk_109 rfl ?_
                  refine va_get (D := D) (ci := 9) (v := .long m0_17) (C := RX10) (T := TX10) (N := 30) hx hb hts hi10 hown hK hP 0 rfl rfl 22 (by decide) hw1 (fun _ h9 => h9) rfl dX10_walk_110 ?_
                  refine lv_iload hx hb dX10_walk_113 (lv_at hl 1 rfl) ?_
                  refine lv_if_eq (tgt := 125) hx hb dX10_walk_115 (by decide) (fun c_26 => ?_) (fun c_26 => absurd (by decide) c_26)
                  refine lv_lconst (v := 0) hx hb dX10_walk_125 (by decide) ?_
                  refine lv_lor hx hb dX10_walk_126 ?_
                  refine va_put (D := D) (ci := 9) (v := .long (m0_17 ||| 0)) (ty := .long) (C := RX10) (T := TX10) (N := 30) hx hb hts hi10 tyX10 tyX10_ok nmX10 hown hK hP hD hS 0 rfl rfl 22 (by decide) hw1 (fun _ h9 => h9) rfl (by decide +kernel) rfl rfl (Nat.le_of_ble_eq_true rfl) dX10_walk_127 (fun H locs hP hD hS => ?_)
                  have hP : va_P D vwCl (MW cy a (va_up (va_up J 22 (m0_17 ||| 0)) 23 m1_17) I R RJ) H := hP
                  have hD : va_D A (MW cy a (va_up (va_up J 22 (m0_17 ||| 0)) 23 m1_17) I R RJ) := hD
                  refine lv_aload_n hx hb dX10_walk_130 rfl (lv_at hl 4 rfl) ?_
                  refine lv_dup hx hb dX10_walk_131 rfl ?_
                  refine va_get (D := D) (ci := 9) (v := .long m1_17) (C := RX10) (T := TX10) (N := 30) hx hb hts hi10 hown hK hP 0 rfl rfl 23 (by decide) hw2 (fun _ h9 => h9) rfl dX10_walk_132 ?_
                  refine lv_iload hx hb dX10_walk_135 (lv_at hl 1 rfl) ?_
                  refine lv_if_eq (tgt := 144) hx hb dX10_walk_137 (by decide) (fun c_27 => ?_) (fun c_27 => absurd (by decide) c_27)
                  refine lv_lconst (v := 1) hx hb dX10_walk_144 (by decide) ?_
                  refine lv_iload hx hb dX10_walk_145 (lv_at hl 7 rfl) ?_
                  refine lv_lshl (v := (1 : Int64) <<< ((nI i : Int32).toInt64 &&& 63)) hx hb dX10_walk_147 rfl ?_
                  refine lv_lor hx hb dX10_walk_148 ?_
                  refine va_put (D := D) (ci := 9) (v := .long (m1_17 ||| ((1 : Int64) <<< ((nI i : Int32).toInt64 &&& 63)))) (ty := .long) (C := RX10) (T := TX10) (N := 30) hx hb hts hi10 tyX10 tyX10_ok nmX10 hown hK hP hD hS 0 rfl rfl 23 (by decide) hw2 (fun _ h9 => h9) rfl (by decide +kernel) rfl rfl (Nat.le_of_ble_eq_true rfl) dX10_walk_149 (fun H locs hP hD hS => ?_)
                  have hP : va_P D vwCl (MW cy a (va_up (va_up J 22 (m0_17 ||| 0)) 23 (m1_17 ||| ((1 : Int64) <<< ((nI i : Int32).toInt64 &&& 63)))) I R RJ) H := hP
                  have hD : va_D A (MW cy a (va_up (va_up J 22 (m0_17 ||| 0)) 23 (m1_17 ||| ((1 : Int64) <<< ((nI i : Int32).toInt64 &&& 63)))) I R RJ) := hD
                  refine lv_iload hx hb dX10_walk_152 (lv_at hl 3 rfl) ?_
                  refine lv_iload hx hb dX10_walk_154 (lv_at hl 1 rfl) ?_
                  refine lv_if_eq (tgt := 163) hx hb dX10_walk_156 (by decide) (fun c_28 => ?_) (fun c_28 => absurd (by decide) c_28)
                  refine lv_sipush (v := 128) hx hb dX10_walk_163 (by decide) ?_
                  refine lv_ior hx hb dX10_walk_166 ?_
                  refine wtop_i (y := nI (mk / 2 + 128)) (or128_t ⟨mk / 2, by omega⟩) ?_
                  refine lv_istore (lv' := [(5, .int (nI (mk / 2 + 128))), (2, .int (v2_17 - ((R 12) ((256 : Int32) * (nI (i + 1)) + (nI (mk / 2 / 2 * 2 + 1))).toNatClampNeg))), (7, .int 0), (6, .int ((R 12) ((256 : Int32) * (nI (i + 1)) + (nI (mk / 2 / 2 * 2 + 1))).toNatClampNeg)), (0, .ref (a 0)), (1, .int x0), (3, .int (nI mk)), (4, .int (nI i))]) hx hb dX10_walk_167 hl (by decide) rfl (fun ls hl => ?_)
                  refine lv_iload hx hb dX10_walk_169 (lv_at hl 0 rfl) ?_
                  refine lv_istore_n (lv' := [(3, .int (nI (mk / 2 + 128))), (5, .int (nI (mk / 2 + 128))), (2, .int (v2_17 - ((R 12) ((256 : Int32) * (nI (i + 1)) + (nI (mk / 2 / 2 * 2 + 1))).toNatClampNeg))), (7, .int 0), (6, .int ((R 12) ((256 : Int32) * (nI (i + 1)) + (nI (mk / 2 / 2 * 2 + 1))).toNatClampNeg)), (0, .ref (a 0)), (1, .int x0), (4, .int (nI i))]) hx hb dX10_walk_171 rfl hl (by decide) rfl (fun ls hl => ?_)
                  refine lv_iinc (v := nI (i + 1)) (lv' := [(4, .int (nI (i + 1))), (3, .int (nI (mk / 2 + 128))), (5, .int (nI (mk / 2 + 128))), (2, .int (v2_17 - ((R 12) ((256 : Int32) * (nI (i + 1)) + (nI (mk / 2 / 2 * 2 + 1))).toNatClampNeg))), (7, .int 0), (6, .int ((R 12) ((256 : Int32) * (nI (i + 1)) + (nI (mk / 2 / 2 * 2 + 1))).toNatClampNeg)), (0, .ref (a 0)), (1, .int x0)]) hx hb dX10_walk_172 hl (k := 7) rfl (nI_1 _) (by decide) rfl (fun ls hl => ?_)
                  refine lv_goto (tgt := 17) hx hb dX10_walk_175 (by decide) ?_
                  exact ih17 (i + 1) (mk / 2 + 128) (v2_17 - ((R 12) ((256 : Int32) * (nI (i + 1)) + (nI (mk / 2 / 2 * 2 + 1))).toNatClampNeg)) (m0_17 ||| 0) (m1_17 ||| ((1 : Int64) <<< ((nI i : Int32).toInt64 &&& 63))) (by omega) (by omega) (by omega) _ _ hP hD hS ls (lv_sub hl [6, 7, 3, 1, 0] rfl)
                · refine lv_iconst (v := 1) hx hb dX10_walk_87 (by decide) ?_
                  refine lv_goto (tgt := 92) hx hb dX10_walk_88 (by decide) ?_
                  refine lv_istore (lv' := [(7, .int 1), (6, .int ((R 12) ((256 : Int32) * (nI (i + 1)) + (nI (mk / 2 / 2 * 2 + 1))).toNatClampNeg)), (5, .int (nI (mk / 2))), (0, .ref (a 0)), (1, .int x0), (2, .int v2_17), (3, .int (nI mk)), (4, .int (nI i))]) hx hb dX10_walk_92 hl (by decide) rfl (fun ls hl => ?_)
                  refine lv_iload_n hx hb dX10_walk_94 rfl (lv_at hl 5 rfl) ?_
                  refine lv_iload hx hb dX10_walk_95 (lv_at hl 0 rfl) ?_
                  refine lv_if_eq (tgt := 104) hx hb dX10_walk_97 (by decide) (fun c_29 => absurd c_29 (by decide)) (fun c_29 => ?_)
                  refine lv_iconst (v := 0) hx hb dX10_walk_100 (by decide) ?_
                  refine lv_goto (tgt := 106) hx hb dX10_walk_101 (by decide) ?_
                  refine lv_isub hx hb dX10_walk_106 ?_
                  refine lv_istore_n (lv' := [(2, .int (v2_17 - 0)), (7, .int 1), (6, .int ((R 12) ((256 : Int32) * (nI (i + 1)) + (nI (mk / 2 / 2 * 2 + 1))).toNatClampNeg)), (5, .int (nI (mk / 2))), (0, .ref (a 0)), (1, .int x0), (3, .int (nI mk)), (4, .int (nI i))]) hx hb dX10_walk_107 rfl hl (by decide) rfl (fun ls hl => ?_)
                  refine lv_aload_n hx hb dX10_walk_108 rfl (lv_at hl 4 rfl) ?_
                  refine lv_dup hx hb dX10_walk_109 rfl ?_
                  refine va_get (D := D) (ci := 9) (v := .long m0_17) (C := RX10) (T := TX10) (N := 30) hx hb hts hi10 hown hK hP 0 rfl rfl 22 (by decide) hw1 (fun _ h9 => h9) rfl dX10_walk_110 ?_
                  refine lv_iload hx hb dX10_walk_113 (lv_at hl 1 rfl) ?_
                  refine lv_if_eq (tgt := 125) hx hb dX10_walk_115 (by decide) (fun c_30 => absurd c_30 (by decide)) (fun c_30 => ?_)
                  refine lv_lconst (v := 1) hx hb dX10_walk_118 (by decide) ?_
                  refine lv_iload hx hb dX10_walk_119 (lv_at hl 7 rfl) ?_
                  refine lv_lshl (v := (1 : Int64) <<< ((nI i : Int32).toInt64 &&& 63)) hx hb dX10_walk_121 rfl ?_
                  refine lv_goto (tgt := 126) hx hb dX10_walk_122 (by decide) ?_
                  refine lv_lor hx hb dX10_walk_126 ?_
                  refine va_put (D := D) (ci := 9) (v := .long (m0_17 ||| ((1 : Int64) <<< ((nI i : Int32).toInt64 &&& 63)))) (ty := .long) (C := RX10) (T := TX10) (N := 30) hx hb hts hi10 tyX10 tyX10_ok nmX10 hown hK hP hD hS 0 rfl rfl 22 (by decide) hw1 (fun _ h9 => h9) rfl (by decide +kernel) rfl rfl (Nat.le_of_ble_eq_true rfl) dX10_walk_127 (fun H locs hP hD hS => ?_)
                  have hP : va_P D vwCl (MW cy a (va_up (va_up J 22 (m0_17 ||| ((1 : Int64) <<< ((nI i : Int32).toInt64 &&& 63)))) 23 m1_17) I R RJ) H := hP
                  have hD : va_D A (MW cy a (va_up (va_up J 22 (m0_17 ||| ((1 : Int64) <<< ((nI i : Int32).toInt64 &&& 63)))) 23 m1_17) I R RJ) := hD
                  refine lv_aload_n hx hb dX10_walk_130 rfl (lv_at hl 4 rfl) ?_
                  refine lv_dup hx hb dX10_walk_131 rfl ?_
                  refine va_get (D := D) (ci := 9) (v := .long m1_17) (C := RX10) (T := TX10) (N := 30) hx hb hts hi10 hown hK hP 0 rfl rfl 23 (by decide) hw2 (fun _ h9 => h9) rfl dX10_walk_132 ?_
                  refine lv_iload hx hb dX10_walk_135 (lv_at hl 1 rfl) ?_
                  refine lv_if_eq (tgt := 144) hx hb dX10_walk_137 (by decide) (fun c_31 => absurd c_31 (by decide)) (fun c_31 => ?_)
                  refine lv_lconst (v := 0) hx hb dX10_walk_140 (by decide) ?_
                  refine lv_goto (tgt := 148) hx hb dX10_walk_141 (by decide) ?_
                  refine lv_lor hx hb dX10_walk_148 ?_
                  refine va_put (D := D) (ci := 9) (v := .long (m1_17 ||| 0)) (ty := .long) (C := RX10) (T := TX10) (N := 30) hx hb hts hi10 tyX10 tyX10_ok nmX10 hown hK hP hD hS 0 rfl rfl 23 (by decide) hw2 (fun _ h9 => h9) rfl (by decide +kernel) rfl rfl (Nat.le_of_ble_eq_true rfl) dX10_walk_149 (fun H locs hP hD hS => ?_)
                  have hP : va_P D vwCl (MW cy a (va_up (va_up J 22 (m0_17 ||| ((1 : Int64) <<< ((nI i : Int32).toInt64 &&& 63)))) 23 (m1_17 ||| 0)) I R RJ) H := hP
                  have hD : va_D A (MW cy a (va_up (va_up J 22 (m0_17 ||| ((1 : Int64) <<< ((nI i : Int32).toInt64 &&& 63)))) 23 (m1_17 ||| 0)) I R RJ) := hD
                  refine lv_iload hx hb dX10_walk_152 (lv_at hl 3 rfl) ?_
                  refine lv_iload hx hb dX10_walk_154 (lv_at hl 1 rfl) ?_
                  refine lv_if_eq (tgt := 163) hx hb dX10_walk_156 (by decide) (fun c_32 => absurd c_32 (by decide)) (fun c_32 => ?_)
                  refine lv_iconst (v := 1) hx hb dX10_walk_159 (by decide) ?_
                  refine lv_goto (tgt := 166) hx hb dX10_walk_160 (by decide) ?_
                  refine lv_ior hx hb dX10_walk_166 ?_
                  refine wtop_i (y := nI (mk / 2 / 2 * 2 + 1)) (or1_t ⟨mk / 2, by omega⟩) ?_
                  refine lv_istore (lv' := [(5, .int (nI (mk / 2 / 2 * 2 + 1))), (2, .int (v2_17 - 0)), (7, .int 1), (6, .int ((R 12) ((256 : Int32) * (nI (i + 1)) + (nI (mk / 2 / 2 * 2 + 1))).toNatClampNeg)), (0, .ref (a 0)), (1, .int x0), (3, .int (nI mk)), (4, .int (nI i))]) hx hb dX10_walk_167 hl (by decide) rfl (fun ls hl => ?_)
                  refine lv_iload hx hb dX10_walk_169 (lv_at hl 0 rfl) ?_
                  refine lv_istore_n (lv' := [(3, .int (nI (mk / 2 / 2 * 2 + 1))), (5, .int (nI (mk / 2 / 2 * 2 + 1))), (2, .int (v2_17 - 0)), (7, .int 1), (6, .int ((R 12) ((256 : Int32) * (nI (i + 1)) + (nI (mk / 2 / 2 * 2 + 1))).toNatClampNeg)), (0, .ref (a 0)), (1, .int x0), (4, .int (nI i))]) hx hb dX10_walk_171 rfl hl (by decide) rfl (fun ls hl => ?_)
                  refine lv_iinc (v := nI (i + 1)) (lv' := [(4, .int (nI (i + 1))), (3, .int (nI (mk / 2 / 2 * 2 + 1))), (5, .int (nI (mk / 2 / 2 * 2 + 1))), (2, .int (v2_17 - 0)), (7, .int 1), (6, .int ((R 12) ((256 : Int32) * (nI (i + 1)) + (nI (mk / 2 / 2 * 2 + 1))).toNatClampNeg)), (0, .ref (a 0)), (1, .int x0)]) hx hb dX10_walk_172 hl (k := 7) rfl (nI_1 _) (by decide) rfl (fun ls hl => ?_)
                  refine lv_goto (tgt := 17) hx hb dX10_walk_175 (by decide) ?_
                  exact ih17 (i + 1) (mk / 2 / 2 * 2 + 1) (v2_17 - 0) (m0_17 ||| ((1 : Int64) <<< ((nI i : Int32).toInt64 &&& 63))) (m1_17 ||| 0) (by omega) (by omega) (by omega) _ _ hP hD hS ls (lv_sub hl [6, 7, 3, 1, 0] rfl)
  refine lv_iload_n hx hb dX10_walk_0 rfl (lv_at hl 1 rfl) ?_
  refine lv_istore_n (lv' := [(2, .int x0), (0, .ref (a 0)), (1, .int x0)]) hx hb dX10_walk_1 rfl hl (by decide) rfl (fun ls hl => ?_)
  refine lv_iconst (v := 0) hx hb dX10_walk_2 (by decide) ?_
  refine lv_istore_n (lv' := [(3, .int 0), (2, .int x0), (0, .ref (a 0)), (1, .int x0)]) hx hb dX10_walk_3 rfl hl (by decide) rfl (fun ls hl => ?_)
  refine lv_aload_n hx hb dX10_walk_4 rfl (lv_at hl 2 rfl) ?_
  refine lv_lconst (v := 0) hx hb dX10_walk_5 (by decide) ?_
  refine va_put (D := D) (ci := 9) (v := .long 0) (ty := .long) (C := RX10) (T := TX10) (N := 30) hx hb hts hi10 tyX10 tyX10_ok nmX10 hown hK hP hD hS 0 rfl rfl 22 (by decide) hw1 (fun _ h9 => h9) rfl (by decide +kernel) rfl rfl (Nat.le_of_ble_eq_true rfl) dX10_walk_6 (fun H locs hP hD hS => ?_)
  have hP : va_P D vwCl (MW cy a (va_up (va_up J 22 0) 23 (J 23)) I R RJ) H := hP
  have hD : va_D A (MW cy a (va_up (va_up J 22 0) 23 (J 23)) I R RJ) := hD
  refine lv_aload_n hx hb dX10_walk_9 rfl (lv_at hl 2 rfl) ?_
  refine lv_lconst (v := 0) hx hb dX10_walk_10 (by decide) ?_
  refine va_put (D := D) (ci := 9) (v := .long 0) (ty := .long) (C := RX10) (T := TX10) (N := 30) hx hb hts hi10 tyX10 tyX10_ok nmX10 hown hK hP hD hS 0 rfl rfl 23 (by decide) hw2 (fun _ h9 => h9) rfl (by decide +kernel) rfl rfl (Nat.le_of_ble_eq_true rfl) dX10_walk_11 (fun H locs hP hD hS => ?_)
  have hP : va_P D vwCl (MW cy a (va_up (va_up J 22 0) 23 0) I R RJ) H := hP
  have hD : va_D A (MW cy a (va_up (va_up J 22 0) 23 0) I R RJ) := hD
  refine lv_iconst (v := 0) hx hb dX10_walk_14 (by decide) ?_
  refine lv_istore (lv' := [(4, .int 0), (3, .int 0), (2, .int x0), (0, .ref (a 0)), (1, .int x0)]) hx hb dX10_walk_15 hl (by decide) rfl (fun ls hl => ?_)
  exact lp17 _ 0 0 x0 0 0 (by omega) (by omega) (Nat.lt_succ_self _) _ _ hP hD hS ls (lv_sub hl [3, 4, 2, 1, 0] rfl)
theorem dX10_numberOf_9 : decode cX10_numberOf 9 = .ok (.iload 7, 2) := by decide +kernel
theorem dX10_numberOf_11 : decode cX10_numberOf 11 = .ok (.bipush 64, 2) := by decide +kernel
theorem dX10_numberOf_13 : decode cX10_numberOf 13 = .ok (.if_icmp .ge 106, 3) := by decide +kernel
theorem dX10_numberOf_119 : decode cX10_numberOf 119 = .ok (.iload 5, 2) := by decide +kernel
theorem dX10_numberOf_121 : decode cX10_numberOf 121 = .ok (.ireturn, 1) := by decide +kernel
theorem dX10_numberOf_16 : decode cX10_numberOf 16 = .ok (.iload 6, 2) := by decide +kernel
theorem dX10_numberOf_18 : decode cX10_numberOf 18 = .ok (.iconst 1, 1) := by decide +kernel
theorem dX10_numberOf_19 : decode cX10_numberOf 19 = .ok (.ishr, 1) := by decide +kernel
theorem dX10_numberOf_20 : decode cX10_numberOf 20 = .ok (.istore 8, 2) := by decide +kernel
theorem dX10_numberOf_22 : decode cX10_numberOf 22 = .ok (.aload_n 0, 1) := by decide +kernel
theorem dX10_numberOf_23 : decode cX10_numberOf 23 = .ok (.getfield 81, 3) := by decide +kernel
theorem dX10_numberOf_26 : decode cX10_numberOf 26 = .ok (.iload 7, 2) := by decide +kernel
set_option maxRecDepth 20000 in
theorem ggX10_numberOf_X10_hasBit : GoodIn wsX10_numberOf wsX10_hasBit := goodIn_r _ [5] rfl (by decide +kernel)
set_option maxRecDepth 20000 in
theorem gX10_numberOf_X10_hasBit : GoodIn wsX10_numberOf (va_wsS RX10 74 yX10_hasBit wsX10_hasBit) := goodIn_app (goodIn_r _ [2, 3, 4] rfl (by decide +kernel)) ggX10_numberOf_X10_hasBit
theorem dX10_numberOf_28 : decode cX10_numberOf 28 = .ok (.invokestatic 74, 3) := by decide +kernel
theorem dX10_numberOf_31 : decode cX10_numberOf 31 = .ok (.ifCond .eq 78, 3) := by decide +kernel
theorem dX10_numberOf_109 : decode cX10_numberOf 109 = .ok (.iload 8, 2) := by decide +kernel
theorem dX10_numberOf_111 : decode cX10_numberOf 111 = .ok (.istore 6, 2) := by decide +kernel
theorem dX10_numberOf_113 : decode cX10_numberOf 113 = .ok (.iinc 7 1, 3) := by decide +kernel
theorem dX10_numberOf_116 : decode cX10_numberOf 116 = .ok (.goto (-107), 3) := by decide +kernel
theorem dX10_numberOf_34 : decode cX10_numberOf 34 = .ok (.iload 6, 2) := by decide +kernel
theorem dX10_numberOf_36 : decode cX10_numberOf 36 = .ok (.iconst 1, 1) := by decide +kernel
theorem dX10_numberOf_37 : decode cX10_numberOf 37 = .ok (.iand, 1) := by decide +kernel
theorem dX10_numberOf_38 : decode cX10_numberOf 38 = .ok (.ifCond .ne 71, 3) := by decide +kernel
theorem dX10_numberOf_41 : decode cX10_numberOf 41 = .ok (.lload_n 1, 1) := by decide +kernel
theorem dX10_numberOf_42 : decode cX10_numberOf 42 = .ok (.iload 7, 2) := by decide +kernel
theorem dX10_numberOf_44 : decode cX10_numberOf 44 = .ok (.invokestatic 74, 3) := by decide +kernel
theorem dX10_numberOf_47 : decode cX10_numberOf 47 = .ok (.istore 9, 2) := by decide +kernel
theorem dX10_numberOf_49 : decode cX10_numberOf 49 = .ok (.iload 5, 2) := by decide +kernel
theorem dX10_numberOf_51 : decode cX10_numberOf 51 = .ok (.iload 9, 2) := by decide +kernel
theorem dX10_numberOf_53 : decode cX10_numberOf 53 = .ok (.ifCond .ne 35, 3) := by decide +kernel
theorem dX10_numberOf_88 : decode cX10_numberOf 88 = .ok (.iconst 0, 1) := by decide +kernel
theorem dX10_numberOf_89 : decode cX10_numberOf 89 = .ok (.iadd, 1) := by decide +kernel
theorem dX10_numberOf_90 : decode cX10_numberOf 90 = .ok (.istore 5, 2) := by decide +kernel
theorem dX10_numberOf_92 : decode cX10_numberOf 92 = .ok (.iload 8, 2) := by decide +kernel
theorem dX10_numberOf_94 : decode cX10_numberOf 94 = .ok (.iload 9, 2) := by decide +kernel
theorem dX10_numberOf_96 : decode cX10_numberOf 96 = .ok (.ifCond .eq 7, 3) := by decide +kernel
theorem dX10_numberOf_103 : decode cX10_numberOf 103 = .ok (.sipush 128, 3) := by decide +kernel
theorem dX10_numberOf_106 : decode cX10_numberOf 106 = .ok (.ior, 1) := by decide +kernel
theorem dX10_numberOf_107 : decode cX10_numberOf 107 = .ok (.istore 8, 2) := by decide +kernel
theorem dX10_numberOf_99 : decode cX10_numberOf 99 = .ok (.iconst 1, 1) := by decide +kernel
theorem dX10_numberOf_100 : decode cX10_numberOf 100 = .ok (.goto 6, 3) := by decide +kernel
theorem dX10_numberOf_56 : decode cX10_numberOf 56 = .ok (.aload_n 0, 1) := by decide +kernel
theorem dX10_numberOf_57 : decode cX10_numberOf 57 = .ok (.iload 7, 2) := by decide +kernel
theorem dX10_numberOf_59 : decode cX10_numberOf 59 = .ok (.iconst 0, 1) := by decide +kernel
set_option maxRecDepth 20000 in
theorem ggX10_numberOf_X10_mayLie : GoodIn wsX10_numberOf wsX10_mayLie := goodIn_r _ [9, 1, 10, 11, 12, 13, 14, 15, 4, 16, 17, 2, 3, 5, 23, 24, 25, 26, 27, 28, 29, 30, 31, 32, 33, 34, 35, 36, 37, 38, 39, 40, 41, 42, 43, 44, 45, 46, 47, 48, 49, 50, 51, 52] rfl (by decide +kernel)
set_option maxRecDepth 20000 in
theorem gX10_numberOf_X10_mayLie : GoodIn wsX10_numberOf (wsV RX10 194 RX10 yX10_mayLie wsX10_mayLie) := goodIn_app (goodIn_r _ [6, 7, 8, 4] rfl (by decide +kernel)) ggX10_numberOf_X10_mayLie
theorem dX10_numberOf_60 : decode cX10_numberOf 60 = .ok (.invokevirtual 194, 3) := by decide +kernel
theorem dX10_numberOf_63 : decode cX10_numberOf 63 = .ok (.ifCond .eq 25, 3) := by decide +kernel
theorem dX10_numberOf_66 : decode cX10_numberOf 66 = .ok (.iload 6, 2) := by decide +kernel
theorem dX10_numberOf_68 : decode cX10_numberOf 68 = .ok (.iconst 2, 1) := by decide +kernel
theorem dX10_numberOf_69 : decode cX10_numberOf 69 = .ok (.iand, 1) := by decide +kernel
theorem dX10_numberOf_70 : decode cX10_numberOf 70 = .ok (.ifCond .ne 18, 3) := by decide +kernel
theorem dX10_numberOf_73 : decode cX10_numberOf 73 = .ok (.aload_n 0, 1) := by decide +kernel
theorem dX10_numberOf_74 : decode cX10_numberOf 74 = .ok (.iload 7, 2) := by decide +kernel
theorem dX10_numberOf_76 : decode cX10_numberOf 76 = .ok (.iconst 1, 1) := by decide +kernel
theorem dX10_numberOf_77 : decode cX10_numberOf 77 = .ok (.iadd, 1) := by decide +kernel
theorem dX10_numberOf_78 : decode cX10_numberOf 78 = .ok (.iload 8, 2) := by decide +kernel
theorem dX10_numberOf_80 : decode cX10_numberOf 80 = .ok (.iconst 1, 1) := by decide +kernel
theorem dX10_numberOf_81 : decode cX10_numberOf 81 = .ok (.ior, 1) := by decide +kernel
set_option maxRecDepth 20000 in
theorem ggX10_numberOf_X10_waysAt : GoodIn wsX10_numberOf wsX10_waysAt := goodIn_r _ [21, 22, 23, 24, 25, 26, 27, 28, 29, 30, 31, 32, 33, 34, 35, 36, 37, 38, 39, 40, 41, 42, 43, 44, 45, 46, 47, 48, 49, 50, 51, 52] rfl (by decide +kernel)
set_option maxRecDepth 20000 in
theorem gX10_numberOf_X10_waysAt : GoodIn wsX10_numberOf (wsV RX10 197 RX10 yX10_waysAt wsX10_waysAt) := goodIn_app (goodIn_r _ [18, 19, 20, 4] rfl (by decide +kernel)) ggX10_numberOf_X10_waysAt
theorem dX10_numberOf_82 : decode cX10_numberOf 82 = .ok (.invokevirtual 197, 3) := by decide +kernel
theorem dX10_numberOf_85 : decode cX10_numberOf 85 = .ok (.goto 4, 3) := by decide +kernel
theorem dX10_numberOf_0 : decode cX10_numberOf 0 = .ok (.iconst 0, 1) := by decide +kernel
theorem dX10_numberOf_1 : decode cX10_numberOf 1 = .ok (.istore 5, 2) := by decide +kernel
theorem dX10_numberOf_3 : decode cX10_numberOf 3 = .ok (.iconst 0, 1) := by decide +kernel
theorem dX10_numberOf_4 : decode cX10_numberOf 4 = .ok (.istore 6, 2) := by decide +kernel
theorem dX10_numberOf_6 : decode cX10_numberOf 6 = .ok (.iconst 0, 1) := by decide +kernel
theorem dX10_numberOf_7 : decode cX10_numberOf 7 = .ok (.istore 7, 2) := by decide +kernel
set_option maxRecDepth 20000 in
theorem ihX10_numberOf_10 : ∀ w ∈ u_ws RX10 TX10 30, w ∈ wsX10_numberOf := fun _ h => List.mem_cons_of_mem _ (List.mem_append_right _ h)
set_option maxHeartbeats 4000000 in
set_option maxRecDepth 100000 in
theorem t_X10_numberOf (l : Launch) (D : va_G) (cy : Nat → ClassId) (a : Nat → Nat) (sz : Nat) (J : Nat → Int64) (I : Nat → Int32) (R : Nat → Nat → Int32) (RJ : Nat → Nat → Int64) (x0 : Int64) (x1 : Int64) : Met l yX10_numberOf wsX10_numberOf ({ frames := 2, cells := 0, slots := 0, locals := 46 }) (va_Pc [.ref (a 0), .long x0, .long x1] (PW D cy sz (MW cy a J I R RJ))) (va_Qi (fun r (u : MS) => (True) ∧ u = (J, I, R, RJ)) (BW D (va_A (MW cy a J I R RJ) sz) (MWu cy a)) (va_A (MW cy a J I R RJ) sz)) 0 0 (va_A (MW cy a J I R RJ) sz) := by
  refine Met.ofW (cc := cX10_numberOf) (maxL := 10) (ret := (some .int)) (by decide) rfl ?_
  intro p e s m args below meth c s₁ B hml hv
  obtain ⟨rfl, rfl, hP, hK, hN, hD0⟩ := hv
  have hx := B.exec
  have hb := B.bytes
  have hr := B.returns
  have hts := atoms_spec (ws := wsX10_numberOf) B.pre
  have hown : s.vm.findClass RX10 = some m.cls := findClass_of_methodNamed B.named
  have hlocks := B.notSynchronized
  have hw0 := hts (.fieldLink RX10 81 "ParquetLayerModel" "floor" "J") (by decide +kernel)
  have hi10 := ihX10_numberOf_10
  have hD := hD0.self (sz := s.heap.size)
  generalize hAe : va_A (MW cy a J I R RJ) s.heap.size = A at hD ⊢
  have hA : ∀ q : Nat, s.heap.size ≤ q → A q := fun q h => by rw [← hAe]; exact Or.inr h
  have hS : va_S A s.heap s.heap [] := va_S.rf
  have hl := lv_entry ([.ref (a 0), .long x0, .long x1]) (n := 10) (Nat.le_of_ble_eq_true rfl)
  rw [lg_entry_eq]
  generalize (lg_sl ([.ref (a 0), .long x0, .long x1]) ++ List.replicate (10 - (lg_sl ([.ref (a 0), .long x0, .long x1])).length) Slot.unset).toArray = ls at hl ⊢
  have hl : lv_has ls 10 [(0, .ref (a 0)), (1, .long x0), (3, .long x1)] := hl
  have lp9 : ∀ (n9 : Nat), ∀ (i : Nat) (mk : Nat) (v5_9 : Int32), (i ≤ 64) → (mk < 256) → (64 - i) < n9 → ∀ (H : Heap) (locs : List Loc), va_P D vwCl (MW cy a J I R RJ) H → va_D A (MW cy a J I R RJ) → va_S A s.heap H locs → ∀ (ls : Array Slot), lv_has ls 10 [(0, .ref (a 0)), (1, .long x0), (3, .long x1), (5, .int v5_9), (6, .int (nI mk)), (7, .int (nI i))] → W p l e (headSpec wsX10_numberOf ({ frames := 2, cells := 0, slots := 0, locals := 46 })).room s m ([.ref (a 0), .long x0, .long x1] : List Value).toArray below meth c H locs 0 0 (MQ below (va_Qi (fun r (u : MS) => (True) ∧ u = (J, I, R, RJ)) (BW D A (MWu cy a)) A) ([.ref (a 0), .long x0, .long x1] : List Value).toArray s 0 0 A) (F0 m 9 ls []) := by
    intro n9
    induction n9 with
    | zero => intro i mk v5_9 hi hmk hn; exact absurd hn (Nat.not_lt_zero _)
    | succ n9 ih9 =>
      intro i mk v5_9 hi hmk hn9 H locs hP hD hS ls hl
      refine lv_iload hx hb dX10_numberOf_9 (lv_at hl 5 rfl) ?_
      refine lv_bipush (v := 64) hx hb dX10_numberOf_11 (by decide) ?_
      refine lv_icmp_ge (tgt := 119) hx hb dX10_numberOf_13 (by decide) (fun c_1 => ?_) (fun c_1 => ?_)
      · refine lv_iload hx hb dX10_numberOf_119 (lv_at hl 3 rfl) ?_
        exact wret_i hx hb hr hlocks (J, I, R, RJ) ⟨trivial, rfl⟩ hP hD hS dX10_numberOf_121
      · have hlt_i := ctr_lt (N := 64) (by decide) hi c_1
        refine lv_iload hx hb dX10_numberOf_16 (lv_at hl 4 rfl) ?_
        refine lv_iconst (v := 1) hx hb dX10_numberOf_18 (by decide) ?_
        refine lv_ishr hx hb dX10_numberOf_19 ?_
        refine wtop_i (y := nI (mk / 2)) (pk_shrN (by omega) _ 1 (by decide)) ?_
        refine lv_istore (lv' := [(8, .int (nI (mk / 2))), (0, .ref (a 0)), (1, .long x0), (3, .long x1), (5, .int v5_9), (6, .int (nI mk)), (7, .int (nI i))]) hx hb dX10_numberOf_20 hl (by decide) rfl (fun ls hl => ?_)
        refine lv_aload_n hx hb dX10_numberOf_22 rfl (lv_at hl 1 rfl) ?_
        refine va_get (D := D) (ci := 9) (v := .long (J 0)) (C := RX10) (T := TX10) (N := 30) hx hb hts hi10 hown hK hP 0 rfl rfl 0 (by decide) hw0 (fun _ h9 => h9) rfl dX10_numberOf_23 ?_
        refine lv_iload hx hb dX10_numberOf_26 (lv_at hl 6 rfl) ?_
        refine kS_i (As := [.long (J 0), .int (nI i)]) (rest := []) ⟨hx, hb, hml, hown, hts⟩ (c_X10_hasBit l (J 0) (nI i)) (va_cwS 2 hts gX10_numberOf_X10_hasBit rfl rfl rfl (by decide +kernel) ⟨Nat.le_of_ble_eq_true rfl, Nat.le_of_ble_eq_true rfl⟩) rfl hl.1 rfl (Nat.le_of_ble_eq_true rfl) dX10_numberOf_28 ⟨Nat.le_of_ble_eq_true rfl, Nat.le_of_ble_eq_true rfl⟩ ?_
        refine lv_if_eq (tgt := 109) hx hb dX10_numberOf_31 (by decide) (fun c_2 => ?_) (fun c_2 => ?_)
        · replace c_2 := bI_f c_2
          refine lv_iload hx hb dX10_numberOf_109 (lv_at hl 0 rfl) ?_
          refine lv_istore (lv' := [(6, .int (nI (mk / 2))), (8, .int (nI (mk / 2))), (0, .ref (a 0)), (1, .long x0), (3, .long x1), (5, .int v5_9), (7, .int (nI i))]) hx hb dX10_numberOf_111 hl (by decide) rfl (fun ls hl => ?_)
          refine lv_iinc (v := nI (i + 1)) (lv' := [(7, .int (nI (i + 1))), (6, .int (nI (mk / 2))), (8, .int (nI (mk / 2))), (0, .ref (a 0)), (1, .long x0), (3, .long x1), (5, .int v5_9)]) hx hb dX10_numberOf_113 hl (k := 6) rfl (nI_1 _) (by decide) rfl (fun ls hl => ?_)
          refine lv_goto (tgt := 9) hx hb dX10_numberOf_116 (by decide) ?_
          exact ih9 (i + 1) (mk / 2) v5_9 (by omega) (by omega) (by omega) _ _ hP hD hS ls (lv_sub hl [3, 4, 5, 6, 1, 0] rfl)
        · replace c_2 := bI_t c_2
          refine lv_iload hx hb dX10_numberOf_34 (lv_at hl 5 rfl) ?_
          refine lv_iconst (v := 1) hx hb dX10_numberOf_36 (by decide) ?_
          refine lv_iand hx hb dX10_numberOf_37 ?_
          refine lv_if_ne (tgt := 109) hx hb dX10_numberOf_38 (by decide) (fun c_3 => ?_) (fun c_3 => ?_)
          · refine lv_iload hx hb dX10_numberOf_109 (lv_at hl 0 rfl) ?_
            refine lv_istore (lv' := [(6, .int (nI (mk / 2))), (8, .int (nI (mk / 2))), (0, .ref (a 0)), (1, .long x0), (3, .long x1), (5, .int v5_9), (7, .int (nI i))]) hx hb dX10_numberOf_111 hl (by decide) rfl (fun ls hl => ?_)
            refine lv_iinc (v := nI (i + 1)) (lv' := [(7, .int (nI (i + 1))), (6, .int (nI (mk / 2))), (8, .int (nI (mk / 2))), (0, .ref (a 0)), (1, .long x0), (3, .long x1), (5, .int v5_9)]) hx hb dX10_numberOf_113 hl (k := 6) rfl (nI_1 _) (by decide) rfl (fun ls hl => ?_)
            refine lv_goto (tgt := 9) hx hb dX10_numberOf_116 (by decide) ?_
            exact ih9 (i + 1) (mk / 2) v5_9 (by omega) (by omega) (by omega) _ _ hP hD hS ls (lv_sub hl [3, 4, 5, 6, 1, 0] rfl)
          · refine lv_lload_n hx hb dX10_numberOf_41 rfl (lv_at hl 2 rfl) ?_
            refine lv_iload hx hb dX10_numberOf_42 (lv_at hl 6 rfl) ?_
            refine kS_i (As := [.long x0, .int (nI i)]) (rest := []) ⟨hx, hb, hml, hown, hts⟩ (c_X10_hasBit l x0 (nI i)) (va_cwS 2 hts gX10_numberOf_X10_hasBit rfl rfl rfl (by decide +kernel) ⟨Nat.le_of_ble_eq_true rfl, Nat.le_of_ble_eq_true rfl⟩) rfl hl.1 rfl (Nat.le_of_ble_eq_true rfl) dX10_numberOf_44 ⟨Nat.le_of_ble_eq_true rfl, Nat.le_of_ble_eq_true rfl⟩ ?_
            refine lv_istore (lv' := [(9, .int (bI (m_hasBit x0 (nI i)))), (8, .int (nI (mk / 2))), (0, .ref (a 0)), (1, .long x0), (3, .long x1), (5, .int v5_9), (6, .int (nI mk)), (7, .int (nI i))]) hx hb dX10_numberOf_47 hl (by decide) rfl (fun ls hl => ?_)
            refine lv_iload hx hb dX10_numberOf_49 (lv_at hl 5 rfl) ?_
            refine lv_iload hx hb dX10_numberOf_51 (lv_at hl 0 rfl) ?_
            refine lv_if_ne (tgt := 88) hx hb dX10_numberOf_53 (by decide) (fun c_4 => ?_) (fun c_4 => ?_)
            · replace c_4 := bI_t c_4
              refine lv_iconst (v := 0) hx hb dX10_numberOf_88 (by decide) ?_
              refine lv_iadd hx hb dX10_numberOf_89 ?_
              refine lv_istore (lv' := [(5, .int (v5_9 + 0)), (9, .int (bI (m_hasBit x0 (nI i)))), (8, .int (nI (mk / 2))), (0, .ref (a 0)), (1, .long x0), (3, .long x1), (6, .int (nI mk)), (7, .int (nI i))]) hx hb dX10_numberOf_90 hl (by decide) rfl (fun ls hl => ?_)
              refine lv_iload hx hb dX10_numberOf_92 (lv_at hl 2 rfl) ?_
              refine lv_iload hx hb dX10_numberOf_94 (lv_at hl 1 rfl) ?_
              refine lv_if_eq (tgt := 103) hx hb dX10_numberOf_96 (by decide) (fun c_5 => ?_) (fun c_5 => ?_)
              · replace c_5 := bI_f c_5
                refine lv_sipush (v := 128) hx hb dX10_numberOf_103 (by decide) ?_
                refine lv_ior hx hb dX10_numberOf_106 ?_
                refine wtop_i (y := nI (mk / 2 + 128)) (or128_t ⟨mk / 2, by omega⟩) ?_
                refine lv_istore (lv' := [(8, .int (nI (mk / 2 + 128))), (5, .int (v5_9 + 0)), (9, .int (bI (m_hasBit x0 (nI i)))), (0, .ref (a 0)), (1, .long x0), (3, .long x1), (6, .int (nI mk)), (7, .int (nI i))]) hx hb dX10_numberOf_107 hl (by decide) rfl (fun ls hl => ?_)
                refine lv_iload hx hb dX10_numberOf_109 (lv_at hl 0 rfl) ?_
                refine lv_istore (lv' := [(6, .int (nI (mk / 2 + 128))), (8, .int (nI (mk / 2 + 128))), (5, .int (v5_9 + 0)), (9, .int (bI (m_hasBit x0 (nI i)))), (0, .ref (a 0)), (1, .long x0), (3, .long x1), (7, .int (nI i))]) hx hb dX10_numberOf_111 hl (by decide) rfl (fun ls hl => ?_)
                refine lv_iinc (v := nI (i + 1)) (lv' := [(7, .int (nI (i + 1))), (6, .int (nI (mk / 2 + 128))), (8, .int (nI (mk / 2 + 128))), (5, .int (v5_9 + 0)), (9, .int (bI (m_hasBit x0 (nI i)))), (0, .ref (a 0)), (1, .long x0), (3, .long x1)]) hx hb dX10_numberOf_113 hl (k := 7) rfl (nI_1 _) (by decide) rfl (fun ls hl => ?_)
                refine lv_goto (tgt := 9) hx hb dX10_numberOf_116 (by decide) ?_
                exact ih9 (i + 1) (mk / 2 + 128) (v5_9 + 0) (by omega) (by omega) (by omega) _ _ hP hD hS ls (lv_sub hl [5, 6, 7, 3, 1, 0] rfl)
              · replace c_5 := bI_t c_5
                refine lv_iconst (v := 1) hx hb dX10_numberOf_99 (by decide) ?_
                refine lv_goto (tgt := 106) hx hb dX10_numberOf_100 (by decide) ?_
                refine lv_ior hx hb dX10_numberOf_106 ?_
                refine wtop_i (y := nI (mk / 2 / 2 * 2 + 1)) (or1_t ⟨mk / 2, by omega⟩) ?_
                refine lv_istore (lv' := [(8, .int (nI (mk / 2 / 2 * 2 + 1))), (5, .int (v5_9 + 0)), (9, .int (bI (m_hasBit x0 (nI i)))), (0, .ref (a 0)), (1, .long x0), (3, .long x1), (6, .int (nI mk)), (7, .int (nI i))]) hx hb dX10_numberOf_107 hl (by decide) rfl (fun ls hl => ?_)
                refine lv_iload hx hb dX10_numberOf_109 (lv_at hl 0 rfl) ?_
                refine lv_istore (lv' := [(6, .int (nI (mk / 2 / 2 * 2 + 1))), (8, .int (nI (mk / 2 / 2 * 2 + 1))), (5, .int (v5_9 + 0)), (9, .int (bI (m_hasBit x0 (nI i)))), (0, .ref (a 0)), (1, .long x0), (3, .long x1), (7, .int (nI i))]) hx hb dX10_numberOf_111 hl (by decide) rfl (fun ls hl => ?_)
                refine lv_iinc (v := nI (i + 1)) (lv' := [(7, .int (nI (i + 1))), (6, .int (nI (mk / 2 / 2 * 2 + 1))), (8, .int (nI (mk / 2 / 2 * 2 + 1))), (5, .int (v5_9 + 0)), (9, .int (bI (m_hasBit x0 (nI i)))), (0, .ref (a 0)), (1, .long x0), (3, .long x1)]) hx hb dX10_numberOf_113 hl (k := 7) rfl (nI_1 _) (by decide) rfl (fun ls hl => ?_)
                refine lv_goto (tgt := 9) hx hb dX10_numberOf_116 (by decide) ?_
                exact ih9 (i + 1) (mk / 2 / 2 * 2 + 1) (v5_9 + 0) (by omega) (by omega) (by omega) _ _ hP hD hS ls (lv_sub hl [5, 6, 7, 3, 1, 0] rfl)
            · replace c_4 := bI_f c_4
              refine lv_aload_n hx hb dX10_numberOf_56 rfl (lv_at hl 2 rfl) ?_
              refine lv_iload hx hb dX10_numberOf_57 (lv_at hl 7 rfl) ?_
              refine lv_iconst (v := 0) hx hb dX10_numberOf_59 (by decide) ?_
              refine kR_i (As := [.int (nI i), .int 0]) (rest := [.int v5_9]) (q0 := 0) ⟨hx, hb, hml, hown, hts⟩ (c_X10_mayLie l D cy a _ J I R RJ (nI i) false ) (cwV 2 hts gX10_numberOf_X10_mayLie rfl rfl rfl (by decide +kernel) ⟨Nat.le_of_ble_eq_true rfl, Nat.le_of_ble_eq_true rfl⟩) hK hN hP hD rfl rfl rfl hl.1 rfl (Nat.le_of_ble_eq_true rfl) dX10_numberOf_60 ⟨Nat.le_of_ble_eq_true rfl, Nat.le_of_ble_eq_true rfl⟩ ?_
              refine lv_if_eq (tgt := 88) hx hb dX10_numberOf_63 (by decide) (fun c_6 => ?_) (fun c_6 => ?_)
              · replace c_6 := bI_f c_6
                refine lv_iconst (v := 0) hx hb dX10_numberOf_88 (by decide) ?_
                refine lv_iadd hx hb dX10_numberOf_89 ?_
                refine lv_istore (lv' := [(5, .int (v5_9 + 0)), (9, .int (bI (m_hasBit x0 (nI i)))), (8, .int (nI (mk / 2))), (0, .ref (a 0)), (1, .long x0), (3, .long x1), (6, .int (nI mk)), (7, .int (nI i))]) hx hb dX10_numberOf_90 hl (by decide) rfl (fun ls hl => ?_)
                refine lv_iload hx hb dX10_numberOf_92 (lv_at hl 2 rfl) ?_
                refine lv_iload hx hb dX10_numberOf_94 (lv_at hl 1 rfl) ?_
                refine lv_if_eq (tgt := 103) hx hb dX10_numberOf_96 (by decide) (fun c_7 => ?_) (fun c_7 => ?_)
                · replace c_7 := bI_f c_7
                  refine lv_sipush (v := 128) hx hb dX10_numberOf_103 (by decide) ?_
                  refine lv_ior hx hb dX10_numberOf_106 ?_
                  refine wtop_i (y := nI (mk / 2 + 128)) (or128_t ⟨mk / 2, by omega⟩) ?_
                  refine lv_istore (lv' := [(8, .int (nI (mk / 2 + 128))), (5, .int (v5_9 + 0)), (9, .int (bI (m_hasBit x0 (nI i)))), (0, .ref (a 0)), (1, .long x0), (3, .long x1), (6, .int (nI mk)), (7, .int (nI i))]) hx hb dX10_numberOf_107 hl (by decide) rfl (fun ls hl => ?_)
                  refine lv_iload hx hb dX10_numberOf_109 (lv_at hl 0 rfl) ?_
                  refine lv_istore (lv' := [(6, .int (nI (mk / 2 + 128))), (8, .int (nI (mk / 2 + 128))), (5, .int (v5_9 + 0)), (9, .int (bI (m_hasBit x0 (nI i)))), (0, .ref (a 0)), (1, .long x0), (3, .long x1), (7, .int (nI i))]) hx hb dX10_numberOf_111 hl (by decide) rfl (fun ls hl => ?_)
                  refine lv_iinc (v := nI (i + 1)) (lv' := [(7, .int (nI (i + 1))), (6, .int (nI (mk / 2 + 128))), (8, .int (nI (mk / 2 + 128))), (5, .int (v5_9 + 0)), (9, .int (bI (m_hasBit x0 (nI i)))), (0, .ref (a 0)), (1, .long x0), (3, .long x1)]) hx hb dX10_numberOf_113 hl (k := 7) rfl (nI_1 _) (by decide) rfl (fun ls hl => ?_)
                  refine lv_goto (tgt := 9) hx hb dX10_numberOf_116 (by decide) ?_
                  exact ih9 (i + 1) (mk / 2 + 128) (v5_9 + 0) (by omega) (by omega) (by omega) _ _ hP hD hS ls (lv_sub hl [5, 6, 7, 3, 1, 0] rfl)
                · replace c_7 := bI_t c_7
                  refine lv_iconst (v := 1) hx hb dX10_numberOf_99 (by decide) ?_
                  refine lv_goto (tgt := 106) hx hb dX10_numberOf_100 (by decide) ?_
                  refine lv_ior hx hb dX10_numberOf_106 ?_
                  refine wtop_i (y := nI (mk / 2 / 2 * 2 + 1)) (or1_t ⟨mk / 2, by omega⟩) ?_
                  refine lv_istore (lv' := [(8, .int (nI (mk / 2 / 2 * 2 + 1))), (5, .int (v5_9 + 0)), (9, .int (bI (m_hasBit x0 (nI i)))), (0, .ref (a 0)), (1, .long x0), (3, .long x1), (6, .int (nI mk)), (7, .int (nI i))]) hx hb dX10_numberOf_107 hl (by decide) rfl (fun ls hl => ?_)
                  refine lv_iload hx hb dX10_numberOf_109 (lv_at hl 0 rfl) ?_
                  refine lv_istore (lv' := [(6, .int (nI (mk / 2 / 2 * 2 + 1))), (8, .int (nI (mk / 2 / 2 * 2 + 1))), (5, .int (v5_9 + 0)), (9, .int (bI (m_hasBit x0 (nI i)))), (0, .ref (a 0)), (1, .long x0), (3, .long x1), (7, .int (nI i))]) hx hb dX10_numberOf_111 hl (by decide) rfl (fun ls hl => ?_)
                  refine lv_iinc (v := nI (i + 1)) (lv' := [(7, .int (nI (i + 1))), (6, .int (nI (mk / 2 / 2 * 2 + 1))), (8, .int (nI (mk / 2 / 2 * 2 + 1))), (5, .int (v5_9 + 0)), (9, .int (bI (m_hasBit x0 (nI i)))), (0, .ref (a 0)), (1, .long x0), (3, .long x1)]) hx hb dX10_numberOf_113 hl (k := 7) rfl (nI_1 _) (by decide) rfl (fun ls hl => ?_)
                  refine lv_goto (tgt := 9) hx hb dX10_numberOf_116 (by decide) ?_
                  exact ih9 (i + 1) (mk / 2 / 2 * 2 + 1) (v5_9 + 0) (by omega) (by omega) (by omega) _ _ hP hD hS ls (lv_sub hl [5, 6, 7, 3, 1, 0] rfl)
              · replace c_6 := bI_t c_6
                refine lv_iload hx hb dX10_numberOf_66 (lv_at hl 6 rfl) ?_
                refine lv_iconst (v := 2) hx hb dX10_numberOf_68 (by decide) ?_
                refine lv_iand hx hb dX10_numberOf_69 ?_
                refine lv_if_ne (tgt := 88) hx hb dX10_numberOf_70 (by decide) (fun c_8 => ?_) (fun c_8 => ?_)
                · refine lv_iconst (v := 0) hx hb dX10_numberOf_88 (by decide) ?_
                  refine lv_iadd hx hb dX10_numberOf_89 ?_
                  refine lv_istore (lv' := [(5, .int (v5_9 + 0)), (9, .int (bI (m_hasBit x0 (nI i)))), (8, .int (nI (mk / 2))), (0, .ref (a 0)), (1, .long x0), (3, .long x1), (6, .int (nI mk)), (7, .int (nI i))]) hx hb dX10_numberOf_90 hl (by decide) rfl (fun ls hl => ?_)
                  refine lv_iload hx hb dX10_numberOf_92 (lv_at hl 2 rfl) ?_
                  refine lv_iload hx hb dX10_numberOf_94 (lv_at hl 1 rfl) ?_
                  refine lv_if_eq (tgt := 103) hx hb dX10_numberOf_96 (by decide) (fun c_9 => ?_) (fun c_9 => ?_)
                  · replace c_9 := bI_f c_9
                    refine lv_sipush (v := 128) hx hb dX10_numberOf_103 (by decide) ?_
                    refine lv_ior hx hb dX10_numberOf_106 ?_
                    refine wtop_i (y := nI (mk / 2 + 128)) (or128_t ⟨mk / 2, by omega⟩) ?_
                    refine lv_istore (lv' := [(8, .int (nI (mk / 2 + 128))), (5, .int (v5_9 + 0)), (9, .int (bI (m_hasBit x0 (nI i)))), (0, .ref (a 0)), (1, .long x0), (3, .long x1), (6, .int (nI mk)), (7, .int (nI i))]) hx hb dX10_numberOf_107 hl (by decide) rfl (fun ls hl => ?_)
                    refine lv_iload hx hb dX10_numberOf_109 (lv_at hl 0 rfl) ?_
                    refine lv_istore (lv' := [(6, .int (nI (mk / 2 + 128))), (8, .int (nI (mk / 2 + 128))), (5, .int (v5_9 + 0)), (9, .int (bI (m_hasBit x0 (nI i)))), (0, .ref (a 0)), (1, .long x0), (3, .long x1), (7, .int (nI i))]) hx hb dX10_numberOf_111 hl (by decide) rfl (fun ls hl => ?_)
                    refine lv_iinc (v := nI (i + 1)) (lv' := [(7, .int (nI (i + 1))), (6, .int (nI (mk / 2 + 128))), (8, .int (nI (mk / 2 + 128))), (5, .int (v5_9 + 0)), (9, .int (bI (m_hasBit x0 (nI i)))), (0, .ref (a 0)), (1, .long x0), (3, .long x1)]) hx hb dX10_numberOf_113 hl (k := 7) rfl (nI_1 _) (by decide) rfl (fun ls hl => ?_)
                    refine lv_goto (tgt := 9) hx hb dX10_numberOf_116 (by decide) ?_
                    exact ih9 (i + 1) (mk / 2 + 128) (v5_9 + 0) (by omega) (by omega) (by omega) _ _ hP hD hS ls (lv_sub hl [5, 6, 7, 3, 1, 0] rfl)
                  · replace c_9 := bI_t c_9
                    refine lv_iconst (v := 1) hx hb dX10_numberOf_99 (by decide) ?_
                    refine lv_goto (tgt := 106) hx hb dX10_numberOf_100 (by decide) ?_
                    refine lv_ior hx hb dX10_numberOf_106 ?_
                    refine wtop_i (y := nI (mk / 2 / 2 * 2 + 1)) (or1_t ⟨mk / 2, by omega⟩) ?_
                    refine lv_istore (lv' := [(8, .int (nI (mk / 2 / 2 * 2 + 1))), (5, .int (v5_9 + 0)), (9, .int (bI (m_hasBit x0 (nI i)))), (0, .ref (a 0)), (1, .long x0), (3, .long x1), (6, .int (nI mk)), (7, .int (nI i))]) hx hb dX10_numberOf_107 hl (by decide) rfl (fun ls hl => ?_)
                    refine lv_iload hx hb dX10_numberOf_109 (lv_at hl 0 rfl) ?_
                    refine lv_istore (lv' := [(6, .int (nI (mk / 2 / 2 * 2 + 1))), (8, .int (nI (mk / 2 / 2 * 2 + 1))), (5, .int (v5_9 + 0)), (9, .int (bI (m_hasBit x0 (nI i)))), (0, .ref (a 0)), (1, .long x0), (3, .long x1), (7, .int (nI i))]) hx hb dX10_numberOf_111 hl (by decide) rfl (fun ls hl => ?_)
                    refine lv_iinc (v := nI (i + 1)) (lv' := [(7, .int (nI (i + 1))), (6, .int (nI (mk / 2 / 2 * 2 + 1))), (8, .int (nI (mk / 2 / 2 * 2 + 1))), (5, .int (v5_9 + 0)), (9, .int (bI (m_hasBit x0 (nI i)))), (0, .ref (a 0)), (1, .long x0), (3, .long x1)]) hx hb dX10_numberOf_113 hl (k := 7) rfl (nI_1 _) (by decide) rfl (fun ls hl => ?_)
                    refine lv_goto (tgt := 9) hx hb dX10_numberOf_116 (by decide) ?_
                    exact ih9 (i + 1) (mk / 2 / 2 * 2 + 1) (v5_9 + 0) (by omega) (by omega) (by omega) _ _ hP hD hS ls (lv_sub hl [5, 6, 7, 3, 1, 0] rfl)
                · refine lv_aload_n hx hb dX10_numberOf_73 rfl (lv_at hl 2 rfl) ?_
                  refine lv_iload hx hb dX10_numberOf_74 (lv_at hl 7 rfl) ?_
                  refine lv_iconst (v := 1) hx hb dX10_numberOf_76 (by decide) ?_
                  refine lv_iadd hx hb dX10_numberOf_77 ?_
                  refine wtop_i (y := nI (i + 1)) (nI_1 _) ?_
                  refine lv_iload hx hb dX10_numberOf_78 (lv_at hl 1 rfl) ?_
                  refine lv_iconst (v := 1) hx hb dX10_numberOf_80 (by decide) ?_
                  refine lv_ior hx hb dX10_numberOf_81 ?_
                  refine wtop_i (y := nI (mk / 2 / 2 * 2 + 1)) (or1_t ⟨mk / 2, by omega⟩) ?_
                  refine kR_i (As := [.int (nI (i + 1)), .int (nI (mk / 2 / 2 * 2 + 1))]) (rest := [.int v5_9]) (q0 := 0) ⟨hx, hb, hml, hown, hts⟩ (c_X10_waysAt l D cy a _ J I R RJ (nI (i + 1)) (nI (mk / 2 / 2 * 2 + 1)) (ix_w (by omega) (by omega))) (cwV 2 hts gX10_numberOf_X10_waysAt rfl rfl rfl (by decide +kernel) ⟨Nat.le_of_ble_eq_true rfl, Nat.le_of_ble_eq_true rfl⟩) hK hN hP hD rfl rfl rfl hl.1 rfl (Nat.le_of_ble_eq_true rfl) dX10_numberOf_82 ⟨Nat.le_of_ble_eq_true rfl, Nat.le_of_ble_eq_true rfl⟩ ?_
                  refine lv_goto (tgt := 89) hx hb dX10_numberOf_85 (by decide) ?_
                  refine lv_iadd hx hb dX10_numberOf_89 ?_
                  refine lv_istore (lv' := [(5, .int (v5_9 + ((R 12) ((256 : Int32) * (nI (i + 1)) + (nI (mk / 2 / 2 * 2 + 1))).toNatClampNeg))), (9, .int (bI (m_hasBit x0 (nI i)))), (8, .int (nI (mk / 2))), (0, .ref (a 0)), (1, .long x0), (3, .long x1), (6, .int (nI mk)), (7, .int (nI i))]) hx hb dX10_numberOf_90 hl (by decide) rfl (fun ls hl => ?_)
                  refine lv_iload hx hb dX10_numberOf_92 (lv_at hl 2 rfl) ?_
                  refine lv_iload hx hb dX10_numberOf_94 (lv_at hl 1 rfl) ?_
                  refine lv_if_eq (tgt := 103) hx hb dX10_numberOf_96 (by decide) (fun c_10 => ?_) (fun c_10 => ?_)
                  · replace c_10 := bI_f c_10
                    refine lv_sipush (v := 128) hx hb dX10_numberOf_103 (by decide) ?_
                    refine lv_ior hx hb dX10_numberOf_106 ?_
                    refine wtop_i (y := nI (mk / 2 + 128)) (or128_t ⟨mk / 2, by omega⟩) ?_
                    refine lv_istore (lv' := [(8, .int (nI (mk / 2 + 128))), (5, .int (v5_9 + ((R 12) ((256 : Int32) * (nI (i + 1)) + (nI (mk / 2 / 2 * 2 + 1))).toNatClampNeg))), (9, .int (bI (m_hasBit x0 (nI i)))), (0, .ref (a 0)), (1, .long x0), (3, .long x1), (6, .int (nI mk)), (7, .int (nI i))]) hx hb dX10_numberOf_107 hl (by decide) rfl (fun ls hl => ?_)
                    refine lv_iload hx hb dX10_numberOf_109 (lv_at hl 0 rfl) ?_
                    refine lv_istore (lv' := [(6, .int (nI (mk / 2 + 128))), (8, .int (nI (mk / 2 + 128))), (5, .int (v5_9 + ((R 12) ((256 : Int32) * (nI (i + 1)) + (nI (mk / 2 / 2 * 2 + 1))).toNatClampNeg))), (9, .int (bI (m_hasBit x0 (nI i)))), (0, .ref (a 0)), (1, .long x0), (3, .long x1), (7, .int (nI i))]) hx hb dX10_numberOf_111 hl (by decide) rfl (fun ls hl => ?_)
                    refine lv_iinc (v := nI (i + 1)) (lv' := [(7, .int (nI (i + 1))), (6, .int (nI (mk / 2 + 128))), (8, .int (nI (mk / 2 + 128))), (5, .int (v5_9 + ((R 12) ((256 : Int32) * (nI (i + 1)) + (nI (mk / 2 / 2 * 2 + 1))).toNatClampNeg))), (9, .int (bI (m_hasBit x0 (nI i)))), (0, .ref (a 0)), (1, .long x0), (3, .long x1)]) hx hb dX10_numberOf_113 hl (k := 7) rfl (nI_1 _) (by decide) rfl (fun ls hl => ?_)
                    refine lv_goto (tgt := 9) hx hb dX10_numberOf_116 (by decide) ?_
                    exact ih9 (i + 1) (mk / 2 + 128) (v5_9 + ((R 12) ((256 : Int32) * (nI (i + 1)) + (nI (mk / 2 / 2 * 2 + 1))).toNatClampNeg)) (by omega) (by omega) (by omega) _ _ hP hD hS ls (lv_sub hl [5, 6, 7, 3, 1, 0] rfl)
                  · replace c_10 := bI_t c_10
                    refine lv_iconst (v := 1) hx hb dX10_numberOf_99 (by decide) ?_
                    refine lv_goto (tgt := 106) hx hb dX10_numberOf_100 (by decide) ?_
                    refine lv_ior hx hb dX10_numberOf_106 ?_
                    refine wtop_i (y := nI (mk / 2 / 2 * 2 + 1)) (or1_t ⟨mk / 2, by omega⟩) ?_
                    refine lv_istore (lv' := [(8, .int (nI (mk / 2 / 2 * 2 + 1))), (5, .int (v5_9 + ((R 12) ((256 : Int32) * (nI (i + 1)) + (nI (mk / 2 / 2 * 2 + 1))).toNatClampNeg))), (9, .int (bI (m_hasBit x0 (nI i)))), (0, .ref (a 0)), (1, .long x0), (3, .long x1), (6, .int (nI mk)), (7, .int (nI i))]) hx hb dX10_numberOf_107 hl (by decide) rfl (fun ls hl => ?_)
                    refine lv_iload hx hb dX10_numberOf_109 (lv_at hl 0 rfl) ?_
                    refine lv_istore (lv' := [(6, .int (nI (mk / 2 / 2 * 2 + 1))), (8, .int (nI (mk / 2 / 2 * 2 + 1))), (5, .int (v5_9 + ((R 12) ((256 : Int32) * (nI (i + 1)) + (nI (mk / 2 / 2 * 2 + 1))).toNatClampNeg))), (9, .int (bI (m_hasBit x0 (nI i)))), (0, .ref (a 0)), (1, .long x0), (3, .long x1), (7, .int (nI i))]) hx hb dX10_numberOf_111 hl (by decide) rfl (fun ls hl => ?_)
                    refine lv_iinc (v := nI (i + 1)) (lv' := [(7, .int (nI (i + 1))), (6, .int (nI (mk / 2 / 2 * 2 + 1))), (8, .int (nI (mk / 2 / 2 * 2 + 1))), (5, .int (v5_9 + ((R 12) ((256 : Int32) * (nI (i + 1)) + (nI (mk / 2 / 2 * 2 + 1))).toNatClampNeg))), (9, .int (bI (m_hasBit x0 (nI i)))), (0, .ref (a 0)), (1, .long x0), (3, .long x1)]) hx hb dX10_numberOf_113 hl (k := 7) rfl (nI_1 _) (by decide) rfl (fun ls hl => ?_)
                    refine lv_goto (tgt := 9) hx hb dX10_numberOf_116 (by decide) ?_
                    exact ih9 (i + 1) (mk / 2 / 2 * 2 + 1) (v5_9 + ((R 12) ((256 : Int32) * (nI (i + 1)) + (nI (mk / 2 / 2 * 2 + 1))).toNatClampNeg)) (by omega) (by omega) (by omega) _ _ hP hD hS ls (lv_sub hl [5, 6, 7, 3, 1, 0] rfl)
  refine lv_iconst (v := 0) hx hb dX10_numberOf_0 (by decide) ?_
  refine lv_istore (lv' := [(5, .int 0), (0, .ref (a 0)), (1, .long x0), (3, .long x1)]) hx hb dX10_numberOf_1 hl (by decide) rfl (fun ls hl => ?_)
  refine lv_iconst (v := 0) hx hb dX10_numberOf_3 (by decide) ?_
  refine lv_istore (lv' := [(6, .int 0), (5, .int 0), (0, .ref (a 0)), (1, .long x0), (3, .long x1)]) hx hb dX10_numberOf_4 hl (by decide) rfl (fun ls hl => ?_)
  refine lv_iconst (v := 0) hx hb dX10_numberOf_6 (by decide) ?_
  refine lv_istore (lv' := [(7, .int 0), (6, .int 0), (5, .int 0), (0, .ref (a 0)), (1, .long x0), (3, .long x1)]) hx hb dX10_numberOf_7 hl (by decide) rfl (fun ls hl => ?_)
  exact lp9 _ 0 0 (0 : Int32) (by omega) (by omega) (Nat.lt_succ_self _) _ _ hP hD hS ls (lv_sub hl [3, 4, 5, 2, 1, 0] rfl)
theorem dX10_take_0 : decode cX10_take 0 = .ok (.aload_n 0, 1) := by decide +kernel
theorem dX10_take_1 : decode cX10_take 1 = .ok (.iload_n 1, 1) := by decide +kernel
set_option maxRecDepth 20000 in
theorem ggX10_take_X10_walk : GoodIn wsX10_take wsX10_walk := goodIn_r _ [10, 1, 3, 11, 12, 13, 9, 14, 15, 16, 17, 18, 19, 20, 21, 22, 23, 24, 25, 26, 27, 28, 29, 30, 31, 32, 33, 34, 35, 36, 37, 38, 39, 40, 41, 42, 43, 44, 45, 46, 47, 48, 49, 50, 51, 52, 53, 54, 55, 56, 57, 58, 59, 60, 61] rfl (by decide +kernel)
set_option maxRecDepth 20000 in
theorem gX10_take_X10_walk : GoodIn wsX10_take (wsV RX10 216 RX10 yX10_walk wsX10_walk) := goodIn_app (goodIn_r _ [6, 7, 8, 9] rfl (by decide +kernel)) ggX10_take_X10_walk
theorem dX10_take_2 : decode cX10_take 2 = .ok (.invokevirtual 216, 3) := by decide +kernel
theorem dX10_take_5 : decode cX10_take 5 = .ok (.aload_n 0, 1) := by decide +kernel
theorem dX10_take_6 : decode cX10_take 6 = .ok (.aload_n 0, 1) := by decide +kernel
theorem dX10_take_7 : decode cX10_take 7 = .ok (.getfield 210, 3) := by decide +kernel
theorem dX10_take_10 : decode cX10_take 10 = .ok (.putfield 92, 3) := by decide +kernel
theorem dX10_take_13 : decode cX10_take 13 = .ok (.aload_n 0, 1) := by decide +kernel
theorem dX10_take_14 : decode cX10_take 14 = .ok (.aload_n 0, 1) := by decide +kernel
theorem dX10_take_15 : decode cX10_take 15 = .ok (.getfield 213, 3) := by decide +kernel
theorem dX10_take_18 : decode cX10_take 18 = .ok (.putfield 95, 3) := by decide +kernel
theorem dX10_take_21 : decode cX10_take 21 = .ok (.aload_n 0, 1) := by decide +kernel
theorem dX10_take_22 : decode cX10_take 22 = .ok (.iconst 1, 1) := by decide +kernel
theorem dX10_take_23 : decode cX10_take 23 = .ok (.putfield 88, 3) := by decide +kernel
theorem dX10_take_26 : decode cX10_take 26 = .ok (.return_, 1) := by decide +kernel
set_option maxRecDepth 20000 in
theorem ihX10_take_10 : ∀ w ∈ u_ws RX10 TX10 30, w ∈ wsX10_take := fun _ h => List.mem_cons_of_mem _ (List.mem_append_right _ h)
set_option maxHeartbeats 4000000 in
set_option maxRecDepth 100000 in
theorem t_X10_take (l : Launch) (D : va_G) (cy : Nat → ClassId) (a : Nat → Nat) (sz : Nat) (J : Nat → Int64) (I : Nat → Int32) (R : Nat → Nat → Int32) (RJ : Nat → Nat → Int64) (x0 : Int32) (hM : MI I R) : Met l yX10_take wsX10_take ({ frames := 3, cells := 0, slots := 0, locals := 73 }) (va_Pc [.ref (a 0), .int x0] (PW D cy sz (MW cy a J I R RJ))) (va_Qv (fun (u : MS) => ∃ (w0 : Int64), ∃ (w1 : Int64), ∃ (w2 : Int64), ∃ (w3 : Int64), ∃ (w4 : Int32), ((isB w4)) ∧ u = ((va_up (va_up (va_up (va_up J 4 w0) 5 w1) 22 w2) 23 w3), (va_up I 3 w4), R, RJ)) (BW D (va_A (MW cy a J I R RJ) sz) (MWu cy a)) (va_A (MW cy a J I R RJ) sz)) 0 0 (va_A (MW cy a J I R RJ) sz) := by
  refine Met.ofW (cc := cX10_take) (maxL := 2) (ret := none) (by decide) rfl ?_
  intro p e s m args below meth c s₁ B hml hv
  obtain ⟨rfl, rfl, hP, hK, hN, hD0⟩ := hv
  have hx := B.exec
  have hb := B.bytes
  have hr := B.returns
  have hts := atoms_spec (ws := wsX10_take) B.pre
  have hown : s.vm.findClass RX10 = some m.cls := findClass_of_methodNamed B.named
  have hlocks := B.notSynchronized
  have hw0 := hts (.fieldLink RX10 210 "ParquetLayerModel" "walkAlong" "J") (by decide +kernel)
  have hw1 := hts (.fieldLink RX10 92 "ParquetLayerModel" "along" "J") (by decide +kernel)
  have hw2 := hts (.fieldLink RX10 213 "ParquetLayerModel" "walkAcross" "J") (by decide +kernel)
  have hw3 := hts (.fieldLink RX10 95 "ParquetLayerModel" "across" "J") (by decide +kernel)
  have hw4 := hts (.fieldLink RX10 88 "ParquetLayerModel" "isLaid" "Z") (by decide +kernel)
  have hi10 := ihX10_take_10
  have hD := hD0.self (sz := s.heap.size)
  generalize hAe : va_A (MW cy a J I R RJ) s.heap.size = A at hD ⊢
  have hA : ∀ q : Nat, s.heap.size ≤ q → A q := fun q h => by rw [← hAe]; exact Or.inr h
  have hS : va_S A s.heap s.heap [] := va_S.rf
  have hl := lv_entry ([.ref (a 0), .int x0]) (n := 2) (Nat.le_of_ble_eq_true rfl)
  rw [lg_entry_eq]
  generalize (lg_sl ([.ref (a 0), .int x0]) ++ List.replicate (2 - (lg_sl ([.ref (a 0), .int x0])).length) Slot.unset).toArray = ls at hl ⊢
  have hl : lv_has ls 2 [(0, .ref (a 0)), (1, .int x0)] := hl
  have hP : va_P D vwCl (MW cy a (va_up (va_up (va_up (va_up J 4 (J 4)) 5 (J 5)) 22 (J 22)) 23 (J 23)) (va_up I 3 (I 3)) R RJ) s.heap := hP
  have hD : va_D A (MW cy a (va_up (va_up (va_up (va_up J 4 (J 4)) 5 (J 5)) 22 (J 22)) 23 (J 23)) (va_up I 3 (I 3)) R RJ) := hD
  refine lv_aload_n hx hb dX10_take_0 rfl (lv_at hl 0 rfl) ?_
  refine lv_iload_n hx hb dX10_take_1 rfl (lv_at hl 1 rfl) ?_
  refine kM_v (As := [.int x0]) (rest := []) (q0 := 0) ⟨hx, hb, hml, hown, hts⟩ (t_X10_walk l D cy a _ (va_up (va_up (va_up (va_up J 4 (J 4)) 5 (J 5)) 22 (J 22)) 23 (J 23)) (va_up I 3 (I 3)) R RJ x0  ) (cwV 1 hts gX10_take_X10_walk rfl rfl rfl (by decide +kernel) ⟨Nat.le_of_ble_eq_true rfl, Nat.le_of_ble_eq_true rfl⟩) hK hN hP hD hS hA rfl rfl rfl hl.1 rfl (Nat.le_of_ble_eq_true rfl) dX10_take_2 ⟨Nat.le_of_ble_eq_true rfl, Nat.le_of_ble_eq_true rfl⟩ (fun u H locs hw hP hD hS => ?_)
  obtain ⟨w_2, w_3, -, rfl⟩ := hw
  have hP : va_P D vwCl (MW cy a (va_up (va_up (va_up (va_up J 4 (J 4)) 5 (J 5)) 22 w_2) 23 w_3) (va_up I 3 (I 3)) R RJ) H := hP
  have hD : va_D A (MW cy a (va_up (va_up (va_up (va_up J 4 (J 4)) 5 (J 5)) 22 w_2) 23 w_3) (va_up I 3 (I 3)) R RJ) := hD
  refine lv_aload_n hx hb dX10_take_5 rfl (lv_at hl 0 rfl) ?_
  refine lv_aload_n hx hb dX10_take_6 rfl (lv_at hl 0 rfl) ?_
  refine va_get (D := D) (ci := 9) (v := .long w_2) (C := RX10) (T := TX10) (N := 30) hx hb hts hi10 hown hK hP 0 rfl rfl 22 (by decide) hw0 (fun _ h9 => h9) rfl dX10_take_7 ?_
  refine va_put (D := D) (ci := 9) (v := .long w_2) (ty := .long) (C := RX10) (T := TX10) (N := 30) hx hb hts hi10 tyX10 tyX10_ok nmX10 hown hK hP hD hS 0 rfl rfl 4 (by decide) hw1 (fun _ h9 => h9) rfl (by decide +kernel) rfl rfl (Nat.le_of_ble_eq_true rfl) dX10_take_10 (fun H locs hP hD hS => ?_)
  have hP : va_P D vwCl (MW cy a (va_up (va_up (va_up (va_up J 4 w_2) 5 (J 5)) 22 w_2) 23 w_3) (va_up I 3 (I 3)) R RJ) H := hP
  have hD : va_D A (MW cy a (va_up (va_up (va_up (va_up J 4 w_2) 5 (J 5)) 22 w_2) 23 w_3) (va_up I 3 (I 3)) R RJ) := hD
  refine lv_aload_n hx hb dX10_take_13 rfl (lv_at hl 0 rfl) ?_
  refine lv_aload_n hx hb dX10_take_14 rfl (lv_at hl 0 rfl) ?_
  refine va_get (D := D) (ci := 9) (v := .long w_3) (C := RX10) (T := TX10) (N := 30) hx hb hts hi10 hown hK hP 0 rfl rfl 23 (by decide) hw2 (fun _ h9 => h9) rfl dX10_take_15 ?_
  refine va_put (D := D) (ci := 9) (v := .long w_3) (ty := .long) (C := RX10) (T := TX10) (N := 30) hx hb hts hi10 tyX10 tyX10_ok nmX10 hown hK hP hD hS 0 rfl rfl 5 (by decide) hw3 (fun _ h9 => h9) rfl (by decide +kernel) rfl rfl (Nat.le_of_ble_eq_true rfl) dX10_take_18 (fun H locs hP hD hS => ?_)
  have hP : va_P D vwCl (MW cy a (va_up (va_up (va_up (va_up J 4 w_2) 5 w_3) 22 w_2) 23 w_3) (va_up I 3 (I 3)) R RJ) H := hP
  have hD : va_D A (MW cy a (va_up (va_up (va_up (va_up J 4 w_2) 5 w_3) 22 w_2) 23 w_3) (va_up I 3 (I 3)) R RJ) := hD
  refine lv_aload_n hx hb dX10_take_21 rfl (lv_at hl 0 rfl) ?_
  refine lv_iconst (v := 1) hx hb dX10_take_22 (by decide) ?_
  refine va_put (D := D) (ci := 9) (v := .int 1) (ty := .boolean) (C := RX10) (T := TX10) (N := 30) hx hb hts hi10 tyX10 tyX10_ok nmX10 hown hK hP hD hS 0 rfl rfl 3 (by decide) hw4 (fun _ h9 => h9) rfl (by decide +kernel) rfl rfl (Nat.le_of_ble_eq_true rfl) dX10_take_23 (fun H locs hP hD hS => ?_)
  have hP : va_P D vwCl (MW cy a (va_up (va_up (va_up (va_up J 4 w_2) 5 w_3) 22 w_2) 23 w_3) (va_up I 3 1) R RJ) H := hP
  have hD : va_D A (MW cy a (va_up (va_up (va_up (va_up J 4 w_2) 5 w_3) 22 w_2) 23 w_3) (va_up I 3 1) R RJ) := hD
  have hi_4 : isB 1 := Or.inr rfl
  exact wret_v hx hb hr hlocks ((va_up (va_up (va_up (va_up J 4 w_2) 5 w_3) 22 w_2) 23 w_3), (va_up I 3 1), R, RJ) ⟨w_2, w_3, w_2, w_3, 1, hi_4, rfl⟩ hP hD hS dX10_take_26
