set_option maxHeartbeats 4000000 in
set_option maxRecDepth 100000 in
theorem x_X10_turnAt (l : Launch) (D : va_G) (cy : Nat → ClassId) (a : Nat → Nat) (sz : Nat) (J : Nat → Int64) (I : Nat → Int32) (R : Nat → Nat → Int32) (RJ : Nat → Nat → Int64) (x0 : Int64) (x1 : Int64) (x2 : Nat) (hx2 : x2 < 64) (h19 : (J 19) = 0) (h20 : (J 20) = 0) : Met l yX10_turnAt wsX10_turnAt ({ frames := 1, cells := 0, slots := 0, locals := 22 }) (va_Pc [.ref (a 0), .long x0, .long x1, .int (nI x2)] (PW D cy sz (MW cy a J I R RJ))) (va_Qi (fun r (u : MS) => ((tAk x0 x1 x2 r) ∧ (r = zhw x0 x1 x2)) ∧ u = (J, I, R, RJ)) (BW D (va_A (MW cy a J I R RJ) sz) (MWu cy a)) (va_A (MW cy a J I R RJ) sz)) 0 0 (va_A (MW cy a J I R RJ) sz) := by
  refine Met.ofW (cc := cX10_turnAt) (maxL := 6) (ret := (some .int)) (by decide) rfl ?_
  intro p e s m args below meth c s₁ B hml hv
  obtain ⟨rfl, rfl, hP, hK, hN, hD0⟩ := hv
  have hx := B.exec
  have hb := B.bytes
  have hr := B.returns
  have hts := atoms_spec (ws := wsX10_turnAt) B.pre
  have hown : s.vm.findClass RX10 = some m.cls := findClass_of_methodNamed B.named
  have hlocks := B.notSynchronized
  have hw0 := hts (.fieldLink RX10 187 "ParquetLayerModel" "mustAcross" "J") (by decide +kernel)
  have hw1 := hts (.fieldLink RX10 184 "ParquetLayerModel" "mustAlong" "J") (by decide +kernel)
  have hi10 := ihX10_turnAt_10
  have hD := hD0.self (sz := s.heap.size)
  generalize hAe : va_A (MW cy a J I R RJ) s.heap.size = A at hD ⊢
  have hA : ∀ q : Nat, s.heap.size ≤ q → A q := fun q h => by rw [← hAe]; exact Or.inr h
  have hS : va_S A s.heap s.heap [] := va_S.rf
  have hl := lv_entry ([.ref (a 0), .long x0, .long x1, .int (nI x2)]) (n := 6) (Nat.le_of_ble_eq_true rfl)
  rw [lg_entry_eq]
  generalize (lg_sl ([.ref (a 0), .long x0, .long x1, .int (nI x2)]) ++ List.replicate (6 - (lg_sl ([.ref (a 0), .long x0, .long x1, .int (nI x2)])).length) Slot.unset).toArray = ls at hl ⊢
  have hl : lv_has ls 6 [(0, .ref (a 0)), (1, .long x0), (3, .long x1), (5, .int (nI x2))] := hl
  refine lv_iload hx hb dX10_turnAt_0 (lv_at hl 3 rfl) ?_
  refine lv_bipush (v := 8) hx hb dX10_turnAt_2 (by decide) ?_
  refine lv_irem hx hb dX10_turnAt_4 (by decide) ?_
  refine lv_bipush (v := 6) hx hb dX10_turnAt_5 (by decide) ?_
  refine lv_icmp_gt (tgt := 20) hx hb dX10_turnAt_7 (by decide) (fun c_1 => ?_) (fun c_1 => ?_)
  · refine lv_iconst (v := 0) hx hb dX10_turnAt_20 (by decide) ?_
    exact wret_i hx hb hr hlocks (J, I, R, RJ) ⟨⟨(Or.inl rfl), (za_0 c_1 hx2)⟩, rfl⟩ hP hD hS dX10_turnAt_21
  · refine lv_iload hx hb dX10_turnAt_10 (lv_at hl 3 rfl) ?_
    refine lv_bipush (v := 8) hx hb dX10_turnAt_12 (by decide) ?_
    refine lv_idiv hx hb dX10_turnAt_14 (by decide) ?_
    refine lv_bipush (v := 6) hx hb dX10_turnAt_15 (by decide) ?_
    refine lv_icmp_le (tgt := 22) hx hb dX10_turnAt_17 (by decide) (fun c_2 => ?_) (fun c_2 => ?_)
    · refine lv_lload_n hx hb dX10_turnAt_22 rfl (lv_at hl 1 rfl) ?_
      refine lv_iload hx hb dX10_turnAt_23 (lv_at hl 3 rfl) ?_
      refine kS_i (As := [.long x0, .int (nI x2)]) (rest := []) ⟨hx, hb, hml, hown, hts⟩ (c_X10_hasBit l x0 (nI x2)) (va_cwS 2 hts gX10_turnAt_X10_hasBit rfl rfl rfl (by decide +kernel) ⟨Nat.le_of_ble_eq_true rfl, Nat.le_of_ble_eq_true rfl⟩) rfl hl.1 rfl (Nat.le_of_ble_eq_true rfl) dX10_turnAt_25 ⟨Nat.le_of_ble_eq_true rfl, Nat.le_of_ble_eq_true rfl⟩ ?_
      refine lv_if_eq (tgt := 76) hx hb dX10_turnAt_28 (by decide) (fun c_3 => ?_) (fun c_3 => ?_)
      · replace c_3 := bI_f c_3
        refine lv_lload_n hx hb dX10_turnAt_76 rfl (lv_at hl 2 rfl) ?_
        refine lv_iload hx hb dX10_turnAt_77 (lv_at hl 3 rfl) ?_
        refine kS_i (As := [.long x1, .int (nI x2)]) (rest := []) ⟨hx, hb, hml, hown, hts⟩ (c_X10_hasBit l x1 (nI x2)) (va_cwS 2 hts gX10_turnAt_X10_hasBit rfl rfl rfl (by decide +kernel) ⟨Nat.le_of_ble_eq_true rfl, Nat.le_of_ble_eq_true rfl⟩) rfl hl.1 rfl (Nat.le_of_ble_eq_true rfl) dX10_turnAt_79 ⟨Nat.le_of_ble_eq_true rfl, Nat.le_of_ble_eq_true rfl⟩ ?_
        refine lv_if_eq (tgt := 128) hx hb dX10_turnAt_82 (by decide) (fun c_4 => ?_) (fun c_4 => ?_)
        · replace c_4 := bI_f c_4
          refine lv_iconst (v := 0) hx hb dX10_turnAt_128 (by decide) ?_
          exact wret_i hx hb hr hlocks (J, I, R, RJ) ⟨⟨(Or.inl rfl), (za_4 (za_n1 hx2 c_3) (za_m1 hx2 c_4))⟩, rfl⟩ hP hD hS dX10_turnAt_129
        · replace c_4 := bI_t c_4
          refine lv_lload_n hx hb dX10_turnAt_85 rfl (lv_at hl 2 rfl) ?_
          refine lv_iload hx hb dX10_turnAt_86 (lv_at hl 3 rfl) ?_
          refine lv_iconst (v := 1) hx hb dX10_turnAt_88 (by decide) ?_
          refine lv_iadd hx hb dX10_turnAt_89 ?_
          refine kS_i (As := [.long x1, .int ((nI x2) + 1)]) (rest := []) ⟨hx, hb, hml, hown, hts⟩ (c_X10_hasBit l x1 ((nI x2) + 1)) (va_cwS 2 hts gX10_turnAt_X10_hasBit rfl rfl rfl (by decide +kernel) ⟨Nat.le_of_ble_eq_true rfl, Nat.le_of_ble_eq_true rfl⟩) rfl hl.1 rfl (Nat.le_of_ble_eq_true rfl) dX10_turnAt_90 ⟨Nat.le_of_ble_eq_true rfl, Nat.le_of_ble_eq_true rfl⟩ ?_
          refine lv_if_eq (tgt := 128) hx hb dX10_turnAt_93 (by decide) (fun c_5 => ?_) (fun c_5 => ?_)
          · replace c_5 := bI_f c_5
            refine lv_iconst (v := 0) hx hb dX10_turnAt_128 (by decide) ?_
            exact wret_i hx hb hr hlocks (J, I, R, RJ) ⟨⟨(Or.inl rfl), (za_4 (za_n1 hx2 c_3) (za_m2 (za_c hx2 c_1 c_2) c_5))⟩, rfl⟩ hP hD hS dX10_turnAt_129
          · replace c_5 := bI_t c_5
            refine lv_aload_n hx hb dX10_turnAt_96 rfl (lv_at hl 0 rfl) ?_
            refine va_get (D := D) (ci := 9) (v := .long (J 20)) (C := RX10) (T := TX10) (N := 30) hx hb hts hi10 hown hK hP 0 rfl rfl 20 (by decide) hw0 (fun _ h9 => h9) rfl dX10_turnAt_97 ?_
            refine lv_iload hx hb dX10_turnAt_100 (lv_at hl 3 rfl) ?_
            refine kS_i (As := [.long (J 20), .int (nI x2)]) (rest := []) ⟨hx, hb, hml, hown, hts⟩ (c_X10_hasBit l (J 20) (nI x2)) (va_cwS 2 hts gX10_turnAt_X10_hasBit rfl rfl rfl (by decide +kernel) ⟨Nat.le_of_ble_eq_true rfl, Nat.le_of_ble_eq_true rfl⟩) rfl hl.1 rfl (Nat.le_of_ble_eq_true rfl) dX10_turnAt_102 ⟨Nat.le_of_ble_eq_true rfl, Nat.le_of_ble_eq_true rfl⟩ ?_
            refine lv_if_ne (tgt := 122) hx hb dX10_turnAt_105 (by decide) (fun c_6 => ?_) (fun c_6 => ?_)
            · replace c_6 := bI_t c_6
              refine lv_iconst (v := 0) hx hb dX10_turnAt_122 (by decide) ?_
              refine lv_goto (tgt := 127) hx hb dX10_turnAt_123 (by decide) ?_
              exact wret_i hx hb hr hlocks (J, I, R, RJ) ⟨⟨(Or.inl rfl), (za_x0 h20 hx2 c_6).elim⟩, rfl⟩ hP hD hS dX10_turnAt_127
            · replace c_6 := bI_f c_6
              refine lv_aload_n hx hb dX10_turnAt_108 rfl (lv_at hl 0 rfl) ?_
              refine va_get (D := D) (ci := 9) (v := .long (J 20)) (C := RX10) (T := TX10) (N := 30) hx hb hts hi10 hown hK hP 0 rfl rfl 20 (by decide) hw0 (fun _ h9 => h9) rfl dX10_turnAt_109 ?_
              refine lv_iload hx hb dX10_turnAt_112 (lv_at hl 3 rfl) ?_
              refine lv_iconst (v := 1) hx hb dX10_turnAt_114 (by decide) ?_
              refine lv_iadd hx hb dX10_turnAt_115 ?_
              refine kS_i (As := [.long (J 20), .int ((nI x2) + 1)]) (rest := []) ⟨hx, hb, hml, hown, hts⟩ (c_X10_hasBit l (J 20) ((nI x2) + 1)) (va_cwS 2 hts gX10_turnAt_X10_hasBit rfl rfl rfl (by decide +kernel) ⟨Nat.le_of_ble_eq_true rfl, Nat.le_of_ble_eq_true rfl⟩) rfl hl.1 rfl (Nat.le_of_ble_eq_true rfl) dX10_turnAt_116 ⟨Nat.le_of_ble_eq_true rfl, Nat.le_of_ble_eq_true rfl⟩ ?_
              refine lv_if_eq (tgt := 126) hx hb dX10_turnAt_119 (by decide) (fun c_7 => ?_) (fun c_7 => ?_)
              · replace c_7 := bI_f c_7
                refine lv_iconst (v := 2) hx hb dX10_turnAt_126 (by decide) ?_
                exact wret_i hx hb hr hlocks (J, I, R, RJ) ⟨⟨(ta_2 hx2 c_1 c_2 c_4 c_5), (za_3 (za_c hx2 c_1 c_2) (za_n1 hx2 c_3) c_4 c_5)⟩, rfl⟩ hP hD hS dX10_turnAt_127
              · replace c_7 := bI_t c_7
                refine lv_iconst (v := 0) hx hb dX10_turnAt_122 (by decide) ?_
                refine lv_goto (tgt := 127) hx hb dX10_turnAt_123 (by decide) ?_
                exact wret_i hx hb hr hlocks (J, I, R, RJ) ⟨⟨(Or.inl rfl), (za_x1 h20 (za_c hx2 c_1 c_2) c_7).elim⟩, rfl⟩ hP hD hS dX10_turnAt_127
      · replace c_3 := bI_t c_3
        refine lv_lload_n hx hb dX10_turnAt_31 rfl (lv_at hl 1 rfl) ?_
        refine lv_iload hx hb dX10_turnAt_32 (lv_at hl 3 rfl) ?_
        refine lv_bipush (v := 8) hx hb dX10_turnAt_34 (by decide) ?_
        refine lv_iadd hx hb dX10_turnAt_36 ?_
        refine kS_i (As := [.long x0, .int ((nI x2) + 8)]) (rest := []) ⟨hx, hb, hml, hown, hts⟩ (c_X10_hasBit l x0 ((nI x2) + 8)) (va_cwS 2 hts gX10_turnAt_X10_hasBit rfl rfl rfl (by decide +kernel) ⟨Nat.le_of_ble_eq_true rfl, Nat.le_of_ble_eq_true rfl⟩) rfl hl.1 rfl (Nat.le_of_ble_eq_true rfl) dX10_turnAt_37 ⟨Nat.le_of_ble_eq_true rfl, Nat.le_of_ble_eq_true rfl⟩ ?_
        refine lv_if_eq (tgt := 76) hx hb dX10_turnAt_40 (by decide) (fun c_8 => ?_) (fun c_8 => ?_)
        · replace c_8 := bI_f c_8
          refine lv_lload_n hx hb dX10_turnAt_76 rfl (lv_at hl 2 rfl) ?_
          refine lv_iload hx hb dX10_turnAt_77 (lv_at hl 3 rfl) ?_
          refine kS_i (As := [.long x1, .int (nI x2)]) (rest := []) ⟨hx, hb, hml, hown, hts⟩ (c_X10_hasBit l x1 (nI x2)) (va_cwS 2 hts gX10_turnAt_X10_hasBit rfl rfl rfl (by decide +kernel) ⟨Nat.le_of_ble_eq_true rfl, Nat.le_of_ble_eq_true rfl⟩) rfl hl.1 rfl (Nat.le_of_ble_eq_true rfl) dX10_turnAt_79 ⟨Nat.le_of_ble_eq_true rfl, Nat.le_of_ble_eq_true rfl⟩ ?_
          refine lv_if_eq (tgt := 128) hx hb dX10_turnAt_82 (by decide) (fun c_9 => ?_) (fun c_9 => ?_)
          · replace c_9 := bI_f c_9
            refine lv_iconst (v := 0) hx hb dX10_turnAt_128 (by decide) ?_
            exact wret_i hx hb hr hlocks (J, I, R, RJ) ⟨⟨(Or.inl rfl), (za_4 (za_n2 (za_c hx2 c_1 c_2) c_8) (za_m1 hx2 c_9))⟩, rfl⟩ hP hD hS dX10_turnAt_129
          · replace c_9 := bI_t c_9
            refine lv_lload_n hx hb dX10_turnAt_85 rfl (lv_at hl 2 rfl) ?_
            refine lv_iload hx hb dX10_turnAt_86 (lv_at hl 3 rfl) ?_
            refine lv_iconst (v := 1) hx hb dX10_turnAt_88 (by decide) ?_
            refine lv_iadd hx hb dX10_turnAt_89 ?_
            refine kS_i (As := [.long x1, .int ((nI x2) + 1)]) (rest := []) ⟨hx, hb, hml, hown, hts⟩ (c_X10_hasBit l x1 ((nI x2) + 1)) (va_cwS 2 hts gX10_turnAt_X10_hasBit rfl rfl rfl (by decide +kernel) ⟨Nat.le_of_ble_eq_true rfl, Nat.le_of_ble_eq_true rfl⟩) rfl hl.1 rfl (Nat.le_of_ble_eq_true rfl) dX10_turnAt_90 ⟨Nat.le_of_ble_eq_true rfl, Nat.le_of_ble_eq_true rfl⟩ ?_
            refine lv_if_eq (tgt := 128) hx hb dX10_turnAt_93 (by decide) (fun c_10 => ?_) (fun c_10 => ?_)
            · replace c_10 := bI_f c_10
              refine lv_iconst (v := 0) hx hb dX10_turnAt_128 (by decide) ?_
              exact wret_i hx hb hr hlocks (J, I, R, RJ) ⟨⟨(Or.inl rfl), (za_4 (za_n2 (za_c hx2 c_1 c_2) c_8) (za_m2 (za_c hx2 c_1 c_2) c_10))⟩, rfl⟩ hP hD hS dX10_turnAt_129
            · replace c_10 := bI_t c_10
              refine lv_aload_n hx hb dX10_turnAt_96 rfl (lv_at hl 0 rfl) ?_
              refine va_get (D := D) (ci := 9) (v := .long (J 20)) (C := RX10) (T := TX10) (N := 30) hx hb hts hi10 hown hK hP 0 rfl rfl 20 (by decide) hw0 (fun _ h9 => h9) rfl dX10_turnAt_97 ?_
              refine lv_iload hx hb dX10_turnAt_100 (lv_at hl 3 rfl) ?_
              refine kS_i (As := [.long (J 20), .int (nI x2)]) (rest := []) ⟨hx, hb, hml, hown, hts⟩ (c_X10_hasBit l (J 20) (nI x2)) (va_cwS 2 hts gX10_turnAt_X10_hasBit rfl rfl rfl (by decide +kernel) ⟨Nat.le_of_ble_eq_true rfl, Nat.le_of_ble_eq_true rfl⟩) rfl hl.1 rfl (Nat.le_of_ble_eq_true rfl) dX10_turnAt_102 ⟨Nat.le_of_ble_eq_true rfl, Nat.le_of_ble_eq_true rfl⟩ ?_
              refine lv_if_ne (tgt := 122) hx hb dX10_turnAt_105 (by decide) (fun c_11 => ?_) (fun c_11 => ?_)
              · replace c_11 := bI_t c_11
                refine lv_iconst (v := 0) hx hb dX10_turnAt_122 (by decide) ?_
                refine lv_goto (tgt := 127) hx hb dX10_turnAt_123 (by decide) ?_
                exact wret_i hx hb hr hlocks (J, I, R, RJ) ⟨⟨(Or.inl rfl), (za_x0 h20 hx2 c_11).elim⟩, rfl⟩ hP hD hS dX10_turnAt_127
              · replace c_11 := bI_f c_11
                refine lv_aload_n hx hb dX10_turnAt_108 rfl (lv_at hl 0 rfl) ?_
                refine va_get (D := D) (ci := 9) (v := .long (J 20)) (C := RX10) (T := TX10) (N := 30) hx hb hts hi10 hown hK hP 0 rfl rfl 20 (by decide) hw0 (fun _ h9 => h9) rfl dX10_turnAt_109 ?_
                refine lv_iload hx hb dX10_turnAt_112 (lv_at hl 3 rfl) ?_
                refine lv_iconst (v := 1) hx hb dX10_turnAt_114 (by decide) ?_
                refine lv_iadd hx hb dX10_turnAt_115 ?_
                refine kS_i (As := [.long (J 20), .int ((nI x2) + 1)]) (rest := []) ⟨hx, hb, hml, hown, hts⟩ (c_X10_hasBit l (J 20) ((nI x2) + 1)) (va_cwS 2 hts gX10_turnAt_X10_hasBit rfl rfl rfl (by decide +kernel) ⟨Nat.le_of_ble_eq_true rfl, Nat.le_of_ble_eq_true rfl⟩) rfl hl.1 rfl (Nat.le_of_ble_eq_true rfl) dX10_turnAt_116 ⟨Nat.le_of_ble_eq_true rfl, Nat.le_of_ble_eq_true rfl⟩ ?_
                refine lv_if_eq (tgt := 126) hx hb dX10_turnAt_119 (by decide) (fun c_12 => ?_) (fun c_12 => ?_)
                · replace c_12 := bI_f c_12
                  refine lv_iconst (v := 2) hx hb dX10_turnAt_126 (by decide) ?_
                  exact wret_i hx hb hr hlocks (J, I, R, RJ) ⟨⟨(ta_2 hx2 c_1 c_2 c_9 c_10), (za_3 (za_c hx2 c_1 c_2) (za_n2 (za_c hx2 c_1 c_2) c_8) c_9 c_10)⟩, rfl⟩ hP hD hS dX10_turnAt_127
                · replace c_12 := bI_t c_12
                  refine lv_iconst (v := 0) hx hb dX10_turnAt_122 (by decide) ?_
                  refine lv_goto (tgt := 127) hx hb dX10_turnAt_123 (by decide) ?_
                  exact wret_i hx hb hr hlocks (J, I, R, RJ) ⟨⟨(Or.inl rfl), (za_x1 h20 (za_c hx2 c_1 c_2) c_12).elim⟩, rfl⟩ hP hD hS dX10_turnAt_127
        · replace c_8 := bI_t c_8
          refine lv_aload_n hx hb dX10_turnAt_43 rfl (lv_at hl 0 rfl) ?_
          refine va_get (D := D) (ci := 9) (v := .long (J 19)) (C := RX10) (T := TX10) (N := 30) hx hb hts hi10 hown hK hP 0 rfl rfl 19 (by decide) hw1 (fun _ h9 => h9) rfl dX10_turnAt_44 ?_
          refine lv_iload hx hb dX10_turnAt_47 (lv_at hl 3 rfl) ?_
          refine kS_i (As := [.long (J 19), .int (nI x2)]) (rest := []) ⟨hx, hb, hml, hown, hts⟩ (c_X10_hasBit l (J 19) (nI x2)) (va_cwS 2 hts gX10_turnAt_X10_hasBit rfl rfl rfl (by decide +kernel) ⟨Nat.le_of_ble_eq_true rfl, Nat.le_of_ble_eq_true rfl⟩) rfl hl.1 rfl (Nat.le_of_ble_eq_true rfl) dX10_turnAt_49 ⟨Nat.le_of_ble_eq_true rfl, Nat.le_of_ble_eq_true rfl⟩ ?_
          refine lv_if_ne (tgt := 70) hx hb dX10_turnAt_52 (by decide) (fun c_13 => ?_) (fun c_13 => ?_)
          · replace c_13 := bI_t c_13
            refine lv_iconst (v := 0) hx hb dX10_turnAt_70 (by decide) ?_
            refine lv_goto (tgt := 75) hx hb dX10_turnAt_71 (by decide) ?_
            exact wret_i hx hb hr hlocks (J, I, R, RJ) ⟨⟨(Or.inl rfl), (za_x0 h19 hx2 c_13).elim⟩, rfl⟩ hP hD hS dX10_turnAt_75
          · replace c_13 := bI_f c_13
            refine lv_aload_n hx hb dX10_turnAt_55 rfl (lv_at hl 0 rfl) ?_
            refine va_get (D := D) (ci := 9) (v := .long (J 19)) (C := RX10) (T := TX10) (N := 30) hx hb hts hi10 hown hK hP 0 rfl rfl 19 (by decide) hw1 (fun _ h9 => h9) rfl dX10_turnAt_56 ?_
            refine lv_iload hx hb dX10_turnAt_59 (lv_at hl 3 rfl) ?_
            refine lv_bipush (v := 8) hx hb dX10_turnAt_61 (by decide) ?_
            refine lv_iadd hx hb dX10_turnAt_63 ?_
            refine kS_i (As := [.long (J 19), .int ((nI x2) + 8)]) (rest := []) ⟨hx, hb, hml, hown, hts⟩ (c_X10_hasBit l (J 19) ((nI x2) + 8)) (va_cwS 2 hts gX10_turnAt_X10_hasBit rfl rfl rfl (by decide +kernel) ⟨Nat.le_of_ble_eq_true rfl, Nat.le_of_ble_eq_true rfl⟩) rfl hl.1 rfl (Nat.le_of_ble_eq_true rfl) dX10_turnAt_64 ⟨Nat.le_of_ble_eq_true rfl, Nat.le_of_ble_eq_true rfl⟩ ?_
            refine lv_if_eq (tgt := 74) hx hb dX10_turnAt_67 (by decide) (fun c_14 => ?_) (fun c_14 => ?_)
            · replace c_14 := bI_f c_14
              refine lv_iconst (v := 1) hx hb dX10_turnAt_74 (by decide) ?_
              exact wret_i hx hb hr hlocks (J, I, R, RJ) ⟨⟨(ta_1 hx2 c_1 c_2 c_3 c_8), (za_2 hx2 c_1 c_2 c_3 c_8)⟩, rfl⟩ hP hD hS dX10_turnAt_75
            · replace c_14 := bI_t c_14
              refine lv_iconst (v := 0) hx hb dX10_turnAt_70 (by decide) ?_
              refine lv_goto (tgt := 75) hx hb dX10_turnAt_71 (by decide) ?_
              exact wret_i hx hb hr hlocks (J, I, R, RJ) ⟨⟨(Or.inl rfl), (za_x8 h19 (za_c hx2 c_1 c_2) c_14).elim⟩, rfl⟩ hP hD hS dX10_turnAt_75
    · refine lv_iconst (v := 0) hx hb dX10_turnAt_20 (by decide) ?_
      exact wret_i hx hb hr hlocks (J, I, R, RJ) ⟨⟨(Or.inl rfl), (za_1 c_2 hx2)⟩, rfl⟩ hP hD hS dX10_turnAt_21
set_option maxHeartbeats 4000000 in
set_option maxRecDepth 100000 in
theorem x_X10_extreme (l : Launch) (D : va_G) (cy : Nat → ClassId) (a : Nat → Nat) (sz : Nat) (J : Nat → Int64) (I : Nat → Int32) (R : Nat → Nat → Int32) (RJ : Nat → Nat → Int64) (x0 : Bool) (fl : Int64) (S : List Int32) (P : List PE) (hRA : RMf (J 0) (I 1) (I 12) (R 1) (R 3) (R 4) (RJ 2) fl S P) (hG : gInv fl S) (hM : MI I R) : Met l yX10_extreme wsX10_extreme ({ frames := 6, cells := 0, slots := 0, locals := 136 }) (va_Pc [.ref (a 0), .int (bI x0)] (PW D cy sz (MW cy a J I R RJ))) (va_Qi (fun r (u : MS) => ∃ (w0 : Int64), ∃ (w1 : Int64), ∃ (w2 : Int64), ∃ (w3 : Int64), ∃ (w4 : Int64), ∃ (w5 : Int32), ∃ (w6 : Nat → Int32), ∃ (w7 : Nat → Int32), (r = (aExt fl S x0)) ∧ u = ((va_up (va_up (va_up (va_up (va_up J 19 w0) 20 w1) 21 w2) 22 w3) 23 w4), (va_up I 13 w5), (va_up (va_up R 11 w6) 12 w7), RJ)) (BW D (va_A (MW cy a J I R RJ) sz) (MWu cy a)) (va_A (MW cy a J I R RJ) sz)) 0 0 (va_A (MW cy a J I R RJ) sz) := by
  refine Met.ofW (cc := cX10_extreme) (maxL := 5) (ret := (some .int)) (by decide) rfl ?_
  intro p e s m args below meth c s₁ B hml hv
  obtain ⟨rfl, rfl, hP, hK, hN, hD0⟩ := hv
  have hx := B.exec
  have hb := B.bytes
  have hr := B.returns
  have hts := atoms_spec (ws := wsX10_extreme) B.pre
  have hown : s.vm.findClass RX10 = some m.cls := findClass_of_methodNamed B.named
  have hlocks := B.notSynchronized
  have hw0 := hts (.fieldLink RX10 210 "ParquetLayerModel" "walkAlong" "J") (by decide +kernel)
  have hw1 := hts (.fieldLink RX10 213 "ParquetLayerModel" "walkAcross" "J") (by decide +kernel)
  have hw2 := hts (.constant RX10 98 (-100006)) (by decide +kernel)
  have hw3 := hts (.constant RX10 133 (-100004)) (by decide +kernel)
  have hi10 := ihX10_extreme_10
  have hD := hD0.self (sz := s.heap.size)
  generalize hAe : va_A (MW cy a J I R RJ) s.heap.size = A at hD ⊢
  have hA : ∀ q : Nat, s.heap.size ≤ q → A q := fun q h => by rw [← hAe]; exact Or.inr h
  have hS : va_S A s.heap s.heap [] := va_S.rf
  have hl := lv_entry ([.ref (a 0), .int (bI x0)]) (n := 5) (Nat.le_of_ble_eq_true rfl)
  rw [lg_entry_eq]
  generalize (lg_sl ([.ref (a 0), .int (bI x0)]) ++ List.replicate (5 - (lg_sl ([.ref (a 0), .int (bI x0)])).length) Slot.unset).toArray = ls at hl ⊢
  have hl : lv_has ls 5 [(0, .ref (a 0)), (1, .int (bI x0))] := hl
  have hP : va_P D vwCl (MW cy a (va_up (va_up (va_up (va_up (va_up J 19 (J 19)) 20 (J 20)) 21 (J 21)) 22 (J 22)) 23 (J 23)) (va_up I 13 (I 13)) (va_up (va_up R 11 (R 11)) 12 (R 12)) RJ) s.heap := hP
  have hD : va_D A (MW cy a (va_up (va_up (va_up (va_up (va_up J 19 (J 19)) 20 (J 20)) 21 (J 21)) 22 (J 22)) 23 (J 23)) (va_up I 13 (I 13)) (va_up (va_up R 11 (R 11)) 12 (R 12)) RJ) := hD
  have lp35 : ∀ (n35 : Nat), ∀ (k9 : Nat) (v2_35 : Bool) (m0_35 : Int64) (m1_35 : Int64) (m2_35 : Int64) (m3_35 : Int64) (m4_35 : Int64) (m5_35 : Int32) (m6_35 : Nat → Int32) (m7_35 : Nat → Int32), (aWh fl S = true) → (¬ aCnt fl S = 0) → (m0_35 = 0 ∧ m1_35 = 0 ∧ m2_35 = 0) → (zT (bfx (J 0)) m7_35) → (LY (bfx (J 0)) (bfx m3_35) (bfx m4_35)) → ((m3_35, m4_35) = zit x0 k9 (zLy (J 0) 0)) → (k9 + ps x0 (bf m4_35) 64 ≤ 512 + (1 - bN v2_35)) → (v2_35 = false → zsw x0 64 (m3_35, m4_35) = (m3_35, m4_35)) → (ps x0 (bf m4_35) 64 + bN v2_35) < n35 → ∀ (H : Heap) (locs : List Loc), va_P D vwCl (MW cy a (va_up (va_up (va_up (va_up (va_up J 19 m0_35) 20 m1_35) 21 m2_35) 22 m3_35) 23 m4_35) (va_up I 13 m5_35) (va_up (va_up R 11 m6_35) 12 m7_35) RJ) H → va_D A (MW cy a (va_up (va_up (va_up (va_up (va_up J 19 m0_35) 20 m1_35) 21 m2_35) 22 m3_35) 23 m4_35) (va_up I 13 m5_35) (va_up (va_up R 11 m6_35) 12 m7_35) RJ) → va_S A s.heap H locs → ∀ (ls : Array Slot), lv_has ls 5 [(0, .ref (a 0)), (1, .int (bI x0)), (2, .int (bI v2_35))] → W p l e (headSpec wsX10_extreme ({ frames := 6, cells := 0, slots := 0, locals := 136 })).room s m ([.ref (a 0), .int (bI x0)] : List Value).toArray below meth c H locs 0 0 (MQ below (va_Qi (fun r (u : MS) => ∃ (w0 : Int64), ∃ (w1 : Int64), ∃ (w2 : Int64), ∃ (w3 : Int64), ∃ (w4 : Int64), ∃ (w5 : Int32), ∃ (w6 : Nat → Int32), ∃ (w7 : Nat → Int32), (r = (aExt fl S x0)) ∧ u = ((va_up (va_up (va_up (va_up (va_up J 19 w0) 20 w1) 21 w2) 22 w3) 23 w4), (va_up I 13 w5), (va_up (va_up R 11 w6) 12 w7), RJ)) (BW D A (MWu cy a)) A) ([.ref (a 0), .int (bI x0)] : List Value).toArray s 0 0 A) (F0 m 35 ls []) := by
    intro n35
    induction n35 with
    | zero => intro k9 v2_35 m0_35 m1_35 m2_35 m3_35 m4_35 m5_35 m6_35 m7_35 hwh hnc hz0 hzt hly hit hkk hfx hn; exact absurd hn (Nat.not_lt_zero _)
    | succ n35 ih35 =>
      intro k9 v2_35 m0_35 m1_35 m2_35 m3_35 m4_35 m5_35 m6_35 m7_35 hwh hnc hz0 hzt hly hit hkk hfx hn35 H locs hP hD hS ls hl
      have lp43 : ∀ (n43 : Nat), ∀ (f9 : Nat) (v2_43 : Bool) (m0_43 : Int64) (m1_43 : Int64) (m2_43 : Int64) (m3_43 : Int64) (m4_43 : Int64) (m5_43 : Int32) (m6_43 : Nat → Int32) (m7_43 : Nat → Int32), (f9 ≤ 64) → (v2_35 = true) → (ps x0 (bf m4_43) 64 + bN v2_43 ≤ ps x0 (bf m4_35) 64) → (m0_43 = 0 ∧ m1_43 = 0 ∧ m2_43 = 0) → (zT (bfx (J 0)) m7_43) → ((m3_43, m4_43) = zsw x0 f9 (m3_35, m4_35)) → (v2_43 = zmv x0 f9 (m3_35, m4_35)) → (LY (bfx (J 0)) (bfx m3_43) (bfx m4_43)) → (64 - f9) < n43 → ∀ (H : Heap) (locs : List Loc), va_P D vwCl (MW cy a (va_up (va_up (va_up (va_up (va_up J 19 m0_43) 20 m1_43) 21 m2_43) 22 m3_43) 23 m4_43) (va_up I 13 m5_43) (va_up (va_up R 11 m6_43) 12 m7_43) RJ) H → va_D A (MW cy a (va_up (va_up (va_up (va_up (va_up J 19 m0_43) 20 m1_43) 21 m2_43) 22 m3_43) 23 m4_43) (va_up I 13 m5_43) (va_up (va_up R 11 m6_43) 12 m7_43) RJ) → va_S A s.heap H locs → ∀ (ls : Array Slot), lv_has ls 5 [(0, .ref (a 0)), (1, .int (bI x0)), (2, .int (bI v2_43)), (3, .int (nI f9))] → W p l e (headSpec wsX10_extreme ({ frames := 6, cells := 0, slots := 0, locals := 136 })).room s m ([.ref (a 0), .int (bI x0)] : List Value).toArray below meth c H locs 0 0 (MQ below (va_Qi (fun r (u : MS) => ∃ (w0 : Int64), ∃ (w1 : Int64), ∃ (w2 : Int64), ∃ (w3 : Int64), ∃ (w4 : Int64), ∃ (w5 : Int32), ∃ (w6 : Nat → Int32), ∃ (w7 : Nat → Int32), (r = (aExt fl S x0)) ∧ u = ((va_up (va_up (va_up (va_up (va_up J 19 w0) 20 w1) 21 w2) 22 w3) 23 w4), (va_up I 13 w5), (va_up (va_up R 11 w6) 12 w7), RJ)) (BW D A (MWu cy a)) A) ([.ref (a 0), .int (bI x0)] : List Value).toArray s 0 0 A) (F0 m 43 ls []) := by
        intro n43
        induction n43 with
        | zero => intro f9 v2_43 m0_43 m1_43 m2_43 m3_43 m4_43 m5_43 m6_43 m7_43 hf9 hm hc hz2 hzt2 hsw hvm hly2 hn; exact absurd hn (Nat.not_lt_zero _)
        | succ n43 ih43 =>
          intro f9 v2_43 m0_43 m1_43 m2_43 m3_43 m4_43 m5_43 m6_43 m7_43 hf9 hm hc hz2 hzt2 hsw hvm hly2 hn43 H locs hP hD hS ls hl
          refine lv_iload_n hx hb dX10_extreme_43 rfl (lv_at hl 3 rfl) ?_
          refine lv_bipush (v := 64) hx hb dX10_extreme_44 (by decide) ?_
          refine lv_icmp_ge (tgt := 113) hx hb dX10_extreme_46 (by decide) (fun c_1 => ?_) (fun c_1 => ?_)
          · have hie_f9 := ctr_ge (N := 64) (by decide) hf9 c_1
            refine lv_goto (tgt := 35) hx hb dX10_extreme_113 (by decide) ?_
            exact ih35 (k9 + 1) v2_43 m0_43 m1_43 m2_43 m3_43 m4_43 m5_43 m6_43 m7_43 hwh hnc hz2 hzt2 hly2 (zi_s hit hsw hie_f9) (zk_s hkk hm hc) (zf_e hsw hie_f9 hvm) (mz hc hn35 (by rw [hm]; rfl)) _ _ hP hD hS ls (lv_sub hl [0, 1, 2] rfl)
          · have hlt_f9 := ctr_lt (N := 64) (by decide) hf9 c_1
            refine lv_aload_n hx hb dX10_extreme_49 rfl (lv_at hl 0 rfl) ?_
            refine lv_aload_n hx hb dX10_extreme_50 rfl (lv_at hl 0 rfl) ?_
            refine va_get (D := D) (ci := 9) (v := .long m3_43) (C := RX10) (T := TX10) (N := 30) hx hb hts hi10 hown hK hP 0 rfl rfl 22 (by decide) hw0 (fun _ h9 => h9) rfl dX10_extreme_51 ?_
            refine lv_aload_n hx hb dX10_extreme_54 rfl (lv_at hl 0 rfl) ?_
            refine va_get (D := D) (ci := 9) (v := .long m4_43) (C := RX10) (T := TX10) (N := 30) hx hb hts hi10 hown hK hP 0 rfl rfl 23 (by decide) hw1 (fun _ h9 => h9) rfl dX10_extreme_55 ?_
            refine lv_iload_n hx hb dX10_extreme_58 rfl (lv_at hl 3 rfl) ?_
            refine kM_i (As := [.long m3_43, .long m4_43, .int (nI f9)]) (rest := []) (q0 := 0) ⟨hx, hb, hml, hown, hts⟩ (x_X10_turnAt l D cy a _ (va_up (va_up (va_up (va_up (va_up J 19 m0_43) 20 m1_43) 21 m2_43) 22 m3_43) 23 m4_43) (va_up I 13 m5_43) (va_up (va_up R 11 m6_43) 12 m7_43) RJ m3_43 m4_43 f9 hlt_f9 hz2.1 hz2.2.1 ) (cwV 3 hts gX10_extreme_X10_turnAt rfl rfl rfl (by decide +kernel) ⟨Nat.le_of_ble_eq_true rfl, Nat.le_of_ble_eq_true rfl⟩) hK hN hP hD hS hA rfl rfl rfl hl.1 rfl (Nat.le_of_ble_eq_true rfl) dX10_extreme_59 ⟨Nat.le_of_ble_eq_true rfl, Nat.le_of_ble_eq_true rfl⟩ (fun r_2 u H locs hw hP hD hS => ?_)
            obtain ⟨⟨hp_3, hp_4⟩, rfl⟩ := hw
            have hP : va_P D vwCl (MW cy a (va_up (va_up (va_up (va_up (va_up J 19 m0_43) 20 m1_43) 21 m2_43) 22 m3_43) 23 m4_43) (va_up I 13 m5_43) (va_up (va_up R 11 m6_43) 12 m7_43) RJ) H := hP
            have hD : va_D A (MW cy a (va_up (va_up (va_up (va_up (va_up J 19 m0_43) 20 m1_43) 21 m2_43) 22 m3_43) 23 m4_43) (va_up I 13 m5_43) (va_up (va_up R 11 m6_43) 12 m7_43) RJ) := hD
            refine lv_istore (lv' := [(4, .int r_2), (0, .ref (a 0)), (1, .int (bI x0)), (2, .int (bI v2_43)), (3, .int (nI f9))]) hx hb dX10_extreme_62 hl (by decide) rfl (fun ls hl => ?_)
            refine lv_iload hx hb dX10_extreme_64 (lv_at hl 0 rfl) ?_
            refine lv_if_le (tgt := 107) hx hb dX10_extreme_66 (by decide) (fun c_5 => ?_) (fun c_5 => ?_)
            · refine lv_iinc (v := nI (f9 + 1)) (lv' := [(3, .int (nI (f9 + 1))), (4, .int r_2), (0, .ref (a 0)), (1, .int (bI x0)), (2, .int (bI v2_43))]) hx hb dX10_extreme_107 hl (k := 4) rfl (nI_1 _) (by decide) rfl (fun ls hl => ?_)
              refine lv_goto (tgt := 43) hx hb dX10_extreme_110 (by decide) ?_
              exact ih43 (f9 + 1) v2_43 m0_43 m1_43 m2_43 m3_43 m4_43 m5_43 m6_43 m7_43 hlt_f9 hm hc hz2 hzt2 (zs_n hsw (ze_n1 hp_4 c_5)) (zv_n hsw (ze_n1 hp_4 c_5) hvm) hly2 (lt_dec hlt_f9 hn43) _ _ hP hD hS ls (lv_sub hl [2, 3, 4, 0] rfl)
            · refine lv_iload_n hx hb dX10_extreme_69 rfl (lv_at hl 4 rfl) ?_
              refine lv_iload hx hb dX10_extreme_70 (lv_at hl 0 rfl) ?_
              refine kS_i (As := [.int (nI f9), .int r_2]) (rest := []) ⟨hx, hb, hml, hown, hts⟩ (c_X10_isDown l (nI f9) r_2) (va_cwS 2 hts gX10_extreme_X10_isDown rfl rfl rfl (by decide +kernel) ⟨Nat.le_of_ble_eq_true rfl, Nat.le_of_ble_eq_true rfl⟩) rfl hl.1 rfl (Nat.le_of_ble_eq_true rfl) dX10_extreme_72 ⟨Nat.le_of_ble_eq_true rfl, Nat.le_of_ble_eq_true rfl⟩ ?_
              refine lv_iload_n hx hb dX10_extreme_75 rfl (lv_at hl 2 rfl) ?_
              refine lv_icmp_eq (tgt := 107) hx hb dX10_extreme_76 (by decide) (fun c_6 => ?_) (fun c_6 => ?_)
              · refine lv_iinc (v := nI (f9 + 1)) (lv' := [(3, .int (nI (f9 + 1))), (4, .int r_2), (0, .ref (a 0)), (1, .int (bI x0)), (2, .int (bI v2_43))]) hx hb dX10_extreme_107 hl (k := 4) rfl (nI_1 _) (by decide) rfl (fun ls hl => ?_)
                refine lv_goto (tgt := 43) hx hb dX10_extreme_110 (by decide) ?_
                exact ih43 (f9 + 1) v2_43 m0_43 m1_43 m2_43 m3_43 m4_43 m5_43 m6_43 m7_43 hlt_f9 hm hc hz2 hzt2 (zs_n hsw (ze_n2 hp_4 c_6)) (zv_n hsw (ze_n2 hp_4 c_6) hvm) hly2 (lt_dec hlt_f9 hn43) _ _ hP hD hS ls (lv_sub hl [2, 3, 4, 0] rfl)
              · refine lv_aload_n hx hb dX10_extreme_79 rfl (lv_at hl 1 rfl) ?_
                refine lv_dup hx hb dX10_extreme_80 rfl ?_
                refine va_get (D := D) (ci := 9) (v := .long m3_43) (C := RX10) (T := TX10) (N := 30) hx hb hts hi10 hown hK hP 0 rfl rfl 22 (by decide) hw0 (fun _ h9 => h9) rfl dX10_extreme_81 ?_
                refine lv_iload_n hx hb dX10_extreme_84 rfl (lv_at hl 4 rfl) ?_
                refine kS_l (As := [.int (nI f9)]) (rest := [.long m3_43, .ref (a 0)]) ⟨hx, hb, hml, hown, hts⟩ (c_X10_alongAt l (nI f9)) (va_cwS 1 hts gX10_extreme_X10_alongAt rfl rfl rfl (by decide +kernel) ⟨Nat.le_of_ble_eq_true rfl, Nat.le_of_ble_eq_true rfl⟩) rfl hl.1 rfl (Nat.le_of_ble_eq_true rfl) dX10_extreme_85 ⟨Nat.le_of_ble_eq_true rfl, Nat.le_of_ble_eq_true rfl⟩ ?_
                refine lv_lxor hx hb dX10_extreme_88 ?_
                refine va_put (D := D) (ci := 9) (v := .long (m3_43 ^^^ (m_alongAt (nI f9)))) (ty := .long) (C := RX10) (T := TX10) (N := 30) hx hb hts hi10 tyX10 tyX10_ok nmX10 hown hK hP hD hS 0 rfl rfl 22 (by decide) hw0 (fun _ h9 => h9) rfl (by decide +kernel) rfl rfl (Nat.le_of_ble_eq_true rfl) dX10_extreme_89 (fun H locs hP hD hS => ?_)
                have hP : va_P D vwCl (MW cy a (va_up (va_up (va_up (va_up (va_up J 19 m0_43) 20 m1_43) 21 m2_43) 22 (m3_43 ^^^ (m_alongAt (nI f9)))) 23 m4_43) (va_up I 13 m5_43) (va_up (va_up R 11 m6_43) 12 m7_43) RJ) H := hP
                have hD : va_D A (MW cy a (va_up (va_up (va_up (va_up (va_up J 19 m0_43) 20 m1_43) 21 m2_43) 22 (m3_43 ^^^ (m_alongAt (nI f9)))) 23 m4_43) (va_up I 13 m5_43) (va_up (va_up R 11 m6_43) 12 m7_43) RJ) := hD
                refine lv_aload_n hx hb dX10_extreme_92 rfl (lv_at hl 1 rfl) ?_
                refine lv_dup hx hb dX10_extreme_93 rfl ?_
                refine va_get (D := D) (ci := 9) (v := .long m4_43) (C := RX10) (T := TX10) (N := 30) hx hb hts hi10 hown hK hP 0 rfl rfl 23 (by decide) hw1 (fun _ h9 => h9) rfl dX10_extreme_94 ?_
                refine lv_iload_n hx hb dX10_extreme_97 rfl (lv_at hl 4 rfl) ?_
                refine kS_l (As := [.int (nI f9)]) (rest := [.long m4_43, .ref (a 0)]) ⟨hx, hb, hml, hown, hts⟩ (c_X10_acrossAt l (nI f9)) (va_cwS 1 hts gX10_extreme_X10_acrossAt rfl rfl rfl (by decide +kernel) ⟨Nat.le_of_ble_eq_true rfl, Nat.le_of_ble_eq_true rfl⟩) rfl hl.1 rfl (Nat.le_of_ble_eq_true rfl) dX10_extreme_98 ⟨Nat.le_of_ble_eq_true rfl, Nat.le_of_ble_eq_true rfl⟩ ?_
                refine lv_lxor hx hb dX10_extreme_101 ?_
                refine va_put (D := D) (ci := 9) (v := .long (m4_43 ^^^ (m_acrossAt (nI f9)))) (ty := .long) (C := RX10) (T := TX10) (N := 30) hx hb hts hi10 tyX10 tyX10_ok nmX10 hown hK hP hD hS 0 rfl rfl 23 (by decide) hw1 (fun _ h9 => h9) rfl (by decide +kernel) rfl rfl (Nat.le_of_ble_eq_true rfl) dX10_extreme_102 (fun H locs hP hD hS => ?_)
                have hP : va_P D vwCl (MW cy a (va_up (va_up (va_up (va_up (va_up J 19 m0_43) 20 m1_43) 21 m2_43) 22 (m3_43 ^^^ (m_alongAt (nI f9)))) 23 (m4_43 ^^^ (m_acrossAt (nI f9)))) (va_up I 13 m5_43) (va_up (va_up R 11 m6_43) 12 m7_43) RJ) H := hP
                have hD : va_D A (MW cy a (va_up (va_up (va_up (va_up (va_up J 19 m0_43) 20 m1_43) 21 m2_43) 22 (m3_43 ^^^ (m_alongAt (nI f9)))) 23 (m4_43 ^^^ (m_acrossAt (nI f9)))) (va_up I 13 m5_43) (va_up (va_up R 11 m6_43) 12 m7_43) RJ) := hD
                refine lv_iconst (v := 1) hx hb dX10_extreme_105 (by decide) ?_
                refine lv_istore_n (lv' := [(2, .int 1), (4, .int r_2), (0, .ref (a 0)), (1, .int (bI x0)), (3, .int (nI f9))]) hx hb dX10_extreme_106 rfl hl (by decide) rfl (fun ls hl => ?_)
                refine lv_iinc (v := nI (f9 + 1)) (lv' := [(3, .int (nI (f9 + 1))), (2, .int 1), (4, .int r_2), (0, .ref (a 0)), (1, .int (bI x0))]) hx hb dX10_extreme_107 hl (k := 4) rfl (nI_1 _) (by decide) rfl (fun ls hl => ?_)
                refine lv_goto (tgt := 43) hx hb dX10_extreme_110 (by decide) ?_
                exact ih43 (f9 + 1) true m0_43 m1_43 m2_43 (m3_43 ^^^ (m_alongAt (nI f9))) (m4_43 ^^^ (m_acrossAt (nI f9))) m5_43 m6_43 m7_43 hlt_f9 hm (ex_c (ex_flip hlt_f9 (ly_dj hly2) hp_3 c_5 c_6).2 hc) hz2 hzt2 (zs_y hsw (ze_y hp_4 c_5 c_6)) (zv_y hsw (ze_y hp_4 c_5 c_6)) (zx_LY hly2 (zfl_0 (ze_y hp_4 c_5 c_6))) (lt_dec hlt_f9 hn43) _ _ hP hD hS ls (lv_sub hl [3, 4, 1, 0] rfl)
      refine lv_iload_n hx hb dX10_extreme_35 rfl (lv_at hl 2 rfl) ?_
      refine lv_if_eq (tgt := 116) hx hb dX10_extreme_36 (by decide) (fun c_7 => ?_) (fun c_7 => ?_)
      · replace c_7 := bI_f c_7
        refine lv_aload_n hx hb dX10_extreme_116 rfl (lv_at hl 0 rfl) ?_
        refine lv_aload_n hx hb dX10_extreme_117 rfl (lv_at hl 0 rfl) ?_
        refine va_get (D := D) (ci := 9) (v := .long m3_35) (C := RX10) (T := TX10) (N := 30) hx hb hts hi10 hown hK hP 0 rfl rfl 22 (by decide) hw0 (fun _ h9 => h9) rfl dX10_extreme_118 ?_
        refine lv_aload_n hx hb dX10_extreme_121 rfl (lv_at hl 0 rfl) ?_
        refine va_get (D := D) (ci := 9) (v := .long m4_35) (C := RX10) (T := TX10) (N := 30) hx hb hts hi10 hown hK hP 0 rfl rfl 23 (by decide) hw1 (fun _ h9 => h9) rfl dX10_extreme_122 ?_
        refine kM_i (As := [.long m3_35, .long m4_35]) (rest := []) (q0 := 0) ⟨hx, hb, hml, hown, hts⟩ (x_X10_numberOf l D cy a _ (va_up (va_up (va_up (va_up (va_up J 19 m0_35) 20 m1_35) 21 m2_35) 22 m3_35) 23 m4_35) (va_up I 13 m5_35) (va_up (va_up R 11 m6_35) 12 m7_35) RJ m3_35 m4_35 hly hz0 hzt ) (cwV 2 hts gX10_extreme_X10_numberOf rfl rfl rfl (by decide +kernel) ⟨Nat.le_of_ble_eq_true rfl, Nat.le_of_ble_eq_true rfl⟩) hK hN hP hD hS hA rfl rfl rfl hl.1 rfl (Nat.le_of_ble_eq_true rfl) dX10_extreme_125 ⟨Nat.le_of_ble_eq_true rfl, Nat.le_of_ble_eq_true rfl⟩ (fun r_8 u H locs hw hP hD hS => ?_)
        obtain ⟨rfl, rfl⟩ := hw
        have hP : va_P D vwCl (MW cy a (va_up (va_up (va_up (va_up (va_up J 19 m0_35) 20 m1_35) 21 m2_35) 22 m3_35) 23 m4_35) (va_up I 13 m5_35) (va_up (va_up R 11 m6_35) 12 m7_35) RJ) H := hP
        have hD : va_D A (MW cy a (va_up (va_up (va_up (va_up (va_up J 19 m0_35) 20 m1_35) 21 m2_35) 22 m3_35) 23 m4_35) (va_up I 13 m5_35) (va_up (va_up R 11 m6_35) 12 m7_35) RJ) := hD
        exact wret_i hx hb hr hlocks ((va_up (va_up (va_up (va_up (va_up J 19 m0_35) 20 m1_35) 21 m2_35) 22 m3_35) 23 m4_35), (va_up I 13 m5_35), (va_up (va_up R 11 m6_35) 12 m7_35), RJ) ⟨m0_35, m1_35, m2_35, m3_35, m4_35, m5_35, m6_35, m7_35, (ax_3 hRA.1 hwh hnc hit (hfx c_7) (zk_e hkk)), rfl⟩ hP hD hS dX10_extreme_128
      · replace c_7 := bI_t c_7
        refine lv_iconst (v := 0) hx hb dX10_extreme_39 (by decide) ?_
        refine lv_istore_n (lv' := [(2, .int 0), (0, .ref (a 0)), (1, .int (bI x0))]) hx hb dX10_extreme_40 rfl hl (by decide) rfl (fun ls hl => ?_)
        refine lv_iconst (v := 0) hx hb dX10_extreme_41 (by decide) ?_
        refine lv_istore_n (lv' := [(3, .int 0), (2, .int 0), (0, .ref (a 0)), (1, .int (bI x0))]) hx hb dX10_extreme_42 rfl hl (by decide) rfl (fun ls hl => ?_)
        exact lp43 _ 0 false m0_35 m1_35 m2_35 m3_35 m4_35 m5_35 m6_35 m7_35 (Nat.zero_le _) c_7 ps_no hz0 hzt rfl rfl hly (Nat.lt_succ_self _) _ _ hP hD hS ls (lv_sub hl [2, 3, 1, 0] rfl)
  refine lv_aload_n hx hb dX10_extreme_0 rfl (lv_at hl 0 rfl) ?_
  refine kM_i (As := []) (rest := []) (q0 := 0) ⟨hx, hb, hml, hown, hts⟩ (x_X10_isWhole l D cy a _ (va_up (va_up (va_up (va_up (va_up J 19 (J 19)) 20 (J 20)) 21 (J 21)) 22 (J 22)) 23 (J 23)) (va_up I 13 (I 13)) (va_up (va_up R 11 (R 11)) 12 (R 12)) RJ  fl S P hRA ⟨hM.1, hM.2.1, hM.2.2.1, hM.2.2.2.1, hM.2.2.2.2.1, hM.2.2.2.2.2⟩) (cwV 0 hts gX10_extreme_X10_isWhole rfl rfl rfl (by decide +kernel) ⟨Nat.le_of_ble_eq_true rfl, Nat.le_of_ble_eq_true rfl⟩) hK hN hP hD hS hA rfl rfl rfl hl.1 rfl (Nat.le_of_ble_eq_true rfl) dX10_extreme_1 ⟨Nat.le_of_ble_eq_true rfl, Nat.le_of_ble_eq_true rfl⟩ (fun r_9 u H locs hw hP hD hS => ?_)
  obtain ⟨w_10, zb_11, ⟨rfl, hp_12⟩, rfl⟩ := hw
  have hP : va_P D vwCl (MW cy a (va_up (va_up (va_up (va_up (va_up J 19 (J 19)) 20 (J 20)) 21 (J 21)) 22 (J 22)) 23 (J 23)) (va_up I 13 (I 13)) (va_up (va_up R 11 w_10) 12 (R 12)) RJ) H := hP
  have hD : va_D A (MW cy a (va_up (va_up (va_up (va_up (va_up J 19 (J 19)) 20 (J 20)) 21 (J 21)) 22 (J 22)) 23 (J 23)) (va_up I 13 (I 13)) (va_up (va_up R 11 w_10) 12 (R 12)) RJ) := hD
  refine lv_if_ne (tgt := 14) hx hb dX10_extreme_4 (by decide) (fun c_13 => ?_) (fun c_13 => ?_)
  · replace c_13 := bI_t c_13
    refine lv_aload_n hx hb dX10_extreme_14 rfl (lv_at hl 0 rfl) ?_
    refine kM_i (As := []) (rest := []) (q0 := 0) ⟨hx, hb, hml, hown, hts⟩ (x_X10_countAllW l D cy a _ (va_up (va_up (va_up (va_up (va_up J 19 (J 19)) 20 (J 20)) 21 (J 21)) 22 (J 22)) 23 (J 23)) (va_up I 13 (I 13)) (va_up (va_up R 11 w_10) 12 (R 12)) RJ  fl S P hRA hG (wh_ng (hp_12.symm.trans c_13)) ⟨hM.1, hM.2.1, hM.2.2.1, hM.2.2.2.1, hM.2.2.2.2.1, hM.2.2.2.2.2⟩) (cwV 0 hts gX10_extreme_X10_countAll rfl rfl rfl (by decide +kernel) ⟨Nat.le_of_ble_eq_true rfl, Nat.le_of_ble_eq_true rfl⟩) hK hN hP hD hS hA rfl rfl rfl hl.1 rfl (Nat.le_of_ble_eq_true rfl) dX10_extreme_15 ⟨Nat.le_of_ble_eq_true rfl, Nat.le_of_ble_eq_true rfl⟩ (fun r_14 u H locs hw hP hD hS => ?_)
    obtain ⟨w_15, w_16, w_17, w_18, ⟨rfl, hp_19, hp_20⟩, rfl⟩ := hw
    have hP : va_P D vwCl (MW cy a (va_up (va_up (va_up (va_up (va_up J 19 w_15) 20 w_16) 21 w_17) 22 (J 22)) 23 (J 23)) (va_up I 13 (I 13)) (va_up (va_up R 11 w_10) 12 w_18) RJ) H := hP
    have hD : va_D A (MW cy a (va_up (va_up (va_up (va_up (va_up J 19 w_15) 20 w_16) 21 w_17) 22 (J 22)) 23 (J 23)) (va_up I 13 (I 13)) (va_up (va_up R 11 w_10) 12 w_18) RJ) := hD
    refine lv_if_ne (tgt := 28) hx hb dX10_extreme_18 (by decide) (fun c_21 => ?_) (fun c_21 => ?_)
    · refine lv_aload_n hx hb dX10_extreme_28 rfl (lv_at hl 0 rfl) ?_
      refine lv_iconst (v := 0) hx hb dX10_extreme_29 (by decide) ?_
      refine kM_v (As := [.int 0]) (rest := []) (q0 := 0) ⟨hx, hb, hml, hown, hts⟩ (x_X10_walk l D cy a _ (va_up (va_up (va_up (va_up (va_up J 19 w_15) 20 w_16) 21 w_17) 22 (J 22)) 23 (J 23)) (va_up I 13 (I 13)) (va_up (va_up R 11 w_10) 12 w_18) RJ 0 (show zIn (bfx (J 0)) 0 by rw [hRA.1]; exact ng_pos (wh_ng (hp_12.symm.trans c_13)) c_21) hp_19 hp_20 ) (cwV 1 hts gX10_extreme_X10_walk rfl rfl rfl (by decide +kernel) ⟨Nat.le_of_ble_eq_true rfl, Nat.le_of_ble_eq_true rfl⟩) hK hN hP hD hS hA rfl rfl rfl hl.1 rfl (Nat.le_of_ble_eq_true rfl) dX10_extreme_30 ⟨Nat.le_of_ble_eq_true rfl, Nat.le_of_ble_eq_true rfl⟩ (fun u H locs hw hP hD hS => ?_)
      obtain ⟨w_23, w_24, hp_25, rfl⟩ := hw
      have hP : va_P D vwCl (MW cy a (va_up (va_up (va_up (va_up (va_up J 19 w_15) 20 w_16) 21 w_17) 22 w_23) 23 w_24) (va_up I 13 (I 13)) (va_up (va_up R 11 w_10) 12 w_18) RJ) H := hP
      have hD : va_D A (MW cy a (va_up (va_up (va_up (va_up (va_up J 19 w_15) 20 w_16) 21 w_17) 22 w_23) 23 w_24) (va_up I 13 (I 13)) (va_up (va_up R 11 w_10) 12 w_18) RJ) := hD
      refine lv_iconst (v := 1) hx hb dX10_extreme_33 (by decide) ?_
      refine lv_istore_n (lv' := [(2, .int 1), (0, .ref (a 0)), (1, .int (bI x0))]) hx hb dX10_extreme_34 rfl hl (by decide) rfl (fun ls hl => ?_)
      exact lp35 _ 0 true w_15 w_16 w_17 w_23 w_24 (I 13) w_10 w_18 (hp_12.symm.trans c_13) c_21 hp_19 hp_20 (zw_ly hp_25 (show zIn (bfx (J 0)) 0 by rw [hRA.1]; exact ng_pos (wh_ng (hp_12.symm.trans c_13)) c_21)) hp_25 zk_0 (fun z => absurd z (by decide)) (Nat.lt_succ_self _) _ _ hP hD hS ls (lv_sub hl [1, 2, 0] rfl)
    · refine lv_aload_n hx hb dX10_extreme_21 rfl (lv_at hl 0 rfl) ?_
      refine lv_ldc (v := (-100006)) hx hb hown hw2 dX10_extreme_22 ?_
      refine kM_i (As := [.int (-100006)]) (rest := []) (q0 := 0) ⟨hx, hb, hml, hown, hts⟩ (c_X10_finding l D cy a _ (va_up (va_up (va_up (va_up (va_up J 19 w_15) 20 w_16) 21 w_17) 22 (J 22)) 23 (J 23)) (va_up I 13 (I 13)) (va_up (va_up R 11 w_10) 12 w_18) RJ (-100006) ) (cwV 1 hts gX10_extreme_X10_finding rfl rfl rfl (by decide +kernel) ⟨Nat.le_of_ble_eq_true rfl, Nat.le_of_ble_eq_true rfl⟩) hK hN hP hD hS hA rfl rfl rfl hl.1 rfl (Nat.le_of_ble_eq_true rfl) dX10_extreme_24 ⟨Nat.le_of_ble_eq_true rfl, Nat.le_of_ble_eq_true rfl⟩ (fun r_26 u H locs hw hP hD hS => ?_)
      obtain ⟨rfl, rfl⟩ := hw
      have hP : va_P D vwCl (MW cy a (va_up (va_up (va_up (va_up (va_up J 19 w_15) 20 w_16) 21 w_17) 22 (J 22)) 23 (J 23)) (va_up I 13 ((I 13) + 1)) (va_up (va_up R 11 w_10) 12 w_18) RJ) H := hP
      have hD : va_D A (MW cy a (va_up (va_up (va_up (va_up (va_up J 19 w_15) 20 w_16) 21 w_17) 22 (J 22)) 23 (J 23)) (va_up I 13 ((I 13) + 1)) (va_up (va_up R 11 w_10) 12 w_18) RJ) := hD
      exact wret_i hx hb hr hlocks ((va_up (va_up (va_up (va_up (va_up J 19 w_15) 20 w_16) 21 w_17) 22 (J 22)) 23 (J 23)), (va_up I 13 ((I 13) + 1)), (va_up (va_up R 11 w_10) 12 w_18), RJ) ⟨w_15, w_16, w_17, (J 22), (J 23), ((I 13) + 1), w_10, w_18, (ax_1 (hp_12.symm.trans c_13) c_21), rfl⟩ hP hD hS dX10_extreme_27
  · replace c_13 := bI_f c_13
    refine lv_aload_n hx hb dX10_extreme_7 rfl (lv_at hl 0 rfl) ?_
    refine lv_ldc (v := (-100004)) hx hb hown hw3 dX10_extreme_8 ?_
    refine kM_i (As := [.int (-100004)]) (rest := []) (q0 := 0) ⟨hx, hb, hml, hown, hts⟩ (c_X10_finding l D cy a _ (va_up (va_up (va_up (va_up (va_up J 19 (J 19)) 20 (J 20)) 21 (J 21)) 22 (J 22)) 23 (J 23)) (va_up I 13 (I 13)) (va_up (va_up R 11 w_10) 12 (R 12)) RJ (-100004) ) (cwV 1 hts gX10_extreme_X10_finding rfl rfl rfl (by decide +kernel) ⟨Nat.le_of_ble_eq_true rfl, Nat.le_of_ble_eq_true rfl⟩) hK hN hP hD hS hA rfl rfl rfl hl.1 rfl (Nat.le_of_ble_eq_true rfl) dX10_extreme_10 ⟨Nat.le_of_ble_eq_true rfl, Nat.le_of_ble_eq_true rfl⟩ (fun r_27 u H locs hw hP hD hS => ?_)
    obtain ⟨rfl, rfl⟩ := hw
    have hP : va_P D vwCl (MW cy a (va_up (va_up (va_up (va_up (va_up J 19 (J 19)) 20 (J 20)) 21 (J 21)) 22 (J 22)) 23 (J 23)) (va_up I 13 ((I 13) + 1)) (va_up (va_up R 11 w_10) 12 (R 12)) RJ) H := hP
    have hD : va_D A (MW cy a (va_up (va_up (va_up (va_up (va_up J 19 (J 19)) 20 (J 20)) 21 (J 21)) 22 (J 22)) 23 (J 23)) (va_up I 13 ((I 13) + 1)) (va_up (va_up R 11 w_10) 12 (R 12)) RJ) := hD
    exact wret_i hx hb hr hlocks ((va_up (va_up (va_up (va_up (va_up J 19 (J 19)) 20 (J 20)) 21 (J 21)) 22 (J 22)) 23 (J 23)), (va_up I 13 ((I 13) + 1)), (va_up (va_up R 11 w_10) 12 (R 12)), RJ) ⟨(J 19), (J 20), (J 21), (J 22), (J 23), ((I 13) + 1), w_10, (R 12), (ax_0 (hp_12.symm.trans c_13)), rfl⟩ hP hD hS dX10_extreme_13
