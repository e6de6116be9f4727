set_option maxHeartbeats 4000000 in
set_option maxRecDepth 100000 in
theorem x_X10_isBesideMet (l : Launch) (D : va_G) (cy : Nat → ClassId) (a : Nat → Nat) (sz : Nat) (J : Nat → Int64) (I : Nat → Int32) (R : Nat → Nat → Int32) (RJ : Nat → Nat → Int64) (x0 : Nat) (x1 : Bool) (hx0 : x0 < 100) : Met l yX10_isBesideMet wsX10_isBesideMet ({ frames := 3, cells := 0, slots := 0, locals := 68 }) (va_Pc [.ref (a 0), .int (nI x0), .int (bI x1)] (PW D cy sz (MW cy a J I R RJ))) (va_Qi (fun r (u : MS) => ∃ (b : Bool), (r = bI b ∧ (b = besT (R 11) (J 0) x1 (nI x0))) ∧ u = (J, I, R, RJ)) (BW D (va_A (MW cy a J I R RJ) sz) (MWu cy a)) (va_A (MW cy a J I R RJ) sz)) 0 0 (va_A (MW cy a J I R RJ) sz) := by
  refine Met.ofW (cc := cX10_isBesideMet) (maxL := 4) (ret := (some .boolean)) (by decide) rfl ?_
  intro p e s m args below meth c s₁ B hml hv
  obtain ⟨rfl, rfl, hP, hK, hN, hD0⟩ := hv
  have hx := B.exec
  have hb := B.bytes
  have hr := B.returns
  have hts := atoms_spec (ws := wsX10_isBesideMet) B.pre
  have hown : s.vm.findClass RX10 = some m.cls := findClass_of_methodNamed B.named
  have hlocks := B.notSynchronized
  have hw0 := hts (.fieldLink RX10 42 "ParquetLayerModel" "met" "[Z") (by decide +kernel)
  have hw1 := hts (.fieldLink RX10 81 "ParquetLayerModel" "floor" "J") (by decide +kernel)
  have hi10 := ihX10_isBesideMet_10
  have hD := hD0.self (sz := s.heap.size)
  generalize hAe : va_A (MW cy a J I R RJ) s.heap.size = A at hD ⊢
  have hA : ∀ q : Nat, s.heap.size ≤ q → A q := fun q h => by rw [← hAe]; exact Or.inr h
  have hS : va_S A s.heap s.heap [] := va_S.rf
  have hl := lv_entry ([.ref (a 0), .int (nI x0), .int (bI x1)]) (n := 4) (Nat.le_of_ble_eq_true rfl)
  rw [lg_entry_eq]
  generalize (lg_sl ([.ref (a 0), .int (nI x0), .int (bI x1)]) ++ List.replicate (4 - (lg_sl ([.ref (a 0), .int (nI x0), .int (bI x1)])).length) Slot.unset).toArray = ls at hl ⊢
  have hl : lv_has ls 4 [(0, .ref (a 0)), (1, .int (nI x0)), (2, .int (bI x1))] := hl
  have lp125 : ∀ (v3_125 : Bool), (v3_125 = ((rt1 (R 11) (J 0) x1 (nI x0) || rt2 (R 11) (J 0) x1 (nI x0)) || rt3 (R 11) (J 0) x1 (nI x0))) → ∀ (H : Heap) (locs : List Loc), va_P D vwCl (MW cy a J I R RJ) H → va_D A (MW cy a J I R RJ) → va_S A s.heap H locs → ∀ (ls : Array Slot), lv_has ls 4 [(0, .ref (a 0)), (1, .int (nI x0)), (2, .int (bI x1)), (3, .int (bI v3_125))] → W p l e (headSpec wsX10_isBesideMet ({ frames := 3, cells := 0, slots := 0, locals := 68 })).room s m ([.ref (a 0), .int (nI x0), .int (bI x1)] : List Value).toArray below meth c H locs 0 0 (MQ below (va_Qi (fun r (u : MS) => ∃ (b : Bool), (r = bI b ∧ (b = besT (R 11) (J 0) x1 (nI x0))) ∧ u = (J, I, R, RJ)) (BW D A (MWu cy a)) A) ([.ref (a 0), .int (nI x0), .int (bI x1)] : List Value).toArray s 0 0 A) (F0 m 125 ls []) := by
    intro v3_125 h125 H locs hP hD hS ls hl
    refine lv_iload_n hx hb dX10_isBesideMet_125 rfl (lv_at hl 3 rfl) ?_
    refine lv_if_ne (tgt := 162) hx hb dX10_isBesideMet_126 (by decide) (fun c_1 => ?_) (fun c_1 => ?_)
    · replace c_1 := bI_t c_1
      refine lv_iconst (v := 1) hx hb dX10_isBesideMet_162 (by decide) ?_
      refine lv_goto (tgt := 167) hx hb dX10_isBesideMet_163 (by decide) ?_
      exact wret_z hx hb hr hlocks rfl (J, I, R, RJ) ⟨true, ⟨rfl, (orx1 h125 c_1)⟩, rfl⟩ hP hD hS dX10_isBesideMet_167
    · replace c_1 := bI_f c_1
      refine lv_iload_n hx hb dX10_isBesideMet_129 rfl (lv_at hl 1 rfl) ?_
      refine lv_bipush (v := 90) hx hb dX10_isBesideMet_130 (by decide) ?_
      refine lv_icmp_ge (tgt := 166) hx hb dX10_isBesideMet_132 (by decide) (fun c_2 => ?_) (fun c_2 => ?_)
      · refine lv_iconst (v := 0) hx hb dX10_isBesideMet_166 (by decide) ?_
        exact wret_z hx hb hr hlocks rfl (J, I, R, RJ) ⟨false, ⟨rfl, (orx2 h125 c_1 (rtx0 c_2))⟩, rfl⟩ hP hD hS dX10_isBesideMet_167
      · refine lv_aload_n hx hb dX10_isBesideMet_135 rfl (lv_at hl 0 rfl) ?_
        refine va_get (D := D) (ci := 9) (v := .ref (a 11)) (C := RX10) (T := TX10) (N := 30) hx hb hts hi10 hown hK hP 0 rfl rfl 17 (by decide) hw0 (fun _ h9 => h9) rfl dX10_isBesideMet_136 ?_
        refine lv_iload_n hx hb dX10_isBesideMet_139 rfl (lv_at hl 1 rfl) ?_
        refine lv_bipush (v := 10) hx hb dX10_isBesideMet_140 (by decide) ?_
        refine lv_iadd hx hb dX10_isBesideMet_142 ?_
        refine va_zald hx hb hK hP 11 2 rfl rfl (bm4 ⟨x0, hx0⟩ c_2) dX10_isBesideMet_143 ?_
        refine lv_if_eq (tgt := 166) hx hb dX10_isBesideMet_144 (by decide) (fun c_3 => ?_) (fun c_3 => ?_)
        · refine lv_iconst (v := 0) hx hb dX10_isBesideMet_166 (by decide) ?_
          exact wret_z hx hb hr hlocks rfl (J, I, R, RJ) ⟨false, ⟨rfl, (orx2 h125 c_1 (rtx1 c_2 c_3))⟩, rfl⟩ hP hD hS dX10_isBesideMet_167
        · refine lv_aload_n hx hb dX10_isBesideMet_147 rfl (lv_at hl 0 rfl) ?_
          refine va_get (D := D) (ci := 9) (v := .long (J 0)) (C := RX10) (T := TX10) (N := 30) hx hb hts hi10 hown hK hP 0 rfl rfl 0 (by decide) hw1 (fun _ h9 => h9) rfl dX10_isBesideMet_148 ?_
          refine lv_iload_n hx hb dX10_isBesideMet_151 rfl (lv_at hl 1 rfl) ?_
          refine lv_bipush (v := 10) hx hb dX10_isBesideMet_152 (by decide) ?_
          refine lv_iadd hx hb dX10_isBesideMet_154 ?_
          refine lv_iload_n hx hb dX10_isBesideMet_155 rfl (lv_at hl 2 rfl) ?_
          refine kS_i (As := [.long (J 0), .int ((nI x0) + 10), .int (bI x1)]) (rest := []) ⟨hx, hb, hml, hown, hts⟩ (c_X10_isOf l (J 0) ((nI x0) + 10) x1) (va_cwS 3 hts gX10_isBesideMet_X10_isOf rfl rfl rfl (by decide +kernel) ⟨Nat.le_of_ble_eq_true rfl, Nat.le_of_ble_eq_true rfl⟩) rfl hl.1 rfl (Nat.le_of_ble_eq_true rfl) dX10_isBesideMet_156 ⟨Nat.le_of_ble_eq_true rfl, Nat.le_of_ble_eq_true rfl⟩ ?_
          refine lv_if_eq (tgt := 166) hx hb dX10_isBesideMet_159 (by decide) (fun c_4 => ?_) (fun c_4 => ?_)
          · replace c_4 := bI_f c_4
            refine lv_iconst (v := 0) hx hb dX10_isBesideMet_166 (by decide) ?_
            exact wret_z hx hb hr hlocks rfl (J, I, R, RJ) ⟨false, ⟨rfl, (orx2 h125 c_1 (rtx2 c_2 c_3 c_4))⟩, rfl⟩ hP hD hS dX10_isBesideMet_167
          · replace c_4 := bI_t c_4
            refine lv_iconst (v := 1) hx hb dX10_isBesideMet_162 (by decide) ?_
            refine lv_goto (tgt := 167) hx hb dX10_isBesideMet_163 (by decide) ?_
            exact wret_z hx hb hr hlocks rfl (J, I, R, RJ) ⟨true, ⟨rfl, (orx2 h125 c_1 (rtx3 c_2 c_3 c_4))⟩, rfl⟩ hP hD hS dX10_isBesideMet_167
  have lp82 : ∀ (v3_82 : Bool), (v3_82 = (rt1 (R 11) (J 0) x1 (nI x0) || rt2 (R 11) (J 0) x1 (nI x0))) → ∀ (H : Heap) (locs : List Loc), va_P D vwCl (MW cy a J I R RJ) H → va_D A (MW cy a J I R RJ) → va_S A s.heap H locs → ∀ (ls : Array Slot), lv_has ls 4 [(0, .ref (a 0)), (1, .int (nI x0)), (2, .int (bI x1)), (3, .int (bI v3_82))] → W p l e (headSpec wsX10_isBesideMet ({ frames := 3, cells := 0, slots := 0, locals := 68 })).room s m ([.ref (a 0), .int (nI x0), .int (bI x1)] : List Value).toArray below meth c H locs 0 0 (MQ below (va_Qi (fun r (u : MS) => ∃ (b : Bool), (r = bI b ∧ (b = besT (R 11) (J 0) x1 (nI x0))) ∧ u = (J, I, R, RJ)) (BW D A (MWu cy a)) A) ([.ref (a 0), .int (nI x0), .int (bI x1)] : List Value).toArray s 0 0 A) (F0 m 82 ls []) := by
    intro v3_82 h82 H locs hP hD hS ls hl
    refine lv_iload_n hx hb dX10_isBesideMet_82 rfl (lv_at hl 3 rfl) ?_
    refine lv_if_ne (tgt := 119) hx hb dX10_isBesideMet_83 (by decide) (fun c_5 => ?_) (fun c_5 => ?_)
    · replace c_5 := bI_t c_5
      refine lv_iconst (v := 1) hx hb dX10_isBesideMet_119 (by decide) ?_
      refine lv_goto (tgt := 124) hx hb dX10_isBesideMet_120 (by decide) ?_
      refine lv_istore_n (lv' := [(3, .int 1), (0, .ref (a 0)), (1, .int (nI x0)), (2, .int (bI x1))]) hx hb dX10_isBesideMet_124 rfl hl (by decide) rfl (fun ls hl => ?_)
      exact lp125 true (orx1 h82 c_5)  _ _ hP hD hS ls (lv_sub hl [1, 2, 3, 0] rfl)
    · replace c_5 := bI_f c_5
      refine lv_iload_n hx hb dX10_isBesideMet_86 rfl (lv_at hl 1 rfl) ?_
      refine lv_bipush (v := 9) hx hb dX10_isBesideMet_87 (by decide) ?_
      refine lv_icmp_le (tgt := 123) hx hb dX10_isBesideMet_89 (by decide) (fun c_6 => ?_) (fun c_6 => ?_)
      · refine lv_iconst (v := 0) hx hb dX10_isBesideMet_123 (by decide) ?_
        refine lv_istore_n (lv' := [(3, .int 0), (0, .ref (a 0)), (1, .int (nI x0)), (2, .int (bI x1))]) hx hb dX10_isBesideMet_124 rfl hl (by decide) rfl (fun ls hl => ?_)
        exact lp125 false (orx2 h82 c_5 (rtx0 c_6))  _ _ hP hD hS ls (lv_sub hl [1, 2, 3, 0] rfl)
      · refine lv_aload_n hx hb dX10_isBesideMet_92 rfl (lv_at hl 0 rfl) ?_
        refine va_get (D := D) (ci := 9) (v := .ref (a 11)) (C := RX10) (T := TX10) (N := 30) hx hb hts hi10 hown hK hP 0 rfl rfl 17 (by decide) hw0 (fun _ h9 => h9) rfl dX10_isBesideMet_93 ?_
        refine lv_iload_n hx hb dX10_isBesideMet_96 rfl (lv_at hl 1 rfl) ?_
        refine lv_bipush (v := 10) hx hb dX10_isBesideMet_97 (by decide) ?_
        refine lv_isub hx hb dX10_isBesideMet_99 ?_
        refine va_zald hx hb hK hP 11 2 rfl rfl (bm3 ⟨x0, hx0⟩ c_6) dX10_isBesideMet_100 ?_
        refine lv_if_eq (tgt := 123) hx hb dX10_isBesideMet_101 (by decide) (fun c_7 => ?_) (fun c_7 => ?_)
        · refine lv_iconst (v := 0) hx hb dX10_isBesideMet_123 (by decide) ?_
          refine lv_istore_n (lv' := [(3, .int 0), (0, .ref (a 0)), (1, .int (nI x0)), (2, .int (bI x1))]) hx hb dX10_isBesideMet_124 rfl hl (by decide) rfl (fun ls hl => ?_)
          exact lp125 false (orx2 h82 c_5 (rtx1 c_6 c_7))  _ _ hP hD hS ls (lv_sub hl [1, 2, 3, 0] rfl)
        · refine lv_aload_n hx hb dX10_isBesideMet_104 rfl (lv_at hl 0 rfl) ?_
          refine va_get (D := D) (ci := 9) (v := .long (J 0)) (C := RX10) (T := TX10) (N := 30) hx hb hts hi10 hown hK hP 0 rfl rfl 0 (by decide) hw1 (fun _ h9 => h9) rfl dX10_isBesideMet_105 ?_
          refine lv_iload_n hx hb dX10_isBesideMet_108 rfl (lv_at hl 1 rfl) ?_
          refine lv_bipush (v := 10) hx hb dX10_isBesideMet_109 (by decide) ?_
          refine lv_isub hx hb dX10_isBesideMet_111 ?_
          refine lv_iload_n hx hb dX10_isBesideMet_112 rfl (lv_at hl 2 rfl) ?_
          refine kS_i (As := [.long (J 0), .int ((nI x0) - 10), .int (bI x1)]) (rest := []) ⟨hx, hb, hml, hown, hts⟩ (c_X10_isOf l (J 0) ((nI x0) - 10) x1) (va_cwS 3 hts gX10_isBesideMet_X10_isOf rfl rfl rfl (by decide +kernel) ⟨Nat.le_of_ble_eq_true rfl, Nat.le_of_ble_eq_true rfl⟩) rfl hl.1 rfl (Nat.le_of_ble_eq_true rfl) dX10_isBesideMet_113 ⟨Nat.le_of_ble_eq_true rfl, Nat.le_of_ble_eq_true rfl⟩ ?_
          refine lv_if_eq (tgt := 123) hx hb dX10_isBesideMet_116 (by decide) (fun c_8 => ?_) (fun c_8 => ?_)
          · replace c_8 := bI_f c_8
            refine lv_iconst (v := 0) hx hb dX10_isBesideMet_123 (by decide) ?_
            refine lv_istore_n (lv' := [(3, .int 0), (0, .ref (a 0)), (1, .int (nI x0)), (2, .int (bI x1))]) hx hb dX10_isBesideMet_124 rfl hl (by decide) rfl (fun ls hl => ?_)
            exact lp125 false (orx2 h82 c_5 (rtx2 c_6 c_7 c_8))  _ _ hP hD hS ls (lv_sub hl [1, 2, 3, 0] rfl)
          · replace c_8 := bI_t c_8
            refine lv_iconst (v := 1) hx hb dX10_isBesideMet_119 (by decide) ?_
            refine lv_goto (tgt := 124) hx hb dX10_isBesideMet_120 (by decide) ?_
            refine lv_istore_n (lv' := [(3, .int 1), (0, .ref (a 0)), (1, .int (nI x0)), (2, .int (bI x1))]) hx hb dX10_isBesideMet_124 rfl hl (by decide) rfl (fun ls hl => ?_)
            exact lp125 true (orx2 h82 c_5 (rtx3 c_6 c_7 c_8))  _ _ hP hD hS ls (lv_sub hl [1, 2, 3, 0] rfl)
  have lp38 : ∀ (v3_38 : Bool), (v3_38 = (rt1 (R 11) (J 0) x1 (nI x0))) → ∀ (H : Heap) (locs : List Loc), va_P D vwCl (MW cy a J I R RJ) H → va_D A (MW cy a J I R RJ) → va_S A s.heap H locs → ∀ (ls : Array Slot), lv_has ls 4 [(0, .ref (a 0)), (1, .int (nI x0)), (2, .int (bI x1)), (3, .int (bI v3_38))] → W p l e (headSpec wsX10_isBesideMet ({ frames := 3, cells := 0, slots := 0, locals := 68 })).room s m ([.ref (a 0), .int (nI x0), .int (bI x1)] : List Value).toArray below meth c H locs 0 0 (MQ below (va_Qi (fun r (u : MS) => ∃ (b : Bool), (r = bI b ∧ (b = besT (R 11) (J 0) x1 (nI x0))) ∧ u = (J, I, R, RJ)) (BW D A (MWu cy a)) A) ([.ref (a 0), .int (nI x0), .int (bI x1)] : List Value).toArray s 0 0 A) (F0 m 38 ls []) := by
    intro v3_38 h38 H locs hP hD hS ls hl
    refine lv_iload_n hx hb dX10_isBesideMet_38 rfl (lv_at hl 3 rfl) ?_
    refine lv_if_ne (tgt := 76) hx hb dX10_isBesideMet_39 (by decide) (fun c_9 => ?_) (fun c_9 => ?_)
    · replace c_9 := bI_t c_9
      refine lv_iconst (v := 1) hx hb dX10_isBesideMet_76 (by decide) ?_
      refine lv_goto (tgt := 81) hx hb dX10_isBesideMet_77 (by decide) ?_
      refine lv_istore_n (lv' := [(3, .int 1), (0, .ref (a 0)), (1, .int (nI x0)), (2, .int (bI x1))]) hx hb dX10_isBesideMet_81 rfl hl (by decide) rfl (fun ls hl => ?_)
      exact lp82 true (orx1 h38 c_9)  _ _ hP hD hS ls (lv_sub hl [1, 2, 3, 0] rfl)
    · replace c_9 := bI_f c_9
      refine lv_iload_n hx hb dX10_isBesideMet_42 rfl (lv_at hl 1 rfl) ?_
      refine lv_bipush (v := 10) hx hb dX10_isBesideMet_43 (by decide) ?_
      refine lv_irem hx hb dX10_isBesideMet_45 (by decide) ?_
      refine lv_bipush (v := 9) hx hb dX10_isBesideMet_46 (by decide) ?_
      refine lv_icmp_ge (tgt := 80) hx hb dX10_isBesideMet_48 (by decide) (fun c_10 => ?_) (fun c_10 => ?_)
      · refine lv_iconst (v := 0) hx hb dX10_isBesideMet_80 (by decide) ?_
        refine lv_istore_n (lv' := [(3, .int 0), (0, .ref (a 0)), (1, .int (nI x0)), (2, .int (bI x1))]) hx hb dX10_isBesideMet_81 rfl hl (by decide) rfl (fun ls hl => ?_)
        exact lp82 false (orx2 h38 c_9 (rtx0 c_10))  _ _ hP hD hS ls (lv_sub hl [1, 2, 3, 0] rfl)
      · refine lv_aload_n hx hb dX10_isBesideMet_51 rfl (lv_at hl 0 rfl) ?_
        refine va_get (D := D) (ci := 9) (v := .ref (a 11)) (C := RX10) (T := TX10) (N := 30) hx hb hts hi10 hown hK hP 0 rfl rfl 17 (by decide) hw0 (fun _ h9 => h9) rfl dX10_isBesideMet_52 ?_
        refine lv_iload_n hx hb dX10_isBesideMet_55 rfl (lv_at hl 1 rfl) ?_
        refine lv_iconst (v := 1) hx hb dX10_isBesideMet_56 (by decide) ?_
        refine lv_iadd hx hb dX10_isBesideMet_57 ?_
        refine va_zald hx hb hK hP 11 2 rfl rfl (bm2 ⟨x0, hx0⟩ c_10) dX10_isBesideMet_58 ?_
        refine lv_if_eq (tgt := 80) hx hb dX10_isBesideMet_59 (by decide) (fun c_11 => ?_) (fun c_11 => ?_)
        · refine lv_iconst (v := 0) hx hb dX10_isBesideMet_80 (by decide) ?_
          refine lv_istore_n (lv' := [(3, .int 0), (0, .ref (a 0)), (1, .int (nI x0)), (2, .int (bI x1))]) hx hb dX10_isBesideMet_81 rfl hl (by decide) rfl (fun ls hl => ?_)
          exact lp82 false (orx2 h38 c_9 (rtx1 c_10 c_11))  _ _ hP hD hS ls (lv_sub hl [1, 2, 3, 0] rfl)
        · refine lv_aload_n hx hb dX10_isBesideMet_62 rfl (lv_at hl 0 rfl) ?_
          refine va_get (D := D) (ci := 9) (v := .long (J 0)) (C := RX10) (T := TX10) (N := 30) hx hb hts hi10 hown hK hP 0 rfl rfl 0 (by decide) hw1 (fun _ h9 => h9) rfl dX10_isBesideMet_63 ?_
          refine lv_iload_n hx hb dX10_isBesideMet_66 rfl (lv_at hl 1 rfl) ?_
          refine lv_iconst (v := 1) hx hb dX10_isBesideMet_67 (by decide) ?_
          refine lv_iadd hx hb dX10_isBesideMet_68 ?_
          refine lv_iload_n hx hb dX10_isBesideMet_69 rfl (lv_at hl 2 rfl) ?_
          refine kS_i (As := [.long (J 0), .int ((nI x0) + 1), .int (bI x1)]) (rest := []) ⟨hx, hb, hml, hown, hts⟩ (c_X10_isOf l (J 0) ((nI x0) + 1) x1) (va_cwS 3 hts gX10_isBesideMet_X10_isOf rfl rfl rfl (by decide +kernel) ⟨Nat.le_of_ble_eq_true rfl, Nat.le_of_ble_eq_true rfl⟩) rfl hl.1 rfl (Nat.le_of_ble_eq_true rfl) dX10_isBesideMet_70 ⟨Nat.le_of_ble_eq_true rfl, Nat.le_of_ble_eq_true rfl⟩ ?_
          refine lv_if_eq (tgt := 80) hx hb dX10_isBesideMet_73 (by decide) (fun c_12 => ?_) (fun c_12 => ?_)
          · replace c_12 := bI_f c_12
            refine lv_iconst (v := 0) hx hb dX10_isBesideMet_80 (by decide) ?_
            refine lv_istore_n (lv' := [(3, .int 0), (0, .ref (a 0)), (1, .int (nI x0)), (2, .int (bI x1))]) hx hb dX10_isBesideMet_81 rfl hl (by decide) rfl (fun ls hl => ?_)
            exact lp82 false (orx2 h38 c_9 (rtx2 c_10 c_11 c_12))  _ _ hP hD hS ls (lv_sub hl [1, 2, 3, 0] rfl)
          · replace c_12 := bI_t c_12
            refine lv_iconst (v := 1) hx hb dX10_isBesideMet_76 (by decide) ?_
            refine lv_goto (tgt := 81) hx hb dX10_isBesideMet_77 (by decide) ?_
            refine lv_istore_n (lv' := [(3, .int 1), (0, .ref (a 0)), (1, .int (nI x0)), (2, .int (bI x1))]) hx hb dX10_isBesideMet_81 rfl hl (by decide) rfl (fun ls hl => ?_)
            exact lp82 true (orx2 h38 c_9 (rtx3 c_10 c_11 c_12))  _ _ hP hD hS ls (lv_sub hl [1, 2, 3, 0] rfl)
  refine lv_iload_n hx hb dX10_isBesideMet_0 rfl (lv_at hl 1 rfl) ?_
  refine lv_bipush (v := 10) hx hb dX10_isBesideMet_1 (by decide) ?_
  refine lv_irem hx hb dX10_isBesideMet_3 (by decide) ?_
  refine lv_if_le (tgt := 36) hx hb dX10_isBesideMet_4 (by decide) (fun c_13 => ?_) (fun c_13 => ?_)
  · refine lv_iconst (v := 0) hx hb dX10_isBesideMet_36 (by decide) ?_
    refine lv_istore_n (lv' := [(3, .int 0), (0, .ref (a 0)), (1, .int (nI x0)), (2, .int (bI x1))]) hx hb dX10_isBesideMet_37 rfl hl (by decide) rfl (fun ls hl => ?_)
    exact lp38 false (rtx0 c_13)  _ _ hP hD hS ls (lv_sub hl [1, 2, 3, 0] rfl)
  · refine lv_aload_n hx hb dX10_isBesideMet_7 rfl (lv_at hl 0 rfl) ?_
    refine va_get (D := D) (ci := 9) (v := .ref (a 11)) (C := RX10) (T := TX10) (N := 30) hx hb hts hi10 hown hK hP 0 rfl rfl 17 (by decide) hw0 (fun _ h9 => h9) rfl dX10_isBesideMet_8 ?_
    refine lv_iload_n hx hb dX10_isBesideMet_11 rfl (lv_at hl 1 rfl) ?_
    refine lv_iconst (v := 1) hx hb dX10_isBesideMet_12 (by decide) ?_
    refine lv_isub hx hb dX10_isBesideMet_13 ?_
    refine va_zald hx hb hK hP 11 2 rfl rfl (bm1 ⟨x0, hx0⟩ c_13) dX10_isBesideMet_14 ?_
    refine lv_if_eq (tgt := 36) hx hb dX10_isBesideMet_15 (by decide) (fun c_14 => ?_) (fun c_14 => ?_)
    · refine lv_iconst (v := 0) hx hb dX10_isBesideMet_36 (by decide) ?_
      refine lv_istore_n (lv' := [(3, .int 0), (0, .ref (a 0)), (1, .int (nI x0)), (2, .int (bI x1))]) hx hb dX10_isBesideMet_37 rfl hl (by decide) rfl (fun ls hl => ?_)
      exact lp38 false (rtx1 c_13 c_14)  _ _ hP hD hS ls (lv_sub hl [1, 2, 3, 0] rfl)
    · refine lv_aload_n hx hb dX10_isBesideMet_18 rfl (lv_at hl 0 rfl) ?_
      refine va_get (D := D) (ci := 9) (v := .long (J 0)) (C := RX10) (T := TX10) (N := 30) hx hb hts hi10 hown hK hP 0 rfl rfl 0 (by decide) hw1 (fun _ h9 => h9) rfl dX10_isBesideMet_19 ?_
      refine lv_iload_n hx hb dX10_isBesideMet_22 rfl (lv_at hl 1 rfl) ?_
      refine lv_iconst (v := 1) hx hb dX10_isBesideMet_23 (by decide) ?_
      refine lv_isub hx hb dX10_isBesideMet_24 ?_
      refine lv_iload_n hx hb dX10_isBesideMet_25 rfl (lv_at hl 2 rfl) ?_
      refine kS_i (As := [.long (J 0), .int ((nI x0) - 1), .int (bI x1)]) (rest := []) ⟨hx, hb, hml, hown, hts⟩ (c_X10_isOf l (J 0) ((nI x0) - 1) x1) (va_cwS 3 hts gX10_isBesideMet_X10_isOf rfl rfl rfl (by decide +kernel) ⟨Nat.le_of_ble_eq_true rfl, Nat.le_of_ble_eq_true rfl⟩) rfl hl.1 rfl (Nat.le_of_ble_eq_true rfl) dX10_isBesideMet_26 ⟨Nat.le_of_ble_eq_true rfl, Nat.le_of_ble_eq_true rfl⟩ ?_
      refine lv_if_eq (tgt := 36) hx hb dX10_isBesideMet_29 (by decide) (fun c_15 => ?_) (fun c_15 => ?_)
      · replace c_15 := bI_f c_15
        refine lv_iconst (v := 0) hx hb dX10_isBesideMet_36 (by decide) ?_
        refine lv_istore_n (lv' := [(3, .int 0), (0, .ref (a 0)), (1, .int (nI x0)), (2, .int (bI x1))]) hx hb dX10_isBesideMet_37 rfl hl (by decide) rfl (fun ls hl => ?_)
        exact lp38 false (rtx2 c_13 c_14 c_15)  _ _ hP hD hS ls (lv_sub hl [1, 2, 3, 0] rfl)
      · replace c_15 := bI_t c_15
        refine lv_iconst (v := 1) hx hb dX10_isBesideMet_32 (by decide) ?_
        refine lv_goto (tgt := 37) hx hb dX10_isBesideMet_33 (by decide) ?_
        refine lv_istore_n (lv' := [(3, .int 1), (0, .ref (a 0)), (1, .int (nI x0)), (2, .int (bI x1))]) hx hb dX10_isBesideMet_37 rfl hl (by decide) rfl (fun ls hl => ?_)
        exact lp38 true (rtx3 c_13 c_14 c_15)  _ _ hP hD hS ls (lv_sub hl [1, 2, 3, 0] rfl)
set_option maxHeartbeats 4000000 in
set_option maxRecDepth 100000 in
theorem x_X10_pieces (l : Launch) (D : va_G) (cy : Nat → ClassId) (a : Nat → Nat) (sz : Nat) (J : Nat → Int64) (I : Nat → Int32) (R : Nat → Nat → Int32) (RJ : Nat → Nat → Int64) (x0 : Bool) : Met l yX10_pieces wsX10_pieces ({ frames := 4, cells := 0, slots := 0, locals := 91 }) (va_Pc [.ref (a 0), .int (bI x0)] (PW D cy sz (MW cy a J I R RJ))) (va_Qi (fun r (u : MS) => ∃ (w0 : Nat → Int32), (r = (nI (cFr (mB (J 0) x0) A10 100))) ∧ u = (J, I, (va_up R 11 w0), RJ)) (BW D (va_A (MW cy a J I R RJ) sz) (MWu cy a)) (va_A (MW cy a J I R RJ) sz)) 0 0 (va_A (MW cy a J I R RJ) sz) := by
  refine Met.ofW (cc := cX10_pieces) (maxL := 6) (ret := (some .int)) (by decide) rfl ?_
  intro p e s m args below meth c s₁ B hml hv
  obtain ⟨rfl, rfl, hP, hK, hN, hD0⟩ := hv
  have hx := B.exec
  have hb := B.bytes
  have hr := B.returns
  have hts := atoms_spec (ws := wsX10_pieces) B.pre
  have hown : s.vm.findClass RX10 = some m.cls := findClass_of_methodNamed B.named
  have hlocks := B.notSynchronized
  have hw0 := hts (.fieldLink RX10 42 "ParquetLayerModel" "met" "[Z") (by decide +kernel)
  have hw1 := hts (.fieldLink RX10 81 "ParquetLayerModel" "floor" "J") (by decide +kernel)
  have hi10 := ihX10_pieces_10
  have hD := hD0.self (sz := s.heap.size)
  generalize hAe : va_A (MW cy a J I R RJ) s.heap.size = A at hD ⊢
  have hA : ∀ q : Nat, s.heap.size ≤ q → A q := fun q h => by rw [← hAe]; exact Or.inr h
  have hS : va_S A s.heap s.heap [] := va_S.rf
  have hl := lv_entry ([.ref (a 0), .int (bI x0)]) (n := 6) (Nat.le_of_ble_eq_true rfl)
  rw [lg_entry_eq]
  generalize (lg_sl ([.ref (a 0), .int (bI x0)]) ++ List.replicate (6 - (lg_sl ([.ref (a 0), .int (bI x0)])).length) Slot.unset).toArray = ls at hl ⊢
  have hl : lv_has ls 6 [(0, .ref (a 0)), (1, .int (bI x0))] := hl
  have hP : va_P D vwCl (MW cy a J I (va_up R 11 (R 11)) RJ) s.heap := hP
  have hD : va_D A (MW cy a J I (va_up R 11 (R 11)) RJ) := hD
  have lp25 : ∀ (n25 : Nat), ∀ (p9 : Nat) (v2_25 : Int32) (m0_25 : Nat → Int32), (p9 ≤ 100) → (scI (mB (J 0) x0) A10 (mtS m0_25) p9) → (v2_25 = nI (cFr (mB (J 0) x0) A10 p9)) → (100 - p9) < n25 → ∀ (H : Heap) (locs : List Loc), va_P D vwCl (MW cy a J I (va_up R 11 m0_25) RJ) H → va_D A (MW cy a J I (va_up R 11 m0_25) RJ) → va_S A s.heap H locs → ∀ (ls : Array Slot), lv_has ls 6 [(0, .ref (a 0)), (1, .int (bI x0)), (2, .int v2_25), (3, .int (nI p9))] → W p l e (headSpec wsX10_pieces ({ frames := 4, cells := 0, slots := 0, locals := 91 })).room s m ([.ref (a 0), .int (bI x0)] : List Value).toArray below meth c H locs 0 0 (MQ below (va_Qi (fun r (u : MS) => ∃ (w0 : Nat → Int32), (r = (nI (cFr (mB (J 0) x0) A10 100))) ∧ u = (J, I, (va_up R 11 w0), RJ)) (BW D A (MWu cy a)) A) ([.ref (a 0), .int (bI x0)] : List Value).toArray s 0 0 A) (F0 m 25 ls []) := by
    intro n25
    induction n25 with
    | zero => intro p9 v2_25 m0_25 hp9 hsc hv hn; exact absurd hn (Nat.not_lt_zero _)
    | succ n25 ih25 =>
      intro p9 v2_25 m0_25 hp9 hsc hv hn25 H locs hP hD hS ls hl
      have lp68 : ∀ (n68 : Nat), ∀ (v2_68 : Int32) (v4_68 : Bool) (m0_68 : Nat → Int32), (p9 < 100) → (fdI (mB (J 0) x0) m0_68 p9) → (v2_68 = nI (cFr (mB (J 0) x0) A10 p9 + 1)) → (v4_68 = false → clI (J 0) x0 m0_68 100) → (cntz m0_68 100 + bN v4_68) < n68 → ∀ (H : Heap) (locs : List Loc), va_P D vwCl (MW cy a J I (va_up R 11 m0_68) RJ) H → va_D A (MW cy a J I (va_up R 11 m0_68) RJ) → va_S A s.heap H locs → ∀ (ls : Array Slot), lv_has ls 6 [(0, .ref (a 0)), (1, .int (bI x0)), (2, .int v2_68), (3, .int (nI p9)), (4, .int (bI v4_68))] → W p l e (headSpec wsX10_pieces ({ frames := 4, cells := 0, slots := 0, locals := 91 })).room s m ([.ref (a 0), .int (bI x0)] : List Value).toArray below meth c H locs 0 0 (MQ below (va_Qi (fun r (u : MS) => ∃ (w0 : Nat → Int32), (r = (nI (cFr (mB (J 0) x0) A10 100))) ∧ u = (J, I, (va_up R 11 w0), RJ)) (BW D A (MWu cy a)) A) ([.ref (a 0), .int (bI x0)] : List Value).toArray s 0 0 A) (F0 m 68 ls []) := by
        intro n68
        induction n68 with
        | zero => intro v2_68 v4_68 m0_68 hlp hfl hv2 hcl hn; exact absurd hn (Nat.not_lt_zero _)
        | succ n68 ih68 =>
          intro v2_68 v4_68 m0_68 hlp hfl hv2 hcl hn68 H locs hP hD hS ls hl
          have lp79 : ∀ (n79 : Nat), ∀ (q9 : Nat) (v4_79 : Bool) (m0_79 : Nat → Int32), (q9 ≤ 100) → (v4_68 = true) → (cntz m0_79 100 + bN v4_79 ≤ cntz m0_68 100) → (fdI (mB (J 0) x0) m0_79 p9) → (v4_79 = false → clI (J 0) x0 m0_79 q9) → (100 - q9) < n79 → ∀ (H : Heap) (locs : List Loc), va_P D vwCl (MW cy a J I (va_up R 11 m0_79) RJ) H → va_D A (MW cy a J I (va_up R 11 m0_79) RJ) → va_S A s.heap H locs → ∀ (ls : Array Slot), lv_has ls 6 [(0, .ref (a 0)), (1, .int (bI x0)), (2, .int v2_68), (3, .int (nI p9)), (4, .int (bI v4_79)), (5, .int (nI q9))] → W p l e (headSpec wsX10_pieces ({ frames := 4, cells := 0, slots := 0, locals := 91 })).room s m ([.ref (a 0), .int (bI x0)] : List Value).toArray below meth c H locs 0 0 (MQ below (va_Qi (fun r (u : MS) => ∃ (w0 : Nat → Int32), (r = (nI (cFr (mB (J 0) x0) A10 100))) ∧ u = (J, I, (va_up R 11 w0), RJ)) (BW D A (MWu cy a)) A) ([.ref (a 0), .int (bI x0)] : List Value).toArray s 0 0 A) (F0 m 79 ls []) := by
            intro n79
            induction n79 with
            | zero => intro q9 v4_79 m0_79 hq9 hm hc hfl2 hcl2 hn; exact absurd hn (Nat.not_lt_zero _)
            | succ n79 ih79 =>
              intro q9 v4_79 m0_79 hq9 hm hc hfl2 hcl2 hn79 H locs hP hD hS ls hl
              refine lv_iload hx hb dX10_pieces_79 (lv_at hl 5 rfl) ?_
              refine lv_bipush (v := 100) hx hb dX10_pieces_81 (by decide) ?_
              refine lv_icmp_ge (tgt := 136) hx hb dX10_pieces_83 (by decide) (fun c_1 => ?_) (fun c_1 => ?_)
              · have hie_q9 := ctr_ge (N := 100) (by decide) hq9 c_1
                refine lv_goto (tgt := 68) hx hb dX10_pieces_136 (by decide) ?_
                exact ih68 v2_68 v4_79 m0_79 hlp hfl2 hv2 (fun z => hie_q9 ▸ hcl2 z) (mz hc hn68 (by rw [hm]; rfl)) _ _ hP hD hS ls (lv_sub hl [0, 1, 2, 3, 4] rfl)
              · have hlt_q9 := ctr_lt (N := 100) (by decide) hq9 c_1
                refine lv_aload_n hx hb dX10_pieces_86 rfl (lv_at hl 0 rfl) ?_
                refine va_get (D := D) (ci := 9) (v := .ref (a 11)) (C := RX10) (T := TX10) (N := 30) hx hb hts hi10 hown hK hP 0 rfl rfl 17 (by decide) hw0 (fun _ h9 => h9) rfl dX10_pieces_87 ?_
                refine lv_iload hx hb dX10_pieces_90 (lv_at hl 5 rfl) ?_
                refine va_zald hx hb hK hP 11 2 rfl rfl (vp_in_nI hlt_q9 (by decide)) dX10_pieces_92 ?_
                refine lv_if_ne (tgt := 130) hx hb dX10_pieces_93 (by decide) (fun c_2 => ?_) (fun c_2 => ?_)
                · refine lv_iinc (v := nI (q9 + 1)) (lv' := [(5, .int (nI (q9 + 1))), (0, .ref (a 0)), (1, .int (bI x0)), (2, .int v2_68), (3, .int (nI p9)), (4, .int (bI v4_79))]) hx hb dX10_pieces_130 hl (k := 5) rfl (nI_1 _) (by decide) rfl (fun ls hl => ?_)
                  refine lv_goto (tgt := 79) hx hb dX10_pieces_133 (by decide) ?_
                  exact ih79 (q9 + 1) v4_79 m0_79 hlt_q9 hm hc hfl2 (fun z => cl_m (hcl2 z) hlt_q9 c_2) (lt_dec hlt_q9 hn79) _ _ hP hD hS ls (lv_sub hl [1, 2, 3, 4, 5, 0] rfl)
                · refine lv_aload_n hx hb dX10_pieces_96 rfl (lv_at hl 0 rfl) ?_
                  refine va_get (D := D) (ci := 9) (v := .long (J 0)) (C := RX10) (T := TX10) (N := 30) hx hb hts hi10 hown hK hP 0 rfl rfl 0 (by decide) hw1 (fun _ h9 => h9) rfl dX10_pieces_97 ?_
                  refine lv_iload hx hb dX10_pieces_100 (lv_at hl 5 rfl) ?_
                  refine lv_iload_n hx hb dX10_pieces_102 rfl (lv_at hl 1 rfl) ?_
                  refine kS_i (As := [.long (J 0), .int (nI q9), .int (bI x0)]) (rest := []) ⟨hx, hb, hml, hown, hts⟩ (c_X10_isOf l (J 0) (nI q9) x0) (va_cwS 3 hts gX10_pieces_X10_isOf rfl rfl rfl (by decide +kernel) ⟨Nat.le_of_ble_eq_true rfl, Nat.le_of_ble_eq_true rfl⟩) rfl hl.1 rfl (Nat.le_of_ble_eq_true rfl) dX10_pieces_103 ⟨Nat.le_of_ble_eq_true rfl, Nat.le_of_ble_eq_true rfl⟩ ?_
                  refine lv_if_eq (tgt := 130) hx hb dX10_pieces_106 (by decide) (fun c_3 => ?_) (fun c_3 => ?_)
                  · replace c_3 := bI_f c_3
                    refine lv_iinc (v := nI (q9 + 1)) (lv' := [(5, .int (nI (q9 + 1))), (0, .ref (a 0)), (1, .int (bI x0)), (2, .int v2_68), (3, .int (nI p9)), (4, .int (bI v4_79))]) hx hb dX10_pieces_130 hl (k := 5) rfl (nI_1 _) (by decide) rfl (fun ls hl => ?_)
                    refine lv_goto (tgt := 79) hx hb dX10_pieces_133 (by decide) ?_
                    exact ih79 (q9 + 1) v4_79 m0_79 hlt_q9 hm hc hfl2 (fun z => cl_o (hcl2 z) hlt_q9 c_3) (lt_dec hlt_q9 hn79) _ _ hP hD hS ls (lv_sub hl [1, 2, 3, 4, 5, 0] rfl)
                  · replace c_3 := bI_t c_3
                    refine lv_aload_n hx hb dX10_pieces_109 rfl (lv_at hl 0 rfl) ?_
                    refine lv_iload hx hb dX10_pieces_110 (lv_at hl 5 rfl) ?_
                    refine lv_iload_n hx hb dX10_pieces_112 rfl (lv_at hl 1 rfl) ?_
                    refine kM_i (As := [.int (nI q9), .int (bI x0)]) (rest := []) (q0 := 0) ⟨hx, hb, hml, hown, hts⟩ (x_X10_isBesideMet l D cy a _ J I (va_up R 11 m0_79) RJ q9 x0 hlt_q9 ) (cwV 2 hts gX10_pieces_X10_isBesideMet rfl rfl rfl (by decide +kernel) ⟨Nat.le_of_ble_eq_true rfl, Nat.le_of_ble_eq_true rfl⟩) hK hN hP hD hS hA rfl rfl rfl hl.1 rfl (Nat.le_of_ble_eq_true rfl) dX10_pieces_113 ⟨Nat.le_of_ble_eq_true rfl, Nat.le_of_ble_eq_true rfl⟩ (fun r_4 u H locs hw hP hD hS => ?_)
                    obtain ⟨zb_5, ⟨rfl, hp_6⟩, rfl⟩ := hw
                    have hP : va_P D vwCl (MW cy a J I (va_up R 11 m0_79) RJ) H := hP
                    have hD : va_D A (MW cy a J I (va_up R 11 m0_79) RJ) := hD
                    refine lv_if_eq (tgt := 130) hx hb dX10_pieces_116 (by decide) (fun c_7 => ?_) (fun c_7 => ?_)
                    · replace c_7 := bI_f c_7
                      refine lv_iinc (v := nI (q9 + 1)) (lv' := [(5, .int (nI (q9 + 1))), (0, .ref (a 0)), (1, .int (bI x0)), (2, .int v2_68), (3, .int (nI p9)), (4, .int (bI v4_79))]) hx hb dX10_pieces_130 hl (k := 5) rfl (nI_1 _) (by decide) rfl (fun ls hl => ?_)
                      refine lv_goto (tgt := 79) hx hb dX10_pieces_133 (by decide) ?_
                      exact ih79 (q9 + 1) v4_79 m0_79 hlt_q9 hm hc hfl2 (fun z => cl_b (hcl2 z) (hp_6.symm.trans c_7)) (lt_dec hlt_q9 hn79) _ _ hP hD hS ls (lv_sub hl [1, 2, 3, 4, 5, 0] rfl)
                    · replace c_7 := bI_t c_7
                      refine lv_aload_n hx hb dX10_pieces_119 rfl (lv_at hl 0 rfl) ?_
                      refine va_get (D := D) (ci := 9) (v := .ref (a 11)) (C := RX10) (T := TX10) (N := 30) hx hb hts hi10 hown hK hP 0 rfl rfl 17 (by decide) hw0 (fun _ h9 => h9) rfl dX10_pieces_120 ?_
                      refine lv_iload hx hb dX10_pieces_123 (lv_at hl 5 rfl) ?_
                      refine lv_iconst (v := 1) hx hb dX10_pieces_125 (by decide) ?_
                      refine va_zast hx hb hK hP hD hS 11 2 rfl rfl (vp_in_nI hlt_q9 (by decide)) dX10_pieces_126 (fun H locs hP hD hS => ?_)
                      have hP : va_P D vwCl (MW cy a J I (va_up R 11 (upd m0_79 (nI q9).toNatClampNeg (vp_nar .boolean 1))) RJ) H := hP
                      have hD : va_D A (MW cy a J I (va_up R 11 (upd m0_79 (nI q9).toNatClampNeg (vp_nar .boolean 1))) RJ) := hD
                      refine lv_iconst (v := 1) hx hb dX10_pieces_127 (by decide) ?_
                      refine lv_istore (lv' := [(4, .int 1), (0, .ref (a 0)), (1, .int (bI x0)), (2, .int v2_68), (3, .int (nI p9)), (5, .int (nI q9))]) hx hb dX10_pieces_128 hl (by decide) rfl (fun ls hl => ?_)
                      refine lv_iinc (v := nI (q9 + 1)) (lv' := [(5, .int (nI (q9 + 1))), (4, .int 1), (0, .ref (a 0)), (1, .int (bI x0)), (2, .int v2_68), (3, .int (nI p9))]) hx hb dX10_pieces_130 hl (k := 5) rfl (nI_1 _) (by decide) rfl (fun ls hl => ?_)
                      refine lv_goto (tgt := 79) hx hb dX10_pieces_133 (by decide) ?_
                      exact ih79 (q9 + 1) true (upd m0_79 (nI q9).toNatClampNeg (vp_nar .boolean 1)) hlt_q9 hm (cz_set hlt_q9 c_2 hc) (fd_s hfl2 hlt_q9 c_3 (hp_6.symm.trans c_7)) (fun z => absurd z (by decide)) (lt_dec hlt_q9 hn79) _ _ hP hD hS ls (lv_sub hl [2, 3, 4, 5, 1, 0] rfl)
          refine lv_iload hx hb dX10_pieces_68 (lv_at hl 4 rfl) ?_
          refine lv_if_eq (tgt := 139) hx hb dX10_pieces_70 (by decide) (fun c_8 => ?_) (fun c_8 => ?_)
          · replace c_8 := bI_f c_8
            refine lv_iinc (v := nI (p9 + 1)) (lv' := [(3, .int (nI (p9 + 1))), (0, .ref (a 0)), (1, .int (bI x0)), (2, .int v2_68), (4, .int (bI v4_68))]) hx hb dX10_pieces_139 hl (k := 3) rfl (nI_1 _) (by decide) rfl (fun ls hl => ?_)
            refine lv_goto (tgt := 25) hx hb dX10_pieces_142 (by decide) ?_
            exact ih25 (p9 + 1) v2_68 m0_68 hlp (fd_e hfl (hcl c_8)).1 (hv2.trans (congrArg nI (fd_e hfl (hcl c_8)).2.symm)) (lt_dec hlp hn25) _ _ hP hD hS ls (lv_sub hl [1, 2, 3, 0] rfl)
          · replace c_8 := bI_t c_8
            refine lv_iconst (v := 0) hx hb dX10_pieces_73 (by decide) ?_
            refine lv_istore (lv' := [(4, .int 0), (0, .ref (a 0)), (1, .int (bI x0)), (2, .int v2_68), (3, .int (nI p9))]) hx hb dX10_pieces_74 hl (by decide) rfl (fun ls hl => ?_)
            refine lv_iconst (v := 0) hx hb dX10_pieces_76 (by decide) ?_
            refine lv_istore (lv' := [(5, .int 0), (4, .int 0), (0, .ref (a 0)), (1, .int (bI x0)), (2, .int v2_68), (3, .int (nI p9))]) hx hb dX10_pieces_77 hl (by decide) rfl (fun ls hl => ?_)
            exact lp79 _ 0 false m0_68 (Nat.zero_le _) c_8 (Nat.le_refl _) hfl (fun _ => cl_0) (Nat.lt_succ_self _) _ _ hP hD hS ls (lv_sub hl [2, 3, 4, 5, 1, 0] rfl)
      refine lv_iload_n hx hb dX10_pieces_25 rfl (lv_at hl 3 rfl) ?_
      refine lv_bipush (v := 100) hx hb dX10_pieces_26 (by decide) ?_
      refine lv_icmp_ge (tgt := 145) hx hb dX10_pieces_28 (by decide) (fun c_9 => ?_) (fun c_9 => ?_)
      · have hie_p9 := ctr_ge (N := 100) (by decide) hp9 c_9
        refine lv_iload_n hx hb dX10_pieces_145 rfl (lv_at hl 2 rfl) ?_
        exact wret_i hx hb hr hlocks (J, I, (va_up R 11 m0_25), RJ) ⟨m0_25, (by rw [hv, hie_p9]), rfl⟩ hP hD hS dX10_pieces_146
      · have hlt_p9 := ctr_lt (N := 100) (by decide) hp9 c_9
        refine lv_aload_n hx hb dX10_pieces_31 rfl (lv_at hl 0 rfl) ?_
        refine va_get (D := D) (ci := 9) (v := .ref (a 11)) (C := RX10) (T := TX10) (N := 30) hx hb hts hi10 hown hK hP 0 rfl rfl 17 (by decide) hw0 (fun _ h9 => h9) rfl dX10_pieces_32 ?_
        refine lv_iload_n hx hb dX10_pieces_35 rfl (lv_at hl 3 rfl) ?_
        refine va_zald hx hb hK hP 11 2 rfl rfl (vp_in_nI (by omega) (by decide)) dX10_pieces_36 ?_
        refine lv_if_ne (tgt := 139) hx hb dX10_pieces_37 (by decide) (fun c_10 => ?_) (fun c_10 => ?_)
        · refine lv_iinc (v := nI (p9 + 1)) (lv' := [(3, .int (nI (p9 + 1))), (0, .ref (a 0)), (1, .int (bI x0)), (2, .int v2_25)]) hx hb dX10_pieces_139 hl (k := 3) rfl (nI_1 _) (by decide) rfl (fun ls hl => ?_)
          refine lv_goto (tgt := 25) hx hb dX10_pieces_142 (by decide) ?_
          exact ih25 (p9 + 1) v2_25 m0_25 hlt_p9 (sc_m hsc hlt_p9 c_10).1 (hv.trans (congrArg nI (sc_m hsc hlt_p9 c_10).2.symm)) (lt_dec hlt_p9 hn25) _ _ hP hD hS ls (lv_sub hl [1, 2, 3, 0] rfl)
        · refine lv_aload_n hx hb dX10_pieces_40 rfl (lv_at hl 0 rfl) ?_
          refine va_get (D := D) (ci := 9) (v := .long (J 0)) (C := RX10) (T := TX10) (N := 30) hx hb hts hi10 hown hK hP 0 rfl rfl 0 (by decide) hw1 (fun _ h9 => h9) rfl dX10_pieces_41 ?_
          refine lv_iload_n hx hb dX10_pieces_44 rfl (lv_at hl 3 rfl) ?_
          refine lv_iload_n hx hb dX10_pieces_45 rfl (lv_at hl 1 rfl) ?_
          refine kS_i (As := [.long (J 0), .int (nI p9), .int (bI x0)]) (rest := []) ⟨hx, hb, hml, hown, hts⟩ (c_X10_isOf l (J 0) (nI p9) x0) (va_cwS 3 hts gX10_pieces_X10_isOf rfl rfl rfl (by decide +kernel) ⟨Nat.le_of_ble_eq_true rfl, Nat.le_of_ble_eq_true rfl⟩) rfl hl.1 rfl (Nat.le_of_ble_eq_true rfl) dX10_pieces_46 ⟨Nat.le_of_ble_eq_true rfl, Nat.le_of_ble_eq_true rfl⟩ ?_
          refine lv_if_ne (tgt := 55) hx hb dX10_pieces_49 (by decide) (fun c_11 => ?_) (fun c_11 => ?_)
          · replace c_11 := bI_t c_11
            refine lv_iinc (v := v2_25 + 1) (lv' := [(2, .int (v2_25 + 1)), (0, .ref (a 0)), (1, .int (bI x0)), (3, .int (nI p9))]) hx hb dX10_pieces_55 hl (k := 2) rfl rfl (by decide) rfl (fun ls hl => ?_)
            refine lv_aload_n hx hb dX10_pieces_58 rfl (lv_at hl 1 rfl) ?_
            refine va_get (D := D) (ci := 9) (v := .ref (a 11)) (C := RX10) (T := TX10) (N := 30) hx hb hts hi10 hown hK hP 0 rfl rfl 17 (by decide) hw0 (fun _ h9 => h9) rfl dX10_pieces_59 ?_
            refine lv_iload_n hx hb dX10_pieces_62 rfl (lv_at hl 3 rfl) ?_
            refine lv_iconst (v := 1) hx hb dX10_pieces_63 (by decide) ?_
            refine va_zast hx hb hK hP hD hS 11 2 rfl rfl (vp_in_nI (by omega) (by decide)) dX10_pieces_64 (fun H locs hP hD hS => ?_)
            have hP : va_P D vwCl (MW cy a J I (va_up R 11 (upd m0_25 (nI p9).toNatClampNeg (vp_nar .boolean 1))) RJ) H := hP
            have hD : va_D A (MW cy a J I (va_up R 11 (upd m0_25 (nI p9).toNatClampNeg (vp_nar .boolean 1))) RJ) := hD
            refine lv_iconst (v := 1) hx hb dX10_pieces_65 (by decide) ?_
            refine lv_istore (lv' := [(4, .int 1), (2, .int (v2_25 + 1)), (0, .ref (a 0)), (1, .int (bI x0)), (3, .int (nI p9))]) hx hb dX10_pieces_66 hl (by decide) rfl (fun ls hl => ?_)
            exact lp68 _ (v2_25 + 1) true (upd m0_25 (nI p9).toNatClampNeg (vp_nar .boolean 1)) hlt_p9 (fd_0 hsc hlt_p9 c_11 c_10) (by rw [hv, nI_1]) (fun z => absurd z (by decide)) (Nat.lt_succ_self _) _ _ hP hD hS ls (lv_sub hl [2, 3, 1, 4, 0] rfl)
          · replace c_11 := bI_f c_11
            refine lv_goto (tgt := 139) hx hb dX10_pieces_52 (by decide) ?_
            refine lv_iinc (v := nI (p9 + 1)) (lv' := [(3, .int (nI (p9 + 1))), (0, .ref (a 0)), (1, .int (bI x0)), (2, .int v2_25)]) hx hb dX10_pieces_139 hl (k := 3) rfl (nI_1 _) (by decide) rfl (fun ls hl => ?_)
            refine lv_goto (tgt := 25) hx hb dX10_pieces_142 (by decide) ?_
            exact ih25 (p9 + 1) v2_25 m0_25 hlt_p9 (sc_o hsc hlt_p9 c_11).1 (hv.trans (congrArg nI (sc_o hsc hlt_p9 c_11).2.symm)) (lt_dec hlt_p9 hn25) _ _ hP hD hS ls (lv_sub hl [1, 2, 3, 0] rfl)
  have lp4 : ∀ (n4 : Nat), ∀ (i : Nat) (m0_4 : Nat → Int32), (i ≤ 100) → (∀ j, j < i → m0_4 j = 0) → (100 - i) < n4 → ∀ (H : Heap) (locs : List Loc), va_P D vwCl (MW cy a J I (va_up R 11 m0_4) RJ) H → va_D A (MW cy a J I (va_up R 11 m0_4) RJ) → va_S A s.heap H locs → ∀ (ls : Array Slot), lv_has ls 6 [(0, .ref (a 0)), (1, .int (bI x0)), (2, .int 0), (3, .int (nI i))] → W p l e (headSpec wsX10_pieces ({ frames := 4, cells := 0, slots := 0, locals := 91 })).room s m ([.ref (a 0), .int (bI x0)] : List Value).toArray below meth c H locs 0 0 (MQ below (va_Qi (fun r (u : MS) => ∃ (w0 : Nat → Int32), (r = (nI (cFr (mB (J 0) x0) A10 100))) ∧ u = (J, I, (va_up R 11 w0), RJ)) (BW D A (MWu cy a)) A) ([.ref (a 0), .int (bI x0)] : List Value).toArray s 0 0 A) (F0 m 4 ls []) := by
    intro n4
    induction n4 with
    | zero => intro i m0_4 hi hz hn; exact absurd hn (Nat.not_lt_zero _)
    | succ n4 ih4 =>
      intro i m0_4 hi hz hn4 H locs hP hD hS ls hl
      refine lv_iload_n hx hb dX10_pieces_4 rfl (lv_at hl 3 rfl) ?_
      refine lv_bipush (v := 100) hx hb dX10_pieces_5 (by decide) ?_
      refine lv_icmp_ge (tgt := 23) hx hb dX10_pieces_7 (by decide) (fun c_12 => ?_) (fun c_12 => ?_)
      · have hie_i := ctr_ge (N := 100) (by decide) hi c_12
        refine lv_iconst (v := 0) hx hb dX10_pieces_23 (by decide) ?_
        refine lv_istore_n (lv' := [(3, .int 0), (0, .ref (a 0)), (1, .int (bI x0)), (2, .int 0)]) hx hb dX10_pieces_24 rfl hl (by decide) rfl (fun ls hl => ?_)
        exact lp25 _ 0 (0 : Int32) m0_4 (by omega) (ze_e hie_i hz) rfl (Nat.lt_succ_self _) _ _ hP hD hS ls (lv_sub hl [1, 2, 3, 0] rfl)
      · have hlt_i := ctr_lt (N := 100) (by decide) hi c_12
        refine lv_aload_n hx hb dX10_pieces_10 rfl (lv_at hl 0 rfl) ?_
        refine va_get (D := D) (ci := 9) (v := .ref (a 11)) (C := RX10) (T := TX10) (N := 30) hx hb hts hi10 hown hK hP 0 rfl rfl 17 (by decide) hw0 (fun _ h9 => h9) rfl dX10_pieces_11 ?_
        refine lv_iload_n hx hb dX10_pieces_14 rfl (lv_at hl 3 rfl) ?_
        refine lv_iconst (v := 0) hx hb dX10_pieces_15 (by decide) ?_
        refine va_zast hx hb hK hP hD hS 11 2 rfl rfl (vp_in_nI (by omega) (by decide)) dX10_pieces_16 (fun H locs hP hD hS => ?_)
        have hP : va_P D vwCl (MW cy a J I (va_up R 11 (upd m0_4 (nI i).toNatClampNeg (vp_nar .boolean 0))) RJ) H := hP
        have hD : va_D A (MW cy a J I (va_up R 11 (upd m0_4 (nI i).toNatClampNeg (vp_nar .boolean 0))) RJ) := hD
        refine lv_iinc (v := nI (i + 1)) (lv' := [(3, .int (nI (i + 1))), (0, .ref (a 0)), (1, .int (bI x0)), (2, .int 0)]) hx hb dX10_pieces_17 hl (k := 3) rfl (nI_1 _) (by decide) rfl (fun ls hl => ?_)
        refine lv_goto (tgt := 4) hx hb dX10_pieces_20 (by decide) ?_
        exact ih4 (i + 1) (upd m0_4 (nI i).toNatClampNeg (vp_nar .boolean 0)) (by omega) (ze_s hlt_i hz) (by omega) _ _ hP hD hS ls (lv_sub hl [1, 2, 3, 0] rfl)
  refine lv_iconst (v := 0) hx hb dX10_pieces_0 (by decide) ?_
  refine lv_istore_n (lv' := [(2, .int 0), (0, .ref (a 0)), (1, .int (bI x0))]) hx hb dX10_pieces_1 rfl hl (by decide) rfl (fun ls hl => ?_)
  refine lv_iconst (v := 0) hx hb dX10_pieces_2 (by decide) ?_
  refine lv_istore_n (lv' := [(3, .int 0), (2, .int 0), (0, .ref (a 0)), (1, .int (bI x0))]) hx hb dX10_pieces_3 rfl hl (by decide) rfl (fun ls hl => ?_)
  exact lp4 _ 0 (R 11) (by omega) (fun j h => absurd h (Nat.not_lt_zero _)) (Nat.lt_succ_self _) _ _ hP hD hS ls (lv_sub hl [2, 3, 1, 0] rfl)
set_option maxHeartbeats 4000000 in
set_option maxRecDepth 100000 in
theorem x_X10_gluedMany (l : Launch) (D : va_G) (cy : Nat → ClassId) (a : Nat → Nat) (sz : Nat) (J : Nat → Int64) (I : Nat → Int32) (R : Nat → Nat → Int32) (RJ : Nat → Nat → Int64)  (fl : Int64) (S : List Int32) (P : List PE) (hRA : RMf (J 0) (I 1) (I 12) (R 1) (R 3) (R 4) (RJ 2) fl S P) (hM : MI I R) : Met l yX10_gluedMany wsX10_gluedMany ({ frames := 2, cells := 0, slots := 0, locals := 42 }) (va_Pc [.ref (a 0)] (PW D cy sz (MW cy a J I R RJ))) (va_Qi (fun r (u : MS) => ((r = 0 ↔ S.any m_isG = false)) ∧ u = (J, I, R, RJ)) (BW D (va_A (MW cy a J I R RJ) sz) (MWu cy a)) (va_A (MW cy a J I R RJ) sz)) 0 0 (va_A (MW cy a J I R RJ) sz) := by
  refine Met.ofW (cc := cX10_gluedMany) (maxL := 3) (ret := (some .int)) (by decide) rfl ?_
  intro p e s m args below meth c s₁ B hml hv
  obtain ⟨rfl, rfl, hP, hK, hN, hD0⟩ := hv
  have hx := B.exec
  have hb := B.bytes
  have hr := B.returns
  have hts := atoms_spec (ws := wsX10_gluedMany) B.pre
  have hown : s.vm.findClass RX10 = some m.cls := findClass_of_methodNamed B.named
  have hlocks := B.notSynchronized
  have hw0 := hts (.fieldLink RX10 85 "ParquetLayerModel" "stones" "I") (by decide +kernel)
  have hi10 := ihX10_gluedMany_10
  have hD := hD0.self (sz := s.heap.size)
  generalize hAe : va_A (MW cy a J I R RJ) s.heap.size = A at hD ⊢
  have hA : ∀ q : Nat, s.heap.size ≤ q → A q := fun q h => by rw [← hAe]; exact Or.inr h
  have hS : va_S A s.heap s.heap [] := va_S.rf
  have hl := lv_entry ([.ref (a 0)]) (n := 3) (Nat.le_of_ble_eq_true rfl)
  rw [lg_entry_eq]
  generalize (lg_sl ([.ref (a 0)]) ++ List.replicate (3 - (lg_sl ([.ref (a 0)])).length) Slot.unset).toArray = ls at hl ⊢
  have hl : lv_has ls 3 [(0, .ref (a 0))] := hl
  obtain ⟨ns, hns, hI1, hSe⟩ := hRA.2.1
  have lp4 : ∀ (n4 : Nat), ∀ (i : Nat) (v1_4 : Int32), (i ≤ ns) → (v1_4 = nI (gCt (R 1) i)) → (ns - i) < n4 → ∀ (H : Heap) (locs : List Loc), va_P D vwCl (MW cy a J I R RJ) H → va_D A (MW cy a J I R RJ) → va_S A s.heap H locs → ∀ (ls : Array Slot), lv_has ls 3 [(0, .ref (a 0)), (1, .int v1_4), (2, .int (nI i))] → W p l e (headSpec wsX10_gluedMany ({ frames := 2, cells := 0, slots := 0, locals := 42 })).room s m ([.ref (a 0)] : List Value).toArray below meth c H locs 0 0 (MQ below (va_Qi (fun r (u : MS) => ((r = 0 ↔ S.any m_isG = false)) ∧ u = (J, I, R, RJ)) (BW D A (MWu cy a)) A) ([.ref (a 0)] : List Value).toArray s 0 0 A) (F0 m 4 ls []) := by
    intro n4
    induction n4 with
    | zero => intro i v1_4 hi hgc hn; exact absurd hn (Nat.not_lt_zero _)
    | succ n4 ih4 =>
      intro i v1_4 hi hgc hn4 H locs hP hD hS ls hl
      refine lv_iload_n hx hb dX10_gluedMany_4 rfl (lv_at hl 2 rfl) ?_
      refine lv_aload_n hx hb dX10_gluedMany_5 rfl (lv_at hl 0 rfl) ?_
      refine va_get (D := D) (ci := 9) (v := .int (I 1)) (C := RX10) (T := TX10) (N := 30) hx hb hts hi10 hown hK hP 0 rfl rfl 1 (by decide) hw0 (fun _ h9 => h9) rfl dX10_gluedMany_6 ?_
      refine lv_icmp_ge (tgt := 34) hx hb dX10_gluedMany_9 (by decide) (fun c_1 => ?_) (fun c_1 => ?_)
      · have hie := ctr_ge (N := ns) (by omega) hi (by rw [← hI1]; exact c_1)
        refine lv_iload_n hx hb dX10_gluedMany_34 rfl (lv_at hl 1 rfl) ?_
        exact wret_i hx hb hr hlocks (J, I, R, RJ) ⟨(gCt_e hgc hie hns hSe), rfl⟩ hP hD hS dX10_gluedMany_35
      · have hlt := ctr_lt (N := ns) (by omega) hi (by rw [← hI1]; exact c_1)
        refine lv_iload_n hx hb dX10_gluedMany_12 rfl (lv_at hl 1 rfl) ?_
        refine lv_aload_n hx hb dX10_gluedMany_13 rfl (lv_at hl 0 rfl) ?_
        refine lv_iload_n hx hb dX10_gluedMany_14 rfl (lv_at hl 2 rfl) ?_
        refine kR_i (As := [.int (nI i)]) (rest := [.int v1_4]) (q0 := 0) ⟨hx, hb, hml, hown, hts⟩ (c_X10_isGlued l D cy a _ J I R RJ (nI i) (vp_in_nI (by omega) (by decide))) (cwV 1 hts gX10_gluedMany_X10_isGlued rfl rfl rfl (by decide +kernel) ⟨Nat.le_of_ble_eq_true rfl, Nat.le_of_ble_eq_true rfl⟩) hK hN hP hD rfl rfl rfl hl.1 rfl (Nat.le_of_ble_eq_true rfl) dX10_gluedMany_15 ⟨Nat.le_of_ble_eq_true rfl, Nat.le_of_ble_eq_true rfl⟩ ?_
        refine lv_if_eq (tgt := 25) hx hb dX10_gluedMany_18 (by decide) (fun c_2 => ?_) (fun c_2 => ?_)
        · replace c_2 := bI_f c_2
          refine lv_iconst (v := 0) hx hb dX10_gluedMany_25 (by decide) ?_
          refine lv_iadd hx hb dX10_gluedMany_26 ?_
          refine lv_istore_n (lv' := [(1, .int (v1_4 + 0)), (0, .ref (a 0)), (2, .int (nI i))]) hx hb dX10_gluedMany_27 rfl hl (by decide) rfl (fun ls hl => ?_)
          refine lv_iinc (v := nI (i + 1)) (lv' := [(2, .int (nI (i + 1))), (1, .int (v1_4 + 0)), (0, .ref (a 0))]) hx hb dX10_gluedMany_28 hl (k := 2) rfl (nI_1 _) (by decide) rfl (fun ls hl => ?_)
          refine lv_goto (tgt := 4) hx hb dX10_gluedMany_31 (by decide) ?_
          exact ih4 (i + 1) (v1_4 + 0) (by omega) (gCt_f (by omega) hgc c_2) (by omega) _ _ hP hD hS ls (lv_sub hl [2, 1, 0] rfl)
        · replace c_2 := bI_t c_2
          refine lv_iconst (v := 1) hx hb dX10_gluedMany_21 (by decide) ?_
          refine lv_goto (tgt := 26) hx hb dX10_gluedMany_22 (by decide) ?_
          refine lv_iadd hx hb dX10_gluedMany_26 ?_
          refine lv_istore_n (lv' := [(1, .int (v1_4 + 1)), (0, .ref (a 0)), (2, .int (nI i))]) hx hb dX10_gluedMany_27 rfl hl (by decide) rfl (fun ls hl => ?_)
          refine lv_iinc (v := nI (i + 1)) (lv' := [(2, .int (nI (i + 1))), (1, .int (v1_4 + 1)), (0, .ref (a 0))]) hx hb dX10_gluedMany_28 hl (k := 2) rfl (nI_1 _) (by decide) rfl (fun ls hl => ?_)
          refine lv_goto (tgt := 4) hx hb dX10_gluedMany_31 (by decide) ?_
          exact ih4 (i + 1) (v1_4 + 1) (by omega) (gCt_t (by omega) hgc c_2) (by omega) _ _ hP hD hS ls (lv_sub hl [2, 1, 0] rfl)
  refine lv_iconst (v := 0) hx hb dX10_gluedMany_0 (by decide) ?_
  refine lv_istore_n (lv' := [(1, .int 0), (0, .ref (a 0))]) hx hb dX10_gluedMany_1 rfl hl (by decide) rfl (fun ls hl => ?_)
  refine lv_iconst (v := 0) hx hb dX10_gluedMany_2 (by decide) ?_
  refine lv_istore_n (lv' := [(2, .int 0), (1, .int 0), (0, .ref (a 0))]) hx hb dX10_gluedMany_3 rfl hl (by decide) rfl (fun ls hl => ?_)
  exact lp4 _ 0 (0 : Int32) (by omega) rfl (Nat.lt_succ_self _) _ _ hP hD hS ls (lv_sub hl [2, 1, 0] rfl)
set_option maxHeartbeats 4000000 in
set_option maxRecDepth 100000 in
theorem x_X10_isWhole (l : Launch) (D : va_G) (cy : Nat → ClassId) (a : Nat → Nat) (sz : Nat) (J : Nat → Int64) (I : Nat → Int32) (R : Nat → Nat → Int32) (RJ : Nat → Nat → Int64)  (fl : Int64) (S : List Int32) (P : List PE) (hRA : RMf (J 0) (I 1) (I 12) (R 1) (R 3) (R 4) (RJ 2) fl S P) (hM : MI I R) : Met l yX10_isWhole wsX10_isWhole ({ frames := 5, cells := 0, slots := 0, locals := 116 }) (va_Pc [.ref (a 0)] (PW D cy sz (MW cy a J I R RJ))) (va_Qi (fun r (u : MS) => ∃ (w0 : Nat → Int32), ∃ (b : Bool), (r = bI b ∧ (b = aWh fl S)) ∧ u = (J, I, (va_up R 11 w0), RJ)) (BW D (va_A (MW cy a J I R RJ) sz) (MWu cy a)) (va_A (MW cy a J I R RJ) sz)) 0 0 (va_A (MW cy a J I R RJ) sz) := by
  refine Met.ofW (cc := cX10_isWhole) (maxL := 1) (ret := (some .boolean)) (by decide) rfl ?_
  intro p e s m args below meth c s₁ B hml hv
  obtain ⟨rfl, rfl, hP, hK, hN, hD0⟩ := hv
  have hx := B.exec
  have hb := B.bytes
  have hr := B.returns
  have hts := atoms_spec (ws := wsX10_isWhole) B.pre
  have hown : s.vm.findClass RX10 = some m.cls := findClass_of_methodNamed B.named
  have hlocks := B.notSynchronized
  have hw0 := hts (.fieldLink RX10 81 "ParquetLayerModel" "floor" "J") (by decide +kernel)
  have hi10 := ihX10_isWhole_10
  have hD := hD0.self (sz := s.heap.size)
  generalize hAe : va_A (MW cy a J I R RJ) s.heap.size = A at hD ⊢
  have hA : ∀ q : Nat, s.heap.size ≤ q → A q := fun q h => by rw [← hAe]; exact Or.inr h
  have hS : va_S A s.heap s.heap [] := va_S.rf
  have hl := lv_entry ([.ref (a 0)]) (n := 1) (Nat.le_of_ble_eq_true rfl)
  rw [lg_entry_eq]
  generalize (lg_sl ([.ref (a 0)]) ++ List.replicate (1 - (lg_sl ([.ref (a 0)])).length) Slot.unset).toArray = ls at hl ⊢
  have hl : lv_has ls 1 [(0, .ref (a 0))] := hl
  have hP : va_P D vwCl (MW cy a J I (va_up R 11 (R 11)) RJ) s.heap := hP
  have hD : va_D A (MW cy a J I (va_up R 11 (R 11)) RJ) := hD
  refine lv_aload_n hx hb dX10_isWhole_0 rfl (lv_at hl 0 rfl) ?_
  refine va_get (D := D) (ci := 9) (v := .long (J 0)) (C := RX10) (T := TX10) (N := 30) hx hb hts hi10 hown hK hP 0 rfl rfl 0 (by decide) hw0 (fun _ h9 => h9) rfl dX10_isWhole_1 ?_
  refine lv_lconst (v := 0) hx hb dX10_isWhole_4 (by decide) ?_
  refine W.lcmp hx hb dX10_isWhole_5 ?_
  refine lv_if_eq (tgt := 38) hx hb dX10_isWhole_6 (by decide) (fun c_1 => ?_) (fun c_1 => ?_)
  · replace c_1 := (lg_cmp_eq _ _).mp c_1
    refine lv_iconst (v := 0) hx hb dX10_isWhole_38 (by decide) ?_
    exact wret_z hx hb hr hlocks rfl (J, I, (va_up R 11 (R 11)), RJ) ⟨(R 11), false, ⟨rfl, (wm_0 (by rw [← hRA.1]; exact c_1))⟩, rfl⟩ hP hD hS dX10_isWhole_39
  · replace c_1 := fun z => c_1 ((lg_cmp_eq _ _).mpr z)
    refine lv_aload_n hx hb dX10_isWhole_9 rfl (lv_at hl 0 rfl) ?_
    refine kM_i (As := []) (rest := []) (q0 := 0) ⟨hx, hb, hml, hown, hts⟩ (x_X10_gluedMany l D cy a _ J I (va_up R 11 (R 11)) RJ  fl S P hRA ⟨hM.1, hM.2.1, hM.2.2.1, hM.2.2.2.1, hM.2.2.2.2.1, hM.2.2.2.2.2⟩) (cwV 0 hts gX10_isWhole_X10_gluedMany rfl rfl rfl (by decide +kernel) ⟨Nat.le_of_ble_eq_true rfl, Nat.le_of_ble_eq_true rfl⟩) hK hN hP hD hS hA rfl rfl rfl hl.1 rfl (Nat.le_of_ble_eq_true rfl) dX10_isWhole_10 ⟨Nat.le_of_ble_eq_true rfl, Nat.le_of_ble_eq_true rfl⟩ (fun r_2 u H locs hw hP hD hS => ?_)
    obtain ⟨hp_3, rfl⟩ := hw
    have hP : va_P D vwCl (MW cy a J I (va_up R 11 (R 11)) RJ) H := hP
    have hD : va_D A (MW cy a J I (va_up R 11 (R 11)) RJ) := hD
    refine lv_if_ne (tgt := 38) hx hb dX10_isWhole_13 (by decide) (fun c_4 => ?_) (fun c_4 => ?_)
    · refine lv_iconst (v := 0) hx hb dX10_isWhole_38 (by decide) ?_
      exact wret_z hx hb hr hlocks rfl (J, I, (va_up R 11 (R 11)), RJ) ⟨(R 11), false, ⟨rfl, (wm_1 hp_3 c_4)⟩, rfl⟩ hP hD hS dX10_isWhole_39
    · refine lv_aload_n hx hb dX10_isWhole_16 rfl (lv_at hl 0 rfl) ?_
      refine lv_iconst (v := 1) hx hb dX10_isWhole_17 (by decide) ?_
      refine kM_i (As := [.int 1]) (rest := []) (q0 := 0) ⟨hx, hb, hml, hown, hts⟩ (x_X10_pieces l D cy a _ J I (va_up R 11 (R 11)) RJ true  ) (cwV 1 hts gX10_isWhole_X10_pieces rfl rfl rfl (by decide +kernel) ⟨Nat.le_of_ble_eq_true rfl, Nat.le_of_ble_eq_true rfl⟩) hK hN hP hD hS hA rfl rfl rfl hl.1 rfl (Nat.le_of_ble_eq_true rfl) dX10_isWhole_18 ⟨Nat.le_of_ble_eq_true rfl, Nat.le_of_ble_eq_true rfl⟩ (fun r_5 u H locs hw hP hD hS => ?_)
      obtain ⟨w_6, rfl, rfl⟩ := hw
      have hP : va_P D vwCl (MW cy a J I (va_up R 11 w_6) RJ) H := hP
      have hD : va_D A (MW cy a J I (va_up R 11 w_6) RJ) := hD
      refine lv_iconst (v := 1) hx hb dX10_isWhole_21 (by decide) ?_
      refine lv_icmp_ne (tgt := 38) hx hb dX10_isWhole_22 (by decide) (fun c_7 => ?_) (fun c_7 => ?_)
      · refine lv_iconst (v := 0) hx hb dX10_isWhole_38 (by decide) ?_
        exact wret_z hx hb hr hlocks rfl (J, I, (va_up R 11 w_6), RJ) ⟨w_6, false, ⟨rfl, (wm_2 (by rw [← hRA.1]; exact c_7))⟩, rfl⟩ hP hD hS dX10_isWhole_39
      · refine lv_aload_n hx hb dX10_isWhole_25 rfl (lv_at hl 0 rfl) ?_
        refine lv_iconst (v := 0) hx hb dX10_isWhole_26 (by decide) ?_
        refine kM_i (As := [.int 0]) (rest := []) (q0 := 0) ⟨hx, hb, hml, hown, hts⟩ (x_X10_pieces l D cy a _ J I (va_up R 11 w_6) RJ false  ) (cwV 1 hts gX10_isWhole_X10_pieces rfl rfl rfl (by decide +kernel) ⟨Nat.le_of_ble_eq_true rfl, Nat.le_of_ble_eq_true rfl⟩) hK hN hP hD hS hA rfl rfl rfl hl.1 rfl (Nat.le_of_ble_eq_true rfl) dX10_isWhole_27 ⟨Nat.le_of_ble_eq_true rfl, Nat.le_of_ble_eq_true rfl⟩ (fun r_8 u H locs hw hP hD hS => ?_)
        obtain ⟨w_9, rfl, rfl⟩ := hw
        have hP : va_P D vwCl (MW cy a J I (va_up R 11 w_9) RJ) H := hP
        have hD : va_D A (MW cy a J I (va_up R 11 w_9) RJ) := hD
        refine lv_iconst (v := 1) hx hb dX10_isWhole_30 (by decide) ?_
        refine lv_icmp_ne (tgt := 38) hx hb dX10_isWhole_31 (by decide) (fun c_10 => ?_) (fun c_10 => ?_)
        · refine lv_iconst (v := 0) hx hb dX10_isWhole_38 (by decide) ?_
          exact wret_z hx hb hr hlocks rfl (J, I, (va_up R 11 w_9), RJ) ⟨w_9, false, ⟨rfl, (wm_3 (by rw [← hRA.1]; exact c_10))⟩, rfl⟩ hP hD hS dX10_isWhole_39
        · refine lv_iconst (v := 1) hx hb dX10_isWhole_34 (by decide) ?_
          refine lv_goto (tgt := 39) hx hb dX10_isWhole_35 (by decide) ?_
          exact wret_z hx hb hr hlocks rfl (J, I, (va_up R 11 w_9), RJ) ⟨w_9, true, ⟨rfl, (wm_4 hp_3 c_4 (by rw [← hRA.1]; exact c_7) (by rw [← hRA.1]; exact c_10))⟩, rfl⟩ hP hD hS dX10_isWhole_39
set_option maxHeartbeats 4000000 in
set_option maxRecDepth 100000 in
theorem x_X10_floor (l : Launch) (D : va_G) (cy : Nat → ClassId) (a : Nat → Nat) (sz : Nat) (J : Nat → Int64) (I : Nat → Int32) (R : Nat → Nat → Int32) (RJ : Nat → Nat → Int64) (x0 : Int32) (fl : Int64) (S : List Int32) (P : List PE) (hRA : RMf (J 0) (I 1) (I 12) (R 1) (R 3) (R 4) (RJ 2) fl S P) (hM : MI I R) : Met l yX10_floor wsX10_floor ({ frames := 6, cells := 0, slots := 0, locals := 136 }) (va_Pc [.ref (a 0), .int x0] (PW D cy sz (MW cy a J I R RJ))) (va_Qi (fun r (u : MS) => ∃ (w0 : Int32), ∃ (w1 : Nat → Int32), (r = (aFlo fl S x0)) ∧ u = (J, (va_up I 13 w0), (va_up R 11 w1), RJ)) (BW D (va_A (MW cy a J I R RJ) sz) (MWu cy a)) (va_A (MW cy a J I R RJ) sz)) 0 0 (va_A (MW cy a J I R RJ) sz) := by
  refine Met.ofW (cc := cX10_floor) (maxL := 4) (ret := (some .int)) (by decide) rfl ?_
  intro p e s m args below meth c s₁ B hml hv
  obtain ⟨rfl, rfl, hP, hK, hN, hD0⟩ := hv
  have hx := B.exec
  have hb := B.bytes
  have hr := B.returns
  have hts := atoms_spec (ws := wsX10_floor) B.pre
  have hown : s.vm.findClass RX10 = some m.cls := findClass_of_methodNamed B.named
  have hlocks := B.notSynchronized
  have hw0 := hts (.fieldLink RX10 81 "ParquetLayerModel" "floor" "J") (by decide +kernel)
  have hw1 := hts (.constant RX10 141 (-100001)) (by decide +kernel)
  have hi10 := ihX10_floor_10
  have hD := hD0.self (sz := s.heap.size)
  generalize hAe : va_A (MW cy a J I R RJ) s.heap.size = A at hD ⊢
  have hA : ∀ q : Nat, s.heap.size ≤ q → A q := fun q h => by rw [← hAe]; exact Or.inr h
  have hS : va_S A s.heap s.heap [] := va_S.rf
  have hl := lv_entry ([.ref (a 0), .int x0]) (n := 4) (Nat.le_of_ble_eq_true rfl)
  rw [lg_entry_eq]
  generalize (lg_sl ([.ref (a 0), .int x0]) ++ List.replicate (4 - (lg_sl ([.ref (a 0), .int x0])).length) Slot.unset).toArray = ls at hl ⊢
  have hl : lv_has ls 4 [(0, .ref (a 0)), (1, .int x0)] := hl
  have hP : va_P D vwCl (MW cy a J (va_up I 13 (I 13)) (va_up R 11 (R 11)) RJ) s.heap := hP
  have hD : va_D A (MW cy a J (va_up I 13 (I 13)) (va_up R 11 (R 11)) RJ) := hD
  have lp20 : ∀ (n20 : Nat), ∀ (i : Nat) (v2_20 : Int32) (m0_20 : Int32) (m1_20 : Nat → Int32), (i ≤ 64) → (m_within x0 0 3 = true) → (v2_20 = nI (m_cnt (J 0 &&& DK) i)) → (64 - i) < n20 → ∀ (H : Heap) (locs : List Loc), va_P D vwCl (MW cy a J (va_up I 13 m0_20) (va_up R 11 m1_20) RJ) H → va_D A (MW cy a J (va_up I 13 m0_20) (va_up R 11 m1_20) RJ) → va_S A s.heap H locs → ∀ (ls : Array Slot), lv_has ls 4 [(0, .ref (a 0)), (1, .int x0), (2, .int v2_20), (3, .int (nI i))] → W p l e (headSpec wsX10_floor ({ frames := 6, cells := 0, slots := 0, locals := 136 })).room s m ([.ref (a 0), .int x0] : List Value).toArray below meth c H locs 0 0 (MQ below (va_Qi (fun r (u : MS) => ∃ (w0 : Int32), ∃ (w1 : Nat → Int32), (r = (aFlo fl S x0)) ∧ u = (J, (va_up I 13 w0), (va_up R 11 w1), RJ)) (BW D A (MWu cy a)) A) ([.ref (a 0), .int x0] : List Value).toArray s 0 0 A) (F0 m 20 ls []) := by
    intro n20
    induction n20 with
    | zero => intro i v2_20 m0_20 m1_20 hi hwi hd hn; exact absurd hn (Nat.not_lt_zero _)
    | succ n20 ih20 =>
      intro i v2_20 m0_20 m1_20 hi hwi hd hn20 H locs hP hD hS ls hl
      refine lv_iload_n hx hb dX10_floor_20 rfl (lv_at hl 3 rfl) ?_
      refine lv_bipush (v := 64) hx hb dX10_floor_21 (by decide) ?_
      refine lv_icmp_ge (tgt := 65) hx hb dX10_floor_23 (by decide) (fun c_1 => ?_) (fun c_1 => ?_)
      · have hie_i := ctr_ge (N := 64) (by decide) hi c_1
        refine lv_iload_n hx hb dX10_floor_65 rfl (lv_at hl 1 rfl) ?_
        refine lv_if_ne (tgt := 79) hx hb dX10_floor_66 (by decide) (fun c_2 => ?_) (fun c_2 => ?_)
        · refine lv_iload_n hx hb dX10_floor_79 rfl (lv_at hl 1 rfl) ?_
          refine lv_iconst (v := 1) hx hb dX10_floor_80 (by decide) ?_
          refine lv_icmp_ne (tgt := 88) hx hb dX10_floor_81 (by decide) (fun c_3 => ?_) (fun c_3 => ?_)
          · refine lv_iload_n hx hb dX10_floor_88 rfl (lv_at hl 1 rfl) ?_
            refine lv_iconst (v := 2) hx hb dX10_floor_89 (by decide) ?_
            refine lv_icmp_ne (tgt := 101) hx hb dX10_floor_90 (by decide) (fun c_4 => ?_) (fun c_4 => ?_)
            · refine lv_aload_n hx hb dX10_floor_101 rfl (lv_at hl 0 rfl) ?_
              refine kM_i (As := []) (rest := []) (q0 := 0) ⟨hx, hb, hml, hown, hts⟩ (x_X10_isWhole l D cy a _ J (va_up I 13 m0_20) (va_up R 11 m1_20) RJ  fl S P hRA ⟨hM.1, hM.2.1, hM.2.2.1, hM.2.2.2.1, hM.2.2.2.2.1, hM.2.2.2.2.2⟩) (cwV 0 hts gX10_floor_X10_isWhole rfl rfl rfl (by decide +kernel) ⟨Nat.le_of_ble_eq_true rfl, Nat.le_of_ble_eq_true rfl⟩) hK hN hP hD hS hA rfl rfl rfl hl.1 rfl (Nat.le_of_ble_eq_true rfl) dX10_floor_102 ⟨Nat.le_of_ble_eq_true rfl, Nat.le_of_ble_eq_true rfl⟩ (fun r_5 u H locs hw hP hD hS => ?_)
              obtain ⟨w_6, zb_7, ⟨rfl, hp_8⟩, rfl⟩ := hw
              have hP : va_P D vwCl (MW cy a J (va_up I 13 m0_20) (va_up R 11 w_6) RJ) H := hP
              have hD : va_D A (MW cy a J (va_up I 13 m0_20) (va_up R 11 w_6) RJ) := hD
              refine lv_if_eq (tgt := 112) hx hb dX10_floor_105 (by decide) (fun c_9 => ?_) (fun c_9 => ?_)
              · replace c_9 := bI_f c_9
                refine lv_iconst (v := 0) hx hb dX10_floor_112 (by decide) ?_
                exact wret_i hx hb hr hlocks (J, (va_up I 13 m0_20), (va_up R 11 w_6), RJ) ⟨m0_20, w_6, (fo_3 hwi c_2 c_3 c_4 (by rw [← hp_8, c_9]; rfl)), rfl⟩ hP hD hS dX10_floor_113
              · replace c_9 := bI_t c_9
                refine lv_iconst (v := 1) hx hb dX10_floor_108 (by decide) ?_
                refine lv_goto (tgt := 113) hx hb dX10_floor_109 (by decide) ?_
                exact wret_i hx hb hr hlocks (J, (va_up I 13 m0_20), (va_up R 11 w_6), RJ) ⟨m0_20, w_6, (fo_3 hwi c_2 c_3 c_4 (by rw [← hp_8, c_9]; rfl)), rfl⟩ hP hD hS dX10_floor_113
            · refine lv_aload_n hx hb dX10_floor_93 rfl (lv_at hl 0 rfl) ?_
              refine lv_iconst (v := 1) hx hb dX10_floor_94 (by decide) ?_
              refine kM_i (As := [.int 1]) (rest := []) (q0 := 0) ⟨hx, hb, hml, hown, hts⟩ (x_X10_pieces l D cy a _ J (va_up I 13 m0_20) (va_up R 11 m1_20) RJ true  ) (cwV 1 hts gX10_floor_X10_pieces rfl rfl rfl (by decide +kernel) ⟨Nat.le_of_ble_eq_true rfl, Nat.le_of_ble_eq_true rfl⟩) hK hN hP hD hS hA rfl rfl rfl hl.1 rfl (Nat.le_of_ble_eq_true rfl) dX10_floor_95 ⟨Nat.le_of_ble_eq_true rfl, Nat.le_of_ble_eq_true rfl⟩ (fun r_10 u H locs hw hP hD hS => ?_)
              obtain ⟨w_11, rfl, rfl⟩ := hw
              have hP : va_P D vwCl (MW cy a J (va_up I 13 m0_20) (va_up R 11 w_11) RJ) H := hP
              have hD : va_D A (MW cy a J (va_up I 13 m0_20) (va_up R 11 w_11) RJ) := hD
              refine lv_goto (tgt := 113) hx hb dX10_floor_98 (by decide) ?_
              exact wret_i hx hb hr hlocks (J, (va_up I 13 m0_20), (va_up R 11 w_11), RJ) ⟨m0_20, w_11, (by rw [hRA.1]; exact fo_2 hwi c_2 c_3 c_4), rfl⟩ hP hD hS dX10_floor_113
          · refine lv_iload_n hx hb dX10_floor_84 rfl (lv_at hl 2 rfl) ?_
            refine lv_goto (tgt := 113) hx hb dX10_floor_85 (by decide) ?_
            exact wret_i hx hb hr hlocks (J, (va_up I 13 m0_20), (va_up R 11 m1_20), RJ) ⟨m0_20, m1_20, (fo_1 hwi c_2 c_3 (by rw [← hRA.1]; exact hd) hie_i), rfl⟩ hP hD hS dX10_floor_113
        · refine lv_aload_n hx hb dX10_floor_69 rfl (lv_at hl 0 rfl) ?_
          refine va_get (D := D) (ci := 9) (v := .long (J 0)) (C := RX10) (T := TX10) (N := 30) hx hb hts hi10 hown hK hP 0 rfl rfl 0 (by decide) hw0 (fun _ h9 => h9) rfl dX10_floor_70 ?_
          refine kS_i (As := [.long (J 0)]) (rest := []) ⟨hx, hb, hml, hown, hts⟩ (c_X10_many l (J 0)) (va_cwS 1 hts gX10_floor_X10_many rfl rfl rfl (by decide +kernel) ⟨Nat.le_of_ble_eq_true rfl, Nat.le_of_ble_eq_true rfl⟩) rfl hl.1 rfl (Nat.le_of_ble_eq_true rfl) dX10_floor_73 ⟨Nat.le_of_ble_eq_true rfl, Nat.le_of_ble_eq_true rfl⟩ ?_
          refine lv_goto (tgt := 113) hx hb dX10_floor_76 (by decide) ?_
          exact wret_i hx hb hr hlocks (J, (va_up I 13 m0_20), (va_up R 11 m1_20), RJ) ⟨m0_20, m1_20, (by rw [hRA.1]; exact fo_0 hwi c_2), rfl⟩ hP hD hS dX10_floor_113
      · have hlt_i := ctr_lt (N := 64) (by decide) hi c_1
        refine lv_iload_n hx hb dX10_floor_26 rfl (lv_at hl 2 rfl) ?_
        refine lv_aload_n hx hb dX10_floor_27 rfl (lv_at hl 0 rfl) ?_
        refine va_get (D := D) (ci := 9) (v := .long (J 0)) (C := RX10) (T := TX10) (N := 30) hx hb hts hi10 hown hK hP 0 rfl rfl 0 (by decide) hw0 (fun _ h9 => h9) rfl dX10_floor_28 ?_
        refine lv_iload_n hx hb dX10_floor_31 rfl (lv_at hl 3 rfl) ?_
        refine kS_i (As := [.long (J 0), .int (nI i)]) (rest := [.int v2_20]) ⟨hx, hb, hml, hown, hts⟩ (c_X10_hasBit l (J 0) (nI i)) (va_cwS 2 hts gX10_floor_X10_hasBit rfl rfl rfl (by decide +kernel) ⟨Nat.le_of_ble_eq_true rfl, Nat.le_of_ble_eq_true rfl⟩) rfl hl.1 rfl (Nat.le_of_ble_eq_true rfl) dX10_floor_32 ⟨Nat.le_of_ble_eq_true rfl, Nat.le_of_ble_eq_true rfl⟩ ?_
        refine lv_if_eq (tgt := 56) hx hb dX10_floor_35 (by decide) (fun c_12 => ?_) (fun c_12 => ?_)
        · replace c_12 := bI_f c_12
          refine lv_iconst (v := 0) hx hb dX10_floor_56 (by decide) ?_
          refine lv_iadd hx hb dX10_floor_57 ?_
          refine lv_istore_n (lv' := [(2, .int (v2_20 + 0)), (0, .ref (a 0)), (1, .int x0), (3, .int (nI i))]) hx hb dX10_floor_58 rfl hl (by decide) rfl (fun ls hl => ?_)
          refine lv_iinc (v := nI (i + 1)) (lv' := [(3, .int (nI (i + 1))), (2, .int (v2_20 + 0)), (0, .ref (a 0)), (1, .int x0)]) hx hb dX10_floor_59 hl (k := 3) rfl (nI_1 _) (by decide) rfl (fun ls hl => ?_)
          refine lv_goto (tgt := 20) hx hb dX10_floor_62 (by decide) ?_
          exact ih20 (i + 1) (v2_20 + 0) m0_20 m1_20 (by omega) hwi (dk_f hd hlt_i (Or.inl c_12)) (by omega) _ _ hP hD hS ls (lv_sub hl [2, 3, 1, 0] rfl)
        · replace c_12 := bI_t c_12
          refine lv_iload_n hx hb dX10_floor_38 rfl (lv_at hl 3 rfl) ?_
          refine lv_bipush (v := 8) hx hb dX10_floor_39 (by decide) ?_
          refine lv_irem hx hb dX10_floor_41 (by decide) ?_
          refine lv_iload_n hx hb dX10_floor_42 rfl (lv_at hl 3 rfl) ?_
          refine lv_bipush (v := 8) hx hb dX10_floor_43 (by decide) ?_
          refine lv_idiv hx hb dX10_floor_45 (by decide) ?_
          refine kS_i (As := [.int ((nI i) - (nI i) / 8 * 8), .int ((nI i) / 8)]) (rest := [.int v2_20]) ⟨hx, hb, hml, hown, hts⟩ (c_X10_isDark l ((nI i) - (nI i) / 8 * 8) ((nI i) / 8)) (va_cwS 2 hts gX10_floor_X10_isDark rfl rfl rfl (by decide +kernel) ⟨Nat.le_of_ble_eq_true rfl, Nat.le_of_ble_eq_true rfl⟩) rfl hl.1 rfl (Nat.le_of_ble_eq_true rfl) dX10_floor_46 ⟨Nat.le_of_ble_eq_true rfl, Nat.le_of_ble_eq_true rfl⟩ ?_
          refine lv_if_eq (tgt := 56) hx hb dX10_floor_49 (by decide) (fun c_13 => ?_) (fun c_13 => ?_)
          · replace c_13 := bI_f c_13
            refine lv_iconst (v := 0) hx hb dX10_floor_56 (by decide) ?_
            refine lv_iadd hx hb dX10_floor_57 ?_
            refine lv_istore_n (lv' := [(2, .int (v2_20 + 0)), (0, .ref (a 0)), (1, .int x0), (3, .int (nI i))]) hx hb dX10_floor_58 rfl hl (by decide) rfl (fun ls hl => ?_)
            refine lv_iinc (v := nI (i + 1)) (lv' := [(3, .int (nI (i + 1))), (2, .int (v2_20 + 0)), (0, .ref (a 0)), (1, .int x0)]) hx hb dX10_floor_59 hl (k := 3) rfl (nI_1 _) (by decide) rfl (fun ls hl => ?_)
            refine lv_goto (tgt := 20) hx hb dX10_floor_62 (by decide) ?_
            exact ih20 (i + 1) (v2_20 + 0) m0_20 m1_20 (by omega) hwi (dk_f hd hlt_i (Or.inr c_13)) (by omega) _ _ hP hD hS ls (lv_sub hl [2, 3, 1, 0] rfl)
          · replace c_13 := bI_t c_13
            refine lv_iconst (v := 1) hx hb dX10_floor_52 (by decide) ?_
            refine lv_goto (tgt := 57) hx hb dX10_floor_53 (by decide) ?_
            refine lv_iadd hx hb dX10_floor_57 ?_
            refine lv_istore_n (lv' := [(2, .int (v2_20 + 1)), (0, .ref (a 0)), (1, .int x0), (3, .int (nI i))]) hx hb dX10_floor_58 rfl hl (by decide) rfl (fun ls hl => ?_)
            refine lv_iinc (v := nI (i + 1)) (lv' := [(3, .int (nI (i + 1))), (2, .int (v2_20 + 1)), (0, .ref (a 0)), (1, .int x0)]) hx hb dX10_floor_59 hl (k := 3) rfl (nI_1 _) (by decide) rfl (fun ls hl => ?_)
            refine lv_goto (tgt := 20) hx hb dX10_floor_62 (by decide) ?_
            exact ih20 (i + 1) (v2_20 + 1) m0_20 m1_20 (by omega) hwi (dk_t hd hlt_i c_12 c_13) (by omega) _ _ hP hD hS ls (lv_sub hl [2, 3, 1, 0] rfl)
  refine lv_iload_n hx hb dX10_floor_0 rfl (lv_at hl 1 rfl) ?_
  refine lv_iconst (v := 0) hx hb dX10_floor_1 (by decide) ?_
  refine lv_iconst (v := 3) hx hb dX10_floor_2 (by decide) ?_
  refine kS_i (As := [.int x0, .int 0, .int 3]) (rest := []) ⟨hx, hb, hml, hown, hts⟩ (c_X10_within l x0 0 3) (va_cwS 3 hts gX10_floor_X10_within rfl rfl rfl (by decide +kernel) ⟨Nat.le_of_ble_eq_true rfl, Nat.le_of_ble_eq_true rfl⟩) rfl hl.1 rfl (Nat.le_of_ble_eq_true rfl) dX10_floor_3 ⟨Nat.le_of_ble_eq_true rfl, Nat.le_of_ble_eq_true rfl⟩ ?_
  refine lv_if_ne (tgt := 16) hx hb dX10_floor_6 (by decide) (fun c_14 => ?_) (fun c_14 => ?_)
  · replace c_14 := bI_t c_14
    refine lv_iconst (v := 0) hx hb dX10_floor_16 (by decide) ?_
    refine lv_istore_n (lv' := [(2, .int 0), (0, .ref (a 0)), (1, .int x0)]) hx hb dX10_floor_17 rfl hl (by decide) rfl (fun ls hl => ?_)
    refine lv_iconst (v := 0) hx hb dX10_floor_18 (by decide) ?_
    refine lv_istore_n (lv' := [(3, .int 0), (2, .int 0), (0, .ref (a 0)), (1, .int x0)]) hx hb dX10_floor_19 rfl hl (by decide) rfl (fun ls hl => ?_)
    exact lp20 _ 0 (0 : Int32) (I 13) (R 11) (by omega) c_14 rfl (Nat.lt_succ_self _) _ _ hP hD hS ls (lv_sub hl [2, 3, 1, 0] rfl)
  · replace c_14 := bI_f c_14
    refine lv_aload_n hx hb dX10_floor_9 rfl (lv_at hl 0 rfl) ?_
    refine lv_ldc (v := (-100001)) hx hb hown hw1 dX10_floor_10 ?_
    refine kM_i (As := [.int (-100001)]) (rest := []) (q0 := 0) ⟨hx, hb, hml, hown, hts⟩ (c_X10_finding l D cy a _ J (va_up I 13 (I 13)) (va_up R 11 (R 11)) RJ (-100001) ) (cwV 1 hts gX10_floor_X10_finding rfl rfl rfl (by decide +kernel) ⟨Nat.le_of_ble_eq_true rfl, Nat.le_of_ble_eq_true rfl⟩) hK hN hP hD hS hA rfl rfl rfl hl.1 rfl (Nat.le_of_ble_eq_true rfl) dX10_floor_12 ⟨Nat.le_of_ble_eq_true rfl, Nat.le_of_ble_eq_true rfl⟩ (fun r_15 u H locs hw hP hD hS => ?_)
    obtain ⟨rfl, rfl⟩ := hw
    have hP : va_P D vwCl (MW cy a J (va_up I 13 ((I 13) + 1)) (va_up R 11 (R 11)) RJ) H := hP
    have hD : va_D A (MW cy a J (va_up I 13 ((I 13) + 1)) (va_up R 11 (R 11)) RJ) := hD
    exact wret_i hx hb hr hlocks (J, (va_up I 13 ((I 13) + 1)), (va_up R 11 (R 11)), RJ) ⟨((I 13) + 1), (R 11), (fo_x c_14), rfl⟩ hP hD hS dX10_floor_15
