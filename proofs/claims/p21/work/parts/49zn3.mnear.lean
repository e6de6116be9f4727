set_option maxHeartbeats 4000000 in
set_option maxRecDepth 100000 in
theorem x_X10_nearer (l : Launch) (D : va_G) (cy : Nat → ClassId) (a : Nat → Nat) (sz : Nat) (J : Nat → Int64) (I : Nat → Int32) (R : Nat → Nat → Int32) (RJ : Nat → Nat → Int64)  (qq : Int64 × Int64) (hly : LY (bfx (J 0)) (bfx ((J 22), (J 23)).1) (bfx ((J 22), (J 23)).2)) (h19 : (J 19) = 0) (h20 : (J 20) = 0) (hvo : hVI (J 0) ((J 22), (J 23)) (R 13)) (hvt : hVI (J 0) qq (R 14)) : Met l yX10_nearer wsX10_nearer ({ frames := 2, cells := 0, slots := 0, locals := 47 }) (va_Pc [.ref (a 0)] (PW D cy sz (MW cy a J I R RJ))) (va_Qi (fun r (u : MS) => ((r = zlw (zqB (J 0) (J 22, J 23) qq) 55)) ∧ u = (J, I, R, RJ)) (BW D (va_A (MW cy a J I R RJ) sz) (MWu cy a)) (va_A (MW cy a J I R RJ) sz)) 0 0 (va_A (MW cy a J I R RJ) sz) := by
  refine Met.ofW (cc := cX10_nearer) (maxL := 4) (ret := (some .int)) (by decide) rfl ?_
  intro p e s m args below meth c s₁ B hml hv
  obtain ⟨rfl, rfl, hP, hK, hN, hD0⟩ := hv
  have hx := B.exec
  have hb := B.bytes
  have hr := B.returns
  have hts := atoms_spec (ws := wsX10_nearer) B.pre
  have hown : s.vm.findClass RX10 = some m.cls := findClass_of_methodNamed B.named
  have hlocks := B.notSynchronized
  have hw0 := hts (.fieldLink RX10 210 "ParquetLayerModel" "walkAlong" "J") (by decide +kernel)
  have hw1 := hts (.fieldLink RX10 213 "ParquetLayerModel" "walkAcross" "J") (by decide +kernel)
  have hw2 := hts (.fieldLink RX10 48 "ParquetLayerModel" "one" "[I") (by decide +kernel)
  have hw3 := hts (.fieldLink RX10 51 "ParquetLayerModel" "two" "[I") (by decide +kernel)
  have hi10 := ihX10_nearer_10
  have hD := hD0.self (sz := s.heap.size)
  generalize hAe : va_A (MW cy a J I R RJ) s.heap.size = A at hD ⊢
  have hA : ∀ q : Nat, s.heap.size ≤ q → A q := fun q h => by rw [← hAe]; exact Or.inr h
  have hS : va_S A s.heap s.heap [] := va_S.rf
  have hl := lv_entry ([.ref (a 0)]) (n := 4) (Nat.le_of_ble_eq_true rfl)
  rw [lg_entry_eq]
  generalize (lg_sl ([.ref (a 0)]) ++ List.replicate (4 - (lg_sl ([.ref (a 0)])).length) Slot.unset).toArray = ls at hl ⊢
  have hl : lv_has ls 4 [(0, .ref (a 0))] := hl
  have lp2 : ∀ (n2 : Nat), ∀ (i : Nat), (i ≤ 64) → (∀ g, g < i → zqB (J 0) (J 22, J 23) qq g = false) → (64 - i) < n2 → ∀ (H : Heap) (locs : List Loc), va_P D vwCl (MW cy a J I R RJ) H → va_D A (MW cy a J I R RJ) → va_S A s.heap H locs → ∀ (ls : Array Slot), lv_has ls 4 [(0, .ref (a 0)), (1, .int (nI i))] → W p l e (headSpec wsX10_nearer ({ frames := 2, cells := 0, slots := 0, locals := 47 })).room s m ([.ref (a 0)] : List Value).toArray below meth c H locs 0 0 (MQ below (va_Qi (fun r (u : MS) => ((r = zlw (zqB (J 0) (J 22, J 23) qq) 55)) ∧ u = (J, I, R, RJ)) (BW D A (MWu cy a)) A) ([.ref (a 0)] : List Value).toArray s 0 0 A) (F0 m 2 ls []) := by
    intro n2
    induction n2 with
    | zero => intro i hi hnb hn; exact absurd hn (Nat.not_lt_zero _)
    | succ n2 ih2 =>
      intro i hi hnb hn2 H locs hP hD hS ls hl
      refine lv_iload_n hx hb dX10_nearer_2 rfl (lv_at hl 1 rfl) ?_
      refine lv_bipush (v := 64) hx hb dX10_nearer_3 (by decide) ?_
      refine lv_icmp_ge (tgt := 83) hx hb dX10_nearer_5 (by decide) (fun c_1 => ?_) (fun c_1 => ?_)
      · have hie_i := ctr_ge (N := 64) (by decide) hi c_1
        refine lv_iconst (v := (-1)) hx hb dX10_nearer_83 (by decide) ?_
        exact wret_i hx hb hr hlocks (J, I, R, RJ) ⟨(zlw_n 55 (fun g hg => hnb g (by rw [hie_i]; exact Nat.lt_trans hg (by decide)))).symm, rfl⟩ hP hD hS dX10_nearer_84
      · have hlt_i := ctr_lt (N := 64) (by decide) hi c_1
        refine lv_aload_n hx hb dX10_nearer_8 rfl (lv_at hl 0 rfl) ?_
        refine lv_aload_n hx hb dX10_nearer_9 rfl (lv_at hl 0 rfl) ?_
        refine va_get (D := D) (ci := 9) (v := .long (J 22)) (C := RX10) (T := TX10) (N := 30) hx hb hts hi10 hown hK hP 0 rfl rfl 22 (by decide) hw0 (fun _ h9 => h9) rfl dX10_nearer_10 ?_
        refine lv_aload_n hx hb dX10_nearer_13 rfl (lv_at hl 0 rfl) ?_
        refine va_get (D := D) (ci := 9) (v := .long (J 23)) (C := RX10) (T := TX10) (N := 30) hx hb hts hi10 hown hK hP 0 rfl rfl 23 (by decide) hw1 (fun _ h9 => h9) rfl dX10_nearer_14 ?_
        refine lv_iload_n hx hb dX10_nearer_17 rfl (lv_at hl 1 rfl) ?_
        refine kM_i (As := [.long (J 22), .long (J 23), .int (nI i)]) (rest := []) (q0 := 0) ⟨hx, hb, hml, hown, hts⟩ (x_X10_turnAt l D cy a _ J I R RJ (J 22) (J 23) i hlt_i h19 h20 ) (cwV 3 hts gX10_nearer_X10_turnAt rfl rfl rfl (by decide +kernel) ⟨Nat.le_of_ble_eq_true rfl, Nat.le_of_ble_eq_true rfl⟩) hK hN hP hD hS hA rfl rfl rfl hl.1 rfl (Nat.le_of_ble_eq_true rfl) dX10_nearer_18 ⟨Nat.le_of_ble_eq_true rfl, Nat.le_of_ble_eq_true rfl⟩ (fun r_2 u H locs hw hP hD hS => ?_)
        obtain ⟨⟨hp_3, hp_4⟩, rfl⟩ := hw
        have hP : va_P D vwCl (MW cy a J I R RJ) H := hP
        have hD : va_D A (MW cy a J I R RJ) := hD
        refine lv_istore_n (lv' := [(2, .int r_2), (0, .ref (a 0)), (1, .int (nI i))]) hx hb dX10_nearer_21 rfl hl (by decide) rfl (fun ls hl => ?_)
        refine lv_iload_n hx hb dX10_nearer_22 rfl (lv_at hl 0 rfl) ?_
        refine lv_if_ne (tgt := 29) hx hb dX10_nearer_23 (by decide) (fun c_5 => ?_) (fun c_5 => ?_)
        · refine lv_iload_n hx hb dX10_nearer_29 rfl (lv_at hl 2 rfl) ?_
          refine kS_i (As := [.int (nI i)]) (rest := []) ⟨hx, hb, hml, hown, hts⟩ (c_X10_midst l (nI i)) (va_cwS 1 hts gX10_nearer_X10_midst rfl rfl rfl (by decide +kernel) ⟨Nat.le_of_ble_eq_true rfl, Nat.le_of_ble_eq_true rfl⟩) rfl hl.1 rfl (Nat.le_of_ble_eq_true rfl) dX10_nearer_30 ⟨Nat.le_of_ble_eq_true rfl, Nat.le_of_ble_eq_true rfl⟩ ?_
          refine lv_istore_n (lv' := [(3, .int (m_midst (nI i))), (2, .int r_2), (0, .ref (a 0)), (1, .int (nI i))]) hx hb dX10_nearer_33 rfl hl (by decide) rfl (fun ls hl => ?_)
          refine lv_iload_n hx hb dX10_nearer_34 rfl (lv_at hl 3 rfl) ?_
          refine lv_iload_n hx hb dX10_nearer_35 rfl (lv_at hl 1 rfl) ?_
          refine kS_i (As := [.int (nI i), .int r_2]) (rest := []) ⟨hx, hb, hml, hown, hts⟩ (c_X10_isDown l (nI i) r_2) (va_cwS 2 hts gX10_nearer_X10_isDown rfl rfl rfl (by decide +kernel) ⟨Nat.le_of_ble_eq_true rfl, Nat.le_of_ble_eq_true rfl⟩) rfl hl.1 rfl (Nat.le_of_ble_eq_true rfl) dX10_nearer_36 ⟨Nat.le_of_ble_eq_true rfl, Nat.le_of_ble_eq_true rfl⟩ ?_
          refine lv_if_eq (tgt := 60) hx hb dX10_nearer_39 (by decide) (fun c_6 => ?_) (fun c_6 => ?_)
          · replace c_6 := bI_f c_6
            refine lv_aload_n hx hb dX10_nearer_60 rfl (lv_at hl 2 rfl) ?_
            refine va_get (D := D) (ci := 9) (v := .ref (a 13)) (C := RX10) (T := TX10) (N := 30) hx hb hts hi10 hown hK hP 0 rfl rfl 24 (by decide) hw2 (fun _ h9 => h9) rfl dX10_nearer_61 ?_
            refine lv_iload_n hx hb dX10_nearer_64 rfl (lv_at hl 0 rfl) ?_
            refine va_iald hx hb hK hP 13 0 rfl rfl (mid_t ⟨i, hlt_i⟩) dX10_nearer_65 ?_
            refine lv_aload_n hx hb dX10_nearer_66 rfl (lv_at hl 2 rfl) ?_
            refine va_get (D := D) (ci := 9) (v := .ref (a 14)) (C := RX10) (T := TX10) (N := 30) hx hb hts hi10 hown hK hP 0 rfl rfl 25 (by decide) hw3 (fun _ h9 => h9) rfl dX10_nearer_67 ?_
            refine lv_iload_n hx hb dX10_nearer_70 rfl (lv_at hl 0 rfl) ?_
            refine va_iald hx hb hK hP 14 0 rfl rfl (mid_t ⟨i, hlt_i⟩) dX10_nearer_71 ?_
            refine lv_icmp_ge (tgt := 77) hx hb dX10_nearer_72 (by decide) (fun c_7 => ?_) (fun c_7 => ?_)
            · refine lv_iinc (v := nI (i + 1)) (lv' := [(1, .int (nI (i + 1))), (3, .int (m_midst (nI i))), (2, .int r_2), (0, .ref (a 0))]) hx hb dX10_nearer_77 hl (k := 3) rfl (nI_1 _) (by decide) rfl (fun ls hl => ?_)
              refine lv_goto (tgt := 2) hx hb dX10_nearer_80 (by decide) ?_
              exact ih2 (i + 1) hlt_i (nb_s hnb (nu_f hlt_i hly hvo hvt hp_4 c_5 c_6 c_7)) (lt_dec hlt_i hn2) _ _ hP hD hS ls (lv_sub hl [3, 0] rfl)
            · refine lv_iload_n hx hb dX10_nearer_75 rfl (lv_at hl 3 rfl) ?_
              exact wret_i hx hb hr hlocks (J, I, R, RJ) ⟨(zlw_y hlt_i hnb (nu_t hlt_i hly hvo hvt hp_4 c_5 c_6 c_7) 55 (zlw_64 (nu_t hlt_i hly hvo hvt hp_4 c_5 c_6 c_7))).symm, rfl⟩ hP hD hS dX10_nearer_76
          · replace c_6 := bI_t c_6
            refine lv_aload_n hx hb dX10_nearer_42 rfl (lv_at hl 2 rfl) ?_
            refine va_get (D := D) (ci := 9) (v := .ref (a 13)) (C := RX10) (T := TX10) (N := 30) hx hb hts hi10 hown hK hP 0 rfl rfl 24 (by decide) hw2 (fun _ h9 => h9) rfl dX10_nearer_43 ?_
            refine lv_iload_n hx hb dX10_nearer_46 rfl (lv_at hl 0 rfl) ?_
            refine va_iald hx hb hK hP 13 0 rfl rfl (mid_t ⟨i, hlt_i⟩) dX10_nearer_47 ?_
            refine lv_aload_n hx hb dX10_nearer_48 rfl (lv_at hl 2 rfl) ?_
            refine va_get (D := D) (ci := 9) (v := .ref (a 14)) (C := RX10) (T := TX10) (N := 30) hx hb hts hi10 hown hK hP 0 rfl rfl 25 (by decide) hw3 (fun _ h9 => h9) rfl dX10_nearer_49 ?_
            refine lv_iload_n hx hb dX10_nearer_52 rfl (lv_at hl 0 rfl) ?_
            refine va_iald hx hb hK hP 14 0 rfl rfl (mid_t ⟨i, hlt_i⟩) dX10_nearer_53 ?_
            refine lv_icmp_le (tgt := 77) hx hb dX10_nearer_54 (by decide) (fun c_8 => ?_) (fun c_8 => ?_)
            · refine lv_iinc (v := nI (i + 1)) (lv' := [(1, .int (nI (i + 1))), (3, .int (m_midst (nI i))), (2, .int r_2), (0, .ref (a 0))]) hx hb dX10_nearer_77 hl (k := 3) rfl (nI_1 _) (by decide) rfl (fun ls hl => ?_)
              refine lv_goto (tgt := 2) hx hb dX10_nearer_80 (by decide) ?_
              exact ih2 (i + 1) hlt_i (nb_s hnb (nd_f hlt_i hly hvo hvt hp_4 c_5 c_6 c_8)) (lt_dec hlt_i hn2) _ _ hP hD hS ls (lv_sub hl [3, 0] rfl)
            · refine lv_goto (tgt := 75) hx hb dX10_nearer_57 (by decide) ?_
              refine lv_iload_n hx hb dX10_nearer_75 rfl (lv_at hl 3 rfl) ?_
              exact wret_i hx hb hr hlocks (J, I, R, RJ) ⟨(zlw_y hlt_i hnb (nd_t hlt_i hly hvo hvt hp_4 c_5 c_6 c_8) 55 (zlw_64 (nd_t hlt_i hly hvo hvt hp_4 c_5 c_6 c_8))).symm, rfl⟩ hP hD hS dX10_nearer_76
        · refine lv_goto (tgt := 77) hx hb dX10_nearer_26 (by decide) ?_
          refine lv_iinc (v := nI (i + 1)) (lv' := [(1, .int (nI (i + 1))), (2, .int r_2), (0, .ref (a 0))]) hx hb dX10_nearer_77 hl (k := 2) rfl (nI_1 _) (by decide) rfl (fun ls hl => ?_)
          refine lv_goto (tgt := 2) hx hb dX10_nearer_80 (by decide) ?_
          exact ih2 (i + 1) hlt_i (nb_s hnb (nr_1 hp_4 c_5)) (lt_dec hlt_i hn2) _ _ hP hD hS ls (lv_sub hl [2, 0] rfl)
  refine lv_iconst (v := 0) hx hb dX10_nearer_0 (by decide) ?_
  refine lv_istore_n (lv' := [(1, .int 0), (0, .ref (a 0))]) hx hb dX10_nearer_1 rfl hl (by decide) rfl (fun ls hl => ?_)
  exact lp2 _ 0 (Nat.zero_le _) (fun j h => absurd h (Nat.not_lt_zero _)) (Nat.lt_succ_self _) _ _ hP hD hS ls (lv_sub hl [1, 0] rfl)
