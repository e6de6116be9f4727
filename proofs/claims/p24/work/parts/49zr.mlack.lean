set_option maxHeartbeats 4000000 in
set_option maxRecDepth 100000 in
theorem x_X10_match (l : Launch) (D : va_G) (cy : Nat → ClassId) (a : Nat → Nat) (sz : Nat) (J : Nat → Int64) (I : Nat → Int32) (R : Nat → Nat → Int32) (RJ : Nat → Nat → Int64)  : Met l yX10_match wsX10_match ({ frames := 3, cells := 0, slots := 0, locals := 70 }) (va_Pc [.ref (a 0)] (PW D cy sz (MW cy a J I R RJ))) (va_Qi (fun r (u : MS) => ∃ (w0 : Nat → Int32), ∃ (w1 : Nat → Int32), ∃ (w2 : Nat → Int32), (r = (aLack (J 0)) ∧ (VM (J 0) w0) ∧ (∃ T, CT_ (J 0) w0 T) ∧ (RG w0) ∧ (SYx w0 64) ∧ (PRp (J 0) w0)) ∧ u = (J, I, (va_up (va_up (va_up R 15 w0) 16 w1) 17 w2), RJ)) (BW D (va_A (MW cy a J I R RJ) sz) (MWu cy a)) (va_A (MW cy a J I R RJ) sz)) 0 0 (va_A (MW cy a J I R RJ) sz) := by
  refine Met.ofW (cc := cX10_match) (maxL := 6) (ret := (some .int)) (by decide) rfl ?_
  intro p e s m args below meth c s₁ B hml hv
  obtain ⟨rfl, rfl, hP, hK, hN, hD0⟩ := hv
  have hx := B.exec
  have hb := B.bytes
  have hr := B.returns
  have hts := atoms_spec (ws := wsX10_match) B.pre
  have hown : s.vm.findClass RX10 = some m.cls := findClass_of_methodNamed B.named
  have hlocks := B.notSynchronized
  have hw0 := hts (.fieldLink RX10 60 "ParquetLayerModel" "from" "[I") (by decide +kernel)
  have hw1 := hts (.fieldLink RX10 54 "ParquetLayerModel" "mate" "[I") (by decide +kernel)
  have hi10 := ihX10_match_10
  have hD := hD0.self (sz := s.heap.size)
  generalize hAe : va_A (MW cy a J I R RJ) s.heap.size = A at hD ⊢
  have hA : ∀ q : Nat, s.heap.size ≤ q → A q := fun q h => by rw [← hAe]; exact Or.inr h
  have hS : va_S A s.heap s.heap [] := va_S.rf
  have hl := lv_entry ([.ref (a 0)]) (n := 6) (Nat.le_of_ble_eq_true rfl)
  rw [lg_entry_eq]
  generalize (lg_sl ([.ref (a 0)]) ++ List.replicate (6 - (lg_sl ([.ref (a 0)])).length) Slot.unset).toArray = ls at hl ⊢
  have hl : lv_has ls 6 [(0, .ref (a 0))] := hl
  have hP : va_P D vwCl (MW cy a J I (va_up (va_up (va_up R 15 (R 15)) 16 (R 16)) 17 (R 17)) RJ) s.heap := hP
  have hD : va_D A (MW cy a J I (va_up (va_up (va_up R 15 (R 15)) 16 (R 16)) 17 (R 17)) RJ) := hD
  have lp25 : ∀ (n25 : Nat), ∀ (f9 : Nat) (v1_25 : Int32) (m0_25 : Nat → Int32) (m1_25 : Nat → Int32) (m2_25 : Nat → Int32), (f9 ≤ 64) → (MI2 (J 0) f9 m0_25 v1_25) → (64 - f9) < n25 → ∀ (H : Heap) (locs : List Loc), va_P D vwCl (MW cy a J I (va_up (va_up (va_up R 15 m0_25) 16 m1_25) 17 m2_25) RJ) H → va_D A (MW cy a J I (va_up (va_up (va_up R 15 m0_25) 16 m1_25) 17 m2_25) RJ) → va_S A s.heap H locs → ∀ (ls : Array Slot), lv_has ls 6 [(0, .ref (a 0)), (1, .int v1_25), (2, .int (nI f9))] → W p l e (headSpec wsX10_match ({ frames := 3, cells := 0, slots := 0, locals := 70 })).room s m ([.ref (a 0)] : List Value).toArray below meth c H locs 0 0 (MQ below (va_Qi (fun r (u : MS) => ∃ (w0 : Nat → Int32), ∃ (w1 : Nat → Int32), ∃ (w2 : Nat → Int32), (r = (aLack (J 0)) ∧ (VM (J 0) w0) ∧ (∃ T, CT_ (J 0) w0 T) ∧ (RG w0) ∧ (SYx w0 64) ∧ (PRp (J 0) w0)) ∧ u = (J, I, (va_up (va_up (va_up R 15 w0) 16 w1) 17 w2), RJ)) (BW D A (MWu cy a)) A) ([.ref (a 0)] : List Value).toArray s 0 0 A) (F0 m 25 ls []) := by
    intro n25
    induction n25 with
    | zero => intro f9 v1_25 m0_25 m1_25 m2_25 hf9 hmi hn; exact absurd hn (Nat.not_lt_zero _)
    | succ n25 ih25 =>
      intro f9 v1_25 m0_25 m1_25 m2_25 hf9 hmi hn25 H locs hP hD hS ls hl
      have lp60 : ∀ (n60 : Nat), ∀ (tm : Nat) (v1_60 : Int32) (v3_60 : Int32) (m0_60 : Nat → Int32) (m1_60 : Nat → Int32) (m2_60 : Nat → Int32), (f9 < 64) → (m_darkF (J 0) (nI f9) = true) → (WM2 (J 0) f9 tm v3_60 v1_60 m0_60 m2_60) → tm < n60 → ∀ (H : Heap) (locs : List Loc), va_P D vwCl (MW cy a J I (va_up (va_up (va_up R 15 m0_60) 16 m1_60) 17 m2_60) RJ) H → va_D A (MW cy a J I (va_up (va_up (va_up R 15 m0_60) 16 m1_60) 17 m2_60) RJ) → va_S A s.heap H locs → ∀ (ls : Array Slot), lv_has ls 6 [(0, .ref (a 0)), (1, .int v1_60), (2, .int (nI f9)), (3, .int v3_60)] → W p l e (headSpec wsX10_match ({ frames := 3, cells := 0, slots := 0, locals := 70 })).room s m ([.ref (a 0)] : List Value).toArray below meth c H locs 0 0 (MQ below (va_Qi (fun r (u : MS) => ∃ (w0 : Nat → Int32), ∃ (w1 : Nat → Int32), ∃ (w2 : Nat → Int32), (r = (aLack (J 0)) ∧ (VM (J 0) w0) ∧ (∃ T, CT_ (J 0) w0 T) ∧ (RG w0) ∧ (SYx w0 64) ∧ (PRp (J 0) w0)) ∧ u = (J, I, (va_up (va_up (va_up R 15 w0) 16 w1) 17 w2), RJ)) (BW D A (MWu cy a)) A) ([.ref (a 0)] : List Value).toArray s 0 0 A) (F0 m 60 ls []) := by
        intro n60
        induction n60 with
        | zero => intro tm v1_60 v3_60 m0_60 m1_60 m2_60 hlt_f9 hdf9 hwm hn; exact absurd hn (Nat.not_lt_zero _)
        | succ n60 ih60 =>
          intro tm v1_60 v3_60 m0_60 m1_60 m2_60 hlt_f9 hdf9 hwm hn60 H locs hP hD hS ls hl
          refine lv_iload_n hx hb dX10_match_60 rfl (lv_at hl 3 rfl) ?_
          refine lv_if_lt (tgt := 103) hx hb dX10_match_61 (by decide) (fun c_1 => ?_) (fun c_1 => ?_)
          · have hwe := wm_end hlt_f9 hwm c_1
            refine lv_iinc (v := nI (f9 + 1)) (lv' := [(2, .int (nI (f9 + 1))), (0, .ref (a 0)), (1, .int v1_60), (3, .int v3_60)]) hx hb dX10_match_103 hl (k := 2) rfl (nI_1 _) (by decide) rfl (fun ls hl => ?_)
            refine lv_goto (tgt := 25) hx hb dX10_match_106 (by decide) ?_
            exact ih25 (f9 + 1) v1_60 m0_60 m1_60 m2_60 hlt_f9 hwe (lt_dec hlt_f9 hn25) _ _ hP hD hS ls (lv_sub hl [1, 2, 0] rfl)
          · obtain ⟨m09, Tc9, g9, d9, T9, P9, h09, hv9, hg9, hd9, rfl, hTg, hfd, hws⟩ := wm_pos hwm c_1
            refine lv_aload_n hx hb dX10_match_64 rfl (lv_at hl 0 rfl) ?_
            refine va_get (D := D) (ci := 9) (v := .ref (a 17)) (C := RX10) (T := TX10) (N := 30) hx hb hts hi10 hown hK hP 0 rfl rfl 28 (by decide) hw0 (fun _ h9 => h9) rfl dX10_match_65 ?_
            refine lv_iload_n hx hb dX10_match_68 rfl (lv_at hl 3 rfl) ?_
            refine va_iald hx hb hK hP 17 0 rfl rfl (vp_in_nI hg9 (by decide)) dX10_match_69 ?_
            refine wtop_i (y := nI d9) (by rw [nI_clamp (Nat.lt_trans hg9 (by decide))]; exact hfd) ?_
            refine lv_istore (lv' := [(4, .int (nI d9)), (0, .ref (a 0)), (1, .int v1_60), (2, .int (nI f9)), (3, .int (nI g9))]) hx hb dX10_match_70 hl (by decide) rfl (fun ls hl => ?_)
            refine lv_aload_n hx hb dX10_match_72 rfl (lv_at hl 1 rfl) ?_
            refine va_get (D := D) (ci := 9) (v := .ref (a 15)) (C := RX10) (T := TX10) (N := 30) hx hb hts hi10 hown hK hP 0 rfl rfl 26 (by decide) hw1 (fun _ h9 => h9) rfl dX10_match_73 ?_
            refine lv_iload hx hb dX10_match_76 (lv_at hl 0 rfl) ?_
            refine va_iald hx hb hK hP 15 0 rfl rfl (vp_in_nI hd9 (by decide)) dX10_match_78 ?_
            refine lv_istore (lv' := [(5, .int (m0_60 (nI d9).toNatClampNeg)), (4, .int (nI d9)), (0, .ref (a 0)), (1, .int v1_60), (2, .int (nI f9)), (3, .int (nI g9))]) hx hb dX10_match_79 hl (by decide) rfl (fun ls hl => ?_)
            refine lv_aload_n hx hb dX10_match_81 rfl (lv_at hl 2 rfl) ?_
            refine va_get (D := D) (ci := 9) (v := .ref (a 15)) (C := RX10) (T := TX10) (N := 30) hx hb hts hi10 hown hK hP 0 rfl rfl 26 (by decide) hw1 (fun _ h9 => h9) rfl dX10_match_82 ?_
            refine lv_iload hx hb dX10_match_85 (lv_at hl 1 rfl) ?_
            refine lv_iload_n hx hb dX10_match_87 rfl (lv_at hl 5 rfl) ?_
            refine va_iast hx hb hK hP hD hS 15 0 rfl rfl (vp_in_nI hd9 (by decide)) dX10_match_88 (fun H locs hP hD hS => ?_)
            have hP : va_P D vwCl (MW cy a J I (va_up (va_up (va_up R 15 (upd m0_60 (nI d9).toNatClampNeg (nI g9))) 16 m1_60) 17 m2_60) RJ) H := hP
            have hD : va_D A (MW cy a J I (va_up (va_up (va_up R 15 (upd m0_60 (nI d9).toNatClampNeg (nI g9))) 16 m1_60) 17 m2_60) RJ) := hD
            obtain ⟨U9, hU9⟩ : ∃ z, z = (upd m0_60 (nI d9).toNatClampNeg (nI g9)) := ⟨_, rfl⟩
            rw [← hU9] at hP hD
            have hP : va_P D vwCl (MW cy a J I (va_up (va_up (va_up R 15 U9) 16 m1_60) 17 m2_60) RJ) H := hP
            have hD : va_D A (MW cy a J I (va_up (va_up (va_up R 15 U9) 16 m1_60) 17 m2_60) RJ) := hD
            refine lv_aload_n hx hb dX10_match_89 rfl (lv_at hl 2 rfl) ?_
            refine va_get (D := D) (ci := 9) (v := .ref (a 15)) (C := RX10) (T := TX10) (N := 30) hx hb hts hi10 hown hK hP 0 rfl rfl 26 (by decide) hw1 (fun _ h9 => h9) rfl dX10_match_90 ?_
            refine lv_iload_n hx hb dX10_match_93 rfl (lv_at hl 5 rfl) ?_
            refine lv_iload hx hb dX10_match_94 (lv_at hl 1 rfl) ?_
            refine va_iast hx hb hK hP hD hS 15 0 rfl rfl (vp_in_nI hg9 (by decide)) dX10_match_96 (fun H locs hP hD hS => ?_)
            have hP : va_P D vwCl (MW cy a J I (va_up (va_up (va_up R 15 (upd U9 (nI g9).toNatClampNeg (nI d9))) 16 m1_60) 17 m2_60) RJ) H := hP
            have hD : va_D A (MW cy a J I (va_up (va_up (va_up R 15 (upd U9 (nI g9).toNatClampNeg (nI d9))) 16 m1_60) 17 m2_60) RJ) := hD
            refine lv_iload hx hb dX10_match_97 (lv_at hl 0 rfl) ?_
            refine lv_istore_n (lv' := [(3, .int (m0_60 (nI d9).toNatClampNeg)), (5, .int (m0_60 (nI d9).toNatClampNeg)), (4, .int (nI d9)), (0, .ref (a 0)), (1, .int v1_60), (2, .int (nI f9))]) hx hb dX10_match_99 rfl hl (by decide) rfl (fun ls hl => ?_)
            refine lv_goto (tgt := 60) hx hb dX10_match_100 (by decide) ?_
            exact ih60 (T9 g9) v1_60 (m0_60 (nI d9).toNatClampNeg) (upd U9 (nI g9).toNatClampNeg (nI d9)) m1_60 m2_60 hlt_f9 hdf9 (by rw [hU9]; exact Or.inr ⟨m09, Tc9, h09, hv9, ws2_step2 hlt_f9 hdf9 hg9 hd9 hws⟩) (Nat.lt_of_lt_of_le hTg (Nat.le_of_lt_succ hn60)) _ _ hP hD hS ls (lv_sub hl [3, 4, 5, 0] rfl)
      refine lv_iload_n hx hb dX10_match_25 rfl (lv_at hl 2 rfl) ?_
      refine lv_bipush (v := 64) hx hb dX10_match_26 (by decide) ?_
      refine lv_icmp_ge (tgt := 109) hx hb dX10_match_28 (by decide) (fun c_2 => ?_) (fun c_2 => ?_)
      · have hie_f9 := ctr_ge (N := 64) (by decide) hf9 c_2
        refine lv_iload_n hx hb dX10_match_109 rfl (lv_at hl 1 rfl) ?_
        exact wret_i hx hb hr hlocks (J, I, (va_up (va_up (va_up R 15 m0_25) 16 m1_25) 17 m2_25), RJ) ⟨m0_25, m1_25, m2_25, ⟨(MI2_e hie_f9 hmi).2.2, (MI2_e hie_f9 hmi).1, (MI2_e hie_f9 hmi).2.1, hmi.1, hmi.2.1, hmi.2.2.2.1⟩, rfl⟩ hP hD hS dX10_match_110
      · have hlt_f9 := ctr_lt (N := 64) (by decide) hf9 c_2
        refine lv_aload_n hx hb dX10_match_31 rfl (lv_at hl 0 rfl) ?_
        refine lv_iload_n hx hb dX10_match_32 rfl (lv_at hl 2 rfl) ?_
        refine kR_i (As := [.int (nI f9)]) (rest := []) (q0 := 0) ⟨hx, hb, hml, hown, hts⟩ (c_X10_isDarkField l D cy a _ J I (va_up (va_up (va_up R 15 m0_25) 16 m1_25) 17 m2_25) RJ (nI f9) ) (cwV 1 hts gX10_match_X10_isDarkField rfl rfl rfl (by decide +kernel) ⟨Nat.le_of_ble_eq_true rfl, Nat.le_of_ble_eq_true rfl⟩) hK hN hP hD rfl rfl rfl hl.1 rfl (Nat.le_of_ble_eq_true rfl) dX10_match_33 ⟨Nat.le_of_ble_eq_true rfl, Nat.le_of_ble_eq_true rfl⟩ ?_
        refine lv_if_ne (tgt := 42) hx hb dX10_match_36 (by decide) (fun c_3 => ?_) (fun c_3 => ?_)
        · replace c_3 := bI_t c_3
          refine lv_aload_n hx hb dX10_match_42 rfl (lv_at hl 0 rfl) ?_
          refine lv_iload_n hx hb dX10_match_43 rfl (lv_at hl 2 rfl) ?_
          refine kM_i (As := [.int (nI f9)]) (rest := []) (q0 := 0) ⟨hx, hb, hml, hown, hts⟩ (x_X10_spreadFrom l D cy a _ J I (va_up (va_up (va_up R 15 m0_25) 16 m1_25) 17 m2_25) RJ (nI f9) hmi.1 hmi.2.1 (hst_f hmi.2.2.1 hlt_f9 c_3) hmi.2.2.2.1 (hdx_f hlt_f9 c_3) ) (cwV 1 hts gX10_match_X10_spreadFrom rfl rfl rfl (by decide +kernel) ⟨Nat.le_of_ble_eq_true rfl, Nat.le_of_ble_eq_true rfl⟩) hK hN hP hD hS hA rfl rfl rfl hl.1 rfl (Nat.le_of_ble_eq_true rfl) dX10_match_44 ⟨Nat.le_of_ble_eq_true rfl, Nat.le_of_ble_eq_true rfl⟩ (fun r_4 u H locs hw hP hD hS => ?_)
          obtain ⟨w_5, w_6, ⟨hp_7, hp_8⟩, rfl⟩ := hw
          have hP : va_P D vwCl (MW cy a J I (va_up (va_up (va_up R 15 m0_25) 16 w_5) 17 w_6) RJ) H := hP
          have hD : va_D A (MW cy a J I (va_up (va_up (va_up R 15 m0_25) 16 w_5) 17 w_6) RJ) := hD
          refine lv_istore_n (lv' := [(3, .int r_4), (0, .ref (a 0)), (1, .int v1_25), (2, .int (nI f9))]) hx hb dX10_match_47 rfl hl (by decide) rfl (fun ls hl => ?_)
          refine lv_iload_n hx hb dX10_match_48 rfl (lv_at hl 2 rfl) ?_
          refine lv_iload_n hx hb dX10_match_49 rfl (lv_at hl 0 rfl) ?_
          refine lv_if_ge (tgt := 57) hx hb dX10_match_50 (by decide) (fun c_9 => ?_) (fun c_9 => ?_)
          · obtain ⟨tm0, hwm0⟩ := wm_ok hlt_f9 hmi c_3 (i32_nlt c_9) hp_7
            refine lv_iconst (v := 0) hx hb dX10_match_57 (by decide) ?_
            refine lv_iadd hx hb dX10_match_58 ?_
            refine lv_istore_n (lv' := [(1, .int (v1_25 + 0)), (3, .int r_4), (0, .ref (a 0)), (2, .int (nI f9))]) hx hb dX10_match_59 rfl hl (by decide) rfl (fun ls hl => ?_)
            exact lp60 _ tm0 (v1_25 + 0) r_4 m0_25 w_5 w_6 hlt_f9 c_3 hwm0 (Nat.lt_succ_self _) _ _ hP hD hS ls (lv_sub hl [2, 0, 3, 1] rfl)
          · refine lv_iconst (v := 1) hx hb dX10_match_53 (by decide) ?_
            refine lv_goto (tgt := 58) hx hb dX10_match_54 (by decide) ?_
            refine lv_iadd hx hb dX10_match_58 ?_
            refine lv_istore_n (lv' := [(1, .int (v1_25 + 1)), (3, .int r_4), (0, .ref (a 0)), (2, .int (nI f9))]) hx hb dX10_match_59 rfl hl (by decide) rfl (fun ls hl => ?_)
            exact lp60 _ 0 (v1_25 + 1) r_4 m0_25 w_5 w_6 hlt_f9 c_3 (wm_fail hlt_f9 hmi c_3 (i32_lt c_9) hp_7 hp_8) (Nat.lt_succ_self _) _ _ hP hD hS ls (lv_sub hl [2, 0, 3, 1] rfl)
        · replace c_3 := bI_f c_3
          refine lv_goto (tgt := 103) hx hb dX10_match_39 (by decide) ?_
          refine lv_iinc (v := nI (f9 + 1)) (lv' := [(2, .int (nI (f9 + 1))), (0, .ref (a 0)), (1, .int v1_25)]) hx hb dX10_match_103 hl (k := 2) rfl (nI_1 _) (by decide) rfl (fun ls hl => ?_)
          refine lv_goto (tgt := 25) hx hb dX10_match_106 (by decide) ?_
          exact ih25 (f9 + 1) v1_25 m0_25 m1_25 m2_25 hlt_f9 (MI2_n hmi c_3) (lt_dec hlt_f9 hn25) _ _ hP hD hS ls (lv_sub hl [1, 2, 0] rfl)
  have lp2 : ∀ (n2 : Nat), ∀ (i : Nat) (m0_2 : Nat → Int32) (m1_2 : Nat → Int32) (m2_2 : Nat → Int32), (i ≤ 64) → (∀ k, k < i → m0_2 k = -1) → (64 - i) < n2 → ∀ (H : Heap) (locs : List Loc), va_P D vwCl (MW cy a J I (va_up (va_up (va_up R 15 m0_2) 16 m1_2) 17 m2_2) RJ) H → va_D A (MW cy a J I (va_up (va_up (va_up R 15 m0_2) 16 m1_2) 17 m2_2) RJ) → va_S A s.heap H locs → ∀ (ls : Array Slot), lv_has ls 6 [(0, .ref (a 0)), (1, .int (nI i))] → W p l e (headSpec wsX10_match ({ frames := 3, cells := 0, slots := 0, locals := 70 })).room s m ([.ref (a 0)] : List Value).toArray below meth c H locs 0 0 (MQ below (va_Qi (fun r (u : MS) => ∃ (w0 : Nat → Int32), ∃ (w1 : Nat → Int32), ∃ (w2 : Nat → Int32), (r = (aLack (J 0)) ∧ (VM (J 0) w0) ∧ (∃ T, CT_ (J 0) w0 T) ∧ (RG w0) ∧ (SYx w0 64) ∧ (PRp (J 0) w0)) ∧ u = (J, I, (va_up (va_up (va_up R 15 w0) 16 w1) 17 w2), RJ)) (BW D A (MWu cy a)) A) ([.ref (a 0)] : List Value).toArray s 0 0 A) (F0 m 2 ls []) := by
    intro n2
    induction n2 with
    | zero => intro i m0_2 m1_2 m2_2 hi hin hn; exact absurd hn (Nat.not_lt_zero _)
    | succ n2 ih2 =>
      intro i m0_2 m1_2 m2_2 hi hin hn2 H locs hP hD hS ls hl
      refine lv_iload_n hx hb dX10_match_2 rfl (lv_at hl 1 rfl) ?_
      refine lv_bipush (v := 64) hx hb dX10_match_3 (by decide) ?_
      refine lv_icmp_ge (tgt := 21) hx hb dX10_match_5 (by decide) (fun c_10 => ?_) (fun c_10 => ?_)
      · have hie := ctr_ge (N := 64) (by decide) hi c_10
        refine lv_iconst (v := 0) hx hb dX10_match_21 (by decide) ?_
        refine lv_istore_n (lv' := [(1, .int 0), (0, .ref (a 0))]) hx hb dX10_match_22 rfl hl (by decide) rfl (fun ls hl => ?_)
        refine lv_iconst (v := 0) hx hb dX10_match_23 (by decide) ?_
        refine lv_istore_n (lv' := [(2, .int 0), (1, .int 0), (0, .ref (a 0))]) hx hb dX10_match_24 rfl hl (by decide) rfl (fun ls hl => ?_)
        exact lp25 _ 0 (0 : Int32) m0_2 m1_2 m2_2 (Nat.zero_le _) (MI2_0 hie hin) (Nat.lt_succ_self _) _ _ hP hD hS ls (lv_sub hl [2, 1, 0] rfl)
      · have hlt_i := ctr_lt (N := 64) (by decide) hi c_10
        refine lv_aload_n hx hb dX10_match_8 rfl (lv_at hl 0 rfl) ?_
        refine va_get (D := D) (ci := 9) (v := .ref (a 15)) (C := RX10) (T := TX10) (N := 30) hx hb hts hi10 hown hK hP 0 rfl rfl 26 (by decide) hw1 (fun _ h9 => h9) rfl dX10_match_9 ?_
        refine lv_iload_n hx hb dX10_match_12 rfl (lv_at hl 1 rfl) ?_
        refine lv_iconst (v := (-1)) hx hb dX10_match_13 (by decide) ?_
        refine va_iast hx hb hK hP hD hS 15 0 rfl rfl (vp_in_nI hlt_i (by decide)) dX10_match_14 (fun H locs hP hD hS => ?_)
        have hP : va_P D vwCl (MW cy a J I (va_up (va_up (va_up R 15 (upd m0_2 (nI i).toNatClampNeg (-1))) 16 m1_2) 17 m2_2) RJ) H := hP
        have hD : va_D A (MW cy a J I (va_up (va_up (va_up R 15 (upd m0_2 (nI i).toNatClampNeg (-1))) 16 m1_2) 17 m2_2) RJ) := hD
        refine lv_iinc (v := nI (i + 1)) (lv' := [(1, .int (nI (i + 1))), (0, .ref (a 0))]) hx hb dX10_match_15 hl (k := 1) rfl (nI_1 _) (by decide) rfl (fun ls hl => ?_)
        refine lv_goto (tgt := 2) hx hb dX10_match_18 (by decide) ?_
        exact ih2 (i + 1) (upd m0_2 (nI i).toNatClampNeg (-1)) m1_2 m2_2 hlt_i (mt_up hlt_i hin) (lt_dec hlt_i hn2) _ _ hP hD hS ls (lv_sub hl [1, 0] rfl)
  refine lv_iconst (v := 0) hx hb dX10_match_0 (by decide) ?_
  refine lv_istore_n (lv' := [(1, .int 0), (0, .ref (a 0))]) hx hb dX10_match_1 rfl hl (by decide) rfl (fun ls hl => ?_)
  exact lp2 _ 0 (R 15) (R 16) (R 17) (by omega) (fun k h => absurd h (Nat.not_lt_zero _)) (Nat.lt_succ_self _) _ _ hP hD hS ls (lv_sub hl [1, 0] rfl)
set_option maxHeartbeats 4000000 in
set_option maxRecDepth 100000 in
theorem x_X10_lack (l : Launch) (D : va_G) (cy : Nat → ClassId) (a : Nat → Nat) (sz : Nat) (J : Nat → Int64) (I : Nat → Int32) (R : Nat → Nat → Int32) (RJ : Nat → Nat → Int64)  (fl : Int64) (S : List Int32) (P : List PE) (hRA : RMf (J 0) (I 1) (I 12) (R 1) (R 3) (R 4) (RJ 2) fl S P) : Met l yX10_lack wsX10_lack ({ frames := 4, cells := 0, slots := 0, locals := 95 }) (va_Pc [.ref (a 0)] (PW D cy sz (MW cy a J I R RJ))) (va_Qi (fun r (u : MS) => ∃ (w0 : Nat → Int32), ∃ (w1 : Nat → Int32), ∃ (w2 : Nat → Int32), (r = (aLack fl)) ∧ u = (J, I, (va_up (va_up (va_up R 15 w0) 16 w1) 17 w2), RJ)) (BW D (va_A (MW cy a J I R RJ) sz) (MWu cy a)) (va_A (MW cy a J I R RJ) sz)) 0 0 (va_A (MW cy a J I R RJ) sz) := by
  refine Met.ofW (cc := cX10_lack) (maxL := 1) (ret := (some .int)) (by decide) rfl ?_
  intro p e s m args below meth c s₁ B hml hv
  obtain ⟨rfl, rfl, hP, hK, hN, hD0⟩ := hv
  have hx := B.exec
  have hb := B.bytes
  have hr := B.returns
  have hts := atoms_spec (ws := wsX10_lack) B.pre
  have hown : s.vm.findClass RX10 = some m.cls := findClass_of_methodNamed B.named
  have hlocks := B.notSynchronized
  have hD := hD0.self (sz := s.heap.size)
  generalize hAe : va_A (MW cy a J I R RJ) s.heap.size = A at hD ⊢
  have hA : ∀ q : Nat, s.heap.size ≤ q → A q := fun q h => by rw [← hAe]; exact Or.inr h
  have hS : va_S A s.heap s.heap [] := va_S.rf
  have hl := lv_entry ([.ref (a 0)]) (n := 1) (Nat.le_of_ble_eq_true rfl)
  rw [lg_entry_eq]
  generalize (lg_sl ([.ref (a 0)]) ++ List.replicate (1 - (lg_sl ([.ref (a 0)])).length) Slot.unset).toArray = ls at hl ⊢
  have hl : lv_has ls 1 [(0, .ref (a 0))] := hl
  have hP : va_P D vwCl (MW cy a J I (va_up (va_up (va_up R 15 (R 15)) 16 (R 16)) 17 (R 17)) RJ) s.heap := hP
  have hD : va_D A (MW cy a J I (va_up (va_up (va_up R 15 (R 15)) 16 (R 16)) 17 (R 17)) RJ) := hD
  refine lv_aload_n hx hb dX10_lack_0 rfl (lv_at hl 0 rfl) ?_
  refine kM_i (As := []) (rest := []) (q0 := 0) ⟨hx, hb, hml, hown, hts⟩ (x_X10_match l D cy a _ J I (va_up (va_up (va_up R 15 (R 15)) 16 (R 16)) 17 (R 17)) RJ   ) (cwV 0 hts gX10_lack_X10_match rfl rfl rfl (by decide +kernel) ⟨Nat.le_of_ble_eq_true rfl, Nat.le_of_ble_eq_true rfl⟩) hK hN hP hD hS hA rfl rfl rfl hl.1 rfl (Nat.le_of_ble_eq_true rfl) dX10_lack_1 ⟨Nat.le_of_ble_eq_true rfl, Nat.le_of_ble_eq_true rfl⟩ (fun r_1 u H locs hw hP hD hS => ?_)
  obtain ⟨w_2, w_3, w_4, ⟨rfl, hp_5, hp_6, hp_7, hp_8, hp_9⟩, rfl⟩ := hw
  have hP : va_P D vwCl (MW cy a J I (va_up (va_up (va_up R 15 w_2) 16 w_3) 17 w_4) RJ) H := hP
  have hD : va_D A (MW cy a J I (va_up (va_up (va_up R 15 w_2) 16 w_3) 17 w_4) RJ) := hD
  exact wret_i hx hb hr hlocks (J, I, (va_up (va_up (va_up R 15 w_2) 16 w_3) 17 w_4), RJ) ⟨w_2, w_3, w_4, (by rw [hRA.1]), rfl⟩ hP hD hS dX10_lack_4
set_option maxHeartbeats 4000000 in
set_option maxRecDepth 100000 in
theorem x_X10_lacking (l : Launch) (D : va_G) (cy : Nat → ClassId) (a : Nat → Nat) (sz : Nat) (J : Nat → Int64) (I : Nat → Int32) (R : Nat → Nat → Int32) (RJ : Nat → Nat → Int64) (x0 : Int32) (fl : Int64) (S : List Int32) (P : List PE) (hRA : RMf (J 0) (I 1) (I 12) (R 1) (R 3) (R 4) (RJ 2) fl S P) : Met l yX10_lacking wsX10_lacking ({ frames := 4, cells := 0, slots := 0, locals := 95 }) (va_Pc [.ref (a 0), .int x0] (PW D cy sz (MW cy a J I R RJ))) (va_Qi (fun r (u : MS) => ∃ (w0 : Int32), ∃ (w1 : Nat → Int32), ∃ (w2 : Nat → Int32), ∃ (w3 : Nat → Int32), (r = (aLkg fl x0)) ∧ u = (J, (va_up I 13 w0), (va_up (va_up (va_up R 15 w1) 16 w2) 17 w3), RJ)) (BW D (va_A (MW cy a J I R RJ) sz) (MWu cy a)) (va_A (MW cy a J I R RJ) sz)) 0 0 (va_A (MW cy a J I R RJ) sz) := by
  refine Met.ofW (cc := cX10_lacking) (maxL := 4) (ret := (some .int)) (by decide) rfl ?_
  intro p e s m args below meth c s₁ B hml hv
  obtain ⟨rfl, rfl, hP, hK, hN, hD0⟩ := hv
  have hx := B.exec
  have hb := B.bytes
  have hr := B.returns
  have hts := atoms_spec (ws := wsX10_lacking) B.pre
  have hown : s.vm.findClass RX10 = some m.cls := findClass_of_methodNamed B.named
  have hlocks := B.notSynchronized
  have hw0 := hts (.fieldLink RX10 57 "ParquetLayerModel" "seen" "[Z") (by decide +kernel)
  have hw1 := hts (.constant RX10 141 (-100001)) (by decide +kernel)
  have hi10 := ihX10_lacking_10
  have hD := hD0.self (sz := s.heap.size)
  generalize hAe : va_A (MW cy a J I R RJ) s.heap.size = A at hD ⊢
  have hA : ∀ q : Nat, s.heap.size ≤ q → A q := fun q h => by rw [← hAe]; exact Or.inr h
  have hS : va_S A s.heap s.heap [] := va_S.rf
  have hl := lv_entry ([.ref (a 0), .int x0]) (n := 4) (Nat.le_of_ble_eq_true rfl)
  rw [lg_entry_eq]
  generalize (lg_sl ([.ref (a 0), .int x0]) ++ List.replicate (4 - (lg_sl ([.ref (a 0), .int x0])).length) Slot.unset).toArray = ls at hl ⊢
  have hl : lv_has ls 4 [(0, .ref (a 0)), (1, .int x0)] := hl
  have hP : va_P D vwCl (MW cy a J (va_up I 13 (I 13)) (va_up (va_up (va_up R 15 (R 15)) 16 (R 16)) 17 (R 17)) RJ) s.heap := hP
  have hD : va_D A (MW cy a J (va_up I 13 (I 13)) (va_up (va_up (va_up R 15 (R 15)) 16 (R 16)) 17 (R 17)) RJ) := hD
  refine lv_iload_n hx hb dX10_lacking_0 rfl (lv_at hl 1 rfl) ?_
  refine kS_i (As := [.int x0]) (rest := []) ⟨hx, hb, hml, hown, hts⟩ (c_X10_isField l x0) (va_cwS 1 hts gX10_lacking_X10_isField rfl rfl rfl (by decide +kernel) ⟨Nat.le_of_ble_eq_true rfl, Nat.le_of_ble_eq_true rfl⟩) rfl hl.1 rfl (Nat.le_of_ble_eq_true rfl) dX10_lacking_1 ⟨Nat.le_of_ble_eq_true rfl, Nat.le_of_ble_eq_true rfl⟩ ?_
  refine lv_if_ne (tgt := 14) hx hb dX10_lacking_4 (by decide) (fun c_1 => ?_) (fun c_1 => ?_)
  · replace c_1 := bI_t c_1
    refine lv_aload_n hx hb dX10_lacking_14 rfl (lv_at hl 0 rfl) ?_
    refine kM_i (As := []) (rest := []) (q0 := 0) ⟨hx, hb, hml, hown, hts⟩ (x_X10_match l D cy a _ J (va_up I 13 (I 13)) (va_up (va_up (va_up R 15 (R 15)) 16 (R 16)) 17 (R 17)) RJ   ) (cwV 0 hts gX10_lacking_X10_match rfl rfl rfl (by decide +kernel) ⟨Nat.le_of_ble_eq_true rfl, Nat.le_of_ble_eq_true rfl⟩) hK hN hP hD hS hA rfl rfl rfl hl.1 rfl (Nat.le_of_ble_eq_true rfl) dX10_lacking_15 ⟨Nat.le_of_ble_eq_true rfl, Nat.le_of_ble_eq_true rfl⟩ (fun r_2 u H locs hw hP hD hS => ?_)
    obtain ⟨w_3, w_4, w_5, ⟨rfl, hp_6, hp_7, hp_8, hp_9, hp_10⟩, rfl⟩ := hw
    have hP : va_P D vwCl (MW cy a J (va_up I 13 (I 13)) (va_up (va_up (va_up R 15 w_3) 16 w_4) 17 w_5) RJ) H := hP
    have hD : va_D A (MW cy a J (va_up I 13 (I 13)) (va_up (va_up (va_up R 15 w_3) 16 w_4) 17 w_5) RJ) := hD
    refine lv_istore_n (lv' := [(2, .int (aLack (J 0))), (0, .ref (a 0)), (1, .int x0)]) hx hb dX10_lacking_18 rfl hl (by decide) rfl (fun ls hl => ?_)
    refine lv_aload_n hx hb dX10_lacking_19 rfl (lv_at hl 1 rfl) ?_
    refine lv_iconst (v := (-1)) hx hb dX10_lacking_20 (by decide) ?_
    refine kM_i (As := [.int (-1)]) (rest := []) (q0 := 0) ⟨hx, hb, hml, hown, hts⟩ (x_X10_spreadFrom l D cy a _ J (va_up I 13 (I 13)) (va_up (va_up (va_up R 15 w_3) 16 w_4) 17 w_5) RJ (-1) hp_8 hp_9 (fun d hd z => absurd z (nI_m1 ⟨d, hd⟩)) hp_10 (fun d hd z => absurd z (nI_m1 ⟨d, hd⟩)) ) (cwV 1 hts gX10_lacking_X10_spreadFrom rfl rfl rfl (by decide +kernel) ⟨Nat.le_of_ble_eq_true rfl, Nat.le_of_ble_eq_true rfl⟩) hK hN hP hD hS hA rfl rfl rfl hl.1 rfl (Nat.le_of_ble_eq_true rfl) dX10_lacking_21 ⟨Nat.le_of_ble_eq_true rfl, Nat.le_of_ble_eq_true rfl⟩ (fun r_11 u H locs hw hP hD hS => ?_)
    obtain ⟨w_12, w_13, ⟨hp_14, hp_15⟩, rfl⟩ := hw
    have hP : va_P D vwCl (MW cy a J (va_up I 13 (I 13)) (va_up (va_up (va_up R 15 w_3) 16 w_12) 17 w_13) RJ) H := hP
    have hD : va_D A (MW cy a J (va_up I 13 (I 13)) (va_up (va_up (va_up R 15 w_3) 16 w_12) 17 w_13) RJ) := hD
    refine lv_istore_n (lv' := [(3, .int r_11), (2, .int (aLack (J 0))), (0, .ref (a 0)), (1, .int x0)]) hx hb dX10_lacking_24 rfl hl (by decide) rfl (fun ls hl => ?_)
    refine lv_aload_n hx hb dX10_lacking_25 rfl (lv_at hl 2 rfl) ?_
    refine lv_iload_n hx hb dX10_lacking_26 rfl (lv_at hl 3 rfl) ?_
    refine kR_i (As := [.int x0]) (rest := []) (q0 := 0) ⟨hx, hb, hml, hown, hts⟩ (c_X10_isDarkField l D cy a _ J (va_up I 13 (I 13)) (va_up (va_up (va_up R 15 w_3) 16 w_12) 17 w_13) RJ x0 ) (cwV 1 hts gX10_lacking_X10_isDarkField rfl rfl rfl (by decide +kernel) ⟨Nat.le_of_ble_eq_true rfl, Nat.le_of_ble_eq_true rfl⟩) hK hN hP hD rfl rfl rfl hl.1 rfl (Nat.le_of_ble_eq_true rfl) dX10_lacking_27 ⟨Nat.le_of_ble_eq_true rfl, Nat.le_of_ble_eq_true rfl⟩ ?_
    refine lv_if_eq (tgt := 46) hx hb dX10_lacking_30 (by decide) (fun c_16 => ?_) (fun c_16 => ?_)
    · replace c_16 := bI_f c_16
      refine lv_iconst (v := 0) hx hb dX10_lacking_46 (by decide) ?_
      exact wret_i hx hb hr hlocks (J, (va_up I 13 (I 13)), (va_up (va_up (va_up R 15 w_3) 16 w_12) 17 w_13), RJ) ⟨(I 13), w_3, w_12, w_13, (lkg_n c_1 (fun z => absurd (((lkM_iff hRA.1 c_1 hp_6 hp_7 hp_14 hp_15).mpr z).1) (by rw [c_16]; decide))), rfl⟩ hP hD hS dX10_lacking_47
    · replace c_16 := bI_t c_16
      refine lv_aload_n hx hb dX10_lacking_33 rfl (lv_at hl 2 rfl) ?_
      refine va_get (D := D) (ci := 9) (v := .ref (a 16)) (C := RX10) (T := TX10) (N := 30) hx hb hts hi10 hown hK hP 0 rfl rfl 27 (by decide) hw0 (fun _ h9 => h9) rfl dX10_lacking_34 ?_
      refine lv_iload_n hx hb dX10_lacking_37 rfl (lv_at hl 3 rfl) ?_
      refine va_zald hx hb hK hP 16 2 rfl rfl (within_in64 c_1) dX10_lacking_38 ?_
      refine lv_if_eq (tgt := 46) hx hb dX10_lacking_39 (by decide) (fun c_17 => ?_) (fun c_17 => ?_)
      · refine lv_iconst (v := 0) hx hb dX10_lacking_46 (by decide) ?_
        exact wret_i hx hb hr hlocks (J, (va_up I 13 (I 13)), (va_up (va_up (va_up R 15 w_3) 16 w_12) 17 w_13), RJ) ⟨(I 13), w_3, w_12, w_13, (lkg_n c_1 (fun z => ((lkM_iff hRA.1 c_1 hp_6 hp_7 hp_14 hp_15).mpr z).2 c_17)), rfl⟩ hP hD hS dX10_lacking_47
      · refine lv_iconst (v := 1) hx hb dX10_lacking_42 (by decide) ?_
        refine lv_goto (tgt := 47) hx hb dX10_lacking_43 (by decide) ?_
        exact wret_i hx hb hr hlocks (J, (va_up I 13 (I 13)), (va_up (va_up (va_up R 15 w_3) 16 w_12) 17 w_13), RJ) ⟨(I 13), w_3, w_12, w_13, (lkg_y c_1 ((lkM_iff hRA.1 c_1 hp_6 hp_7 hp_14 hp_15).mp ⟨c_16, c_17⟩)), rfl⟩ hP hD hS dX10_lacking_47
  · replace c_1 := bI_f c_1
    refine lv_aload_n hx hb dX10_lacking_7 rfl (lv_at hl 0 rfl) ?_
    refine lv_ldc (v := (-100001)) hx hb hown hw1 dX10_lacking_8 ?_
    refine kM_i (As := [.int (-100001)]) (rest := []) (q0 := 0) ⟨hx, hb, hml, hown, hts⟩ (c_X10_finding l D cy a _ J (va_up I 13 (I 13)) (va_up (va_up (va_up R 15 (R 15)) 16 (R 16)) 17 (R 17)) RJ (-100001) ) (cwV 1 hts gX10_lacking_X10_finding rfl rfl rfl (by decide +kernel) ⟨Nat.le_of_ble_eq_true rfl, Nat.le_of_ble_eq_true rfl⟩) hK hN hP hD hS hA rfl rfl rfl hl.1 rfl (Nat.le_of_ble_eq_true rfl) dX10_lacking_10 ⟨Nat.le_of_ble_eq_true rfl, Nat.le_of_ble_eq_true rfl⟩ (fun r_18 u H locs hw hP hD hS => ?_)
    obtain ⟨rfl, rfl⟩ := hw
    have hP : va_P D vwCl (MW cy a J (va_up I 13 ((I 13) + 1)) (va_up (va_up (va_up R 15 (R 15)) 16 (R 16)) 17 (R 17)) RJ) H := hP
    have hD : va_D A (MW cy a J (va_up I 13 ((I 13) + 1)) (va_up (va_up (va_up R 15 (R 15)) 16 (R 16)) 17 (R 17)) RJ) := hD
    exact wret_i hx hb hr hlocks (J, (va_up I 13 ((I 13) + 1)), (va_up (va_up (va_up R 15 (R 15)) 16 (R 16)) 17 (R 17)), RJ) ⟨((I 13) + 1), (R 15), (R 16), (R 17), (lkg_1 c_1), rfl⟩ hP hD hS dX10_lacking_13
