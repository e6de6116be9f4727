set_option maxHeartbeats 4000000 in
set_option maxRecDepth 100000 in
theorem x_X10_countAllW (l : Launch) (D : va_G) (cy : Nat → ClassId) (a : Nat → Nat) (sz : Nat) (J : Nat → Int64) (I : Nat → Int32) (R : Nat → Nat → Int32) (RJ : Nat → Nat → Int64)  (fl : Int64) (S : List Int32) (P : List PE) (hRA : RMf (J 0) (I 1) (I 12) (R 1) (R 3) (R 4) (RJ 2) fl S P) (hG : gInv fl S) (hng : S.any m_isG = false) (hM : MI I R) : Met l yX10_countAll wsX10_countAll ({ frames := 3, cells := 0, slots := 0, locals := 73 }) (va_Pc [.ref (a 0)] (PW D cy sz (MW cy a J I R RJ))) (va_Qi (fun r (u : MS) => ∃ (w0 : Int64), ∃ (w1 : Int64), ∃ (w2 : Int64), ∃ (w3 : Nat → Int32), (r = (aCnt fl S) ∧ (w0 = 0 ∧ w1 = 0 ∧ w2 = 0) ∧ (zT (bfx (J 0)) w3)) ∧ u = ((va_up (va_up (va_up J 19 w0) 20 w1) 21 w2), I, (va_up R 12 w3), RJ)) (BW D (va_A (MW cy a J I R RJ) sz) (MWu cy a)) (va_A (MW cy a J I R RJ) sz)) 0 0 (va_A (MW cy a J I R RJ) sz) := by
  refine Met.ofW (cc := cX10_countAll) (maxL := 1) (ret := (some .int)) (by decide) rfl ?_
  intro p e s m args below meth c s₁ B hml hv
  obtain ⟨rfl, rfl, hP, hK, hN, hD0⟩ := hv
  have hx := B.exec
  have hb := B.bytes
  have hr := B.returns
  have hts := atoms_spec (ws := wsX10_countAll) B.pre
  have hown : s.vm.findClass RX10 = some m.cls := findClass_of_methodNamed B.named
  have hlocks := B.notSynchronized
  have hD := hD0.self (sz := s.heap.size)
  generalize hAe : va_A (MW cy a J I R RJ) s.heap.size = A at hD ⊢
  have hA : ∀ q : Nat, s.heap.size ≤ q → A q := fun q h => by rw [← hAe]; exact Or.inr h
  have hS : va_S A s.heap s.heap [] := va_S.rf
  have hl := lv_entry ([.ref (a 0)]) (n := 1) (Nat.le_of_ble_eq_true rfl)
  rw [lg_entry_eq]
  generalize (lg_sl ([.ref (a 0)]) ++ List.replicate (1 - (lg_sl ([.ref (a 0)])).length) Slot.unset).toArray = ls at hl ⊢
  have hl : lv_has ls 1 [(0, .ref (a 0))] := hl
  obtain ⟨ns, hns, hI1, hSe⟩ := hRA.2.1
  have hP : va_P D vwCl (MW cy a (va_up (va_up (va_up J 19 (J 19)) 20 (J 20)) 21 (J 21)) I (va_up R 12 (R 12)) RJ) s.heap := hP
  have hD : va_D A (MW cy a (va_up (va_up (va_up J 19 (J 19)) 20 (J 20)) 21 (J 21)) I (va_up R 12 (R 12)) RJ) := hD
  refine lv_aload_n hx hb dX10_countAll_0 rfl (lv_at hl 0 rfl) ?_
  refine kM_v (As := []) (rest := []) (q0 := 0) ⟨hx, hb, hml, hown, hts⟩ (x_X10_findGlued l D cy a _ (va_up (va_up (va_up J 19 (J 19)) 20 (J 20)) 21 (J 21)) I (va_up R 12 (R 12)) RJ   ⟨hM.1, hM.2.1, hM.2.2.1, hM.2.2.2.1, hM.2.2.2.2.1, hM.2.2.2.2.2⟩) (cwV 0 hts gX10_countAll_X10_findGlued rfl rfl rfl (by decide +kernel) ⟨Nat.le_of_ble_eq_true rfl, Nat.le_of_ble_eq_true rfl⟩) hK hN hP hD hS hA rfl rfl rfl hl.1 rfl (Nat.le_of_ble_eq_true rfl) dX10_countAll_1 ⟨Nat.le_of_ble_eq_true rfl, Nat.le_of_ble_eq_true rfl⟩ (fun u H locs hw hP hD hS => ?_)
  obtain ⟨w_2, w_3, w_4, hp_5, rfl⟩ := hw
  have hP : va_P D vwCl (MW cy a (va_up (va_up (va_up J 19 w_2) 20 w_3) 21 w_4) I (va_up R 12 (R 12)) RJ) H := hP
  have hD : va_D A (MW cy a (va_up (va_up (va_up J 19 w_2) 20 w_3) 21 w_4) I (va_up R 12 (R 12)) RJ) := hD
  refine lv_aload_n hx hb dX10_countAll_4 rfl (lv_at hl 0 rfl) ?_
  refine kM_v (As := []) (rest := []) (q0 := 0) ⟨hx, hb, hml, hown, hts⟩ (x_X10_findWays l D cy a _ (va_up (va_up (va_up J 19 w_2) 20 w_3) 21 w_4) I (va_up R 12 (R 12)) RJ   ) (cwV 0 hts gX10_countAll_X10_findWays rfl rfl rfl (by decide +kernel) ⟨Nat.le_of_ble_eq_true rfl, Nat.le_of_ble_eq_true rfl⟩) hK hN hP hD hS hA rfl rfl rfl hl.1 rfl (Nat.le_of_ble_eq_true rfl) dX10_countAll_5 ⟨Nat.le_of_ble_eq_true rfl, Nat.le_of_ble_eq_true rfl⟩ (fun u H locs hw hP hD hS => ?_)
  obtain ⟨w_7, hp_8, rfl⟩ := hw
  have hP : va_P D vwCl (MW cy a (va_up (va_up (va_up J 19 w_2) 20 w_3) 21 w_4) I (va_up R 12 w_7) RJ) H := hP
  have hD : va_D A (MW cy a (va_up (va_up (va_up J 19 w_2) 20 w_3) 21 w_4) I (va_up R 12 w_7) RJ) := hD
  refine lv_aload_n hx hb dX10_countAll_8 rfl (lv_at hl 0 rfl) ?_
  refine lv_iconst (v := 0) hx hb dX10_countAll_9 (by decide) ?_
  refine lv_iconst (v := 0) hx hb dX10_countAll_10 (by decide) ?_
  refine kR_i (As := [.int 0, .int 0]) (rest := []) (q0 := 0) ⟨hx, hb, hml, hown, hts⟩ (c_X10_waysAt l D cy a _ (va_up (va_up (va_up J 19 w_2) 20 w_3) 21 w_4) I (va_up R 12 w_7) RJ 0 0 (by unfold vp_in; decide)) (cwV 2 hts gX10_countAll_X10_waysAt rfl rfl rfl (by decide +kernel) ⟨Nat.le_of_ble_eq_true rfl, Nat.le_of_ble_eq_true rfl⟩) hK hN hP hD rfl rfl rfl hl.1 rfl (Nat.le_of_ble_eq_true rfl) dX10_countAll_11 ⟨Nat.le_of_ble_eq_true rfl, Nat.le_of_ble_eq_true rfl⟩ ?_
  exact wret_i hx hb hr hlocks ((va_up (va_up (va_up J 19 w_2) 20 w_3) 21 w_4), I, (va_up R 12 w_7), RJ) ⟨w_2, w_3, w_4, w_7, ⟨(cnt_use hRA.1 hG hSe (show (I 1).toNatClampNeg = ns by rw [hI1]; exact cl20 hns) hp_5 hp_8), (zT_use hRA.1 hSe (show (I 1).toNatClampNeg = ns by rw [hI1]; exact cl20 hns) hng hp_5 hp_8).1, (zT_use hRA.1 hSe (show (I 1).toNatClampNeg = ns by rw [hI1]; exact cl20 hns) hng hp_5 hp_8).2⟩, rfl⟩ hP hD hS dX10_countAll_14
set_option maxHeartbeats 4000000 in
set_option maxRecDepth 100000 in
theorem x_X10_waysAt (l : Launch) (D : va_G) (cy : Nat → ClassId) (a : Nat → Nat) (sz : Nat) (J : Nat → Int64) (I : Nat → Int32) (R : Nat → Nat → Int32) (RJ : Nat → Nat → Int64) (x0 : Nat) (x1 : Nat) (hx0 : x0 ≤ 64) (hsb : sub x1 (wf (bfx (J 0)) x0)) (hzt : zT (bfx (J 0)) (R 12)) : Met l yX10_waysAt wsX10_waysAt ({ frames := 0, cells := 0, slots := 0, locals := 0 }) (va_Pc [.ref (a 0), .int (nI x0), .int (nI x1)] (PW D cy sz (MW cy a J I R RJ))) (va_Qi (fun r (u : MS) => (r = (nI (zWn (bfx (J 0)) (64 - x0) x1))) ∧ u = (J, I, R, RJ)) (BW D (va_A (MW cy a J I R RJ) sz) (MWu cy a)) (va_A (MW cy a J I R RJ) sz)) 0 0 (va_A (MW cy a J I R RJ) sz) := by
  refine Met.ofW (cc := cX10_waysAt) (maxL := 3) (ret := (some .int)) (by decide) rfl ?_
  intro p e s m args below meth c s₁ B hml hv
  obtain ⟨rfl, rfl, hP, hK, hN, hD0⟩ := hv
  have hx := B.exec
  have hb := B.bytes
  have hr := B.returns
  have hts := atoms_spec (ws := wsX10_waysAt) B.pre
  have hown : s.vm.findClass RX10 = some m.cls := findClass_of_methodNamed B.named
  have hlocks := B.notSynchronized
  have hw0 := hts (.fieldLink RX10 45 "ParquetLayerModel" "ways" "[I") (by decide +kernel)
  have hi10 := ihX10_waysAt_10
  have hD := hD0.self (sz := s.heap.size)
  generalize hAe : va_A (MW cy a J I R RJ) s.heap.size = A at hD ⊢
  have hA : ∀ q : Nat, s.heap.size ≤ q → A q := fun q h => by rw [← hAe]; exact Or.inr h
  have hS : va_S A s.heap s.heap [] := va_S.rf
  have hl := lv_entry ([.ref (a 0), .int (nI x0), .int (nI x1)]) (n := 3) (Nat.le_of_ble_eq_true rfl)
  rw [lg_entry_eq]
  generalize (lg_sl ([.ref (a 0), .int (nI x0), .int (nI x1)]) ++ List.replicate (3 - (lg_sl ([.ref (a 0), .int (nI x0), .int (nI x1)])).length) Slot.unset).toArray = ls at hl ⊢
  have hl : lv_has ls 3 [(0, .ref (a 0)), (1, .int (nI x0)), (2, .int (nI x1))] := hl
  refine lv_aload_n hx hb dX10_waysAt_0 rfl (lv_at hl 0 rfl) ?_
  refine va_get (D := D) (ci := 9) (v := .ref (a 12)) (C := RX10) (T := TX10) (N := 30) hx hb hts hi10 hown hK hP 0 rfl rfl 18 (by decide) hw0 (fun _ h9 => h9) rfl dX10_waysAt_1 ?_
  refine lv_sipush (v := 256) hx hb dX10_waysAt_4 (by decide) ?_
  refine lv_iload_n hx hb dX10_waysAt_7 rfl (lv_at hl 1 rfl) ?_
  refine lv_imul hx hb dX10_waysAt_8 ?_
  refine lv_iload_n hx hb dX10_waysAt_9 rfl (lv_at hl 2 rfl) ?_
  refine lv_iadd hx hb dX10_waysAt_10 ?_
  refine va_iald hx hb hK hP 12 0 rfl rfl (ix_w (Nat.lt_succ_of_le hx0) (sub_lt hsb (wf_lt _ _))) dX10_waysAt_11 ?_
  exact wret_i hx hb hr hlocks (J, I, R, RJ) ⟨(zT_rd hzt hx0 hsb), rfl⟩ hP hD hS dX10_waysAt_12
set_option maxHeartbeats 4000000 in
set_option maxRecDepth 100000 in
theorem x_X10_walk (l : Launch) (D : va_G) (cy : Nat → ClassId) (a : Nat → Nat) (sz : Nat) (J : Nat → Int64) (I : Nat → Int32) (R : Nat → Nat → Int32) (RJ : Nat → Nat → Int64) (x0 : Nat) (hzi : zIn (bfx (J 0)) x0) (hz0 : (J 19) = 0 ∧ (J 20) = 0 ∧ (J 21) = 0) (hzt : zT (bfx (J 0)) (R 12)) : Met l yX10_walk wsX10_walk ({ frames := 2, cells := 0, slots := 0, locals := 46 }) (va_Pc [.ref (a 0), .int (nI x0)] (PW D cy sz (MW cy a J I R RJ))) (va_Qv (fun (u : MS) => ∃ (w0 : Int64), ∃ (w1 : Int64), (((w0, w1) = zLy (J 0) x0)) ∧ u = ((va_up (va_up J 22 w0) 23 w1), I, R, RJ)) (BW D (va_A (MW cy a J I R RJ) sz) (MWu cy a)) (va_A (MW cy a J I R RJ) sz)) 0 0 (va_A (MW cy a J I R RJ) sz) := by
  refine Met.ofW (cc := cX10_walk) (maxL := 8) (ret := none) (by decide) rfl ?_
  intro p e s m args below meth c s₁ B hml hv
  obtain ⟨rfl, rfl, hP, hK, hN, hD0⟩ := hv
  have hx := B.exec
  have hb := B.bytes
  have hr := B.returns
  have hts := atoms_spec (ws := wsX10_walk) B.pre
  have hown : s.vm.findClass RX10 = some m.cls := findClass_of_methodNamed B.named
  have hlocks := B.notSynchronized
  have hw0 := hts (.fieldLink RX10 81 "ParquetLayerModel" "floor" "J") (by decide +kernel)
  have hw1 := hts (.fieldLink RX10 210 "ParquetLayerModel" "walkAlong" "J") (by decide +kernel)
  have hw2 := hts (.fieldLink RX10 213 "ParquetLayerModel" "walkAcross" "J") (by decide +kernel)
  have hi10 := ihX10_walk_10
  have hD := hD0.self (sz := s.heap.size)
  generalize hAe : va_A (MW cy a J I R RJ) s.heap.size = A at hD ⊢
  have hA : ∀ q : Nat, s.heap.size ≤ q → A q := fun q h => by rw [← hAe]; exact Or.inr h
  have hS : va_S A s.heap s.heap [] := va_S.rf
  have hl := lv_entry ([.ref (a 0), .int (nI x0)]) (n := 8) (Nat.le_of_ble_eq_true rfl)
  rw [lg_entry_eq]
  generalize (lg_sl ([.ref (a 0), .int (nI x0)]) ++ List.replicate (8 - (lg_sl ([.ref (a 0), .int (nI x0)])).length) Slot.unset).toArray = ls at hl ⊢
  have hl : lv_has ls 8 [(0, .ref (a 0)), (1, .int (nI x0))] := hl
  have hP : va_P D vwCl (MW cy a (va_up (va_up J 22 (J 22)) 23 (J 23)) I R RJ) s.heap := hP
  have hD : va_D A (MW cy a (va_up (va_up J 22 (J 22)) 23 (J 23)) I R RJ) := hD
  have lp17 : ∀ (n17 : Nat), ∀ (i : Nat) (mk : Nat) (l9 : Nat) (m0_17 : Int64) (m1_17 : Int64), (i ≤ 64) → (zst (bfx (J 0)) x0 i = (l9, mk, m0_17, m1_17)) → (64 - i) < n17 → ∀ (H : Heap) (locs : List Loc), va_P D vwCl (MW cy a (va_up (va_up J 22 m0_17) 23 m1_17) I R RJ) H → va_D A (MW cy a (va_up (va_up J 22 m0_17) 23 m1_17) I R RJ) → va_S A s.heap H locs → ∀ (ls : Array Slot), lv_has ls 8 [(0, .ref (a 0)), (1, .int (nI x0)), (2, .int (nI l9)), (3, .int (nI mk)), (4, .int (nI i))] → W p l e (headSpec wsX10_walk ({ frames := 2, cells := 0, slots := 0, locals := 46 })).room s m ([.ref (a 0), .int (nI x0)] : List Value).toArray below meth c H locs 0 0 (MQ below (va_Qv (fun (u : MS) => ∃ (w0 : Int64), ∃ (w1 : Int64), (((w0, w1) = zLy (J 0) x0)) ∧ u = ((va_up (va_up J 22 w0) 23 w1), I, R, RJ)) (BW D A (MWu cy a)) A) ([.ref (a 0), .int (nI x0)] : List Value).toArray s 0 0 A) (F0 m 17 ls []) := by
    intro n17
    induction n17 with
    | zero => intro i mk l9 m0_17 m1_17 hi hst hn; exact absurd hn (Nat.not_lt_zero _)
    | succ n17 ih17 =>
      intro i mk l9 m0_17 m1_17 hi hst hn17 H locs hP hD hS ls hl
      refine lv_iload hx hb dX10_walk_17 (lv_at hl 4 rfl) ?_
      refine lv_bipush (v := 64) hx hb dX10_walk_19 (by decide) ?_
      refine lv_icmp_ge (tgt := 178) hx hb dX10_walk_21 (by decide) (fun c_1 => ?_) (fun c_1 => ?_)
      · have hie_i := ctr_ge (N := 64) (by decide) hi c_1
        exact wret_v hx hb hr hlocks ((va_up (va_up J 22 m0_17) 23 m1_17), I, R, RJ) ⟨m0_17, m1_17, (zLy_o hst hie_i), rfl⟩ hP hD hS dX10_walk_178
      · have hlt_i := ctr_lt (N := 64) (by decide) hi c_1
        obtain ⟨hsb, hmk, hl31⟩ := zst_j hzi hlt_i hst
        refine lv_iload_n hx hb dX10_walk_24 rfl (lv_at hl 3 rfl) ?_
        refine lv_iconst (v := 1) hx hb dX10_walk_25 (by decide) ?_
        refine lv_ishr hx hb dX10_walk_26 ?_
        refine wtop_i (y := nI (mk / 2)) (pk_shrN (Nat.lt_trans hmk (by decide)) _ 1 (by decide)) ?_
        refine lv_istore (lv' := [(5, .int (nI (mk / 2))), (0, .ref (a 0)), (1, .int (nI x0)), (2, .int (nI l9)), (3, .int (nI mk)), (4, .int (nI i))]) hx hb dX10_walk_27 hl (by decide) rfl (fun ls hl => ?_)
        refine lv_aload_n hx hb dX10_walk_29 rfl (lv_at hl 1 rfl) ?_
        refine va_get (D := D) (ci := 9) (v := .long (J 0)) (C := RX10) (T := TX10) (N := 30) hx hb hts hi10 hown hK hP 0 rfl rfl 0 (by decide) hw0 (fun _ h9 => h9) rfl dX10_walk_30 ?_
        refine lv_iload hx hb dX10_walk_33 (lv_at hl 5 rfl) ?_
        refine kS_i (As := [.long (J 0), .int (nI i)]) (rest := []) ⟨hx, hb, hml, hown, hts⟩ (c_X10_hasBit l (J 0) (nI i)) (va_cwS 2 hts gX10_walk_X10_hasBit rfl rfl rfl (by decide +kernel) ⟨Nat.le_of_ble_eq_true rfl, Nat.le_of_ble_eq_true rfl⟩) rfl hl.1 rfl (Nat.le_of_ble_eq_true rfl) dX10_walk_35 ⟨Nat.le_of_ble_eq_true rfl, Nat.le_of_ble_eq_true rfl⟩ ?_
        refine lv_if_eq (tgt := 169) hx hb dX10_walk_38 (by decide) (fun c_2 => ?_) (fun c_2 => ?_)
        · replace c_2 := bI_f c_2
          refine lv_iload hx hb dX10_walk_169 (lv_at hl 0 rfl) ?_
          refine lv_istore_n (lv' := [(3, .int (nI (mk / 2))), (5, .int (nI (mk / 2))), (0, .ref (a 0)), (1, .int (nI x0)), (2, .int (nI l9)), (4, .int (nI i))]) hx hb dX10_walk_171 rfl hl (by decide) rfl (fun ls hl => ?_)
          refine lv_iinc (v := nI (i + 1)) (lv' := [(4, .int (nI (i + 1))), (3, .int (nI (mk / 2))), (5, .int (nI (mk / 2))), (0, .ref (a 0)), (1, .int (nI x0)), (2, .int (nI l9))]) hx hb dX10_walk_172 hl (k := 5) rfl (nI_1 _) (by decide) rfl (fun ls hl => ?_)
          refine lv_goto (tgt := 17) hx hb dX10_walk_175 (by decide) ?_
          exact ih17 (i + 1) (mk / 2) l9 m0_17 m1_17 hlt_i (zst_n hst (Or.inl (zr_on hlt_i c_2))) (lt_dec hlt_i hn17) _ _ hP hD hS ls (lv_sub hl [3, 4, 5, 1, 0] rfl)
        · replace c_2 := bI_t c_2
          refine lv_iload_n hx hb dX10_walk_41 rfl (lv_at hl 4 rfl) ?_
          refine lv_iconst (v := 1) hx hb dX10_walk_42 (by decide) ?_
          refine lv_iand hx hb dX10_walk_43 ?_
          refine lv_if_ne (tgt := 169) hx hb dX10_walk_44 (by decide) (fun c_3 => ?_) (fun c_3 => ?_)
          · refine lv_iload hx hb dX10_walk_169 (lv_at hl 0 rfl) ?_
            refine lv_istore_n (lv' := [(3, .int (nI (mk / 2))), (5, .int (nI (mk / 2))), (0, .ref (a 0)), (1, .int (nI x0)), (2, .int (nI l9)), (4, .int (nI i))]) hx hb dX10_walk_171 rfl hl (by decide) rfl (fun ls hl => ?_)
            refine lv_iinc (v := nI (i + 1)) (lv' := [(4, .int (nI (i + 1))), (3, .int (nI (mk / 2))), (5, .int (nI (mk / 2))), (0, .ref (a 0)), (1, .int (nI x0)), (2, .int (nI l9))]) hx hb dX10_walk_172 hl (k := 5) rfl (nI_1 _) (by decide) rfl (fun ls hl => ?_)
            refine lv_goto (tgt := 17) hx hb dX10_walk_175 (by decide) ?_
            exact ih17 (i + 1) (mk / 2) l9 m0_17 m1_17 hlt_i (zst_n hst (Or.inr (mk_1 hmk c_3))) (lt_dec hlt_i hn17) _ _ hP hD hS ls (lv_sub hl [3, 4, 5, 1, 0] rfl)
          · refine lv_aload_n hx hb dX10_walk_47 rfl (lv_at hl 1 rfl) ?_
            refine lv_iload hx hb dX10_walk_48 (lv_at hl 5 rfl) ?_
            refine lv_iconst (v := 0) hx hb dX10_walk_50 (by decide) ?_
            refine kR_i (As := [.int (nI i), .int 0]) (rest := []) (q0 := 0) ⟨hx, hb, hml, hown, hts⟩ (c_X10_mayLie l D cy a _ (va_up (va_up J 22 m0_17) 23 m1_17) I R RJ (nI i) false ) (cwV 2 hts gX10_walk_X10_mayLie rfl rfl rfl (by decide +kernel) ⟨Nat.le_of_ble_eq_true rfl, Nat.le_of_ble_eq_true rfl⟩) hK hN hP hD rfl rfl rfl hl.1 rfl (Nat.le_of_ble_eq_true rfl) dX10_walk_51 ⟨Nat.le_of_ble_eq_true rfl, Nat.le_of_ble_eq_true rfl⟩ ?_
            refine lv_if_eq (tgt := 78) hx hb dX10_walk_54 (by decide) (fun c_4 => ?_) (fun c_4 => ?_)
            · replace c_4 := bI_f c_4
              refine lv_iconst (v := 0) hx hb dX10_walk_78 (by decide) ?_
              refine lv_istore (lv' := [(6, .int 0), (5, .int (nI (mk / 2))), (0, .ref (a 0)), (1, .int (nI x0)), (2, .int (nI l9)), (3, .int (nI mk)), (4, .int (nI i))]) hx hb dX10_walk_79 hl (by decide) rfl (fun ls hl => ?_)
              refine lv_iload_n hx hb dX10_walk_81 rfl (lv_at hl 4 rfl) ?_
              refine lv_iload hx hb dX10_walk_82 (lv_at hl 0 rfl) ?_
              refine lv_icmp_ge (tgt := 91) hx hb dX10_walk_84 (by decide) (fun c_5 => ?_) (fun c_5 => absurd (nn_nI hl31) c_5)
              refine lv_iconst (v := 0) hx hb dX10_walk_91 (by decide) ?_
              refine lv_istore (lv' := [(7, .int 0), (6, .int 0), (5, .int (nI (mk / 2))), (0, .ref (a 0)), (1, .int (nI x0)), (2, .int (nI l9)), (3, .int (nI mk)), (4, .int (nI i))]) hx hb dX10_walk_92 hl (by decide) rfl (fun ls hl => ?_)
              refine lv_iload_n hx hb dX10_walk_94 rfl (lv_at hl 5 rfl) ?_
              refine lv_iload hx hb dX10_walk_95 (lv_at hl 0 rfl) ?_
              refine lv_if_eq (tgt := 104) hx hb dX10_walk_97 (by decide) (fun c_6 => ?_) (fun c_6 => absurd (by decide) c_6)
              refine lv_iload hx hb dX10_walk_104 (lv_at hl 1 rfl) ?_
              refine lv_isub hx hb dX10_walk_106 ?_
              refine wtop_i (y := nI l9) (Int32.sub_zero _) ?_
              refine lv_istore_n (lv' := [(2, .int (nI l9)), (7, .int 0), (6, .int 0), (5, .int (nI (mk / 2))), (0, .ref (a 0)), (1, .int (nI x0)), (3, .int (nI mk)), (4, .int (nI i))]) hx hb dX10_walk_107 rfl hl (by decide) rfl (fun ls hl => ?_)
              refine lv_aload_n hx hb dX10_walk_108 rfl (lv_at hl 4 rfl) ?_
              refine lv_dup hx hb dX10_walk_109 rfl ?_
              refine va_get (D := D) (ci := 9) (v := .long m0_17) (C := RX10) (T := TX10) (N := 30) hx hb hts hi10 hown hK hP 0 rfl rfl 22 (by decide) hw1 (fun _ h9 => h9) rfl dX10_walk_110 ?_
              refine lv_iload hx hb dX10_walk_113 (lv_at hl 1 rfl) ?_
              refine lv_if_eq (tgt := 125) hx hb dX10_walk_115 (by decide) (fun c_7 => ?_) (fun c_7 => absurd (by decide) c_7)
              refine lv_lconst (v := 0) hx hb dX10_walk_125 (by decide) ?_
              refine lv_lor hx hb dX10_walk_126 ?_
              refine va_put (D := D) (ci := 9) (v := .long (m0_17 ||| 0)) (ty := .long) (C := RX10) (T := TX10) (N := 30) hx hb hts hi10 tyX10 tyX10_ok nmX10 hown hK hP hD hS 0 rfl rfl 22 (by decide) hw1 (fun _ h9 => h9) rfl (by decide +kernel) rfl rfl (Nat.le_of_ble_eq_true rfl) dX10_walk_127 (fun H locs hP hD hS => ?_)
              have hP : va_P D vwCl (MW cy a (va_up (va_up J 22 (m0_17 ||| 0)) 23 m1_17) I R RJ) H := hP
              have hD : va_D A (MW cy a (va_up (va_up J 22 (m0_17 ||| 0)) 23 m1_17) I R RJ) := hD
              refine lv_aload_n hx hb dX10_walk_130 rfl (lv_at hl 4 rfl) ?_
              refine lv_dup hx hb dX10_walk_131 rfl ?_
              refine va_get (D := D) (ci := 9) (v := .long m1_17) (C := RX10) (T := TX10) (N := 30) hx hb hts hi10 hown hK hP 0 rfl rfl 23 (by decide) hw2 (fun _ h9 => h9) rfl dX10_walk_132 ?_
              refine lv_iload hx hb dX10_walk_135 (lv_at hl 1 rfl) ?_
              refine lv_if_eq (tgt := 144) hx hb dX10_walk_137 (by decide) (fun c_8 => ?_) (fun c_8 => absurd (by decide) c_8)
              refine lv_lconst (v := 1) hx hb dX10_walk_144 (by decide) ?_
              refine lv_iload hx hb dX10_walk_145 (lv_at hl 7 rfl) ?_
              refine lv_lshl (v := (1 : Int64) <<< ((nI i : Int32).toInt64 &&& 63)) hx hb dX10_walk_147 rfl ?_
              refine lv_lor hx hb dX10_walk_148 ?_
              refine va_put (D := D) (ci := 9) (v := .long (m1_17 ||| ((1 : Int64) <<< ((nI i : Int32).toInt64 &&& 63)))) (ty := .long) (C := RX10) (T := TX10) (N := 30) hx hb hts hi10 tyX10 tyX10_ok nmX10 hown hK hP hD hS 0 rfl rfl 23 (by decide) hw2 (fun _ h9 => h9) rfl (by decide +kernel) rfl rfl (Nat.le_of_ble_eq_true rfl) dX10_walk_149 (fun H locs hP hD hS => ?_)
              have hP : va_P D vwCl (MW cy a (va_up (va_up J 22 (m0_17 ||| 0)) 23 (m1_17 ||| ((1 : Int64) <<< ((nI i : Int32).toInt64 &&& 63)))) I R RJ) H := hP
              have hD : va_D A (MW cy a (va_up (va_up J 22 (m0_17 ||| 0)) 23 (m1_17 ||| ((1 : Int64) <<< ((nI i : Int32).toInt64 &&& 63)))) I R RJ) := hD
              refine lv_iload hx hb dX10_walk_152 (lv_at hl 3 rfl) ?_
              refine lv_iload hx hb dX10_walk_154 (lv_at hl 1 rfl) ?_
              refine lv_if_eq (tgt := 163) hx hb dX10_walk_156 (by decide) (fun c_9 => ?_) (fun c_9 => absurd (by decide) c_9)
              refine lv_sipush (v := 128) hx hb dX10_walk_163 (by decide) ?_
              refine lv_ior hx hb dX10_walk_166 ?_
              refine wtop_i (y := nI (mk / 2 + 128)) (or128_t ⟨mk / 2, z_h128 hmk⟩) ?_
              refine lv_istore (lv' := [(5, .int (nI (mk / 2 + 128))), (2, .int (nI l9)), (7, .int 0), (6, .int 0), (0, .ref (a 0)), (1, .int (nI x0)), (3, .int (nI mk)), (4, .int (nI i))]) hx hb dX10_walk_167 hl (by decide) rfl (fun ls hl => ?_)
              refine lv_iload hx hb dX10_walk_169 (lv_at hl 0 rfl) ?_
              refine lv_istore_n (lv' := [(3, .int (nI (mk / 2 + 128))), (5, .int (nI (mk / 2 + 128))), (2, .int (nI l9)), (7, .int 0), (6, .int 0), (0, .ref (a 0)), (1, .int (nI x0)), (4, .int (nI i))]) hx hb dX10_walk_171 rfl hl (by decide) rfl (fun ls hl => ?_)
              refine lv_iinc (v := nI (i + 1)) (lv' := [(4, .int (nI (i + 1))), (3, .int (nI (mk / 2 + 128))), (5, .int (nI (mk / 2 + 128))), (2, .int (nI l9)), (7, .int 0), (6, .int 0), (0, .ref (a 0)), (1, .int (nI x0))]) hx hb dX10_walk_172 hl (k := 7) rfl (nI_1 _) (by decide) rfl (fun ls hl => ?_)
              refine lv_goto (tgt := 17) hx hb dX10_walk_175 (by decide) ?_
              exact ih17 (i + 1) (mk / 2 + 128) l9 (m0_17 ||| 0) (m1_17 ||| ((1 : Int64) <<< ((nI i : Int32).toInt64 &&& 63))) hlt_i (zrc0 hst (zr_o hlt_i c_2) (mk1_z ⟨mk, hmk⟩ c_3) (zr_w0 hlt_i hz0 (zr_o hlt_i c_2) c_4)) (lt_dec hlt_i hn17) _ _ hP hD hS ls (lv_sub hl [6, 7, 3, 1, 0] rfl)
            · replace c_4 := bI_t c_4
              refine lv_iload_n hx hb dX10_walk_57 rfl (lv_at hl 4 rfl) ?_
              refine lv_iconst (v := 2) hx hb dX10_walk_58 (by decide) ?_
              refine lv_iand hx hb dX10_walk_59 ?_
              refine lv_if_ne (tgt := 78) hx hb dX10_walk_60 (by decide) (fun c_10 => ?_) (fun c_10 => ?_)
              · refine lv_iconst (v := 0) hx hb dX10_walk_78 (by decide) ?_
                refine lv_istore (lv' := [(6, .int 0), (5, .int (nI (mk / 2))), (0, .ref (a 0)), (1, .int (nI x0)), (2, .int (nI l9)), (3, .int (nI mk)), (4, .int (nI i))]) hx hb dX10_walk_79 hl (by decide) rfl (fun ls hl => ?_)
                refine lv_iload_n hx hb dX10_walk_81 rfl (lv_at hl 4 rfl) ?_
                refine lv_iload hx hb dX10_walk_82 (lv_at hl 0 rfl) ?_
                refine lv_icmp_ge (tgt := 91) hx hb dX10_walk_84 (by decide) (fun c_11 => ?_) (fun c_11 => absurd (nn_nI hl31) c_11)
                refine lv_iconst (v := 0) hx hb dX10_walk_91 (by decide) ?_
                refine lv_istore (lv' := [(7, .int 0), (6, .int 0), (5, .int (nI (mk / 2))), (0, .ref (a 0)), (1, .int (nI x0)), (2, .int (nI l9)), (3, .int (nI mk)), (4, .int (nI i))]) hx hb dX10_walk_92 hl (by decide) rfl (fun ls hl => ?_)
                refine lv_iload_n hx hb dX10_walk_94 rfl (lv_at hl 5 rfl) ?_
                refine lv_iload hx hb dX10_walk_95 (lv_at hl 0 rfl) ?_
                refine lv_if_eq (tgt := 104) hx hb dX10_walk_97 (by decide) (fun c_12 => ?_) (fun c_12 => absurd (by decide) c_12)
                refine lv_iload hx hb dX10_walk_104 (lv_at hl 1 rfl) ?_
                refine lv_isub hx hb dX10_walk_106 ?_
                refine wtop_i (y := nI l9) (Int32.sub_zero _) ?_
                refine lv_istore_n (lv' := [(2, .int (nI l9)), (7, .int 0), (6, .int 0), (5, .int (nI (mk / 2))), (0, .ref (a 0)), (1, .int (nI x0)), (3, .int (nI mk)), (4, .int (nI i))]) hx hb dX10_walk_107 rfl hl (by decide) rfl (fun ls hl => ?_)
                refine lv_aload_n hx hb dX10_walk_108 rfl (lv_at hl 4 rfl) ?_
                refine lv_dup hx hb dX10_walk_109 rfl ?_
                refine va_get (D := D) (ci := 9) (v := .long m0_17) (C := RX10) (T := TX10) (N := 30) hx hb hts hi10 hown hK hP 0 rfl rfl 22 (by decide) hw1 (fun _ h9 => h9) rfl dX10_walk_110 ?_
                refine lv_iload hx hb dX10_walk_113 (lv_at hl 1 rfl) ?_
                refine lv_if_eq (tgt := 125) hx hb dX10_walk_115 (by decide) (fun c_13 => ?_) (fun c_13 => absurd (by decide) c_13)
                refine lv_lconst (v := 0) hx hb dX10_walk_125 (by decide) ?_
                refine lv_lor hx hb dX10_walk_126 ?_
                refine va_put (D := D) (ci := 9) (v := .long (m0_17 ||| 0)) (ty := .long) (C := RX10) (T := TX10) (N := 30) hx hb hts hi10 tyX10 tyX10_ok nmX10 hown hK hP hD hS 0 rfl rfl 22 (by decide) hw1 (fun _ h9 => h9) rfl (by decide +kernel) rfl rfl (Nat.le_of_ble_eq_true rfl) dX10_walk_127 (fun H locs hP hD hS => ?_)
                have hP : va_P D vwCl (MW cy a (va_up (va_up J 22 (m0_17 ||| 0)) 23 m1_17) I R RJ) H := hP
                have hD : va_D A (MW cy a (va_up (va_up J 22 (m0_17 ||| 0)) 23 m1_17) I R RJ) := hD
                refine lv_aload_n hx hb dX10_walk_130 rfl (lv_at hl 4 rfl) ?_
                refine lv_dup hx hb dX10_walk_131 rfl ?_
                refine va_get (D := D) (ci := 9) (v := .long m1_17) (C := RX10) (T := TX10) (N := 30) hx hb hts hi10 hown hK hP 0 rfl rfl 23 (by decide) hw2 (fun _ h9 => h9) rfl dX10_walk_132 ?_
                refine lv_iload hx hb dX10_walk_135 (lv_at hl 1 rfl) ?_
                refine lv_if_eq (tgt := 144) hx hb dX10_walk_137 (by decide) (fun c_14 => ?_) (fun c_14 => absurd (by decide) c_14)
                refine lv_lconst (v := 1) hx hb dX10_walk_144 (by decide) ?_
                refine lv_iload hx hb dX10_walk_145 (lv_at hl 7 rfl) ?_
                refine lv_lshl (v := (1 : Int64) <<< ((nI i : Int32).toInt64 &&& 63)) hx hb dX10_walk_147 rfl ?_
                refine lv_lor hx hb dX10_walk_148 ?_
                refine va_put (D := D) (ci := 9) (v := .long (m1_17 ||| ((1 : Int64) <<< ((nI i : Int32).toInt64 &&& 63)))) (ty := .long) (C := RX10) (T := TX10) (N := 30) hx hb hts hi10 tyX10 tyX10_ok nmX10 hown hK hP hD hS 0 rfl rfl 23 (by decide) hw2 (fun _ h9 => h9) rfl (by decide +kernel) rfl rfl (Nat.le_of_ble_eq_true rfl) dX10_walk_149 (fun H locs hP hD hS => ?_)
                have hP : va_P D vwCl (MW cy a (va_up (va_up J 22 (m0_17 ||| 0)) 23 (m1_17 ||| ((1 : Int64) <<< ((nI i : Int32).toInt64 &&& 63)))) I R RJ) H := hP
                have hD : va_D A (MW cy a (va_up (va_up J 22 (m0_17 ||| 0)) 23 (m1_17 ||| ((1 : Int64) <<< ((nI i : Int32).toInt64 &&& 63)))) I R RJ) := hD
                refine lv_iload hx hb dX10_walk_152 (lv_at hl 3 rfl) ?_
                refine lv_iload hx hb dX10_walk_154 (lv_at hl 1 rfl) ?_
                refine lv_if_eq (tgt := 163) hx hb dX10_walk_156 (by decide) (fun c_15 => ?_) (fun c_15 => absurd (by decide) c_15)
                refine lv_sipush (v := 128) hx hb dX10_walk_163 (by decide) ?_
                refine lv_ior hx hb dX10_walk_166 ?_
                refine wtop_i (y := nI (mk / 2 + 128)) (or128_t ⟨mk / 2, z_h128 hmk⟩) ?_
                refine lv_istore (lv' := [(5, .int (nI (mk / 2 + 128))), (2, .int (nI l9)), (7, .int 0), (6, .int 0), (0, .ref (a 0)), (1, .int (nI x0)), (3, .int (nI mk)), (4, .int (nI i))]) hx hb dX10_walk_167 hl (by decide) rfl (fun ls hl => ?_)
                refine lv_iload hx hb dX10_walk_169 (lv_at hl 0 rfl) ?_
                refine lv_istore_n (lv' := [(3, .int (nI (mk / 2 + 128))), (5, .int (nI (mk / 2 + 128))), (2, .int (nI l9)), (7, .int 0), (6, .int 0), (0, .ref (a 0)), (1, .int (nI x0)), (4, .int (nI i))]) hx hb dX10_walk_171 rfl hl (by decide) rfl (fun ls hl => ?_)
                refine lv_iinc (v := nI (i + 1)) (lv' := [(4, .int (nI (i + 1))), (3, .int (nI (mk / 2 + 128))), (5, .int (nI (mk / 2 + 128))), (2, .int (nI l9)), (7, .int 0), (6, .int 0), (0, .ref (a 0)), (1, .int (nI x0))]) hx hb dX10_walk_172 hl (k := 7) rfl (nI_1 _) (by decide) rfl (fun ls hl => ?_)
                refine lv_goto (tgt := 17) hx hb dX10_walk_175 (by decide) ?_
                exact ih17 (i + 1) (mk / 2 + 128) l9 (m0_17 ||| 0) (m1_17 ||| ((1 : Int64) <<< ((nI i : Int32).toInt64 &&& 63))) hlt_i (zrc0 hst (zr_o hlt_i c_2) (mk1_z ⟨mk, hmk⟩ c_3) (zr_w1 hmk c_10)) (lt_dec hlt_i hn17) _ _ hP hD hS ls (lv_sub hl [6, 7, 3, 1, 0] rfl)
              · refine lv_aload_n hx hb dX10_walk_63 rfl (lv_at hl 1 rfl) ?_
                refine lv_iload hx hb dX10_walk_64 (lv_at hl 5 rfl) ?_
                refine lv_iconst (v := 1) hx hb dX10_walk_66 (by decide) ?_
                refine lv_iadd hx hb dX10_walk_67 ?_
                refine wtop_i (y := nI (i + 1)) (nI_1 _) ?_
                refine lv_iload hx hb dX10_walk_68 (lv_at hl 0 rfl) ?_
                refine lv_iconst (v := 1) hx hb dX10_walk_70 (by decide) ?_
                refine lv_ior hx hb dX10_walk_71 ?_
                refine wtop_i (y := nI (mk / 2 / 2 * 2 + 1)) (or1_t ⟨mk / 2, z_h128 hmk⟩) ?_
                refine kM_i (As := [.int (nI (i + 1)), .int (nI (mk / 2 / 2 * 2 + 1))]) (rest := []) (q0 := 0) ⟨hx, hb, hml, hown, hts⟩ (x_X10_waysAt l D cy a _ (va_up (va_up J 22 m0_17) 23 m1_17) I R RJ (i + 1) (mk / 2 / 2 * 2 + 1) (Nat.succ_le_of_lt hlt_i) (zr_s hlt_i hz0 c_4 hsb) hzt ) (cwV 2 hts gX10_walk_X10_waysAt rfl rfl rfl (by decide +kernel) ⟨Nat.le_of_ble_eq_true rfl, Nat.le_of_ble_eq_true rfl⟩) hK hN hP hD hS hA rfl rfl rfl hl.1 rfl (Nat.le_of_ble_eq_true rfl) dX10_walk_72 ⟨Nat.le_of_ble_eq_true rfl, Nat.le_of_ble_eq_true rfl⟩ (fun r_16 u H locs hw hP hD hS => ?_)
                obtain ⟨rfl, rfl⟩ := hw
                have hP : va_P D vwCl (MW cy a (va_up (va_up J 22 m0_17) 23 m1_17) I R RJ) H := hP
                have hD : va_D A (MW cy a (va_up (va_up J 22 m0_17) 23 m1_17) I R RJ) := hD
                refine lv_goto (tgt := 79) hx hb dX10_walk_75 (by decide) ?_
                refine lv_istore (lv' := [(6, .int (nI (zWn (bfx (J 0)) (64 - (i + 1)) (mk / 2 / 2 * 2 + 1)))), (5, .int (nI (mk / 2))), (0, .ref (a 0)), (1, .int (nI x0)), (2, .int (nI l9)), (3, .int (nI mk)), (4, .int (nI i))]) hx hb dX10_walk_79 hl (by decide) rfl (fun ls hl => ?_)
                refine lv_iload_n hx hb dX10_walk_81 rfl (lv_at hl 4 rfl) ?_
                refine lv_iload hx hb dX10_walk_82 (lv_at hl 0 rfl) ?_
                refine lv_icmp_ge (tgt := 91) hx hb dX10_walk_84 (by decide) (fun c_17 => ?_) (fun c_17 => ?_)
                · refine lv_iconst (v := 0) hx hb dX10_walk_91 (by decide) ?_
                  refine lv_istore (lv' := [(7, .int 0), (6, .int (nI (zWn (bfx (J 0)) (64 - (i + 1)) (mk / 2 / 2 * 2 + 1)))), (5, .int (nI (mk / 2))), (0, .ref (a 0)), (1, .int (nI x0)), (2, .int (nI l9)), (3, .int (nI mk)), (4, .int (nI i))]) hx hb dX10_walk_92 hl (by decide) rfl (fun ls hl => ?_)
                  refine lv_iload_n hx hb dX10_walk_94 rfl (lv_at hl 5 rfl) ?_
                  refine lv_iload hx hb dX10_walk_95 (lv_at hl 0 rfl) ?_
                  refine lv_if_eq (tgt := 104) hx hb dX10_walk_97 (by decide) (fun c_18 => ?_) (fun c_18 => absurd (by decide) c_18)
                  refine lv_iload hx hb dX10_walk_104 (lv_at hl 1 rfl) ?_
                  refine lv_isub hx hb dX10_walk_106 ?_
                  refine wtop_i (y := nI (l9 - zWn (bfx (J 0)) (64 - (i + 1)) (mk / 2 / 2 * 2 + 1))) (zsub (zcmp_f hl31 (zWn_b _ (Nat.sub_le _ _) (mk_or1 hmk)) c_17)) ?_
                  refine lv_istore_n (lv' := [(2, .int (nI (l9 - zWn (bfx (J 0)) (64 - (i + 1)) (mk / 2 / 2 * 2 + 1)))), (7, .int 0), (6, .int (nI (zWn (bfx (J 0)) (64 - (i + 1)) (mk / 2 / 2 * 2 + 1)))), (5, .int (nI (mk / 2))), (0, .ref (a 0)), (1, .int (nI x0)), (3, .int (nI mk)), (4, .int (nI i))]) hx hb dX10_walk_107 rfl hl (by decide) rfl (fun ls hl => ?_)
                  refine lv_aload_n hx hb dX10_walk_108 rfl (lv_at hl 4 rfl) ?_
                  refine lv_dup hx hb dX10_walk_109 rfl ?_
                  refine va_get (D := D) (ci := 9) (v := .long m0_17) (C := RX10) (T := TX10) (N := 30) hx hb hts hi10 hown hK hP 0 rfl rfl 22 (by decide) hw1 (fun _ h9 => h9) rfl dX10_walk_110 ?_
                  refine lv_iload hx hb dX10_walk_113 (lv_at hl 1 rfl) ?_
                  refine lv_if_eq (tgt := 125) hx hb dX10_walk_115 (by decide) (fun c_19 => ?_) (fun c_19 => absurd (by decide) c_19)
                  refine lv_lconst (v := 0) hx hb dX10_walk_125 (by decide) ?_
                  refine lv_lor hx hb dX10_walk_126 ?_
                  refine va_put (D := D) (ci := 9) (v := .long (m0_17 ||| 0)) (ty := .long) (C := RX10) (T := TX10) (N := 30) hx hb hts hi10 tyX10 tyX10_ok nmX10 hown hK hP hD hS 0 rfl rfl 22 (by decide) hw1 (fun _ h9 => h9) rfl (by decide +kernel) rfl rfl (Nat.le_of_ble_eq_true rfl) dX10_walk_127 (fun H locs hP hD hS => ?_)
                  have hP : va_P D vwCl (MW cy a (va_up (va_up J 22 (m0_17 ||| 0)) 23 m1_17) I R RJ) H := hP
                  have hD : va_D A (MW cy a (va_up (va_up J 22 (m0_17 ||| 0)) 23 m1_17) I R RJ) := hD
                  refine lv_aload_n hx hb dX10_walk_130 rfl (lv_at hl 4 rfl) ?_
                  refine lv_dup hx hb dX10_walk_131 rfl ?_
                  refine va_get (D := D) (ci := 9) (v := .long m1_17) (C := RX10) (T := TX10) (N := 30) hx hb hts hi10 hown hK hP 0 rfl rfl 23 (by decide) hw2 (fun _ h9 => h9) rfl dX10_walk_132 ?_
                  refine lv_iload hx hb dX10_walk_135 (lv_at hl 1 rfl) ?_
                  refine lv_if_eq (tgt := 144) hx hb dX10_walk_137 (by decide) (fun c_20 => ?_) (fun c_20 => absurd (by decide) c_20)
                  refine lv_lconst (v := 1) hx hb dX10_walk_144 (by decide) ?_
                  refine lv_iload hx hb dX10_walk_145 (lv_at hl 7 rfl) ?_
                  refine lv_lshl (v := (1 : Int64) <<< ((nI i : Int32).toInt64 &&& 63)) hx hb dX10_walk_147 rfl ?_
                  refine lv_lor hx hb dX10_walk_148 ?_
                  refine va_put (D := D) (ci := 9) (v := .long (m1_17 ||| ((1 : Int64) <<< ((nI i : Int32).toInt64 &&& 63)))) (ty := .long) (C := RX10) (T := TX10) (N := 30) hx hb hts hi10 tyX10 tyX10_ok nmX10 hown hK hP hD hS 0 rfl rfl 23 (by decide) hw2 (fun _ h9 => h9) rfl (by decide +kernel) rfl rfl (Nat.le_of_ble_eq_true rfl) dX10_walk_149 (fun H locs hP hD hS => ?_)
                  have hP : va_P D vwCl (MW cy a (va_up (va_up J 22 (m0_17 ||| 0)) 23 (m1_17 ||| ((1 : Int64) <<< ((nI i : Int32).toInt64 &&& 63)))) I R RJ) H := hP
                  have hD : va_D A (MW cy a (va_up (va_up J 22 (m0_17 ||| 0)) 23 (m1_17 ||| ((1 : Int64) <<< ((nI i : Int32).toInt64 &&& 63)))) I R RJ) := hD
                  refine lv_iload hx hb dX10_walk_152 (lv_at hl 3 rfl) ?_
                  refine lv_iload hx hb dX10_walk_154 (lv_at hl 1 rfl) ?_
                  refine lv_if_eq (tgt := 163) hx hb dX10_walk_156 (by decide) (fun c_21 => ?_) (fun c_21 => absurd (by decide) c_21)
                  refine lv_sipush (v := 128) hx hb dX10_walk_163 (by decide) ?_
                  refine lv_ior hx hb dX10_walk_166 ?_
                  refine wtop_i (y := nI (mk / 2 + 128)) (or128_t ⟨mk / 2, z_h128 hmk⟩) ?_
                  refine lv_istore (lv' := [(5, .int (nI (mk / 2 + 128))), (2, .int (nI (l9 - zWn (bfx (J 0)) (64 - (i + 1)) (mk / 2 / 2 * 2 + 1)))), (7, .int 0), (6, .int (nI (zWn (bfx (J 0)) (64 - (i + 1)) (mk / 2 / 2 * 2 + 1)))), (0, .ref (a 0)), (1, .int (nI x0)), (3, .int (nI mk)), (4, .int (nI i))]) hx hb dX10_walk_167 hl (by decide) rfl (fun ls hl => ?_)
                  refine lv_iload hx hb dX10_walk_169 (lv_at hl 0 rfl) ?_
                  refine lv_istore_n (lv' := [(3, .int (nI (mk / 2 + 128))), (5, .int (nI (mk / 2 + 128))), (2, .int (nI (l9 - zWn (bfx (J 0)) (64 - (i + 1)) (mk / 2 / 2 * 2 + 1)))), (7, .int 0), (6, .int (nI (zWn (bfx (J 0)) (64 - (i + 1)) (mk / 2 / 2 * 2 + 1)))), (0, .ref (a 0)), (1, .int (nI x0)), (4, .int (nI i))]) hx hb dX10_walk_171 rfl hl (by decide) rfl (fun ls hl => ?_)
                  refine lv_iinc (v := nI (i + 1)) (lv' := [(4, .int (nI (i + 1))), (3, .int (nI (mk / 2 + 128))), (5, .int (nI (mk / 2 + 128))), (2, .int (nI (l9 - zWn (bfx (J 0)) (64 - (i + 1)) (mk / 2 / 2 * 2 + 1)))), (7, .int 0), (6, .int (nI (zWn (bfx (J 0)) (64 - (i + 1)) (mk / 2 / 2 * 2 + 1)))), (0, .ref (a 0)), (1, .int (nI x0))]) hx hb dX10_walk_172 hl (k := 7) rfl (nI_1 _) (by decide) rfl (fun ls hl => ?_)
                  refine lv_goto (tgt := 17) hx hb dX10_walk_175 (by decide) ?_
                  exact ih17 (i + 1) (mk / 2 + 128) (l9 - zWn (bfx (J 0)) (64 - (i + 1)) (mk / 2 / 2 * 2 + 1)) (m0_17 ||| 0) (m1_17 ||| ((1 : Int64) <<< ((nI i : Int32).toInt64 &&& 63))) hlt_i (zrc hst (zr_o hlt_i c_2) (mk1_z ⟨mk, hmk⟩ c_3) (zr_w2 hlt_i hmk hz0 c_4 c_10) (zcmp_f hl31 (zWn_b _ (Nat.sub_le _ _) (mk_or1 hmk)) c_17)) (lt_dec hlt_i hn17) _ _ hP hD hS ls (lv_sub hl [6, 7, 3, 1, 0] rfl)
                · refine lv_iconst (v := 1) hx hb dX10_walk_87 (by decide) ?_
                  refine lv_goto (tgt := 92) hx hb dX10_walk_88 (by decide) ?_
                  refine lv_istore (lv' := [(7, .int 1), (6, .int (nI (zWn (bfx (J 0)) (64 - (i + 1)) (mk / 2 / 2 * 2 + 1)))), (5, .int (nI (mk / 2))), (0, .ref (a 0)), (1, .int (nI x0)), (2, .int (nI l9)), (3, .int (nI mk)), (4, .int (nI i))]) hx hb dX10_walk_92 hl (by decide) rfl (fun ls hl => ?_)
                  refine lv_iload_n hx hb dX10_walk_94 rfl (lv_at hl 5 rfl) ?_
                  refine lv_iload hx hb dX10_walk_95 (lv_at hl 0 rfl) ?_
                  refine lv_if_eq (tgt := 104) hx hb dX10_walk_97 (by decide) (fun c_22 => absurd c_22 (by decide)) (fun c_22 => ?_)
                  refine lv_iconst (v := 0) hx hb dX10_walk_100 (by decide) ?_
                  refine lv_goto (tgt := 106) hx hb dX10_walk_101 (by decide) ?_
                  refine lv_isub hx hb dX10_walk_106 ?_
                  refine wtop_i (y := nI l9) (Int32.sub_zero _) ?_
                  refine lv_istore_n (lv' := [(2, .int (nI l9)), (7, .int 1), (6, .int (nI (zWn (bfx (J 0)) (64 - (i + 1)) (mk / 2 / 2 * 2 + 1)))), (5, .int (nI (mk / 2))), (0, .ref (a 0)), (1, .int (nI x0)), (3, .int (nI mk)), (4, .int (nI i))]) hx hb dX10_walk_107 rfl hl (by decide) rfl (fun ls hl => ?_)
                  refine lv_aload_n hx hb dX10_walk_108 rfl (lv_at hl 4 rfl) ?_
                  refine lv_dup hx hb dX10_walk_109 rfl ?_
                  refine va_get (D := D) (ci := 9) (v := .long m0_17) (C := RX10) (T := TX10) (N := 30) hx hb hts hi10 hown hK hP 0 rfl rfl 22 (by decide) hw1 (fun _ h9 => h9) rfl dX10_walk_110 ?_
                  refine lv_iload hx hb dX10_walk_113 (lv_at hl 1 rfl) ?_
                  refine lv_if_eq (tgt := 125) hx hb dX10_walk_115 (by decide) (fun c_23 => absurd c_23 (by decide)) (fun c_23 => ?_)
                  refine lv_lconst (v := 1) hx hb dX10_walk_118 (by decide) ?_
                  refine lv_iload hx hb dX10_walk_119 (lv_at hl 7 rfl) ?_
                  refine lv_lshl (v := (1 : Int64) <<< ((nI i : Int32).toInt64 &&& 63)) hx hb dX10_walk_121 rfl ?_
                  refine lv_goto (tgt := 126) hx hb dX10_walk_122 (by decide) ?_
                  refine lv_lor hx hb dX10_walk_126 ?_
                  refine va_put (D := D) (ci := 9) (v := .long (m0_17 ||| ((1 : Int64) <<< ((nI i : Int32).toInt64 &&& 63)))) (ty := .long) (C := RX10) (T := TX10) (N := 30) hx hb hts hi10 tyX10 tyX10_ok nmX10 hown hK hP hD hS 0 rfl rfl 22 (by decide) hw1 (fun _ h9 => h9) rfl (by decide +kernel) rfl rfl (Nat.le_of_ble_eq_true rfl) dX10_walk_127 (fun H locs hP hD hS => ?_)
                  have hP : va_P D vwCl (MW cy a (va_up (va_up J 22 (m0_17 ||| ((1 : Int64) <<< ((nI i : Int32).toInt64 &&& 63)))) 23 m1_17) I R RJ) H := hP
                  have hD : va_D A (MW cy a (va_up (va_up J 22 (m0_17 ||| ((1 : Int64) <<< ((nI i : Int32).toInt64 &&& 63)))) 23 m1_17) I R RJ) := hD
                  refine lv_aload_n hx hb dX10_walk_130 rfl (lv_at hl 4 rfl) ?_
                  refine lv_dup hx hb dX10_walk_131 rfl ?_
                  refine va_get (D := D) (ci := 9) (v := .long m1_17) (C := RX10) (T := TX10) (N := 30) hx hb hts hi10 hown hK hP 0 rfl rfl 23 (by decide) hw2 (fun _ h9 => h9) rfl dX10_walk_132 ?_
                  refine lv_iload hx hb dX10_walk_135 (lv_at hl 1 rfl) ?_
                  refine lv_if_eq (tgt := 144) hx hb dX10_walk_137 (by decide) (fun c_24 => absurd c_24 (by decide)) (fun c_24 => ?_)
                  refine lv_lconst (v := 0) hx hb dX10_walk_140 (by decide) ?_
                  refine lv_goto (tgt := 148) hx hb dX10_walk_141 (by decide) ?_
                  refine lv_lor hx hb dX10_walk_148 ?_
                  refine va_put (D := D) (ci := 9) (v := .long (m1_17 ||| 0)) (ty := .long) (C := RX10) (T := TX10) (N := 30) hx hb hts hi10 tyX10 tyX10_ok nmX10 hown hK hP hD hS 0 rfl rfl 23 (by decide) hw2 (fun _ h9 => h9) rfl (by decide +kernel) rfl rfl (Nat.le_of_ble_eq_true rfl) dX10_walk_149 (fun H locs hP hD hS => ?_)
                  have hP : va_P D vwCl (MW cy a (va_up (va_up J 22 (m0_17 ||| ((1 : Int64) <<< ((nI i : Int32).toInt64 &&& 63)))) 23 (m1_17 ||| 0)) I R RJ) H := hP
                  have hD : va_D A (MW cy a (va_up (va_up J 22 (m0_17 ||| ((1 : Int64) <<< ((nI i : Int32).toInt64 &&& 63)))) 23 (m1_17 ||| 0)) I R RJ) := hD
                  refine lv_iload hx hb dX10_walk_152 (lv_at hl 3 rfl) ?_
                  refine lv_iload hx hb dX10_walk_154 (lv_at hl 1 rfl) ?_
                  refine lv_if_eq (tgt := 163) hx hb dX10_walk_156 (by decide) (fun c_25 => absurd c_25 (by decide)) (fun c_25 => ?_)
                  refine lv_iconst (v := 1) hx hb dX10_walk_159 (by decide) ?_
                  refine lv_goto (tgt := 166) hx hb dX10_walk_160 (by decide) ?_
                  refine lv_ior hx hb dX10_walk_166 ?_
                  refine wtop_i (y := nI (mk / 2 / 2 * 2 + 1)) (or1_t ⟨mk / 2, z_h128 hmk⟩) ?_
                  refine lv_istore (lv' := [(5, .int (nI (mk / 2 / 2 * 2 + 1))), (2, .int (nI l9)), (7, .int 1), (6, .int (nI (zWn (bfx (J 0)) (64 - (i + 1)) (mk / 2 / 2 * 2 + 1)))), (0, .ref (a 0)), (1, .int (nI x0)), (3, .int (nI mk)), (4, .int (nI i))]) hx hb dX10_walk_167 hl (by decide) rfl (fun ls hl => ?_)
                  refine lv_iload hx hb dX10_walk_169 (lv_at hl 0 rfl) ?_
                  refine lv_istore_n (lv' := [(3, .int (nI (mk / 2 / 2 * 2 + 1))), (5, .int (nI (mk / 2 / 2 * 2 + 1))), (2, .int (nI l9)), (7, .int 1), (6, .int (nI (zWn (bfx (J 0)) (64 - (i + 1)) (mk / 2 / 2 * 2 + 1)))), (0, .ref (a 0)), (1, .int (nI x0)), (4, .int (nI i))]) hx hb dX10_walk_171 rfl hl (by decide) rfl (fun ls hl => ?_)
                  refine lv_iinc (v := nI (i + 1)) (lv' := [(4, .int (nI (i + 1))), (3, .int (nI (mk / 2 / 2 * 2 + 1))), (5, .int (nI (mk / 2 / 2 * 2 + 1))), (2, .int (nI l9)), (7, .int 1), (6, .int (nI (zWn (bfx (J 0)) (64 - (i + 1)) (mk / 2 / 2 * 2 + 1)))), (0, .ref (a 0)), (1, .int (nI x0))]) hx hb dX10_walk_172 hl (k := 7) rfl (nI_1 _) (by decide) rfl (fun ls hl => ?_)
                  refine lv_goto (tgt := 17) hx hb dX10_walk_175 (by decide) ?_
                  exact ih17 (i + 1) (mk / 2 / 2 * 2 + 1) l9 (m0_17 ||| ((1 : Int64) <<< ((nI i : Int32).toInt64 &&& 63))) (m1_17 ||| 0) hlt_i (zra hst (zr_o hlt_i c_2) (mk1_z ⟨mk, hmk⟩ c_3) (zr_w2 hlt_i hmk hz0 c_4 c_10) (zcmp_t hl31 (zWn_b _ (Nat.sub_le _ _) (mk_or1 hmk)) c_17)) (lt_dec hlt_i hn17) _ _ hP hD hS ls (lv_sub hl [6, 7, 3, 1, 0] rfl)
  refine lv_iload_n hx hb dX10_walk_0 rfl (lv_at hl 1 rfl) ?_
  refine lv_istore_n (lv' := [(2, .int (nI x0)), (0, .ref (a 0)), (1, .int (nI x0))]) hx hb dX10_walk_1 rfl hl (by decide) rfl (fun ls hl => ?_)
  refine lv_iconst (v := 0) hx hb dX10_walk_2 (by decide) ?_
  refine lv_istore_n (lv' := [(3, .int 0), (2, .int (nI x0)), (0, .ref (a 0)), (1, .int (nI x0))]) hx hb dX10_walk_3 rfl hl (by decide) rfl (fun ls hl => ?_)
  refine lv_aload_n hx hb dX10_walk_4 rfl (lv_at hl 2 rfl) ?_
  refine lv_lconst (v := 0) hx hb dX10_walk_5 (by decide) ?_
  refine va_put (D := D) (ci := 9) (v := .long 0) (ty := .long) (C := RX10) (T := TX10) (N := 30) hx hb hts hi10 tyX10 tyX10_ok nmX10 hown hK hP hD hS 0 rfl rfl 22 (by decide) hw1 (fun _ h9 => h9) rfl (by decide +kernel) rfl rfl (Nat.le_of_ble_eq_true rfl) dX10_walk_6 (fun H locs hP hD hS => ?_)
  have hP : va_P D vwCl (MW cy a (va_up (va_up J 22 0) 23 (J 23)) I R RJ) H := hP
  have hD : va_D A (MW cy a (va_up (va_up J 22 0) 23 (J 23)) I R RJ) := hD
  refine lv_aload_n hx hb dX10_walk_9 rfl (lv_at hl 2 rfl) ?_
  refine lv_lconst (v := 0) hx hb dX10_walk_10 (by decide) ?_
  refine va_put (D := D) (ci := 9) (v := .long 0) (ty := .long) (C := RX10) (T := TX10) (N := 30) hx hb hts hi10 tyX10 tyX10_ok nmX10 hown hK hP hD hS 0 rfl rfl 23 (by decide) hw2 (fun _ h9 => h9) rfl (by decide +kernel) rfl rfl (Nat.le_of_ble_eq_true rfl) dX10_walk_11 (fun H locs hP hD hS => ?_)
  have hP : va_P D vwCl (MW cy a (va_up (va_up J 22 0) 23 0) I R RJ) H := hP
  have hD : va_D A (MW cy a (va_up (va_up J 22 0) 23 0) I R RJ) := hD
  refine lv_iconst (v := 0) hx hb dX10_walk_14 (by decide) ?_
  refine lv_istore (lv' := [(4, .int 0), (3, .int 0), (2, .int (nI x0)), (0, .ref (a 0)), (1, .int (nI x0))]) hx hb dX10_walk_15 hl (by decide) rfl (fun ls hl => ?_)
  exact lp17 _ 0 0 x0 0 0 (Nat.zero_le _) rfl (Nat.lt_succ_self _) _ _ hP hD hS ls (lv_sub hl [3, 4, 2, 1, 0] rfl)
set_option maxHeartbeats 4000000 in
set_option maxRecDepth 100000 in
theorem x_X10_numberOf (l : Launch) (D : va_G) (cy : Nat → ClassId) (a : Nat → Nat) (sz : Nat) (J : Nat → Int64) (I : Nat → Int32) (R : Nat → Nat → Int32) (RJ : Nat → Nat → Int64) (x0 : Int64) (x1 : Int64) (hly : LY (bfx (J 0)) (bfx x0) (bfx x1)) (hz0 : (J 19) = 0 ∧ (J 20) = 0 ∧ (J 21) = 0) (hzt : zT (bfx (J 0)) (R 12)) : Met l yX10_numberOf wsX10_numberOf ({ frames := 2, cells := 0, slots := 0, locals := 46 }) (va_Pc [.ref (a 0), .long x0, .long x1] (PW D cy sz (MW cy a J I R RJ))) (va_Qi (fun r (u : MS) => (r = (nI (znb (bfx (J 0)) (bfx x1) 64).1)) ∧ u = (J, I, R, RJ)) (BW D (va_A (MW cy a J I R RJ) sz) (MWu cy a)) (va_A (MW cy a J I R RJ) sz)) 0 0 (va_A (MW cy a J I R RJ) sz) := by
  refine Met.ofW (cc := cX10_numberOf) (maxL := 10) (ret := (some .int)) (by decide) rfl ?_
  intro p e s m args below meth c s₁ B hml hv
  obtain ⟨rfl, rfl, hP, hK, hN, hD0⟩ := hv
  have hx := B.exec
  have hb := B.bytes
  have hr := B.returns
  have hts := atoms_spec (ws := wsX10_numberOf) B.pre
  have hown : s.vm.findClass RX10 = some m.cls := findClass_of_methodNamed B.named
  have hlocks := B.notSynchronized
  have hw0 := hts (.fieldLink RX10 81 "ParquetLayerModel" "floor" "J") (by decide +kernel)
  have hi10 := ihX10_numberOf_10
  have hD := hD0.self (sz := s.heap.size)
  generalize hAe : va_A (MW cy a J I R RJ) s.heap.size = A at hD ⊢
  have hA : ∀ q : Nat, s.heap.size ≤ q → A q := fun q h => by rw [← hAe]; exact Or.inr h
  have hS : va_S A s.heap s.heap [] := va_S.rf
  have hl := lv_entry ([.ref (a 0), .long x0, .long x1]) (n := 10) (Nat.le_of_ble_eq_true rfl)
  rw [lg_entry_eq]
  generalize (lg_sl ([.ref (a 0), .long x0, .long x1]) ++ List.replicate (10 - (lg_sl ([.ref (a 0), .long x0, .long x1])).length) Slot.unset).toArray = ls at hl ⊢
  have hl : lv_has ls 10 [(0, .ref (a 0)), (1, .long x0), (3, .long x1)] := hl
  have lp9 : ∀ (n9 : Nat), ∀ (i : Nat) (mk : Nat) (nz9 : Nat), (i ≤ 64) → (znb (bfx (J 0)) (bfx x1) i = (nz9, mk)) → (64 - i) < n9 → ∀ (H : Heap) (locs : List Loc), va_P D vwCl (MW cy a J I R RJ) H → va_D A (MW cy a J I R RJ) → va_S A s.heap H locs → ∀ (ls : Array Slot), lv_has ls 10 [(0, .ref (a 0)), (1, .long x0), (3, .long x1), (5, .int (nI nz9)), (6, .int (nI mk)), (7, .int (nI i))] → W p l e (headSpec wsX10_numberOf ({ frames := 2, cells := 0, slots := 0, locals := 46 })).room s m ([.ref (a 0), .long x0, .long x1] : List Value).toArray below meth c H locs 0 0 (MQ below (va_Qi (fun r (u : MS) => (r = (nI (znb (bfx (J 0)) (bfx x1) 64).1)) ∧ u = (J, I, R, RJ)) (BW D A (MWu cy a)) A) ([.ref (a 0), .long x0, .long x1] : List Value).toArray s 0 0 A) (F0 m 9 ls []) := by
    intro n9
    induction n9 with
    | zero => intro i mk nz9 hi hnb hn; exact absurd hn (Nat.not_lt_zero _)
    | succ n9 ih9 =>
      intro i mk nz9 hi hnb hn9 H locs hP hD hS ls hl
      refine lv_iload hx hb dX10_numberOf_9 (lv_at hl 5 rfl) ?_
      refine lv_bipush (v := 64) hx hb dX10_numberOf_11 (by decide) ?_
      refine lv_icmp_ge (tgt := 119) hx hb dX10_numberOf_13 (by decide) (fun c_1 => ?_) (fun c_1 => ?_)
      · have hie_i := ctr_ge (N := 64) (by decide) hi c_1
        refine lv_iload hx hb dX10_numberOf_119 (lv_at hl 3 rfl) ?_
        exact wret_i hx hb hr hlocks (J, I, R, RJ) ⟨(znb_o hnb hie_i), rfl⟩ hP hD hS dX10_numberOf_121
      · have hlt_i := ctr_lt (N := 64) (by decide) hi c_1
        obtain ⟨hmo, hsb, hmk⟩ := znb_i hly hnb
        refine lv_iload hx hb dX10_numberOf_16 (lv_at hl 4 rfl) ?_
        refine lv_iconst (v := 1) hx hb dX10_numberOf_18 (by decide) ?_
        refine lv_ishr hx hb dX10_numberOf_19 ?_
        refine wtop_i (y := nI (mk / 2)) (pk_shrN (Nat.lt_trans hmk (by decide)) _ 1 (by decide)) ?_
        refine lv_istore (lv' := [(8, .int (nI (mk / 2))), (0, .ref (a 0)), (1, .long x0), (3, .long x1), (5, .int (nI nz9)), (6, .int (nI mk)), (7, .int (nI i))]) hx hb dX10_numberOf_20 hl (by decide) rfl (fun ls hl => ?_)
        refine lv_aload_n hx hb dX10_numberOf_22 rfl (lv_at hl 1 rfl) ?_
        refine va_get (D := D) (ci := 9) (v := .long (J 0)) (C := RX10) (T := TX10) (N := 30) hx hb hts hi10 hown hK hP 0 rfl rfl 0 (by decide) hw0 (fun _ h9 => h9) rfl dX10_numberOf_23 ?_
        refine lv_iload hx hb dX10_numberOf_26 (lv_at hl 6 rfl) ?_
        refine kS_i (As := [.long (J 0), .int (nI i)]) (rest := []) ⟨hx, hb, hml, hown, hts⟩ (c_X10_hasBit l (J 0) (nI i)) (va_cwS 2 hts gX10_numberOf_X10_hasBit rfl rfl rfl (by decide +kernel) ⟨Nat.le_of_ble_eq_true rfl, Nat.le_of_ble_eq_true rfl⟩) rfl hl.1 rfl (Nat.le_of_ble_eq_true rfl) dX10_numberOf_28 ⟨Nat.le_of_ble_eq_true rfl, Nat.le_of_ble_eq_true rfl⟩ ?_
        refine lv_if_eq (tgt := 109) hx hb dX10_numberOf_31 (by decide) (fun c_2 => ?_) (fun c_2 => ?_)
        · replace c_2 := bI_f c_2
          refine lv_iload hx hb dX10_numberOf_109 (lv_at hl 0 rfl) ?_
          refine lv_istore (lv' := [(6, .int (nI (mk / 2))), (8, .int (nI (mk / 2))), (0, .ref (a 0)), (1, .long x0), (3, .long x1), (5, .int (nI nz9)), (7, .int (nI i))]) hx hb dX10_numberOf_111 hl (by decide) rfl (fun ls hl => ?_)
          refine lv_iinc (v := nI (i + 1)) (lv' := [(7, .int (nI (i + 1))), (6, .int (nI (mk / 2))), (8, .int (nI (mk / 2))), (0, .ref (a 0)), (1, .long x0), (3, .long x1), (5, .int (nI nz9))]) hx hb dX10_numberOf_113 hl (k := 6) rfl (nI_1 _) (by decide) rfl (fun ls hl => ?_)
          refine lv_goto (tgt := 9) hx hb dX10_numberOf_116 (by decide) ?_
          exact ih9 (i + 1) (mk / 2) nz9 hlt_i (znb_n hnb (Or.inl (zr_on hlt_i c_2))) (lt_dec hlt_i hn9) _ _ hP hD hS ls (lv_sub hl [3, 4, 5, 6, 1, 0] rfl)
        · replace c_2 := bI_t c_2
          refine lv_iload hx hb dX10_numberOf_34 (lv_at hl 5 rfl) ?_
          refine lv_iconst (v := 1) hx hb dX10_numberOf_36 (by decide) ?_
          refine lv_iand hx hb dX10_numberOf_37 ?_
          refine lv_if_ne (tgt := 109) hx hb dX10_numberOf_38 (by decide) (fun c_3 => ?_) (fun c_3 => ?_)
          · refine lv_iload hx hb dX10_numberOf_109 (lv_at hl 0 rfl) ?_
            refine lv_istore (lv' := [(6, .int (nI (mk / 2))), (8, .int (nI (mk / 2))), (0, .ref (a 0)), (1, .long x0), (3, .long x1), (5, .int (nI nz9)), (7, .int (nI i))]) hx hb dX10_numberOf_111 hl (by decide) rfl (fun ls hl => ?_)
            refine lv_iinc (v := nI (i + 1)) (lv' := [(7, .int (nI (i + 1))), (6, .int (nI (mk / 2))), (8, .int (nI (mk / 2))), (0, .ref (a 0)), (1, .long x0), (3, .long x1), (5, .int (nI nz9))]) hx hb dX10_numberOf_113 hl (k := 6) rfl (nI_1 _) (by decide) rfl (fun ls hl => ?_)
            refine lv_goto (tgt := 9) hx hb dX10_numberOf_116 (by decide) ?_
            exact ih9 (i + 1) (mk / 2) nz9 hlt_i (znb_n hnb (Or.inr (mk_1 hmk c_3))) (lt_dec hlt_i hn9) _ _ hP hD hS ls (lv_sub hl [3, 4, 5, 6, 1, 0] rfl)
          · refine lv_lload_n hx hb dX10_numberOf_41 rfl (lv_at hl 2 rfl) ?_
            refine lv_iload hx hb dX10_numberOf_42 (lv_at hl 6 rfl) ?_
            refine kS_i (As := [.long x0, .int (nI i)]) (rest := []) ⟨hx, hb, hml, hown, hts⟩ (c_X10_hasBit l x0 (nI i)) (va_cwS 2 hts gX10_numberOf_X10_hasBit rfl rfl rfl (by decide +kernel) ⟨Nat.le_of_ble_eq_true rfl, Nat.le_of_ble_eq_true rfl⟩) rfl hl.1 rfl (Nat.le_of_ble_eq_true rfl) dX10_numberOf_44 ⟨Nat.le_of_ble_eq_true rfl, Nat.le_of_ble_eq_true rfl⟩ ?_
            refine lv_istore (lv' := [(9, .int (bI (m_hasBit x0 (nI i)))), (8, .int (nI (mk / 2))), (0, .ref (a 0)), (1, .long x0), (3, .long x1), (5, .int (nI nz9)), (6, .int (nI mk)), (7, .int (nI i))]) hx hb dX10_numberOf_47 hl (by decide) rfl (fun ls hl => ?_)
            refine lv_iload hx hb dX10_numberOf_49 (lv_at hl 5 rfl) ?_
            refine lv_iload hx hb dX10_numberOf_51 (lv_at hl 0 rfl) ?_
            refine lv_if_ne (tgt := 88) hx hb dX10_numberOf_53 (by decide) (fun c_4 => ?_) (fun c_4 => ?_)
            · replace c_4 := bI_t c_4
              refine lv_iconst (v := 0) hx hb dX10_numberOf_88 (by decide) ?_
              refine lv_iadd hx hb dX10_numberOf_89 ?_
              refine wtop_i (y := nI nz9) (Int32.add_zero _) ?_
              refine lv_istore (lv' := [(5, .int (nI nz9)), (9, .int (bI (m_hasBit x0 (nI i)))), (8, .int (nI (mk / 2))), (0, .ref (a 0)), (1, .long x0), (3, .long x1), (6, .int (nI mk)), (7, .int (nI i))]) hx hb dX10_numberOf_90 hl (by decide) rfl (fun ls hl => ?_)
              refine lv_iload hx hb dX10_numberOf_92 (lv_at hl 2 rfl) ?_
              refine lv_iload hx hb dX10_numberOf_94 (lv_at hl 1 rfl) ?_
              refine lv_if_eq (tgt := 103) hx hb dX10_numberOf_96 (by decide) (fun c_5 => absurd c_5 (by rw [c_4]; decide)) (fun c_5 => ?_)
              refine lv_iconst (v := 1) hx hb dX10_numberOf_99 (by decide) ?_
              refine lv_goto (tgt := 106) hx hb dX10_numberOf_100 (by decide) ?_
              refine lv_ior hx hb dX10_numberOf_106 ?_
              refine wtop_i (y := nI (mk / 2 / 2 * 2 + 1)) (or1_t ⟨mk / 2, z_h128 hmk⟩) ?_
              refine lv_istore (lv' := [(8, .int (nI (mk / 2 / 2 * 2 + 1))), (5, .int (nI nz9)), (9, .int (bI (m_hasBit x0 (nI i)))), (0, .ref (a 0)), (1, .long x0), (3, .long x1), (6, .int (nI mk)), (7, .int (nI i))]) hx hb dX10_numberOf_107 hl (by decide) rfl (fun ls hl => ?_)
              refine lv_iload hx hb dX10_numberOf_109 (lv_at hl 0 rfl) ?_
              refine lv_istore (lv' := [(6, .int (nI (mk / 2 / 2 * 2 + 1))), (8, .int (nI (mk / 2 / 2 * 2 + 1))), (5, .int (nI nz9)), (9, .int (bI (m_hasBit x0 (nI i)))), (0, .ref (a 0)), (1, .long x0), (3, .long x1), (7, .int (nI i))]) hx hb dX10_numberOf_111 hl (by decide) rfl (fun ls hl => ?_)
              refine lv_iinc (v := nI (i + 1)) (lv' := [(7, .int (nI (i + 1))), (6, .int (nI (mk / 2 / 2 * 2 + 1))), (8, .int (nI (mk / 2 / 2 * 2 + 1))), (5, .int (nI nz9)), (9, .int (bI (m_hasBit x0 (nI i)))), (0, .ref (a 0)), (1, .long x0), (3, .long x1)]) hx hb dX10_numberOf_113 hl (k := 7) rfl (nI_1 _) (by decide) rfl (fun ls hl => ?_)
              refine lv_goto (tgt := 9) hx hb dX10_numberOf_116 (by decide) ?_
              exact ih9 (i + 1) (mk / 2 / 2 * 2 + 1) nz9 hlt_i (znb_ra hly hnb (zr_o hlt_i c_2) (mk1_z ⟨mk, hmk⟩ c_3) (zr_b hlt_i c_4)) (lt_dec hlt_i hn9) _ _ hP hD hS ls (lv_sub hl [5, 6, 7, 3, 1, 0] rfl)
            · replace c_4 := bI_f c_4
              refine lv_aload_n hx hb dX10_numberOf_56 rfl (lv_at hl 2 rfl) ?_
              refine lv_iload hx hb dX10_numberOf_57 (lv_at hl 7 rfl) ?_
              refine lv_iconst (v := 0) hx hb dX10_numberOf_59 (by decide) ?_
              refine kR_i (As := [.int (nI i), .int 0]) (rest := [.int (nI nz9)]) (q0 := 0) ⟨hx, hb, hml, hown, hts⟩ (c_X10_mayLie l D cy a _ J I R RJ (nI i) false ) (cwV 2 hts gX10_numberOf_X10_mayLie rfl rfl rfl (by decide +kernel) ⟨Nat.le_of_ble_eq_true rfl, Nat.le_of_ble_eq_true rfl⟩) hK hN hP hD rfl rfl rfl hl.1 rfl (Nat.le_of_ble_eq_true rfl) dX10_numberOf_60 ⟨Nat.le_of_ble_eq_true rfl, Nat.le_of_ble_eq_true rfl⟩ ?_
              refine lv_if_eq (tgt := 88) hx hb dX10_numberOf_63 (by decide) (fun c_6 => ?_) (fun c_6 => ?_)
              · replace c_6 := bI_f c_6
                refine lv_iconst (v := 0) hx hb dX10_numberOf_88 (by decide) ?_
                refine lv_iadd hx hb dX10_numberOf_89 ?_
                refine wtop_i (y := nI nz9) (Int32.add_zero _) ?_
                refine lv_istore (lv' := [(5, .int (nI nz9)), (9, .int (bI (m_hasBit x0 (nI i)))), (8, .int (nI (mk / 2))), (0, .ref (a 0)), (1, .long x0), (3, .long x1), (6, .int (nI mk)), (7, .int (nI i))]) hx hb dX10_numberOf_90 hl (by decide) rfl (fun ls hl => ?_)
                refine lv_iload hx hb dX10_numberOf_92 (lv_at hl 2 rfl) ?_
                refine lv_iload hx hb dX10_numberOf_94 (lv_at hl 1 rfl) ?_
                refine lv_if_eq (tgt := 103) hx hb dX10_numberOf_96 (by decide) (fun c_7 => ?_) (fun c_7 => absurd (by rw [c_4]; rfl) c_7)
                refine lv_sipush (v := 128) hx hb dX10_numberOf_103 (by decide) ?_
                refine lv_ior hx hb dX10_numberOf_106 ?_
                refine wtop_i (y := nI (mk / 2 + 128)) (or128_t ⟨mk / 2, z_h128 hmk⟩) ?_
                refine lv_istore (lv' := [(8, .int (nI (mk / 2 + 128))), (5, .int (nI nz9)), (9, .int (bI (m_hasBit x0 (nI i)))), (0, .ref (a 0)), (1, .long x0), (3, .long x1), (6, .int (nI mk)), (7, .int (nI i))]) hx hb dX10_numberOf_107 hl (by decide) rfl (fun ls hl => ?_)
                refine lv_iload hx hb dX10_numberOf_109 (lv_at hl 0 rfl) ?_
                refine lv_istore (lv' := [(6, .int (nI (mk / 2 + 128))), (8, .int (nI (mk / 2 + 128))), (5, .int (nI nz9)), (9, .int (bI (m_hasBit x0 (nI i)))), (0, .ref (a 0)), (1, .long x0), (3, .long x1), (7, .int (nI i))]) hx hb dX10_numberOf_111 hl (by decide) rfl (fun ls hl => ?_)
                refine lv_iinc (v := nI (i + 1)) (lv' := [(7, .int (nI (i + 1))), (6, .int (nI (mk / 2 + 128))), (8, .int (nI (mk / 2 + 128))), (5, .int (nI nz9)), (9, .int (bI (m_hasBit x0 (nI i)))), (0, .ref (a 0)), (1, .long x0), (3, .long x1)]) hx hb dX10_numberOf_113 hl (k := 7) rfl (nI_1 _) (by decide) rfl (fun ls hl => ?_)
                refine lv_goto (tgt := 9) hx hb dX10_numberOf_116 (by decide) ?_
                exact ih9 (i + 1) (mk / 2 + 128) nz9 hlt_i (znb_rc0 hly hnb (zr_o hlt_i c_2) (mk1_z ⟨mk, hmk⟩ c_3) (zr_b hlt_i c_4) (zr_w0 hlt_i hz0 (zr_o hlt_i c_2) c_6)) (lt_dec hlt_i hn9) _ _ hP hD hS ls (lv_sub hl [5, 6, 7, 3, 1, 0] rfl)
              · replace c_6 := bI_t c_6
                refine lv_iload hx hb dX10_numberOf_66 (lv_at hl 6 rfl) ?_
                refine lv_iconst (v := 2) hx hb dX10_numberOf_68 (by decide) ?_
                refine lv_iand hx hb dX10_numberOf_69 ?_
                refine lv_if_ne (tgt := 88) hx hb dX10_numberOf_70 (by decide) (fun c_8 => ?_) (fun c_8 => ?_)
                · refine lv_iconst (v := 0) hx hb dX10_numberOf_88 (by decide) ?_
                  refine lv_iadd hx hb dX10_numberOf_89 ?_
                  refine wtop_i (y := nI nz9) (Int32.add_zero _) ?_
                  refine lv_istore (lv' := [(5, .int (nI nz9)), (9, .int (bI (m_hasBit x0 (nI i)))), (8, .int (nI (mk / 2))), (0, .ref (a 0)), (1, .long x0), (3, .long x1), (6, .int (nI mk)), (7, .int (nI i))]) hx hb dX10_numberOf_90 hl (by decide) rfl (fun ls hl => ?_)
                  refine lv_iload hx hb dX10_numberOf_92 (lv_at hl 2 rfl) ?_
                  refine lv_iload hx hb dX10_numberOf_94 (lv_at hl 1 rfl) ?_
                  refine lv_if_eq (tgt := 103) hx hb dX10_numberOf_96 (by decide) (fun c_9 => ?_) (fun c_9 => absurd (by rw [c_4]; rfl) c_9)
                  refine lv_sipush (v := 128) hx hb dX10_numberOf_103 (by decide) ?_
                  refine lv_ior hx hb dX10_numberOf_106 ?_
                  refine wtop_i (y := nI (mk / 2 + 128)) (or128_t ⟨mk / 2, z_h128 hmk⟩) ?_
                  refine lv_istore (lv' := [(8, .int (nI (mk / 2 + 128))), (5, .int (nI nz9)), (9, .int (bI (m_hasBit x0 (nI i)))), (0, .ref (a 0)), (1, .long x0), (3, .long x1), (6, .int (nI mk)), (7, .int (nI i))]) hx hb dX10_numberOf_107 hl (by decide) rfl (fun ls hl => ?_)
                  refine lv_iload hx hb dX10_numberOf_109 (lv_at hl 0 rfl) ?_
                  refine lv_istore (lv' := [(6, .int (nI (mk / 2 + 128))), (8, .int (nI (mk / 2 + 128))), (5, .int (nI nz9)), (9, .int (bI (m_hasBit x0 (nI i)))), (0, .ref (a 0)), (1, .long x0), (3, .long x1), (7, .int (nI i))]) hx hb dX10_numberOf_111 hl (by decide) rfl (fun ls hl => ?_)
                  refine lv_iinc (v := nI (i + 1)) (lv' := [(7, .int (nI (i + 1))), (6, .int (nI (mk / 2 + 128))), (8, .int (nI (mk / 2 + 128))), (5, .int (nI nz9)), (9, .int (bI (m_hasBit x0 (nI i)))), (0, .ref (a 0)), (1, .long x0), (3, .long x1)]) hx hb dX10_numberOf_113 hl (k := 7) rfl (nI_1 _) (by decide) rfl (fun ls hl => ?_)
                  refine lv_goto (tgt := 9) hx hb dX10_numberOf_116 (by decide) ?_
                  exact ih9 (i + 1) (mk / 2 + 128) nz9 hlt_i (znb_rc0 hly hnb (zr_o hlt_i c_2) (mk1_z ⟨mk, hmk⟩ c_3) (zr_b hlt_i c_4) (zr_w1 hmk c_8)) (lt_dec hlt_i hn9) _ _ hP hD hS ls (lv_sub hl [5, 6, 7, 3, 1, 0] rfl)
                · refine lv_aload_n hx hb dX10_numberOf_73 rfl (lv_at hl 2 rfl) ?_
                  refine lv_iload hx hb dX10_numberOf_74 (lv_at hl 7 rfl) ?_
                  refine lv_iconst (v := 1) hx hb dX10_numberOf_76 (by decide) ?_
                  refine lv_iadd hx hb dX10_numberOf_77 ?_
                  refine wtop_i (y := nI (i + 1)) (nI_1 _) ?_
                  refine lv_iload hx hb dX10_numberOf_78 (lv_at hl 1 rfl) ?_
                  refine lv_iconst (v := 1) hx hb dX10_numberOf_80 (by decide) ?_
                  refine lv_ior hx hb dX10_numberOf_81 ?_
                  refine wtop_i (y := nI (mk / 2 / 2 * 2 + 1)) (or1_t ⟨mk / 2, z_h128 hmk⟩) ?_
                  refine kM_i (As := [.int (nI (i + 1)), .int (nI (mk / 2 / 2 * 2 + 1))]) (rest := [.int (nI nz9)]) (q0 := 0) ⟨hx, hb, hml, hown, hts⟩ (x_X10_waysAt l D cy a _ J I R RJ (i + 1) (mk / 2 / 2 * 2 + 1) (Nat.succ_le_of_lt hlt_i) (zr_s hlt_i hz0 c_6 hsb) hzt ) (cwV 2 hts gX10_numberOf_X10_waysAt rfl rfl rfl (by decide +kernel) ⟨Nat.le_of_ble_eq_true rfl, Nat.le_of_ble_eq_true rfl⟩) hK hN hP hD hS hA rfl rfl rfl hl.1 rfl (Nat.le_of_ble_eq_true rfl) dX10_numberOf_82 ⟨Nat.le_of_ble_eq_true rfl, Nat.le_of_ble_eq_true rfl⟩ (fun r_10 u H locs hw hP hD hS => ?_)
                  obtain ⟨rfl, rfl⟩ := hw
                  have hP : va_P D vwCl (MW cy a J I R RJ) H := hP
                  have hD : va_D A (MW cy a J I R RJ) := hD
                  refine lv_goto (tgt := 89) hx hb dX10_numberOf_85 (by decide) ?_
                  refine lv_iadd hx hb dX10_numberOf_89 ?_
                  refine wtop_i (y := nI (nz9 + zWn (bfx (J 0)) (64 - (i + 1)) (mk / 2 / 2 * 2 + 1))) (nI_add _ _) ?_
                  refine lv_istore (lv' := [(5, .int (nI (nz9 + zWn (bfx (J 0)) (64 - (i + 1)) (mk / 2 / 2 * 2 + 1)))), (9, .int (bI (m_hasBit x0 (nI i)))), (8, .int (nI (mk / 2))), (0, .ref (a 0)), (1, .long x0), (3, .long x1), (6, .int (nI mk)), (7, .int (nI i))]) hx hb dX10_numberOf_90 hl (by decide) rfl (fun ls hl => ?_)
                  refine lv_iload hx hb dX10_numberOf_92 (lv_at hl 2 rfl) ?_
                  refine lv_iload hx hb dX10_numberOf_94 (lv_at hl 1 rfl) ?_
                  refine lv_if_eq (tgt := 103) hx hb dX10_numberOf_96 (by decide) (fun c_11 => ?_) (fun c_11 => absurd (by rw [c_4]; rfl) c_11)
                  refine lv_sipush (v := 128) hx hb dX10_numberOf_103 (by decide) ?_
                  refine lv_ior hx hb dX10_numberOf_106 ?_
                  refine wtop_i (y := nI (mk / 2 + 128)) (or128_t ⟨mk / 2, z_h128 hmk⟩) ?_
                  refine lv_istore (lv' := [(8, .int (nI (mk / 2 + 128))), (5, .int (nI (nz9 + zWn (bfx (J 0)) (64 - (i + 1)) (mk / 2 / 2 * 2 + 1)))), (9, .int (bI (m_hasBit x0 (nI i)))), (0, .ref (a 0)), (1, .long x0), (3, .long x1), (6, .int (nI mk)), (7, .int (nI i))]) hx hb dX10_numberOf_107 hl (by decide) rfl (fun ls hl => ?_)
                  refine lv_iload hx hb dX10_numberOf_109 (lv_at hl 0 rfl) ?_
                  refine lv_istore (lv' := [(6, .int (nI (mk / 2 + 128))), (8, .int (nI (mk / 2 + 128))), (5, .int (nI (nz9 + zWn (bfx (J 0)) (64 - (i + 1)) (mk / 2 / 2 * 2 + 1)))), (9, .int (bI (m_hasBit x0 (nI i)))), (0, .ref (a 0)), (1, .long x0), (3, .long x1), (7, .int (nI i))]) hx hb dX10_numberOf_111 hl (by decide) rfl (fun ls hl => ?_)
                  refine lv_iinc (v := nI (i + 1)) (lv' := [(7, .int (nI (i + 1))), (6, .int (nI (mk / 2 + 128))), (8, .int (nI (mk / 2 + 128))), (5, .int (nI (nz9 + zWn (bfx (J 0)) (64 - (i + 1)) (mk / 2 / 2 * 2 + 1)))), (9, .int (bI (m_hasBit x0 (nI i)))), (0, .ref (a 0)), (1, .long x0), (3, .long x1)]) hx hb dX10_numberOf_113 hl (k := 7) rfl (nI_1 _) (by decide) rfl (fun ls hl => ?_)
                  refine lv_goto (tgt := 9) hx hb dX10_numberOf_116 (by decide) ?_
                  exact ih9 (i + 1) (mk / 2 + 128) (nz9 + zWn (bfx (J 0)) (64 - (i + 1)) (mk / 2 / 2 * 2 + 1)) hlt_i (znb_rck hly hnb (zr_o hlt_i c_2) (mk1_z ⟨mk, hmk⟩ c_3) (zr_b hlt_i c_4) (zr_w2 hlt_i hmk hz0 c_6 c_8)) (lt_dec hlt_i hn9) _ _ hP hD hS ls (lv_sub hl [5, 6, 7, 3, 1, 0] rfl)
  refine lv_iconst (v := 0) hx hb dX10_numberOf_0 (by decide) ?_
  refine lv_istore (lv' := [(5, .int 0), (0, .ref (a 0)), (1, .long x0), (3, .long x1)]) hx hb dX10_numberOf_1 hl (by decide) rfl (fun ls hl => ?_)
  refine lv_iconst (v := 0) hx hb dX10_numberOf_3 (by decide) ?_
  refine lv_istore (lv' := [(6, .int 0), (5, .int 0), (0, .ref (a 0)), (1, .long x0), (3, .long x1)]) hx hb dX10_numberOf_4 hl (by decide) rfl (fun ls hl => ?_)
  refine lv_iconst (v := 0) hx hb dX10_numberOf_6 (by decide) ?_
  refine lv_istore (lv' := [(7, .int 0), (6, .int 0), (5, .int 0), (0, .ref (a 0)), (1, .long x0), (3, .long x1)]) hx hb dX10_numberOf_7 hl (by decide) rfl (fun ls hl => ?_)
  exact lp9 _ 0 0 0 (Nat.zero_le _) rfl (Nat.lt_succ_self _) _ _ hP hD hS ls (lv_sub hl [3, 4, 5, 2, 1, 0] rfl)
