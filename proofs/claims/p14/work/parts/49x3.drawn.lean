set_option maxHeartbeats 4000000 in
set_option maxRecDepth 100000 in
theorem x_X10_draw (l : Launch) (D : va_G) (cy : Nat → ClassId) (a : Nat → Nat) (sz : Nat) (J : Nat → Int64) (I : Nat → Int32) (R : Nat → Nat → Int32) (RJ : Nat → Nat → Int64) (x0 : Int32) (fl : Int64) (S : List Int32) (P : List PE) (hRA : RMf (J 0) (I 1) (I 12) (R 1) (R 3) (R 4) (RJ 2) fl S P) (hG : gInv fl S) (hM : MI I R) : Met l yX10_draw wsX10_draw ({ frames := 4, cells := 0, slots := 0, locals := 94 }) (va_Pc [.ref (a 0), .int x0] (PW D cy sz (MW cy a J I R RJ))) (va_Qi (fun r (u : MS) => ∃ (w0 : Int64), ∃ (w1 : Int64), ∃ (w2 : Int64), ∃ (w3 : Int64), ∃ (w4 : Int64), ∃ (w5 : Int64), ∃ (w6 : Int64), ∃ (w7 : Int32), ∃ (w8 : Int32), ∃ (w9 : Nat → Int32), (r = (aDraw fl S x0) ∧ (isB w7)) ∧ u = ((va_up (va_up (va_up (va_up (va_up (va_up (va_up J 4 w0) 5 w1) 19 w2) 20 w3) 21 w4) 22 w5) 23 w6), (va_up (va_up I 3 w7) 13 w8), (va_up R 12 w9), RJ)) (BW D (va_A (MW cy a J I R RJ) sz) (MWu cy a)) (va_A (MW cy a J I R RJ) sz)) 0 0 (va_A (MW cy a J I R RJ) sz) := by
  refine Met.ofW (cc := cX10_draw) (maxL := 7) (ret := (some .int)) (by decide) rfl ?_
  intro p e s m args below meth c s₁ B hml hv
  obtain ⟨rfl, rfl, hP, hK, hN, hD0⟩ := hv
  have hx := B.exec
  have hb := B.bytes
  have hr := B.returns
  have hts := atoms_spec (ws := wsX10_draw) B.pre
  have hown : s.vm.findClass RX10 = some m.cls := findClass_of_methodNamed B.named
  have hlocks := B.notSynchronized
  have hw0 := hts (.constant RX10 230 (1103515245)) (by decide +kernel)
  have hw1 := hts (.constant RX10 98 (-100006)) (by decide +kernel)
  have hD := hD0.self (sz := s.heap.size)
  generalize hAe : va_A (MW cy a J I R RJ) s.heap.size = A at hD ⊢
  have hA : ∀ q : Nat, s.heap.size ≤ q → A q := fun q h => by rw [← hAe]; exact Or.inr h
  have hS : va_S A s.heap s.heap [] := va_S.rf
  have hl := lv_entry ([.ref (a 0), .int x0]) (n := 7) (Nat.le_of_ble_eq_true rfl)
  rw [lg_entry_eq]
  generalize (lg_sl ([.ref (a 0), .int x0]) ++ List.replicate (7 - (lg_sl ([.ref (a 0), .int x0])).length) Slot.unset).toArray = ls at hl ⊢
  have hl : lv_has ls 7 [(0, .ref (a 0)), (1, .int x0)] := hl
  have hP : va_P D vwCl (MW cy a (va_up (va_up (va_up (va_up (va_up (va_up (va_up J 4 (J 4)) 5 (J 5)) 19 (J 19)) 20 (J 20)) 21 (J 21)) 22 (J 22)) 23 (J 23)) (va_up (va_up I 3 (I 3)) 13 (I 13)) (va_up R 12 (R 12)) RJ) s.heap := hP
  have hD : va_D A (MW cy a (va_up (va_up (va_up (va_up (va_up (va_up (va_up J 4 (J 4)) 5 (J 5)) 19 (J 19)) 20 (J 20)) 21 (J 21)) 22 (J 22)) 23 (J 23)) (va_up (va_up I 3 (I 3)) 13 (I 13)) (va_up R 12 (R 12)) RJ) := hD
  have lp38 : ∀ (n38 : Nat), ∀ (n9 : Nat) (h9 : Nat) (tt : Nat) (v4_38 : Int32) (v5_38 : Int32) (m0_38 : Int64) (m1_38 : Int64) (m2_38 : Int64) (m3_38 : Int64) (m4_38 : Int64) (m5_38 : Int64) (m6_38 : Int64) (m7_38 : Int32) (m8_38 : Int32) (m9_38 : Nat → Int32), (isB m7_38) → (n9 ≤ 531250000) → (0 < n9) → (¬ aCnt fl S = 0) → (aCnt fl S = nI n9) → (isH n9 h9) → (DX n9 h9 tt x0 v4_38 v5_38) → tt < n38 → ∀ (H : Heap) (locs : List Loc), va_P D vwCl (MW cy a (va_up (va_up (va_up (va_up (va_up (va_up (va_up J 4 m0_38) 5 m1_38) 19 m2_38) 20 m3_38) 21 m4_38) 22 m5_38) 23 m6_38) (va_up (va_up I 3 m7_38) 13 m8_38) (va_up R 12 m9_38) RJ) H → va_D A (MW cy a (va_up (va_up (va_up (va_up (va_up (va_up (va_up J 4 m0_38) 5 m1_38) 19 m2_38) 20 m3_38) 21 m4_38) 22 m5_38) 23 m6_38) (va_up (va_up I 3 m7_38) 13 m8_38) (va_up R 12 m9_38) RJ) → va_S A s.heap H locs → ∀ (ls : Array Slot), lv_has ls 7 [(0, .ref (a 0)), (2, .int (nI n9)), (3, .int (nI h9)), (4, .int v4_38), (5, .int v5_38)] → W p l e (headSpec wsX10_draw ({ frames := 4, cells := 0, slots := 0, locals := 94 })).room s m ([.ref (a 0), .int x0] : List Value).toArray below meth c H locs 0 0 (MQ below (va_Qi (fun r (u : MS) => ∃ (w0 : Int64), ∃ (w1 : Int64), ∃ (w2 : Int64), ∃ (w3 : Int64), ∃ (w4 : Int64), ∃ (w5 : Int64), ∃ (w6 : Int64), ∃ (w7 : Int32), ∃ (w8 : Int32), ∃ (w9 : Nat → Int32), (r = (aDraw fl S x0) ∧ (isB w7)) ∧ u = ((va_up (va_up (va_up (va_up (va_up (va_up (va_up J 4 w0) 5 w1) 19 w2) 20 w3) 21 w4) 22 w5) 23 w6), (va_up (va_up I 3 w7) 13 w8), (va_up R 12 w9), RJ)) (BW D A (MWu cy a)) A) ([.ref (a 0), .int x0] : List Value).toArray s 0 0 A) (F0 m 38 ls []) := by
    intro n38
    induction n38 with
    | zero => intro n9 h9 tt v4_38 v5_38 m0_38 m1_38 m2_38 m3_38 m4_38 m5_38 m6_38 m7_38 m8_38 m9_38 hm_m7_38 hn9 hn0 hcz hcn his hdx hn; exact absurd hn (Nat.not_lt_zero _)
    | succ n38 ih38 =>
      intro n9 h9 tt v4_38 v5_38 m0_38 m1_38 m2_38 m3_38 m4_38 m5_38 m6_38 m7_38 m8_38 m9_38 hm_m7_38 hn9 hn0 hcz hcn his hdx hn38 H locs hP hD hS ls hl
      have lp50 : ∀ (n50 : Nat), ∀ (k9 : Nat) (F9 : Nat) (m0_50 : Int64) (m1_50 : Int64) (m2_50 : Int64) (m3_50 : Int64) (m4_50 : Int64) (m5_50 : Int64) (m6_50 : Int64) (m7_50 : Int32) (m8_50 : Int32) (m9_50 : Nat → Int32), (k9 ≤ h9) → (isB m7_50) → (tt = F9 + 1) → (drw n9 h9 1000000 x0 = drw n9 h9 (F9 + 1) v4_38) → (sucs n9 h9 (F9 + 1) v4_38) → (h9 - k9) < n50 → ∀ (H : Heap) (locs : List Loc), va_P D vwCl (MW cy a (va_up (va_up (va_up (va_up (va_up (va_up (va_up J 4 m0_50) 5 m1_50) 19 m2_50) 20 m3_50) 21 m4_50) 22 m5_50) 23 m6_50) (va_up (va_up I 3 m7_50) 13 m8_50) (va_up R 12 m9_50) RJ) H → va_D A (MW cy a (va_up (va_up (va_up (va_up (va_up (va_up (va_up J 4 m0_50) 5 m1_50) 19 m2_50) 20 m3_50) 21 m4_50) 22 m5_50) 23 m6_50) (va_up (va_up I 3 m7_50) 13 m8_50) (va_up R 12 m9_50) RJ) → va_S A s.heap H locs → ∀ (ls : Array Slot), lv_has ls 7 [(0, .ref (a 0)), (2, .int (nI n9)), (3, .int (nI h9)), (4, .int (fit k9 v4_38)), (5, .int (nI (gn k9 v4_38))), (6, .int (nI k9))] → W p l e (headSpec wsX10_draw ({ frames := 4, cells := 0, slots := 0, locals := 94 })).room s m ([.ref (a 0), .int x0] : List Value).toArray below meth c H locs 0 0 (MQ below (va_Qi (fun r (u : MS) => ∃ (w0 : Int64), ∃ (w1 : Int64), ∃ (w2 : Int64), ∃ (w3 : Int64), ∃ (w4 : Int64), ∃ (w5 : Int64), ∃ (w6 : Int64), ∃ (w7 : Int32), ∃ (w8 : Int32), ∃ (w9 : Nat → Int32), (r = (aDraw fl S x0) ∧ (isB w7)) ∧ u = ((va_up (va_up (va_up (va_up (va_up (va_up (va_up J 4 w0) 5 w1) 19 w2) 20 w3) 21 w4) 22 w5) 23 w6), (va_up (va_up I 3 w7) 13 w8), (va_up R 12 w9), RJ)) (BW D A (MWu cy a)) A) ([.ref (a 0), .int x0] : List Value).toArray s 0 0 A) (F0 m 50 ls []) := by
        intro n50
        induction n50 with
        | zero => intro k9 F9 m0_50 m1_50 m2_50 m3_50 m4_50 m5_50 m6_50 m7_50 m8_50 m9_50 hk9 hm_m7_50 hF9 hF1 hF2 hn; exact absurd hn (Nat.not_lt_zero _)
        | succ n50 ih50 =>
          intro k9 F9 m0_50 m1_50 m2_50 m3_50 m4_50 m5_50 m6_50 m7_50 m8_50 m9_50 hk9 hm_m7_50 hF9 hF1 hF2 hn50 H locs hP hD hS ls hl
          refine lv_iload hx hb dX10_draw_50 (lv_at hl 5 rfl) ?_
          refine lv_iload_n hx hb dX10_draw_52 rfl (lv_at hl 2 rfl) ?_
          refine lv_icmp_ge (tgt := 85) hx hb dX10_draw_53 (by decide) (fun c_1 => ?_) (fun c_1 => ?_)
          · have hke := ctr_ge (N := h9) (Nat.lt_of_le_of_lt (Nat.le_trans (isH_29 hn9 his) (by decide : 29 ≤ 31)) (by decide)) hk9 c_1
            refine lv_goto (tgt := 38) hx hb dX10_draw_85 (by decide) ?_
            exact ih38 n9 h9 (if gn h9 v4_38 < n9 then 0 else F9) (fit k9 v4_38) (nI (gn k9 v4_38)) m0_50 m1_50 m2_50 m3_50 m4_50 m5_50 m6_50 m7_50 m8_50 m9_50 hm_m7_50 hn9 hn0 hcz hcn his (dx_back hn9 his hF1 hF2 hke) (dx_dec hF9 hn38) _ _ hP hD hS ls (lv_sub hl [0, 1, 2, 3, 4] rfl)
          · have hlt_k := ctr_lt (N := h9) (Nat.lt_of_le_of_lt (Nat.le_trans (isH_29 hn9 his) (by decide : 29 ≤ 31)) (by decide)) hk9 c_1
            refine lv_ldc (v := 1103515245) hx hb hown hw0 dX10_draw_56 ?_
            refine lv_iload hx hb dX10_draw_58 (lv_at hl 3 rfl) ?_
            refine lv_imul hx hb dX10_draw_60 ?_
            refine lv_sipush (v := 12345) hx hb dX10_draw_61 (by decide) ?_
            refine lv_iadd hx hb dX10_draw_64 ?_
            refine wtop_i (y := fit (k9 + 1) v4_38) rfl ?_
            refine lv_istore (lv' := [(4, .int (fit (k9 + 1) v4_38)), (0, .ref (a 0)), (2, .int (nI n9)), (3, .int (nI h9)), (5, .int (nI (gn k9 v4_38))), (6, .int (nI k9))]) hx hb dX10_draw_65 hl (by decide) rfl (fun ls hl => ?_)
            refine lv_iconst (v := 2) hx hb dX10_draw_67 (by decide) ?_
            refine lv_iload hx hb dX10_draw_68 (lv_at hl 4 rfl) ?_
            refine lv_imul hx hb dX10_draw_70 ?_
            refine lv_iload hx hb dX10_draw_71 (lv_at hl 0 rfl) ?_
            refine lv_bipush (v := 31) hx hb dX10_draw_73 (by decide) ?_
            refine lv_iushr (v := ((fit (k9 + 1) v4_38).toUInt32 >>> ((31 : Int32).toUInt32 &&& Int32.toUInt32 31)).toInt32) hx hb dX10_draw_75 rfl ?_
            refine wtop_i (y := nI (tb (fit (k9 + 1) v4_38))) (tb_eq _) ?_
            refine lv_iadd hx hb dX10_draw_76 ?_
            refine wtop_i (y := nI (gn (k9 + 1) v4_38)) (by rw [show gn (k9 + 1) v4_38 = 2 * gn k9 v4_38 + tb (fit (k9 + 1) v4_38) from rfl, ← nI_add, ← pk_mul]; rfl) ?_
            refine lv_istore (lv' := [(5, .int (nI (gn (k9 + 1) v4_38))), (4, .int (fit (k9 + 1) v4_38)), (0, .ref (a 0)), (2, .int (nI n9)), (3, .int (nI h9)), (6, .int (nI k9))]) hx hb dX10_draw_77 hl (by decide) rfl (fun ls hl => ?_)
            refine lv_iinc (v := nI (k9 + 1)) (lv' := [(6, .int (nI (k9 + 1))), (5, .int (nI (gn (k9 + 1) v4_38))), (4, .int (fit (k9 + 1) v4_38)), (0, .ref (a 0)), (2, .int (nI n9)), (3, .int (nI h9))]) hx hb dX10_draw_79 hl (k := 5) rfl (nI_1 _) (by decide) rfl (fun ls hl => ?_)
            refine lv_goto (tgt := 50) hx hb dX10_draw_82 (by decide) ?_
            exact ih50 (k9 + 1) F9 m0_50 m1_50 m2_50 m3_50 m4_50 m5_50 m6_50 m7_50 m8_50 m9_50 hlt_k hm_m7_50 hF9 hF1 hF2 (lt_dec hlt_k hn50) _ _ hP hD hS ls (lv_sub hl [3, 4, 5, 2, 1, 0] rfl)
      refine lv_iload hx hb dX10_draw_38 (lv_at hl 4 rfl) ?_
      refine lv_iload_n hx hb dX10_draw_40 rfl (lv_at hl 1 rfl) ?_
      refine lv_icmp_lt (tgt := 88) hx hb dX10_draw_41 (by decide) (fun c_2 => ?_) (fun c_2 => ?_)
      · refine lv_aload_n hx hb dX10_draw_88 rfl (lv_at hl 0 rfl) ?_
        refine lv_iload hx hb dX10_draw_89 (lv_at hl 4 rfl) ?_
        refine kM_v (As := [.int v5_38]) (rest := []) (q0 := 0) ⟨hx, hb, hml, hown, hts⟩ (t_X10_take l D cy a _ (va_up (va_up (va_up (va_up (va_up (va_up (va_up J 4 m0_38) 5 m1_38) 19 m2_38) 20 m3_38) 21 m4_38) 22 m5_38) 23 m6_38) (va_up (va_up I 3 m7_38) 13 m8_38) (va_up R 12 m9_38) RJ v5_38  ⟨hM.1, hm_m7_38, hM.2.2.1, hM.2.2.2.1, hM.2.2.2.2.1, hM.2.2.2.2.2⟩) (cwV 1 hts gX10_draw_X10_take rfl rfl rfl (by decide +kernel) ⟨Nat.le_of_ble_eq_true rfl, Nat.le_of_ble_eq_true rfl⟩) hK hN hP hD hS hA rfl rfl rfl hl.1 rfl (Nat.le_of_ble_eq_true rfl) dX10_draw_91 ⟨Nat.le_of_ble_eq_true rfl, Nat.le_of_ble_eq_true rfl⟩ (fun u H locs hw hP hD hS => ?_)
        obtain ⟨w_4, w_5, w_6, w_7, w_8, hi_9, rfl⟩ := hw
        have hP : va_P D vwCl (MW cy a (va_up (va_up (va_up (va_up (va_up (va_up (va_up J 4 w_4) 5 w_5) 19 m2_38) 20 m3_38) 21 m4_38) 22 w_6) 23 w_7) (va_up (va_up I 3 w_8) 13 m8_38) (va_up R 12 m9_38) RJ) H := hP
        have hD : va_D A (MW cy a (va_up (va_up (va_up (va_up (va_up (va_up (va_up J 4 w_4) 5 w_5) 19 m2_38) 20 m3_38) 21 m4_38) 22 w_6) 23 w_7) (va_up (va_up I 3 w_8) 13 m8_38) (va_up R 12 m9_38) RJ) := hD
        refine lv_iload hx hb dX10_draw_94 (lv_at hl 4 rfl) ?_
        exact wret_i hx hb hr hlocks ((va_up (va_up (va_up (va_up (va_up (va_up (va_up J 4 w_4) 5 w_5) 19 m2_38) 20 m3_38) 21 m4_38) 22 w_6) 23 w_7), (va_up (va_up I 3 w_8) 13 m8_38), (va_up R 12 m9_38), RJ) ⟨w_4, w_5, m2_38, m3_38, m4_38, w_6, w_7, w_8, m8_38, m9_38, ⟨((dx_out hdx c_2).trans (ad_1 rfl hcz hcn hn9 his)), hi_9⟩, rfl⟩ hP hD hS dX10_draw_96
      · obtain ⟨F9, hF9, hF1, hF2⟩ := dx_in hdx c_2
        refine lv_iconst (v := 0) hx hb dX10_draw_44 (by decide) ?_
        refine lv_istore (lv' := [(5, .int 0), (0, .ref (a 0)), (2, .int (nI n9)), (3, .int (nI h9)), (4, .int v4_38)]) hx hb dX10_draw_45 hl (by decide) rfl (fun ls hl => ?_)
        refine lv_iconst (v := 0) hx hb dX10_draw_47 (by decide) ?_
        refine lv_istore (lv' := [(6, .int 0), (5, .int 0), (0, .ref (a 0)), (2, .int (nI n9)), (3, .int (nI h9)), (4, .int v4_38)]) hx hb dX10_draw_48 hl (by decide) rfl (fun ls hl => ?_)
        exact lp50 _ 0 F9 m0_38 m1_38 m2_38 m3_38 m4_38 m5_38 m6_38 m7_38 m8_38 m9_38 (Nat.zero_le _) hm_m7_38 hF9 hF1 hF2 (Nat.lt_succ_self _) _ _ hP hD hS ls (lv_sub hl [2, 3, 4, 5, 1, 0] rfl)
  have lp18 : ∀ (n18 : Nat), ∀ (h9 : Nat) (n9 : Nat) (m0_18 : Int64) (m1_18 : Int64) (m2_18 : Int64) (m3_18 : Int64) (m4_18 : Int64) (m5_18 : Int64) (m6_18 : Int64) (m7_18 : Int32) (m8_18 : Int32) (m9_18 : Nat → Int32), (h9 ≤ 31) → (isB m7_18) → (n9 ≤ 531250000) → (0 < n9) → (¬ aCnt fl S = 0) → (aCnt fl S = nI n9) → (∀ k, k < h9 → ¬ (n9 - 1) / 2 ^ k = 0) → (31 - h9) < n18 → ∀ (H : Heap) (locs : List Loc), va_P D vwCl (MW cy a (va_up (va_up (va_up (va_up (va_up (va_up (va_up J 4 m0_18) 5 m1_18) 19 m2_18) 20 m3_18) 21 m4_18) 22 m5_18) 23 m6_18) (va_up (va_up I 3 m7_18) 13 m8_18) (va_up R 12 m9_18) RJ) H → va_D A (MW cy a (va_up (va_up (va_up (va_up (va_up (va_up (va_up J 4 m0_18) 5 m1_18) 19 m2_18) 20 m3_18) 21 m4_18) 22 m5_18) 23 m6_18) (va_up (va_up I 3 m7_18) 13 m8_18) (va_up R 12 m9_18) RJ) → va_S A s.heap H locs → ∀ (ls : Array Slot), lv_has ls 7 [(0, .ref (a 0)), (1, .int x0), (2, .int (nI n9)), (3, .int (nI h9))] → W p l e (headSpec wsX10_draw ({ frames := 4, cells := 0, slots := 0, locals := 94 })).room s m ([.ref (a 0), .int x0] : List Value).toArray below meth c H locs 0 0 (MQ below (va_Qi (fun r (u : MS) => ∃ (w0 : Int64), ∃ (w1 : Int64), ∃ (w2 : Int64), ∃ (w3 : Int64), ∃ (w4 : Int64), ∃ (w5 : Int64), ∃ (w6 : Int64), ∃ (w7 : Int32), ∃ (w8 : Int32), ∃ (w9 : Nat → Int32), (r = (aDraw fl S x0) ∧ (isB w7)) ∧ u = ((va_up (va_up (va_up (va_up (va_up (va_up (va_up J 4 w0) 5 w1) 19 w2) 20 w3) 21 w4) 22 w5) 23 w6), (va_up (va_up I 3 w7) 13 w8), (va_up R 12 w9), RJ)) (BW D A (MWu cy a)) A) ([.ref (a 0), .int x0] : List Value).toArray s 0 0 A) (F0 m 18 ls []) := by
    intro n18
    induction n18 with
    | zero => intro h9 n9 m0_18 m1_18 m2_18 m3_18 m4_18 m5_18 m6_18 m7_18 m8_18 m9_18 hh9 hm_m7_18 hn9 hn0 hcz hcn hih hn; exact absurd hn (Nat.not_lt_zero _)
    | succ n18 ih18 =>
      intro h9 n9 m0_18 m1_18 m2_18 m3_18 m4_18 m5_18 m6_18 m7_18 m8_18 m9_18 hh9 hm_m7_18 hn9 hn0 hcz hcn hih hn18 H locs hP hD hS ls hl
      refine lv_iload_n hx hb dX10_draw_18 rfl (lv_at hl 2 rfl) ?_
      refine lv_iconst (v := 1) hx hb dX10_draw_19 (by decide) ?_
      refine lv_isub hx hb dX10_draw_20 ?_
      refine wtop_i (y := nI (n9 - 1)) (nI_pr9 hn0) ?_
      refine lv_iload_n hx hb dX10_draw_21 rfl (lv_at hl 3 rfl) ?_
      refine lv_ishr hx hb dX10_draw_22 ?_
      refine wtop_i (y := nI ((n9 - 1) / 2 ^ h9)) (pk_shrN (dr_lt hn9) _ h9 (sm32 ⟨h9, Nat.lt_succ_of_le hh9⟩)) ?_
      refine lv_if_eq (tgt := 32) hx hb dX10_draw_23 (by decide) (fun c_10 => ?_) (fun c_10 => ?_)
      · have his := ish_e hn9 hih c_10
        refine lv_iload_n hx hb dX10_draw_32 rfl (lv_at hl 1 rfl) ?_
        refine lv_istore (lv' := [(4, .int x0), (0, .ref (a 0)), (1, .int x0), (2, .int (nI n9)), (3, .int (nI h9))]) hx hb dX10_draw_33 hl (by decide) rfl (fun ls hl => ?_)
        refine lv_iload_n hx hb dX10_draw_35 rfl (lv_at hl 3 rfl) ?_
        refine lv_istore (lv' := [(5, .int (nI n9)), (4, .int x0), (0, .ref (a 0)), (1, .int x0), (2, .int (nI n9)), (3, .int (nI h9))]) hx hb dX10_draw_36 hl (by decide) rfl (fun ls hl => ?_)
        exact lp38 _ n9 h9 1000000 x0 (nI n9) m0_18 m1_18 m2_18 m3_18 m4_18 m5_18 m6_18 m7_18 m8_18 m9_18 hm_m7_18 hn9 hn0 hcz hcn his (dx_0 hn9 hn0 his) (Nat.lt_succ_self _) _ _ hP hD hS ls (lv_sub hl [2, 4, 5, 1, 0] rfl)
      · have hih2 := ish_s hih c_10
        refine lv_iinc (v := nI (h9 + 1)) (lv' := [(3, .int (nI (h9 + 1))), (0, .ref (a 0)), (1, .int x0), (2, .int (nI n9))]) hx hb dX10_draw_26 hl (k := 3) rfl (nI_1 _) (by decide) rfl (fun ls hl => ?_)
        refine lv_goto (tgt := 18) hx hb dX10_draw_29 (by decide) ?_
        exact ih18 (h9 + 1) n9 m0_18 m1_18 m2_18 m3_18 m4_18 m5_18 m6_18 m7_18 m8_18 m9_18 (ish_le hn9 hih2) hm_m7_18 hn9 hn0 hcz hcn hih2 (ish_m hn9 hih2 hn18) _ _ hP hD hS ls (lv_sub hl [1, 2, 3, 0] rfl)
  refine lv_aload_n hx hb dX10_draw_0 rfl (lv_at hl 0 rfl) ?_
  refine kM_i (As := []) (rest := []) (q0 := 0) ⟨hx, hb, hml, hown, hts⟩ (x_X10_countAll l D cy a _ (va_up (va_up (va_up (va_up (va_up (va_up (va_up J 4 (J 4)) 5 (J 5)) 19 (J 19)) 20 (J 20)) 21 (J 21)) 22 (J 22)) 23 (J 23)) (va_up (va_up I 3 (I 3)) 13 (I 13)) (va_up R 12 (R 12)) RJ  fl S P hRA hG ⟨hM.1, hM.2.1, hM.2.2.1, hM.2.2.2.1, hM.2.2.2.2.1, hM.2.2.2.2.2⟩) (cwV 0 hts gX10_draw_X10_countAll rfl rfl rfl (by decide +kernel) ⟨Nat.le_of_ble_eq_true rfl, Nat.le_of_ble_eq_true rfl⟩) hK hN hP hD hS hA rfl rfl rfl hl.1 rfl (Nat.le_of_ble_eq_true rfl) dX10_draw_1 ⟨Nat.le_of_ble_eq_true rfl, Nat.le_of_ble_eq_true rfl⟩ (fun r_11 u H locs hw hP hD hS => ?_)
  obtain ⟨w_12, w_13, w_14, w_15, rfl, rfl⟩ := hw
  have hP : va_P D vwCl (MW cy a (va_up (va_up (va_up (va_up (va_up (va_up (va_up J 4 (J 4)) 5 (J 5)) 19 w_12) 20 w_13) 21 w_14) 22 (J 22)) 23 (J 23)) (va_up (va_up I 3 (I 3)) 13 (I 13)) (va_up R 12 w_15) RJ) H := hP
  have hD : va_D A (MW cy a (va_up (va_up (va_up (va_up (va_up (va_up (va_up J 4 (J 4)) 5 (J 5)) 19 w_12) 20 w_13) 21 w_14) 22 (J 22)) 23 (J 23)) (va_up (va_up I 3 (I 3)) 13 (I 13)) (va_up R 12 w_15) RJ) := hD
  refine lv_istore_n (lv' := [(2, .int (aCnt fl S)), (0, .ref (a 0)), (1, .int x0)]) hx hb dX10_draw_4 rfl hl (by decide) rfl (fun ls hl => ?_)
  refine lv_iload_n hx hb dX10_draw_5 rfl (lv_at hl 0 rfl) ?_
  refine lv_if_ne (tgt := 16) hx hb dX10_draw_6 (by decide) (fun c_16 => ?_) (fun c_16 => ?_)
  · have hcz := c_16
    obtain ⟨n9, hn9, hn0, hcn⟩ := c_pos (cOk_cnt fl S) c_16
    rw [hcn] at hl
    refine lv_iconst (v := 0) hx hb dX10_draw_16 (by decide) ?_
    refine lv_istore_n (lv' := [(3, .int 0), (2, .int (nI n9)), (0, .ref (a 0)), (1, .int x0)]) hx hb dX10_draw_17 rfl hl (by decide) rfl (fun ls hl => ?_)
    exact lp18 _ 0 n9 (J 4) (J 5) w_12 w_13 w_14 (J 22) (J 23) (I 3) (I 13) w_15 (Nat.zero_le _) hM.2.1 hn9 hn0 hcz hcn (fun j h => absurd h (Nat.not_lt_zero _)) (Nat.lt_succ_self _) _ _ hP hD hS ls (lv_sub hl [2, 3, 1, 0] rfl)
  · refine lv_aload_n hx hb dX10_draw_9 rfl (lv_at hl 1 rfl) ?_
    refine lv_ldc (v := (-100006)) hx hb hown hw1 dX10_draw_10 ?_
    refine kM_i (As := [.int (-100006)]) (rest := []) (q0 := 0) ⟨hx, hb, hml, hown, hts⟩ (c_X10_finding l D cy a _ (va_up (va_up (va_up (va_up (va_up (va_up (va_up J 4 (J 4)) 5 (J 5)) 19 w_12) 20 w_13) 21 w_14) 22 (J 22)) 23 (J 23)) (va_up (va_up I 3 (I 3)) 13 (I 13)) (va_up R 12 w_15) RJ (-100006) ) (cwV 1 hts gX10_draw_X10_finding rfl rfl rfl (by decide +kernel) ⟨Nat.le_of_ble_eq_true rfl, Nat.le_of_ble_eq_true rfl⟩) hK hN hP hD hS hA rfl rfl rfl hl.1 rfl (Nat.le_of_ble_eq_true rfl) dX10_draw_12 ⟨Nat.le_of_ble_eq_true rfl, Nat.le_of_ble_eq_true rfl⟩ (fun r_17 u H locs hw hP hD hS => ?_)
    obtain ⟨rfl, rfl⟩ := hw
    have hP : va_P D vwCl (MW cy a (va_up (va_up (va_up (va_up (va_up (va_up (va_up J 4 (J 4)) 5 (J 5)) 19 w_12) 20 w_13) 21 w_14) 22 (J 22)) 23 (J 23)) (va_up (va_up I 3 (I 3)) 13 ((I 13) + 1)) (va_up R 12 w_15) RJ) H := hP
    have hD : va_D A (MW cy a (va_up (va_up (va_up (va_up (va_up (va_up (va_up J 4 (J 4)) 5 (J 5)) 19 w_12) 20 w_13) 21 w_14) 22 (J 22)) 23 (J 23)) (va_up (va_up I 3 (I 3)) 13 ((I 13) + 1)) (va_up R 12 w_15) RJ) := hD
    exact wret_i hx hb hr hlocks ((va_up (va_up (va_up (va_up (va_up (va_up (va_up J 4 (J 4)) 5 (J 5)) 19 w_12) 20 w_13) 21 w_14) 22 (J 22)) 23 (J 23)), (va_up (va_up I 3 (I 3)) 13 ((I 13) + 1)), (va_up R 12 w_15), RJ) ⟨(J 4), (J 5), w_12, w_13, w_14, (J 22), (J 23), (I 3), ((I 13) + 1), w_15, ⟨(ad_0 rfl c_16), hM.2.1⟩, rfl⟩ hP hD hS dX10_draw_15
set_option maxHeartbeats 4000000 in
set_option maxRecDepth 100000 in
theorem x_X9_drawnNumber (l : Launch) (x0 : Int32) (n9 : Nat) (hn9 : n9 ≤ 531250000) (hn0 : 0 < n9) : Met l yX9_drawnNumber wsX9_drawnNumber ({ frames := 0, cells := 0, slots := 0, locals := 0 }) (va_Pc [.int x0, .int (nI n9)] (fun _ => True)) (vp_Si (fun r => ∃ h, isH n9 h ∧ r = nI (drw n9 h 1000000 x0))) 0 0 (fun _ => False) := by
  refine Met.ofW (cc := cX9_drawnNumber) (maxL := 7) (ret := (some .int)) (by decide) rfl ?_
  intro p e s m args below meth c s₁ B hml hv
  obtain ⟨rfl, -⟩ := hv
  have hx := B.exec
  have hb := B.bytes
  have hr := B.returns
  have hts := atoms_spec (ws := wsX9_drawnNumber) B.pre
  have hown : s.vm.findClass RX9 = some m.cls := findClass_of_methodNamed B.named
  have hlocks := B.notSynchronized
  have hw0 := hts (.constant RX9 356 (1103515245)) (by decide +kernel)
  have hw1 := hts (.constant RX9 355 (1000000)) (by decide +kernel)
  have hl := lv_entry ([.int x0, .int (nI n9)]) (n := 7) (Nat.le_of_ble_eq_true rfl)
  rw [lg_entry_eq]
  generalize (lg_sl ([.int x0, .int (nI n9)]) ++ List.replicate (7 - (lg_sl ([.int x0, .int (nI n9)])).length) Slot.unset).toArray = ls at hl ⊢
  have hl : lv_has ls 7 [(0, .int x0), (1, .int (nI n9))] := hl
  have lp25 : ∀ (n25 : Nat), ∀ (t9 : Nat) (h9 : Nat) (v3 : Int32), (t9 ≤ 1000000) → (isH n9 h9) → (drw n9 h9 1000000 x0 = drw n9 h9 (1000000 - t9) v3) → (1000000 - t9) < n25 → ∀ (ls : Array Slot), lv_has ls 7 [(1, .int (nI n9)), (2, .int (nI h9)), (3, .int v3), (4, .int (nI t9))] → W p l e (headSpec wsX9_drawnNumber ({ frames := 0, cells := 0, slots := 0, locals := 0 })).room s m ([.int x0, .int (nI n9)] : List Value).toArray below meth c s.heap [] 0 0 (MQ below (vp_Si (fun r => ∃ h, isH n9 h ∧ r = nI (drw n9 h 1000000 x0))) ([.int x0, .int (nI n9)] : List Value).toArray s 0 0 (fun _ => False)) (F0 m 25 ls []) := by
    intro n25
    induction n25 with
    | zero => intro t9 h9 v3 ht9 his hdw hn; exact absurd hn (Nat.not_lt_zero _)
    | succ n25 ih25 =>
      intro t9 h9 v3 ht9 his hdw hn25 ls hl
      have lp39 : ∀ (n39 : Nat), ∀ (k9 : Nat), (k9 ≤ h9) → (t9 < 1000000) → (h9 - k9) < n39 → ∀ (ls : Array Slot), lv_has ls 7 [(1, .int (nI n9)), (2, .int (nI h9)), (3, .int (fit k9 v3)), (4, .int (nI t9)), (5, .int (nI (gn k9 v3))), (6, .int (nI k9))] → W p l e (headSpec wsX9_drawnNumber ({ frames := 0, cells := 0, slots := 0, locals := 0 })).room s m ([.int x0, .int (nI n9)] : List Value).toArray below meth c s.heap [] 0 0 (MQ below (vp_Si (fun r => ∃ h, isH n9 h ∧ r = nI (drw n9 h 1000000 x0))) ([.int x0, .int (nI n9)] : List Value).toArray s 0 0 (fun _ => False)) (F0 m 39 ls []) := by
        intro n39
        induction n39 with
        | zero => intro k9 hk9 hlt_t9 hn; exact absurd hn (Nat.not_lt_zero _)
        | succ n39 ih39 =>
          intro k9 hk9 hlt_t9 hn39 ls hl
          refine lv_iload hx hb dX9_drawnNumber_39 (lv_at hl 5 rfl) ?_
          refine lv_iload_n hx hb dX9_drawnNumber_41 rfl (lv_at hl 1 rfl) ?_
          refine lv_icmp_ge (tgt := 72) hx hb dX9_drawnNumber_42 (by decide) (fun c_1 => ?_) (fun c_1 => ?_)
          · have hke := ctr_ge (N := h9) (Nat.lt_of_le_of_lt (Nat.le_trans (isH_29 hn9 his) (by decide : 29 ≤ 31)) (by decide)) hk9 c_1
            refine lv_iload hx hb dX9_drawnNumber_72 (lv_at hl 4 rfl) ?_
            refine lv_iload_n hx hb dX9_drawnNumber_74 rfl (lv_at hl 0 rfl) ?_
            refine lv_icmp_ge (tgt := 81) hx hb dX9_drawnNumber_75 (by decide) (fun c_2 => ?_) (fun c_2 => ?_)
            · refine lv_iinc (v := nI (t9 + 1)) (lv' := [(4, .int (nI (t9 + 1))), (1, .int (nI n9)), (2, .int (nI h9)), (3, .int (fit k9 v3)), (5, .int (nI (gn k9 v3))), (6, .int (nI k9))]) hx hb dX9_drawnNumber_81 hl (k := 3) rfl (nI_1 _) (by decide) rfl (fun ls hl => ?_)
              refine lv_goto (tgt := 25) hx hb dX9_drawnNumber_84 (by decide) ?_
              exact ih25 (t9 + 1) h9 (fit k9 v3) hlt_t9 his (by rw [hke]; exact dw_s hlt_t9 hdw (dq_ge hn9 his hke c_2)) (lt_dec hlt_t9 hn25) ls (lv_sub hl [1, 2, 3, 0] rfl)
            · refine lv_iload hx hb dX9_drawnNumber_78 (lv_at hl 4 rfl) ?_
              exact aret_i hx hb hr hlocks ⟨h9, his, congrArg nI (by rw [hke]; exact dw_e hlt_t9 hdw (dq_lt hn9 his hke c_2))⟩ dX9_drawnNumber_80
          · have hlt_k9 := ctr_lt (N := h9) (Nat.lt_of_le_of_lt (Nat.le_trans (isH_29 hn9 his) (by decide : 29 ≤ 31)) (by decide)) hk9 c_1
            refine lv_ldcw (v := 1103515245) hx hb hown hw0 dX9_drawnNumber_45 ?_
            refine lv_iload_n hx hb dX9_drawnNumber_48 rfl (lv_at hl 2 rfl) ?_
            refine lv_imul hx hb dX9_drawnNumber_49 ?_
            refine lv_sipush (v := 12345) hx hb dX9_drawnNumber_50 (by decide) ?_
            refine lv_iadd hx hb dX9_drawnNumber_53 ?_
            refine wtop_i (y := fit (k9 + 1) v3) rfl ?_
            refine lv_istore_n (lv' := [(3, .int (fit (k9 + 1) v3)), (1, .int (nI n9)), (2, .int (nI h9)), (4, .int (nI t9)), (5, .int (nI (gn k9 v3))), (6, .int (nI k9))]) hx hb dX9_drawnNumber_54 rfl hl (by decide) rfl (fun ls hl => ?_)
            refine lv_iconst (v := 2) hx hb dX9_drawnNumber_55 (by decide) ?_
            refine lv_iload hx hb dX9_drawnNumber_56 (lv_at hl 4 rfl) ?_
            refine lv_imul hx hb dX9_drawnNumber_58 ?_
            refine lv_iload_n hx hb dX9_drawnNumber_59 rfl (lv_at hl 0 rfl) ?_
            refine lv_bipush (v := 31) hx hb dX9_drawnNumber_60 (by decide) ?_
            refine lv_iushr (v := ((fit (k9 + 1) v3).toUInt32 >>> ((31 : Int32).toUInt32 &&& Int32.toUInt32 31)).toInt32) hx hb dX9_drawnNumber_62 rfl ?_
            refine wtop_i (y := nI (tb (fit (k9 + 1) v3))) (tb_eq _) ?_
            refine lv_iadd hx hb dX9_drawnNumber_63 ?_
            refine wtop_i (y := nI (gn (k9 + 1) v3)) (by rw [show gn (k9 + 1) v3 = 2 * gn k9 v3 + tb (fit (k9 + 1) v3) from rfl, ← nI_add, ← pk_mul]; rfl) ?_
            refine lv_istore (lv' := [(5, .int (nI (gn (k9 + 1) v3))), (3, .int (fit (k9 + 1) v3)), (1, .int (nI n9)), (2, .int (nI h9)), (4, .int (nI t9)), (6, .int (nI k9))]) hx hb dX9_drawnNumber_64 hl (by decide) rfl (fun ls hl => ?_)
            refine lv_iinc (v := nI (k9 + 1)) (lv' := [(6, .int (nI (k9 + 1))), (5, .int (nI (gn (k9 + 1) v3))), (3, .int (fit (k9 + 1) v3)), (1, .int (nI n9)), (2, .int (nI h9)), (4, .int (nI t9))]) hx hb dX9_drawnNumber_66 hl (k := 5) rfl (nI_1 _) (by decide) rfl (fun ls hl => ?_)
            refine lv_goto (tgt := 39) hx hb dX9_drawnNumber_69 (by decide) ?_
            exact ih39 (k9 + 1) hlt_k9 hlt_t9 (lt_dec hlt_k9 hn39) ls (lv_sub hl [3, 4, 2, 5, 1, 0] rfl)
      refine lv_iload hx hb dX9_drawnNumber_25 (lv_at hl 3 rfl) ?_
      refine lv_ldcw (v := 1000000) hx hb hown hw1 dX9_drawnNumber_27 ?_
      refine lv_icmp_ge (tgt := 87) hx hb dX9_drawnNumber_30 (by decide) (fun c_3 => ?_) (fun c_3 => ?_)
      · have hie := ctr_ge (N := 1000000) (by decide) ht9 c_3
        refine lv_iconst (v := 0) hx hb dX9_drawnNumber_87 (by decide) ?_
        exact aret_i hx hb hr hlocks ⟨h9, his, (by rw [hdw, hie]; rfl)⟩ dX9_drawnNumber_88
      · have hlt_t9 := ctr_lt (N := 1000000) (by decide) ht9 c_3
        refine lv_iconst (v := 0) hx hb dX9_drawnNumber_33 (by decide) ?_
        refine lv_istore (lv' := [(5, .int 0), (1, .int (nI n9)), (2, .int (nI h9)), (3, .int v3), (4, .int (nI t9))]) hx hb dX9_drawnNumber_34 hl (by decide) rfl (fun ls hl => ?_)
        refine lv_iconst (v := 0) hx hb dX9_drawnNumber_36 (by decide) ?_
        refine lv_istore (lv' := [(6, .int 0), (5, .int 0), (1, .int (nI n9)), (2, .int (nI h9)), (3, .int v3), (4, .int (nI t9))]) hx hb dX9_drawnNumber_37 hl (by decide) rfl (fun ls hl => ?_)
        exact lp39 _ 0 (Nat.zero_le _) hlt_t9 (Nat.lt_succ_self _) ls (lv_sub hl [2, 3, 4, 5, 1, 0] rfl)
  have lp6 : ∀ (n6 : Nat), ∀ (h9 : Nat), (h9 ≤ 31) → (∀ k, k < h9 → ¬ (n9 - 1) / 2 ^ k = 0) → (31 - h9) < n6 → ∀ (ls : Array Slot), lv_has ls 7 [(0, .int x0), (1, .int (nI n9)), (2, .int (nI h9)), (3, .int (nI ((n9 - 1) / 2 ^ h9)))] → W p l e (headSpec wsX9_drawnNumber ({ frames := 0, cells := 0, slots := 0, locals := 0 })).room s m ([.int x0, .int (nI n9)] : List Value).toArray below meth c s.heap [] 0 0 (MQ below (vp_Si (fun r => ∃ h, isH n9 h ∧ r = nI (drw n9 h 1000000 x0))) ([.int x0, .int (nI n9)] : List Value).toArray s 0 0 (fun _ => False)) (F0 m 6 ls []) := by
    intro n6
    induction n6 with
    | zero => intro h9 hh9 hih hn; exact absurd hn (Nat.not_lt_zero _)
    | succ n6 ih6 =>
      intro h9 hh9 hih hn6 ls hl
      refine lv_iload_n hx hb dX9_drawnNumber_6 rfl (lv_at hl 3 rfl) ?_
      refine lv_if_le (tgt := 20) hx hb dX9_drawnNumber_7 (by decide) (fun c_4 => ?_) (fun c_4 => ?_)
      · have his := ish_e hn9 hih (ish_q hn9 c_4)
        refine lv_iload_n hx hb dX9_drawnNumber_20 rfl (lv_at hl 0 rfl) ?_
        refine lv_istore_n (lv' := [(3, .int x0), (0, .int x0), (1, .int (nI n9)), (2, .int (nI h9))]) hx hb dX9_drawnNumber_21 rfl hl (by decide) rfl (fun ls hl => ?_)
        refine lv_iconst (v := 0) hx hb dX9_drawnNumber_22 (by decide) ?_
        refine lv_istore (lv' := [(4, .int 0), (3, .int x0), (0, .int x0), (1, .int (nI n9)), (2, .int (nI h9))]) hx hb dX9_drawnNumber_23 hl (by decide) rfl (fun ls hl => ?_)
        exact lp25 _ 0 h9 x0 (Nat.zero_le _) his rfl (Nat.lt_succ_self _) ls (lv_sub hl [3, 4, 1, 0] rfl)
      · have hih2 := ish_s hih (fun z => c_4 (by rw [z]; decide))
        refine lv_iinc (v := nI (h9 + 1)) (lv' := [(2, .int (nI (h9 + 1))), (0, .int x0), (1, .int (nI n9)), (3, .int (nI ((n9 - 1) / 2 ^ h9)))]) hx hb dX9_drawnNumber_10 hl (k := 2) rfl (nI_1 _) (by decide) rfl (fun ls hl => ?_)
        refine lv_iload_n hx hb dX9_drawnNumber_13 rfl (lv_at hl 3 rfl) ?_
        refine lv_iconst (v := 1) hx hb dX9_drawnNumber_14 (by decide) ?_
        refine lv_ishr hx hb dX9_drawnNumber_15 ?_
        refine wtop_i (y := nI ((n9 - 1) / 2 ^ (h9 + 1))) (shr1 hn9) ?_
        refine lv_istore_n (lv' := [(3, .int (nI ((n9 - 1) / 2 ^ (h9 + 1)))), (2, .int (nI (h9 + 1))), (0, .int x0), (1, .int (nI n9))]) hx hb dX9_drawnNumber_16 rfl hl (by decide) rfl (fun ls hl => ?_)
        refine lv_goto (tgt := 6) hx hb dX9_drawnNumber_17 (by decide) ?_
        exact ih6 (h9 + 1) (ish_le hn9 hih2) hih2 (ish_m hn9 hih2 hn6) ls (lv_sub hl [2, 3, 1, 0] rfl)
  refine lv_iconst (v := 0) hx hb dX9_drawnNumber_0 (by decide) ?_
  refine lv_istore_n (lv' := [(2, .int 0), (0, .int x0), (1, .int (nI n9))]) hx hb dX9_drawnNumber_1 rfl hl (by decide) rfl (fun ls hl => ?_)
  refine lv_iload_n hx hb dX9_drawnNumber_2 rfl (lv_at hl 2 rfl) ?_
  refine lv_iconst (v := 1) hx hb dX9_drawnNumber_3 (by decide) ?_
  refine lv_isub hx hb dX9_drawnNumber_4 ?_
  refine wtop_i (y := nI ((n9 - 1) / 2 ^ 0)) (by rw [nI_pr9 hn0, Nat.pow_zero, Nat.div_one]) ?_
  refine lv_istore_n (lv' := [(3, .int (nI ((n9 - 1) / 2 ^ 0))), (2, .int 0), (0, .int x0), (1, .int (nI n9))]) hx hb dX9_drawnNumber_5 rfl hl (by decide) rfl (fun ls hl => ?_)
  exact lp6 _ 0 (Nat.zero_le _) (fun j h => absurd h (Nat.not_lt_zero _)) (Nat.lt_succ_self _) ls (lv_sub hl [2, 3, 1, 0] rfl)
set_option maxHeartbeats 4000000 in
set_option maxRecDepth 100000 in
theorem x_X9_draw (l : Launch) (D : va_G) (cy : Nat → ClassId) (a : Nat → Nat) (sz : Nat) (J : Nat → Int64) (I : Nat → Int32) (O : Nat → Option Nat) (R : Nat → Nat → Int32) (RO : Nat → Nat → Option Nat) (LL : va_W) (Y : va_W) (x0 : Int32) (fl : Int64) (S : List Int32) (P : List PE) (hRA : RCf Y (J 6) (O 7) (I 9) (RO 2) fl S P) (hM : CI a Y I O RO) (hL : LOK cy (O 5) LL) : Met l yX9_draw wsX9_draw ({ frames := 6, cells := 7, slots := 34315, locals := 145 }) (va_Pc [.ref (a 0), .int x0] (PW D cy sz (CT cy a J I O R RO (LL ++ Y)))) (va_Qi (fun r (u : TS) => ∃ (w0 : Int32), ∃ (w1 : Option Nat), ∃ (w2 : Option Nat), ∃ (LL9 : va_W), ∃ (Y9 : va_W), (r = (aDraw fl S x0) ∧ (layO Y9 w2) ∧ (∀ c, c ∈ Y → c ∈ Y9) ∧ LOK cy w1 LL9) ∧ u = (J, (va_up I 10 w0), (va_up (va_up O 5 w1) 8 w2), R, RO, LL9, Y9)) (BW D (va_A (CT cy a J I O R RO (LL ++ Y)) sz) (CTu cy a)) (va_A (CT cy a J I O R RO (LL ++ Y)) sz)) 7 34315 (va_A (CT cy a J I O R RO (LL ++ Y)) sz) := by
  refine Met.ofW (cc := cX9_draw) (maxL := 3) (ret := (some .int)) (by decide) rfl ?_
  intro p e s m args below meth c s₁ B hml hv
  obtain ⟨rfl, rfl, hP, hK, hN, hD0⟩ := hv
  have hx := B.exec
  have hb := B.bytes
  have hr := B.returns
  have hts := atoms_spec (ws := wsX9_draw) B.pre
  have hown : s.vm.findClass RX9 = some m.cls := findClass_of_methodNamed B.named
  have hlocks := B.notSynchronized
  have hw0 := hts (.fieldLink RX9 133 "ParquetLayer" "hand" "LParquetLayer$Laying;") (by decide +kernel)
  have hw1 := hts (.fieldLink RX9 196 "ParquetLayer$Laying" "number" "I") (by decide +kernel)
  have hw2 := hts (.constant RX9 137 (-100006)) (by decide +kernel)
  have hi3 := ihX9_draw_3
  have hi9 := ihX9_draw_9
  have hD := hD0.self (sz := s.heap.size)
  generalize hAe : va_A (CT cy a J I O R RO (LL ++ Y)) s.heap.size = A at hD ⊢
  have hA : ∀ q : Nat, s.heap.size ≤ q → A q := fun q h => by rw [← hAe]; exact Or.inr h
  have hS : va_S A s.heap s.heap [] := va_S.rf
  have hl := lv_entry ([.ref (a 0), .int x0]) (n := 3) (Nat.le_of_ble_eq_true rfl)
  rw [lg_entry_eq]
  generalize (lg_sl ([.ref (a 0), .int x0]) ++ List.replicate (3 - (lg_sl ([.ref (a 0), .int x0])).length) Slot.unset).toArray = ls at hl ⊢
  have hl : lv_has ls 3 [(0, .ref (a 0)), (1, .int x0)] := hl
  have hRO0 := hM.2.2.2.2.2.2.2.2.1
  have hRO1 := hM.2.2.2.2.2.2.2.2.2.1
  have hRO2 := hM.2.2.2.2.2.2.2.2.2.2.1
  have hRO3 := hM.2.2.2.2.2.2.2.2.2.2.2
  have hP : va_P D vwCl (CT cy a J (va_up I 10 (I 10)) (va_up (va_up O 5 (O 5)) 8 (O 8)) R RO (LL ++ Y)) s.heap := hP
  have hD : va_D A (CT cy a J (va_up I 10 (I 10)) (va_up (va_up O 5 (O 5)) 8 (O 8)) R RO (LL ++ Y)) := hD
  refine lv_aload_n hx hb dX9_draw_0 rfl (lv_at hl 0 rfl) ?_
  refine kM_r (As := []) (rest := []) (q0 := 0) ⟨hx, hb, hml, hown, hts⟩ (x_X9_knownLayings l D cy a _ J (va_up I 10 (I 10)) (va_up (va_up O 5 (O 5)) 8 (O 8)) R RO LL Y  fl S P hRA ⟨hM.1, hM.2.1, hM.2.2.1, hM.2.2.2.1, hM.2.2.2.2.1, hM.2.2.2.2.2.1, hM.2.2.2.2.2.2.1, hM.2.2.2.2.2.2.2.1, hRO0, hRO1, hRO2, hRO3⟩ hL) (cwV 0 hts gX9_draw_X9_knownLayings rfl rfl rfl (by decide +kernel) ⟨Nat.le_of_ble_eq_true rfl, Nat.le_of_ble_eq_true rfl⟩) hK hN hP hD hS hA rfl rfl rfl hl.1 rfl (Nat.le_of_ble_eq_true rfl) dX9_draw_1 ⟨Nat.le_of_ble_eq_true rfl, Nat.le_of_ble_eq_true rfl⟩ (fun u r_1 H locs hw hP hD hS => ?_)
  obtain ⟨g_2, g_3, g_4, g_5, g_6, g_7⟩ := u
  obtain ⟨hkn_8, htb_9, hjf_10, htt_11⟩ := hw
  dsimp only at hkn_8 htb_9 hjf_10 htt_11
  have hP : va_P D vwCl (CT cy a J (va_up I 10 (I 10)) (va_up (va_up O 5 (some r_1)) 8 (O 8)) R RO ([(r_1, .inr (3, [.ref g_2, .ref g_3, .long g_4, .int g_5])), (g_2, .inl (cy 0, 16640, .inl g_6)), (g_3, .inl (cy 0, 512, .inl g_7))] ++ Y)) H := hP
  have hD : va_D A (CT cy a J (va_up I 10 (I 10)) (va_up (va_up O 5 (some r_1)) 8 (O 8)) R RO ([(r_1, .inr (3, [.ref g_2, .ref g_3, .long g_4, .int g_5])), (g_2, .inl (cy 0, 16640, .inl g_6)), (g_3, .inl (cy 0, 512, .inl g_7))] ++ Y)) := hD
  refine kR_i (As := []) (rest := []) (q0 := 20) ⟨hx, hb, hml, hown, hts⟩ (t_X4_total l D cy a _ J (va_up I 10 (I 10)) (va_up (va_up O 5 (some r_1)) 8 (O 8)) R RO r_1 g_2 g_3 g_4 g_5 g_6 g_7 hkn_8 Y   ) (cwV 0 hts gX9_draw_X4_total rfl rfl rfl (by decide +kernel) ⟨Nat.le_of_ble_eq_true rfl, Nat.le_of_ble_eq_true rfl⟩) hK hN hP hD rfl rfl rfl hl.1 rfl (Nat.le_of_ble_eq_true rfl) dX9_draw_4 ⟨Nat.le_of_ble_eq_true rfl, Nat.le_of_ble_eq_true rfl⟩ ?_
  refine lv_istore_n (lv' := [(2, .int (g_6 (0 : Int32).toNatClampNeg)), (0, .ref (a 0)), (1, .int x0)]) hx hb dX9_draw_7 rfl hl (by decide) rfl (fun ls hl => ?_)
  have HCK := (kt_eq hRA.1 hjf_10 htt_11)
  refine lv_iload_n hx hb dX9_draw_8 rfl (lv_at hl 0 rfl) ?_
  refine lv_if_ne (tgt := 19) hx hb dX9_draw_9 (by decide) (fun c_12 => ?_) (fun c_12 => ?_)
  · obtain ⟨n9, hn9, hn0, en9⟩ := c_pos (show cOk _ by rw [HCK]; exact cOk_cnt fl S) c_12
    rw [en9] at hl
    refine lv_aload_n hx hb dX9_draw_19 rfl (lv_at hl 1 rfl) ?_
    refine lv_aload_n hx hb dX9_draw_20 rfl (lv_at hl 1 rfl) ?_
    refine lv_iload_n hx hb dX9_draw_21 rfl (lv_at hl 2 rfl) ?_
    refine lv_iload_n hx hb dX9_draw_22 rfl (lv_at hl 0 rfl) ?_
    refine kSa_i (As := [.int x0, .int (nI n9)]) (rest := [.ref (a 0), .ref (a 0)]) ⟨hx, hb, hml, hown, hts⟩ (x_X9_drawnNumber l x0 n9 hn9 hn0) (va_cwS 2 hts gX9_draw_X9_drawnNumber rfl rfl rfl (by decide +kernel) ⟨Nat.le_of_ble_eq_true rfl, Nat.le_of_ble_eq_true rfl⟩) rfl hl.1 rfl (Nat.le_of_ble_eq_true rfl) dX9_draw_23 ⟨Nat.le_of_ble_eq_true rfl, Nat.le_of_ble_eq_true rfl⟩ (fun r_13 hr_14 => ?_)
    refine kM_r (As := [.int r_13]) (rest := [.ref (a 0)]) (q0 := 0) ⟨hx, hb, hml, hown, hts⟩ (t_X9_layingOf l D cy a _ J (va_up I 10 (I 10)) (va_up (va_up O 5 (some r_1)) 8 (O 8)) R RO ([(r_1, .inr (3, [.ref g_2, .ref g_3, .long g_4, .int g_5])), (g_2, .inl (cy 0, 16640, .inl g_6)), (g_3, .inl (cy 0, 512, .inl g_7))]) Y r_13  ⟨hM.1, hM.2.1, hM.2.2.1, hM.2.2.2.1, hM.2.2.2.2.1, hM.2.2.2.2.2.1, hM.2.2.2.2.2.2.1, hM.2.2.2.2.2.2.2.1, hRO0, hRO1, hRO2, hRO3⟩ (Or.inr ⟨_, _, _, _, _, _, _, rfl, hkn_8, htb_9, rfl⟩)) (cwV 1 hts gX9_draw_X9_layingOf rfl rfl rfl (by decide +kernel) ⟨Nat.le_of_ble_eq_true rfl, Nat.le_of_ble_eq_true rfl⟩) hK hN hP hD hS hA rfl rfl rfl hl.1 rfl (Nat.le_of_ble_eq_true rfl) dX9_draw_26 ⟨Nat.le_of_ble_eq_true rfl, Nat.le_of_ble_eq_true rfl⟩ (fun u r_15 H locs hw hP hD hS => ?_)
    obtain ⟨g_16, g_17, g_18, g_19⟩ := u
    have hL_20 : LOK cy g_16 g_17 := hw
    have hs_21 : ∀ c, c ∈ Y → c ∈ (Y ++ [laC r_15 r_13 g_18 g_19]) := fun c h => List.mem_append_left _ h
    have hi_22 : chO (Y ++ [laC r_15 r_13 g_18 g_19]) (O 7) := chO_mono hs_21 hM.2.1
    have hi_23 : layO (Y ++ [laC r_15 r_13 g_18 g_19]) (O 8) := layO_mono hs_21 hM.2.2.1
    have hi_24 : ∀ i, i < 20 → pasO (Y ++ [laC r_15 r_13 g_18 g_19]) ((RO 2) i) := pas_mono hs_21 hM.2.2.2.1
    have hmono_25 : ∀ c, c ∈ Y → c ∈ (Y ++ [laC r_15 r_13 g_18 g_19]) := fun c h => hs_21 c ((fun _ h => h) c h)
    have hP : va_P D vwCl (CT cy a J (va_up I 10 (I 10)) (va_up (va_up O 5 g_16) 8 (O 8)) R RO (g_17 ++ (Y ++ [laC r_15 r_13 g_18 g_19]))) H := hP
    have hD : va_D A (CT cy a J (va_up I 10 (I 10)) (va_up (va_up O 5 g_16) 8 (O 8)) R RO (g_17 ++ (Y ++ [laC r_15 r_13 g_18 g_19]))) := hD
    refine va_put (D := D) (ci := 8) (v := .ref r_15) (ty := .object "ParquetLayer$Laying") (C := RX9) (T := TX9) (N := 11) hx hb hts hi9 tyX9 tyX9_ok nmX9 hown hK hP hD hS 0 rfl rfl 8 (by decide) hw0 (fun _ h9 => h9) rfl (by decide +kernel) rfl rfl (Nat.le_of_ble_eq_true rfl) dX9_draw_29 (fun H locs hP hD hS => ?_)
    have hP : va_P D vwCl (CT cy a J (va_up I 10 (I 10)) (va_up (va_up O 5 g_16) 8 (some r_15)) R RO (g_17 ++ (Y ++ [laC r_15 r_13 g_18 g_19]))) H := hP
    have hD : va_D A (CT cy a J (va_up I 10 (I 10)) (va_up (va_up O 5 g_16) 8 (some r_15)) R RO (g_17 ++ (Y ++ [laC r_15 r_13 g_18 g_19]))) := hD
    have hi_26 : layO (Y ++ [laC r_15 r_13 g_18 g_19]) (some r_15) := (Or.inr ⟨_, _, _, _, rfl, mem_last⟩)
    refine lv_aload_n hx hb dX9_draw_32 rfl (lv_at hl 1 rfl) ?_
    refine va_get (D := D) (ci := 8) (v := .ref r_15) (C := RX9) (T := TX9) (N := 11) hx hb hts hi9 hown hK hP 0 rfl rfl 8 (by decide) hw0 (fun _ h9 => h9) rfl dX9_draw_33 ?_
    obtain ⟨k_27, hk_28⟩ : ∃ k : Nat, (CT cy a J (va_up I 10 (I 10)) (va_up (va_up O 5 g_16) 8 (some r_15)) R RO (g_17 ++ (Y ++ [laC r_15 r_13 g_18 g_19])))[k]? = some (r_15, .inr (2, [.int r_13, .long g_18, .long g_19])) := pixT mem_last
    refine va_get (D := D) (ci := 2) (v := .int r_13) (C := RX3) (T := TX3) (N := 3) hx hb hts hi3 hown hK hP k_27 hk_28 rfl 0 (by decide) hw1 (fun _ h9 => h9) rfl dX9_draw_36 ?_
    exact wret_i hx hb hr hlocks (J, (va_up I 10 (I 10)), (va_up (va_up O 5 g_16) 8 (some r_15)), R, RO, g_17, Y ++ [laC r_15 r_13 g_18 g_19]) ⟨(I 10), g_16, (some r_15), g_17, (Y ++ [laC r_15 r_13 g_18 g_19]), ⟨(dn_use hr_14 HCK c_12 en9 hn9), hi_26, hmono_25, hL_20⟩, rfl⟩ hP hD hS dX9_draw_39
  · refine lv_aload_n hx hb dX9_draw_12 rfl (lv_at hl 1 rfl) ?_
    refine lv_ldc (v := (-100006)) hx hb hown hw2 dX9_draw_13 ?_
    refine kM_i (As := [.int (-100006)]) (rest := []) (q0 := 0) ⟨hx, hb, hml, hown, hts⟩ (t_X9_finding l D cy a _ J (va_up I 10 (I 10)) (va_up (va_up O 5 (some r_1)) 8 (O 8)) R RO ([(r_1, .inr (3, [.ref g_2, .ref g_3, .long g_4, .int g_5])), (g_2, .inl (cy 0, 16640, .inl g_6)), (g_3, .inl (cy 0, 512, .inl g_7))]) Y ((-100006) : Int32)   ) (cwV 1 hts gX9_draw_X9_finding rfl rfl rfl (by decide +kernel) ⟨Nat.le_of_ble_eq_true rfl, Nat.le_of_ble_eq_true rfl⟩) hK hN hP hD hS hA rfl rfl rfl hl.1 rfl (Nat.le_of_ble_eq_true rfl) dX9_draw_15 ⟨Nat.le_of_ble_eq_true rfl, Nat.le_of_ble_eq_true rfl⟩ (fun r_29 u H locs hw hP hD hS => ?_)
    obtain ⟨w_30, rfl, rfl⟩ := hw
    have hP : va_P D vwCl (CT cy a J (va_up I 10 w_30) (va_up (va_up O 5 (some r_1)) 8 (O 8)) R RO ([(r_1, .inr (3, [.ref g_2, .ref g_3, .long g_4, .int g_5])), (g_2, .inl (cy 0, 16640, .inl g_6)), (g_3, .inl (cy 0, 512, .inl g_7))] ++ Y)) H := hP
    have hD : va_D A (CT cy a J (va_up I 10 w_30) (va_up (va_up O 5 (some r_1)) 8 (O 8)) R RO ([(r_1, .inr (3, [.ref g_2, .ref g_3, .long g_4, .int g_5])), (g_2, .inl (cy 0, 16640, .inl g_6)), (g_3, .inl (cy 0, 512, .inl g_7))] ++ Y)) := hD
    refine W.widen (k := 7) (n := 34315) (Nat.le_of_ble_eq_true rfl) (Nat.le_of_ble_eq_true rfl) ?_
    exact wret_i hx hb hr hlocks (J, (va_up I 10 w_30), (va_up (va_up O 5 (some r_1)) 8 (O 8)), R, RO, [(r_1, .inr (3, [.ref g_2, .ref g_3, .long g_4, .int g_5])), (g_2, .inl (cy 0, 16640, .inl g_6)), (g_3, .inl (cy 0, 512, .inl g_7))], Y) ⟨w_30, (some r_1), (O 8), ([(r_1, .inr (3, [.ref g_2, .ref g_3, .long g_4, .int g_5])), (g_2, .inl (cy 0, 16640, .inl g_6)), (g_3, .inl (cy 0, 512, .inl g_7))]), Y, ⟨(ad_0 HCK c_12), hM.2.2.1, (fun _ h => h), (Or.inr ⟨_, _, _, _, _, _, _, rfl, hkn_8, htb_9, rfl⟩)⟩, rfl⟩ hP hD hS dX9_draw_18
