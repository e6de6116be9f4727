set_option maxHeartbeats 4000000 in
set_option maxRecDepth 100000 in
theorem x_X10_findHeights13 (l : Launch) (D : va_G) (cy : Nat → ClassId) (a : Nat → Nat) (sz : Nat) (J : Nat → Int64) (I : Nat → Int32) (R : Nat → Nat → Int32) (RJ : Nat → Nat → Int64) (x0 : Int64) (x1 : Int64) (hly : LY (bfx (J 0)) (bfx x0) (bfx x1)) (hwo : cFr (mOut (J 0)) A10 100 = 1 ∧ aPc (J 0) = 1) : Met l yX10_findHeights wsX10_findHeights ({ frames := 3, cells := 0, slots := 0, locals := 69 }) (va_Pc [.ref (a 0), .long x0, .long x1, .ref (a 13)] (PW D cy sz (MW cy a J I R RJ))) (va_Qv (fun (u : MS) => ∃ (w0 : Nat → Int32), ((hVal (J 0) x0 x1 (zF0 (J 0)) 1000000 w0) ∧ (∀ r, r < 81 → hpt (bfx (J 0)) r = true → -100 ≤ (w0 r).toInt ∧ (w0 r).toInt ≤ 100)) ∧ u = (J, I, (va_up R 13 w0), RJ)) (BW D (va_A (MW cy a J I R RJ) sz) (MWu cy a)) (va_A (MW cy a J I R RJ) sz)) 0 0 (va_A (MW cy a J I R RJ) sz) := by
  refine Met.ofW (cc := cX10_findHeights) (maxL := 11) (ret := none) (by decide) rfl ?_
  intro p e s m args below meth c s₁ B hml hv
  obtain ⟨rfl, rfl, hP, hK, hN, hD0⟩ := hv
  have hx := B.exec
  have hb := B.bytes
  have hr := B.returns
  have hts := atoms_spec (ws := wsX10_findHeights) B.pre
  have hown : s.vm.findClass RX10 = some m.cls := findClass_of_methodNamed B.named
  have hlocks := B.notSynchronized
  have hw0 := hts (.constant RX10 242 (1000000)) (by decide +kernel)
  have hD := hD0.self (sz := s.heap.size)
  generalize hAe : va_A (MW cy a J I R RJ) s.heap.size = A at hD ⊢
  have hA : ∀ q : Nat, s.heap.size ≤ q → A q := fun q h => by rw [← hAe]; exact Or.inr h
  have hS : va_S A s.heap s.heap [] := va_S.rf
  have hl := lv_entry ([.ref (a 0), .long x0, .long x1, .ref (a 13)]) (n := 11) (Nat.le_of_ble_eq_true rfl)
  rw [lg_entry_eq]
  generalize (lg_sl ([.ref (a 0), .long x0, .long x1, .ref (a 13)]) ++ List.replicate (11 - (lg_sl ([.ref (a 0), .long x0, .long x1, .ref (a 13)])).length) Slot.unset).toArray = ls at hl ⊢
  have hl : lv_has ls 11 [(0, .ref (a 0)), (1, .long x0), (3, .long x1), (5, .ref (a 13))] := hl
  have hZH := zH_t hwo.1 hly
  have hf0 := zF0_t hwo.2
  have hP : va_P D vwCl (MW cy a J I (va_up R 13 (R 13)) RJ) s.heap := hP
  have hD : va_D A (MW cy a J I (va_up R 13 (R 13)) RJ) := hD
  have lp60 : ∀ (n60 : Nat), ∀ (v7_60 : Bool) (m0_60 : Nat → Int32), (hB m0_60) → (hV (J 0) x0 x1 (hTL (zF0 (J 0))) m0_60) → (v7_60 = false → hbA (J 0) x0 x1 m0_60 81) → (cF m0_60 81 + bN v7_60) < n60 → ∀ (H : Heap) (locs : List Loc), va_P D vwCl (MW cy a J I (va_up R 13 m0_60) RJ) H → va_D A (MW cy a J I (va_up R 13 m0_60) RJ) → va_S A s.heap H locs → ∀ (ls : Array Slot), lv_has ls 11 [(0, .ref (a 0)), (1, .long x0), (3, .long x1), (5, .ref (a 13)), (7, .int (bI v7_60))] → W p l e (headSpec wsX10_findHeights ({ frames := 3, cells := 0, slots := 0, locals := 69 })).room s m ([.ref (a 0), .long x0, .long x1, .ref (a 13)] : List Value).toArray below meth c H locs 0 0 (MQ below (va_Qv (fun (u : MS) => ∃ (w0 : Nat → Int32), ((hVal (J 0) x0 x1 (zF0 (J 0)) 1000000 w0) ∧ (∀ r, r < 81 → hpt (bfx (J 0)) r = true → -100 ≤ (w0 r).toInt ∧ (w0 r).toInt ≤ 100)) ∧ u = (J, I, (va_up R 13 w0), RJ)) (BW D A (MWu cy a)) A) ([.ref (a 0), .long x0, .long x1, .ref (a 13)] : List Value).toArray s 0 0 A) (F0 m 60 ls []) := by
    intro n60
    induction n60 with
    | zero => intro v7_60 m0_60 hh hhv hbb hn; exact absurd hn (Nat.not_lt_zero _)
    | succ n60 ih60 =>
      intro v7_60 m0_60 hh hhv hbb hn60 H locs hP hD hS ls hl
      have lp71 : ∀ (n71 : Nat), ∀ (p9 : Nat) (v7_71 : Bool) (m0_71 : Nat → Int32), (p9 ≤ 81) → (v7_60 = true) → (cF m0_71 81 + bN v7_71 ≤ cF m0_60 81) → (hB m0_71) → (hV (J 0) x0 x1 (hTL (zF0 (J 0))) m0_71) → (v7_71 = false → hbA (J 0) x0 x1 m0_71 p9) → (81 - p9) < n71 → ∀ (H : Heap) (locs : List Loc), va_P D vwCl (MW cy a J I (va_up R 13 m0_71) RJ) H → va_D A (MW cy a J I (va_up R 13 m0_71) RJ) → va_S A s.heap H locs → ∀ (ls : Array Slot), lv_has ls 11 [(0, .ref (a 0)), (1, .long x0), (3, .long x1), (5, .ref (a 13)), (7, .int (bI v7_71)), (8, .int (nI p9))] → W p l e (headSpec wsX10_findHeights ({ frames := 3, cells := 0, slots := 0, locals := 69 })).room s m ([.ref (a 0), .long x0, .long x1, .ref (a 13)] : List Value).toArray below meth c H locs 0 0 (MQ below (va_Qv (fun (u : MS) => ∃ (w0 : Nat → Int32), ((hVal (J 0) x0 x1 (zF0 (J 0)) 1000000 w0) ∧ (∀ r, r < 81 → hpt (bfx (J 0)) r = true → -100 ≤ (w0 r).toInt ∧ (w0 r).toInt ≤ 100)) ∧ u = (J, I, (va_up R 13 w0), RJ)) (BW D A (MWu cy a)) A) ([.ref (a 0), .long x0, .long x1, .ref (a 13)] : List Value).toArray s 0 0 A) (F0 m 71 ls []) := by
        intro n71
        induction n71 with
        | zero => intro p9 v7_71 m0_71 hp9 hm hc hh hhv2 hbb2 hn; exact absurd hn (Nat.not_lt_zero _)
        | succ n71 ih71 =>
          intro p9 v7_71 m0_71 hp9 hm hc hh hhv2 hbb2 hn71 H locs hP hD hS ls hl
          have lp154 : ∀ (v7_154 : Bool) (m0_154 : Nat → Int32), (p9 < 81) → (cF m0_154 81 + bN v7_154 ≤ cF m0_60 81) → (hB m0_154) → (hV (J 0) x0 x1 (hTL (zF0 (J 0))) m0_154) → (v7_154 = false → hbA (J 0) x0 x1 m0_154 p9 ∧ hbR (J 0) x1 m0_154 p9) → ∀ (H : Heap) (locs : List Loc), va_P D vwCl (MW cy a J I (va_up R 13 m0_154) RJ) H → va_D A (MW cy a J I (va_up R 13 m0_154) RJ) → va_S A s.heap H locs → ∀ (ls : Array Slot), lv_has ls 11 [(0, .ref (a 0)), (1, .long x0), (3, .long x1), (5, .ref (a 13)), (7, .int (bI v7_154)), (8, .int (nI p9)), (9, .int (nI p9 - nI p9 / 9 * 9)), (10, .int (nI p9 / 9))] → W p l e (headSpec wsX10_findHeights ({ frames := 3, cells := 0, slots := 0, locals := 69 })).room s m ([.ref (a 0), .long x0, .long x1, .ref (a 13)] : List Value).toArray below meth c H locs 0 0 (MQ below (va_Qv (fun (u : MS) => ∃ (w0 : Nat → Int32), ((hVal (J 0) x0 x1 (zF0 (J 0)) 1000000 w0) ∧ (∀ r, r < 81 → hpt (bfx (J 0)) r = true → -100 ≤ (w0 r).toInt ∧ (w0 r).toInt ≤ 100)) ∧ u = (J, I, (va_up R 13 w0), RJ)) (BW D A (MWu cy a)) A) ([.ref (a 0), .long x0, .long x1, .ref (a 13)] : List Value).toArray s 0 0 A) (F0 m 154 ls []) := by
            intro v7_154 m0_154 hlt_p9 hc hh hhv3 hbb3 H locs hP hD hS ls hl
            refine lv_iload hx hb dX10_findHeights_154 (lv_at hl 7 rfl) ?_
            refine lv_bipush (v := 8) hx hb dX10_findHeights_156 (by decide) ?_
            refine lv_icmp_ge (tgt := 215) hx hb dX10_findHeights_158 (by decide) (fun c_1 => ?_) (fun c_1 => ?_)
            · refine lv_iinc (v := nI (p9 + 1)) (lv' := [(8, .int (nI (p9 + 1))), (0, .ref (a 0)), (1, .long x0), (3, .long x1), (5, .ref (a 13)), (7, .int (bI v7_154)), (9, .int (nI p9 - nI p9 / 9 * 9)), (10, .int (nI p9 / 9))]) hx hb dX10_findHeights_215 hl (k := 5) rfl (nI_1 _) (by decide) rfl (fun ls hl => ?_)
              refine lv_goto (tgt := 71) hx hb dX10_findHeights_218 (by decide) ?_
              exact ih71 (p9 + 1) v7_154 m0_154 hlt_p9 hm hc hh hhv3 (fun z => hbA_s (hbb3 z).1 (hbb3 z).2 (hbD_a hlt_p9 c_1)) (lt_dec hlt_p9 hn71) _ _ hP hD hS ls (lv_sub hl [1, 2, 3, 4, 5, 0] rfl)
            · refine lv_aload_n hx hb dX10_findHeights_161 rfl (lv_at hl 0 rfl) ?_
              refine lv_lload_n hx hb dX10_findHeights_162 rfl (lv_at hl 1 rfl) ?_
              refine lv_iload hx hb dX10_findHeights_163 (lv_at hl 6 rfl) ?_
              refine lv_iload hx hb dX10_findHeights_165 (lv_at hl 7 rfl) ?_
              refine kR_i (As := [.long x0, .int (nI p9 - nI p9 / 9 * 9), .int (nI p9 / 9)]) (rest := []) (q0 := 0) ⟨hx, hb, hml, hown, hts⟩ (c_X10_goesDown l D cy a _ J I (va_up R 13 m0_154) RJ x0 (nI p9 - nI p9 / 9 * 9) (nI p9 / 9) ) (cwV 3 hts gX10_findHeights_X10_goesDown rfl rfl rfl (by decide +kernel) ⟨Nat.le_of_ble_eq_true rfl, Nat.le_of_ble_eq_true rfl⟩) hK hN hP hD rfl rfl rfl hl.1 rfl (Nat.le_of_ble_eq_true rfl) dX10_findHeights_167 ⟨Nat.le_of_ble_eq_true rfl, Nat.le_of_ble_eq_true rfl⟩ ?_
              refine lv_if_eq (tgt := 215) hx hb dX10_findHeights_170 (by decide) (fun c_2 => ?_) (fun c_2 => ?_)
              · replace c_2 := bI_f c_2
                refine lv_iinc (v := nI (p9 + 1)) (lv' := [(8, .int (nI (p9 + 1))), (0, .ref (a 0)), (1, .long x0), (3, .long x1), (5, .ref (a 13)), (7, .int (bI v7_154)), (9, .int (nI p9 - nI p9 / 9 * 9)), (10, .int (nI p9 / 9))]) hx hb dX10_findHeights_215 hl (k := 5) rfl (nI_1 _) (by decide) rfl (fun ls hl => ?_)
                refine lv_goto (tgt := 71) hx hb dX10_findHeights_218 (by decide) ?_
                exact ih71 (p9 + 1) v7_154 m0_154 hlt_p9 hm hc hh hhv3 (fun z => hbA_s (hbb3 z).1 (hbb3 z).2 (hbD_b hlt_p9 c_2)) (lt_dec hlt_p9 hn71) _ _ hP hD hS ls (lv_sub hl [1, 2, 3, 4, 5, 0] rfl)
              · replace c_2 := bI_t c_2
                refine lv_aload hx hb dX10_findHeights_173 (lv_at hl 3 rfl) ?_
                refine lv_iload hx hb dX10_findHeights_175 (lv_at hl 5 rfl) ?_
                refine lv_iload hx hb dX10_findHeights_177 (lv_at hl 5 rfl) ?_
                refine lv_bipush (v := 9) hx hb dX10_findHeights_179 (by decide) ?_
                refine lv_iadd hx hb dX10_findHeights_181 ?_
                refine wtop_i (y := nI (p9 + 9)) (by rw [← nI_add]; rfl) ?_
                refine lv_iload hx hb dX10_findHeights_182 (lv_at hl 6 rfl) ?_
                refine lv_iload hx hb dX10_findHeights_184 (lv_at hl 7 rfl) ?_
                refine kS_i (As := [.int (nI p9 - nI p9 / 9 * 9), .int (nI p9 / 9)]) (rest := [.int (nI (p9 + 9)), .int (nI p9), .ref (a 13)]) ⟨hx, hb, hml, hown, hts⟩ (c_X10_isDark l (nI p9 - nI p9 / 9 * 9) (nI p9 / 9)) (va_cwS 2 hts gX10_findHeights_X10_isDark rfl rfl rfl (by decide +kernel) ⟨Nat.le_of_ble_eq_true rfl, Nat.le_of_ble_eq_true rfl⟩) rfl hl.1 rfl (Nat.le_of_ble_eq_true rfl) dX10_findHeights_186 ⟨Nat.le_of_ble_eq_true rfl, Nat.le_of_ble_eq_true rfl⟩ ?_
                refine lv_if_eq (tgt := 196) hx hb dX10_findHeights_189 (by decide) (fun c_3 => ?_) (fun c_3 => ?_)
                · replace c_3 := bI_f c_3
                  refine lv_iconst (v := (-1)) hx hb dX10_findHeights_196 (by decide) ?_
                  refine kW_i (As := [.ref (a 13), .int (nI p9), .int (nI (p9 + 9)), .int (-1)]) (rest := []) ⟨hx, hb, hml, hown, hts⟩ (x_X10_spread13 l D cy a _ J I (va_up R 13 m0_154) RJ p9 (p9 + 9) (-1) hlt_p9 (hx_9 ⟨p9, hlt_p9⟩ c_1) (Or.inr rfl) hh ) (va_cwS 4 hts gX10_findHeights_X10_spread rfl rfl rfl (by decide +kernel) ⟨Nat.le_of_ble_eq_true rfl, Nat.le_of_ble_eq_true rfl⟩) hK hN hP hD hS hA rfl hl.1 rfl (Nat.le_of_ble_eq_true rfl) dX10_findHeights_197 ⟨Nat.le_of_ble_eq_true rfl, Nat.le_of_ble_eq_true rfl⟩ (fun r_4 u H locs hw hP hD hS => ?_)
                  obtain ⟨w_5, zb_6, ⟨rfl, hp_7, hp_8, hp_9⟩, rfl⟩ := hw
                  have hP : va_P D vwCl (MW cy a J I (va_up R 13 w_5) RJ) H := hP
                  have hD : va_D A (MW cy a J I (va_up R 13 w_5) RJ) := hD
                  refine lv_if_ne (tgt := 208) hx hb dX10_findHeights_200 (by decide) (fun c_10 => ?_) (fun c_10 => ?_)
                  · replace c_10 := bI_t c_10
                    refine lv_iconst (v := 1) hx hb dX10_findHeights_208 (by decide) ?_
                    refine lv_goto (tgt := 213) hx hb dX10_findHeights_209 (by decide) ?_
                    refine lv_istore (lv' := [(7, .int 1), (0, .ref (a 0)), (1, .long x0), (3, .long x1), (5, .ref (a 13)), (8, .int (nI p9)), (9, .int (nI p9 - nI p9 / 9 * 9)), (10, .int (nI p9 / 9))]) hx hb dX10_findHeights_213 hl (by decide) rfl (fun ls hl => ?_)
                    refine lv_iinc (v := nI (p9 + 1)) (lv' := [(8, .int (nI (p9 + 1))), (7, .int 1), (0, .ref (a 0)), (1, .long x0), (3, .long x1), (5, .ref (a 13)), (9, .int (nI p9 - nI p9 / 9 * 9)), (10, .int (nI p9 / 9))]) hx hb dX10_findHeights_215 hl (k := 5) rfl (nI_1 _) (by decide) rfl (fun ls hl => ?_)
                    refine lv_goto (tgt := 71) hx hb dX10_findHeights_218 (by decide) ?_
                    exact ih71 (p9 + 1) true w_5 hlt_p9 hm (hc_t hp_8 hc c_10) hp_7 (hV_s hh hhv3 hlt_p9 (hx_9 ⟨p9, hlt_p9⟩ c_1) (Or.inr rfl) (hEd_d hZH hlt_p9 c_1 c_2 (by rw [if_neg (by rw [c_3]; decide)])) hp_9) (fun z => absurd z (by decide)) (lt_dec hlt_p9 hn71) _ _ hP hD hS ls (lv_sub hl [2, 3, 4, 5, 1, 0] rfl)
                  · replace c_10 := bI_f c_10
                    refine lv_iload hx hb dX10_findHeights_203 (lv_at hl 4 rfl) ?_
                    refine lv_if_eq (tgt := 212) hx hb dX10_findHeights_205 (by decide) (fun c_11 => ?_) (fun c_11 => ?_)
                    · replace c_11 := bI_f c_11
                      refine lv_iconst (v := 0) hx hb dX10_findHeights_212 (by decide) ?_
                      refine lv_istore (lv' := [(7, .int 0), (0, .ref (a 0)), (1, .long x0), (3, .long x1), (5, .ref (a 13)), (8, .int (nI p9)), (9, .int (nI p9 - nI p9 / 9 * 9)), (10, .int (nI p9 / 9))]) hx hb dX10_findHeights_213 hl (by decide) rfl (fun ls hl => ?_)
                      refine lv_iinc (v := nI (p9 + 1)) (lv' := [(8, .int (nI (p9 + 1))), (7, .int 0), (0, .ref (a 0)), (1, .long x0), (3, .long x1), (5, .ref (a 13)), (9, .int (nI p9 - nI p9 / 9 * 9)), (10, .int (nI p9 / 9))]) hx hb dX10_findHeights_215 hl (k := 5) rfl (nI_1 _) (by decide) rfl (fun ls hl => ?_)
                      refine lv_goto (tgt := 71) hx hb dX10_findHeights_218 (by decide) ?_
                      exact ih71 (p9 + 1) false w_5 hlt_p9 hm (hc_v hp_8 hc c_11) hp_7 (hV_s hh hhv3 hlt_p9 (hx_9 ⟨p9, hlt_p9⟩ c_1) (Or.inr rfl) (hEd_d hZH hlt_p9 c_1 c_2 (by rw [if_neg (by rw [c_3]; decide)])) hp_9) (fun _ => hbD_c hp_9 c_10 (hbb3 c_11)) (lt_dec hlt_p9 hn71) _ _ hP hD hS ls (lv_sub hl [2, 3, 4, 5, 1, 0] rfl)
                    · replace c_11 := bI_t c_11
                      refine lv_iconst (v := 1) hx hb dX10_findHeights_208 (by decide) ?_
                      refine lv_goto (tgt := 213) hx hb dX10_findHeights_209 (by decide) ?_
                      refine lv_istore (lv' := [(7, .int 1), (0, .ref (a 0)), (1, .long x0), (3, .long x1), (5, .ref (a 13)), (8, .int (nI p9)), (9, .int (nI p9 - nI p9 / 9 * 9)), (10, .int (nI p9 / 9))]) hx hb dX10_findHeights_213 hl (by decide) rfl (fun ls hl => ?_)
                      refine lv_iinc (v := nI (p9 + 1)) (lv' := [(8, .int (nI (p9 + 1))), (7, .int 1), (0, .ref (a 0)), (1, .long x0), (3, .long x1), (5, .ref (a 13)), (9, .int (nI p9 - nI p9 / 9 * 9)), (10, .int (nI p9 / 9))]) hx hb dX10_findHeights_215 hl (k := 5) rfl (nI_1 _) (by decide) rfl (fun ls hl => ?_)
                      refine lv_goto (tgt := 71) hx hb dX10_findHeights_218 (by decide) ?_
                      exact ih71 (p9 + 1) true w_5 hlt_p9 hm (hc_v hp_8 hc c_11) hp_7 (hV_s hh hhv3 hlt_p9 (hx_9 ⟨p9, hlt_p9⟩ c_1) (Or.inr rfl) (hEd_d hZH hlt_p9 c_1 c_2 (by rw [if_neg (by rw [c_3]; decide)])) hp_9) (fun z => absurd z (by decide)) (lt_dec hlt_p9 hn71) _ _ hP hD hS ls (lv_sub hl [2, 3, 4, 5, 1, 0] rfl)
                · replace c_3 := bI_t c_3
                  refine lv_iconst (v := 1) hx hb dX10_findHeights_192 (by decide) ?_
                  refine lv_goto (tgt := 197) hx hb dX10_findHeights_193 (by decide) ?_
                  refine kW_i (As := [.ref (a 13), .int (nI p9), .int (nI (p9 + 9)), .int 1]) (rest := []) ⟨hx, hb, hml, hown, hts⟩ (x_X10_spread13 l D cy a _ J I (va_up R 13 m0_154) RJ p9 (p9 + 9) 1 hlt_p9 (hx_9 ⟨p9, hlt_p9⟩ c_1) (Or.inl rfl) hh ) (va_cwS 4 hts gX10_findHeights_X10_spread rfl rfl rfl (by decide +kernel) ⟨Nat.le_of_ble_eq_true rfl, Nat.le_of_ble_eq_true rfl⟩) hK hN hP hD hS hA rfl hl.1 rfl (Nat.le_of_ble_eq_true rfl) dX10_findHeights_197 ⟨Nat.le_of_ble_eq_true rfl, Nat.le_of_ble_eq_true rfl⟩ (fun r_12 u H locs hw hP hD hS => ?_)
                  obtain ⟨w_13, zb_14, ⟨rfl, hp_15, hp_16, hp_17⟩, rfl⟩ := hw
                  have hP : va_P D vwCl (MW cy a J I (va_up R 13 w_13) RJ) H := hP
                  have hD : va_D A (MW cy a J I (va_up R 13 w_13) RJ) := hD
                  refine lv_if_ne (tgt := 208) hx hb dX10_findHeights_200 (by decide) (fun c_18 => ?_) (fun c_18 => ?_)
                  · replace c_18 := bI_t c_18
                    refine lv_iconst (v := 1) hx hb dX10_findHeights_208 (by decide) ?_
                    refine lv_goto (tgt := 213) hx hb dX10_findHeights_209 (by decide) ?_
                    refine lv_istore (lv' := [(7, .int 1), (0, .ref (a 0)), (1, .long x0), (3, .long x1), (5, .ref (a 13)), (8, .int (nI p9)), (9, .int (nI p9 - nI p9 / 9 * 9)), (10, .int (nI p9 / 9))]) hx hb dX10_findHeights_213 hl (by decide) rfl (fun ls hl => ?_)
                    refine lv_iinc (v := nI (p9 + 1)) (lv' := [(8, .int (nI (p9 + 1))), (7, .int 1), (0, .ref (a 0)), (1, .long x0), (3, .long x1), (5, .ref (a 13)), (9, .int (nI p9 - nI p9 / 9 * 9)), (10, .int (nI p9 / 9))]) hx hb dX10_findHeights_215 hl (k := 5) rfl (nI_1 _) (by decide) rfl (fun ls hl => ?_)
                    refine lv_goto (tgt := 71) hx hb dX10_findHeights_218 (by decide) ?_
                    exact ih71 (p9 + 1) true w_13 hlt_p9 hm (hc_t hp_16 hc c_18) hp_15 (hV_s hh hhv3 hlt_p9 (hx_9 ⟨p9, hlt_p9⟩ c_1) (Or.inl rfl) (hEd_d hZH hlt_p9 c_1 c_2 (by rw [if_pos c_3])) hp_17) (fun z => absurd z (by decide)) (lt_dec hlt_p9 hn71) _ _ hP hD hS ls (lv_sub hl [2, 3, 4, 5, 1, 0] rfl)
                  · replace c_18 := bI_f c_18
                    refine lv_iload hx hb dX10_findHeights_203 (lv_at hl 4 rfl) ?_
                    refine lv_if_eq (tgt := 212) hx hb dX10_findHeights_205 (by decide) (fun c_19 => ?_) (fun c_19 => ?_)
                    · replace c_19 := bI_f c_19
                      refine lv_iconst (v := 0) hx hb dX10_findHeights_212 (by decide) ?_
                      refine lv_istore (lv' := [(7, .int 0), (0, .ref (a 0)), (1, .long x0), (3, .long x1), (5, .ref (a 13)), (8, .int (nI p9)), (9, .int (nI p9 - nI p9 / 9 * 9)), (10, .int (nI p9 / 9))]) hx hb dX10_findHeights_213 hl (by decide) rfl (fun ls hl => ?_)
                      refine lv_iinc (v := nI (p9 + 1)) (lv' := [(8, .int (nI (p9 + 1))), (7, .int 0), (0, .ref (a 0)), (1, .long x0), (3, .long x1), (5, .ref (a 13)), (9, .int (nI p9 - nI p9 / 9 * 9)), (10, .int (nI p9 / 9))]) hx hb dX10_findHeights_215 hl (k := 5) rfl (nI_1 _) (by decide) rfl (fun ls hl => ?_)
                      refine lv_goto (tgt := 71) hx hb dX10_findHeights_218 (by decide) ?_
                      exact ih71 (p9 + 1) false w_13 hlt_p9 hm (hc_v hp_16 hc c_19) hp_15 (hV_s hh hhv3 hlt_p9 (hx_9 ⟨p9, hlt_p9⟩ c_1) (Or.inl rfl) (hEd_d hZH hlt_p9 c_1 c_2 (by rw [if_pos c_3])) hp_17) (fun _ => hbD_c hp_17 c_18 (hbb3 c_19)) (lt_dec hlt_p9 hn71) _ _ hP hD hS ls (lv_sub hl [2, 3, 4, 5, 1, 0] rfl)
                    · replace c_19 := bI_t c_19
                      refine lv_iconst (v := 1) hx hb dX10_findHeights_208 (by decide) ?_
                      refine lv_goto (tgt := 213) hx hb dX10_findHeights_209 (by decide) ?_
                      refine lv_istore (lv' := [(7, .int 1), (0, .ref (a 0)), (1, .long x0), (3, .long x1), (5, .ref (a 13)), (8, .int (nI p9)), (9, .int (nI p9 - nI p9 / 9 * 9)), (10, .int (nI p9 / 9))]) hx hb dX10_findHeights_213 hl (by decide) rfl (fun ls hl => ?_)
                      refine lv_iinc (v := nI (p9 + 1)) (lv' := [(8, .int (nI (p9 + 1))), (7, .int 1), (0, .ref (a 0)), (1, .long x0), (3, .long x1), (5, .ref (a 13)), (9, .int (nI p9 - nI p9 / 9 * 9)), (10, .int (nI p9 / 9))]) hx hb dX10_findHeights_215 hl (k := 5) rfl (nI_1 _) (by decide) rfl (fun ls hl => ?_)
                      refine lv_goto (tgt := 71) hx hb dX10_findHeights_218 (by decide) ?_
                      exact ih71 (p9 + 1) true w_13 hlt_p9 hm (hc_v hp_16 hc c_19) hp_15 (hV_s hh hhv3 hlt_p9 (hx_9 ⟨p9, hlt_p9⟩ c_1) (Or.inl rfl) (hEd_d hZH hlt_p9 c_1 c_2 (by rw [if_pos c_3])) hp_17) (fun z => absurd z (by decide)) (lt_dec hlt_p9 hn71) _ _ hP hD hS ls (lv_sub hl [2, 3, 4, 5, 1, 0] rfl)
          refine lv_iload hx hb dX10_findHeights_71 (lv_at hl 5 rfl) ?_
          refine lv_bipush (v := 81) hx hb dX10_findHeights_73 (by decide) ?_
          refine lv_icmp_ge (tgt := 221) hx hb dX10_findHeights_75 (by decide) (fun c_20 => ?_) (fun c_20 => ?_)
          · have hie_p9 := ctr_ge (N := 81) (by decide) hp9 c_20
            refine lv_goto (tgt := 60) hx hb dX10_findHeights_221 (by decide) ?_
            exact ih60 v7_71 m0_71 hh hhv2 (fun z => hbA_e hie_p9 (hbb2 z)) (mz hc hn60 (by rw [hm]; rfl)) _ _ hP hD hS ls (lv_sub hl [0, 1, 2, 3, 4] rfl)
          · have hlt_p9 := ctr_lt (N := 81) (by decide) hp9 c_20
            refine lv_iload hx hb dX10_findHeights_78 (lv_at hl 5 rfl) ?_
            refine lv_bipush (v := 9) hx hb dX10_findHeights_80 (by decide) ?_
            refine lv_irem hx hb dX10_findHeights_82 (by decide) ?_
            refine lv_istore (lv' := [(9, .int ((nI p9) - (nI p9) / 9 * 9)), (0, .ref (a 0)), (1, .long x0), (3, .long x1), (5, .ref (a 13)), (7, .int (bI v7_71)), (8, .int (nI p9))]) hx hb dX10_findHeights_83 hl (by decide) rfl (fun ls hl => ?_)
            refine lv_iload hx hb dX10_findHeights_85 (lv_at hl 6 rfl) ?_
            refine lv_bipush (v := 9) hx hb dX10_findHeights_87 (by decide) ?_
            refine lv_idiv hx hb dX10_findHeights_89 (by decide) ?_
            refine lv_istore (lv' := [(10, .int ((nI p9) / 9)), (9, .int ((nI p9) - (nI p9) / 9 * 9)), (0, .ref (a 0)), (1, .long x0), (3, .long x1), (5, .ref (a 13)), (7, .int (bI v7_71)), (8, .int (nI p9))]) hx hb dX10_findHeights_90 hl (by decide) rfl (fun ls hl => ?_)
            refine lv_iload hx hb dX10_findHeights_92 (lv_at hl 1 rfl) ?_
            refine lv_bipush (v := 8) hx hb dX10_findHeights_94 (by decide) ?_
            refine lv_icmp_ge (tgt := 154) hx hb dX10_findHeights_96 (by decide) (fun c_21 => ?_) (fun c_21 => ?_)
            · exact lp154 v7_71 m0_71 hlt_p9 hc hh hhv2 (fun z => ⟨hbb2 z, hbR_a hlt_p9 c_21⟩)  _ _ hP hD hS ls (lv_sub hl [2, 3, 4, 5, 6, 7, 1, 0] rfl)
            · refine lv_aload_n hx hb dX10_findHeights_99 rfl (lv_at hl 2 rfl) ?_
              refine lv_lload_n hx hb dX10_findHeights_100 rfl (lv_at hl 4 rfl) ?_
              refine lv_iload hx hb dX10_findHeights_101 (lv_at hl 1 rfl) ?_
              refine lv_iload hx hb dX10_findHeights_103 (lv_at hl 0 rfl) ?_
              refine kR_i (As := [.long x1, .int ((nI p9) - (nI p9) / 9 * 9), .int ((nI p9) / 9)]) (rest := []) (q0 := 0) ⟨hx, hb, hml, hown, hts⟩ (c_X10_goesRight l D cy a _ J I (va_up R 13 m0_71) RJ x1 ((nI p9) - (nI p9) / 9 * 9) ((nI p9) / 9) ) (cwV 3 hts gX10_findHeights_X10_goesRight rfl rfl rfl (by decide +kernel) ⟨Nat.le_of_ble_eq_true rfl, Nat.le_of_ble_eq_true rfl⟩) hK hN hP hD rfl rfl rfl hl.1 rfl (Nat.le_of_ble_eq_true rfl) dX10_findHeights_105 ⟨Nat.le_of_ble_eq_true rfl, Nat.le_of_ble_eq_true rfl⟩ ?_
              refine lv_if_eq (tgt := 154) hx hb dX10_findHeights_108 (by decide) (fun c_22 => ?_) (fun c_22 => ?_)
              · replace c_22 := bI_f c_22
                exact lp154 v7_71 m0_71 hlt_p9 hc hh hhv2 (fun z => ⟨hbb2 z, hbR_b hlt_p9 c_22⟩)  _ _ hP hD hS ls (lv_sub hl [2, 3, 4, 5, 6, 7, 1, 0] rfl)
              · replace c_22 := bI_t c_22
                refine lv_aload hx hb dX10_findHeights_111 (lv_at hl 5 rfl) ?_
                refine lv_iload hx hb dX10_findHeights_113 (lv_at hl 7 rfl) ?_
                refine lv_iload hx hb dX10_findHeights_115 (lv_at hl 7 rfl) ?_
                refine lv_iconst (v := 1) hx hb dX10_findHeights_117 (by decide) ?_
                refine lv_iadd hx hb dX10_findHeights_118 ?_
                refine wtop_i (y := nI (p9 + 1)) (nI_1 _) ?_
                refine lv_iload hx hb dX10_findHeights_119 (lv_at hl 1 rfl) ?_
                refine lv_iload hx hb dX10_findHeights_121 (lv_at hl 0 rfl) ?_
                refine lv_iconst (v := 1) hx hb dX10_findHeights_123 (by decide) ?_
                refine lv_isub hx hb dX10_findHeights_124 ?_
                refine kS_i (As := [.int ((nI p9) - (nI p9) / 9 * 9), .int (((nI p9) / 9) - 1)]) (rest := [.int (nI (p9 + 1)), .int (nI p9), .ref (a 13)]) ⟨hx, hb, hml, hown, hts⟩ (c_X10_isDark l ((nI p9) - (nI p9) / 9 * 9) (((nI p9) / 9) - 1)) (va_cwS 2 hts gX10_findHeights_X10_isDark rfl rfl rfl (by decide +kernel) ⟨Nat.le_of_ble_eq_true rfl, Nat.le_of_ble_eq_true rfl⟩) rfl hl.1 rfl (Nat.le_of_ble_eq_true rfl) dX10_findHeights_125 ⟨Nat.le_of_ble_eq_true rfl, Nat.le_of_ble_eq_true rfl⟩ ?_
                refine lv_if_eq (tgt := 135) hx hb dX10_findHeights_128 (by decide) (fun c_23 => ?_) (fun c_23 => ?_)
                · replace c_23 := bI_f c_23
                  refine lv_iconst (v := (-1)) hx hb dX10_findHeights_135 (by decide) ?_
                  refine kW_i (As := [.ref (a 13), .int (nI p9), .int (nI (p9 + 1)), .int (-1)]) (rest := []) ⟨hx, hb, hml, hown, hts⟩ (x_X10_spread13 l D cy a _ J I (va_up R 13 m0_71) RJ p9 (p9 + 1) (-1) hlt_p9 (hx_1 ⟨p9, hlt_p9⟩ c_21) (Or.inr rfl) hh ) (va_cwS 4 hts gX10_findHeights_X10_spread rfl rfl rfl (by decide +kernel) ⟨Nat.le_of_ble_eq_true rfl, Nat.le_of_ble_eq_true rfl⟩) hK hN hP hD hS hA rfl hl.1 rfl (Nat.le_of_ble_eq_true rfl) dX10_findHeights_136 ⟨Nat.le_of_ble_eq_true rfl, Nat.le_of_ble_eq_true rfl⟩ (fun r_24 u H locs hw hP hD hS => ?_)
                  obtain ⟨w_25, zb_26, ⟨rfl, hp_27, hp_28, hp_29⟩, rfl⟩ := hw
                  have hP : va_P D vwCl (MW cy a J I (va_up R 13 w_25) RJ) H := hP
                  have hD : va_D A (MW cy a J I (va_up R 13 w_25) RJ) := hD
                  refine lv_if_ne (tgt := 147) hx hb dX10_findHeights_139 (by decide) (fun c_30 => ?_) (fun c_30 => ?_)
                  · replace c_30 := bI_t c_30
                    refine lv_iconst (v := 1) hx hb dX10_findHeights_147 (by decide) ?_
                    refine lv_goto (tgt := 152) hx hb dX10_findHeights_148 (by decide) ?_
                    refine lv_istore (lv' := [(7, .int 1), (10, .int ((nI p9) / 9)), (9, .int ((nI p9) - (nI p9) / 9 * 9)), (0, .ref (a 0)), (1, .long x0), (3, .long x1), (5, .ref (a 13)), (8, .int (nI p9))]) hx hb dX10_findHeights_152 hl (by decide) rfl (fun ls hl => ?_)
                    exact lp154 true w_25 hlt_p9 (hc_t hp_28 hc c_30) hp_27 (hV_s hh hhv2 hlt_p9 (hx_1 ⟨p9, hlt_p9⟩ c_21) (Or.inr rfl) (hEd_r hZH hlt_p9 c_21 c_22 (by rw [if_neg (by rw [c_23]; decide)])) hp_29) (fun z => absurd z (by decide))  _ _ hP hD hS ls (lv_sub hl [3, 4, 5, 6, 0, 7, 2, 1] rfl)
                  · replace c_30 := bI_f c_30
                    refine lv_iload hx hb dX10_findHeights_142 (lv_at hl 6 rfl) ?_
                    refine lv_if_eq (tgt := 151) hx hb dX10_findHeights_144 (by decide) (fun c_31 => ?_) (fun c_31 => ?_)
                    · replace c_31 := bI_f c_31
                      refine lv_iconst (v := 0) hx hb dX10_findHeights_151 (by decide) ?_
                      refine lv_istore (lv' := [(7, .int 0), (10, .int ((nI p9) / 9)), (9, .int ((nI p9) - (nI p9) / 9 * 9)), (0, .ref (a 0)), (1, .long x0), (3, .long x1), (5, .ref (a 13)), (8, .int (nI p9))]) hx hb dX10_findHeights_152 hl (by decide) rfl (fun ls hl => ?_)
                      exact lp154 false w_25 hlt_p9 (hc_v hp_28 hc c_31) hp_27 (hV_s hh hhv2 hlt_p9 (hx_1 ⟨p9, hlt_p9⟩ c_21) (Or.inr rfl) (hEd_r hZH hlt_p9 c_21 c_22 (by rw [if_neg (by rw [c_23]; decide)])) hp_29) (fun _ => hbR_c hp_29 c_30 (hbb2 c_31))  _ _ hP hD hS ls (lv_sub hl [3, 4, 5, 6, 0, 7, 2, 1] rfl)
                    · replace c_31 := bI_t c_31
                      refine lv_iconst (v := 1) hx hb dX10_findHeights_147 (by decide) ?_
                      refine lv_goto (tgt := 152) hx hb dX10_findHeights_148 (by decide) ?_
                      refine lv_istore (lv' := [(7, .int 1), (10, .int ((nI p9) / 9)), (9, .int ((nI p9) - (nI p9) / 9 * 9)), (0, .ref (a 0)), (1, .long x0), (3, .long x1), (5, .ref (a 13)), (8, .int (nI p9))]) hx hb dX10_findHeights_152 hl (by decide) rfl (fun ls hl => ?_)
                      exact lp154 true w_25 hlt_p9 (hc_v hp_28 hc c_31) hp_27 (hV_s hh hhv2 hlt_p9 (hx_1 ⟨p9, hlt_p9⟩ c_21) (Or.inr rfl) (hEd_r hZH hlt_p9 c_21 c_22 (by rw [if_neg (by rw [c_23]; decide)])) hp_29) (fun z => absurd z (by decide))  _ _ hP hD hS ls (lv_sub hl [3, 4, 5, 6, 0, 7, 2, 1] rfl)
                · replace c_23 := bI_t c_23
                  refine lv_iconst (v := 1) hx hb dX10_findHeights_131 (by decide) ?_
                  refine lv_goto (tgt := 136) hx hb dX10_findHeights_132 (by decide) ?_
                  refine kW_i (As := [.ref (a 13), .int (nI p9), .int (nI (p9 + 1)), .int 1]) (rest := []) ⟨hx, hb, hml, hown, hts⟩ (x_X10_spread13 l D cy a _ J I (va_up R 13 m0_71) RJ p9 (p9 + 1) 1 hlt_p9 (hx_1 ⟨p9, hlt_p9⟩ c_21) (Or.inl rfl) hh ) (va_cwS 4 hts gX10_findHeights_X10_spread rfl rfl rfl (by decide +kernel) ⟨Nat.le_of_ble_eq_true rfl, Nat.le_of_ble_eq_true rfl⟩) hK hN hP hD hS hA rfl hl.1 rfl (Nat.le_of_ble_eq_true rfl) dX10_findHeights_136 ⟨Nat.le_of_ble_eq_true rfl, Nat.le_of_ble_eq_true rfl⟩ (fun r_32 u H locs hw hP hD hS => ?_)
                  obtain ⟨w_33, zb_34, ⟨rfl, hp_35, hp_36, hp_37⟩, rfl⟩ := hw
                  have hP : va_P D vwCl (MW cy a J I (va_up R 13 w_33) RJ) H := hP
                  have hD : va_D A (MW cy a J I (va_up R 13 w_33) RJ) := hD
                  refine lv_if_ne (tgt := 147) hx hb dX10_findHeights_139 (by decide) (fun c_38 => ?_) (fun c_38 => ?_)
                  · replace c_38 := bI_t c_38
                    refine lv_iconst (v := 1) hx hb dX10_findHeights_147 (by decide) ?_
                    refine lv_goto (tgt := 152) hx hb dX10_findHeights_148 (by decide) ?_
                    refine lv_istore (lv' := [(7, .int 1), (10, .int ((nI p9) / 9)), (9, .int ((nI p9) - (nI p9) / 9 * 9)), (0, .ref (a 0)), (1, .long x0), (3, .long x1), (5, .ref (a 13)), (8, .int (nI p9))]) hx hb dX10_findHeights_152 hl (by decide) rfl (fun ls hl => ?_)
                    exact lp154 true w_33 hlt_p9 (hc_t hp_36 hc c_38) hp_35 (hV_s hh hhv2 hlt_p9 (hx_1 ⟨p9, hlt_p9⟩ c_21) (Or.inl rfl) (hEd_r hZH hlt_p9 c_21 c_22 (by rw [if_pos c_23])) hp_37) (fun z => absurd z (by decide))  _ _ hP hD hS ls (lv_sub hl [3, 4, 5, 6, 0, 7, 2, 1] rfl)
                  · replace c_38 := bI_f c_38
                    refine lv_iload hx hb dX10_findHeights_142 (lv_at hl 6 rfl) ?_
                    refine lv_if_eq (tgt := 151) hx hb dX10_findHeights_144 (by decide) (fun c_39 => ?_) (fun c_39 => ?_)
                    · replace c_39 := bI_f c_39
                      refine lv_iconst (v := 0) hx hb dX10_findHeights_151 (by decide) ?_
                      refine lv_istore (lv' := [(7, .int 0), (10, .int ((nI p9) / 9)), (9, .int ((nI p9) - (nI p9) / 9 * 9)), (0, .ref (a 0)), (1, .long x0), (3, .long x1), (5, .ref (a 13)), (8, .int (nI p9))]) hx hb dX10_findHeights_152 hl (by decide) rfl (fun ls hl => ?_)
                      exact lp154 false w_33 hlt_p9 (hc_v hp_36 hc c_39) hp_35 (hV_s hh hhv2 hlt_p9 (hx_1 ⟨p9, hlt_p9⟩ c_21) (Or.inl rfl) (hEd_r hZH hlt_p9 c_21 c_22 (by rw [if_pos c_23])) hp_37) (fun _ => hbR_c hp_37 c_38 (hbb2 c_39))  _ _ hP hD hS ls (lv_sub hl [3, 4, 5, 6, 0, 7, 2, 1] rfl)
                    · replace c_39 := bI_t c_39
                      refine lv_iconst (v := 1) hx hb dX10_findHeights_147 (by decide) ?_
                      refine lv_goto (tgt := 152) hx hb dX10_findHeights_148 (by decide) ?_
                      refine lv_istore (lv' := [(7, .int 1), (10, .int ((nI p9) / 9)), (9, .int ((nI p9) - (nI p9) / 9 * 9)), (0, .ref (a 0)), (1, .long x0), (3, .long x1), (5, .ref (a 13)), (8, .int (nI p9))]) hx hb dX10_findHeights_152 hl (by decide) rfl (fun ls hl => ?_)
                      exact lp154 true w_33 hlt_p9 (hc_v hp_36 hc c_39) hp_35 (hV_s hh hhv2 hlt_p9 (hx_1 ⟨p9, hlt_p9⟩ c_21) (Or.inl rfl) (hEd_r hZH hlt_p9 c_21 c_22 (by rw [if_pos c_23])) hp_37) (fun z => absurd z (by decide))  _ _ hP hD hS ls (lv_sub hl [3, 4, 5, 6, 0, 7, 2, 1] rfl)
      refine lv_iload hx hb dX10_findHeights_60 (lv_at hl 4 rfl) ?_
      refine lv_if_eq (tgt := 224) hx hb dX10_findHeights_62 (by decide) (fun c_40 => ?_) (fun c_40 => ?_)
      · replace c_40 := bI_f c_40
        exact wret_v hx hb hr hlocks (J, I, (va_up R 13 m0_60), RJ) ⟨m0_60, ⟨(hV_end hly hwo.2 hf0 hhv (hbb c_40)), (hV_bd hly hwo.2 hf0 hhv (hbb c_40) hh)⟩, rfl⟩ hP hD hS dX10_findHeights_224
      · replace c_40 := bI_t c_40
        refine lv_iconst (v := 0) hx hb dX10_findHeights_65 (by decide) ?_
        refine lv_istore (lv' := [(7, .int 0), (0, .ref (a 0)), (1, .long x0), (3, .long x1), (5, .ref (a 13))]) hx hb dX10_findHeights_66 hl (by decide) rfl (fun ls hl => ?_)
        refine lv_iconst (v := 0) hx hb dX10_findHeights_68 (by decide) ?_
        refine lv_istore (lv' := [(8, .int 0), (7, .int 0), (0, .ref (a 0)), (1, .long x0), (3, .long x1), (5, .ref (a 13))]) hx hb dX10_findHeights_69 hl (by decide) rfl (fun ls hl => ?_)
        exact lp71 _ 0 false m0_60 (Nat.zero_le _) c_40 (spr_0 hh).2 hh hhv (fun _ => hbA_0) (Nat.lt_succ_self _) _ _ hP hD hS ls (lv_sub hl [2, 3, 4, 5, 1, 0] rfl)
  have lp7 : ∀ (n7 : Nat), ∀ (i : Nat) (v6_7 : Int32) (m0_7 : Nat → Int32), (i ≤ 81) → (fOk (J 0) i v6_7) → (aF m0_7 i) → (hfI (J 0) i v6_7) → (81 - i) < n7 → ∀ (H : Heap) (locs : List Loc), va_P D vwCl (MW cy a J I (va_up R 13 m0_7) RJ) H → va_D A (MW cy a J I (va_up R 13 m0_7) RJ) → va_S A s.heap H locs → ∀ (ls : Array Slot), lv_has ls 11 [(0, .ref (a 0)), (1, .long x0), (3, .long x1), (5, .ref (a 13)), (6, .int v6_7), (7, .int (nI (81 - i) - 1))] → W p l e (headSpec wsX10_findHeights ({ frames := 3, cells := 0, slots := 0, locals := 69 })).room s m ([.ref (a 0), .long x0, .long x1, .ref (a 13)] : List Value).toArray below meth c H locs 0 0 (MQ below (va_Qv (fun (u : MS) => ∃ (w0 : Nat → Int32), ((hVal (J 0) x0 x1 (zF0 (J 0)) 1000000 w0) ∧ (∀ r, r < 81 → hpt (bfx (J 0)) r = true → -100 ≤ (w0 r).toInt ∧ (w0 r).toInt ≤ 100)) ∧ u = (J, I, (va_up R 13 w0), RJ)) (BW D A (MWu cy a)) A) ([.ref (a 0), .long x0, .long x1, .ref (a 13)] : List Value).toArray s 0 0 A) (F0 m 7 ls []) := by
    intro n7
    induction n7 with
    | zero => intro i v6_7 m0_7 hi hf ha hfm hn; exact absurd hn (Nat.not_lt_zero _)
    | succ n7 ih7 =>
      intro i v6_7 m0_7 hi hf ha hfm hn7 H locs hP hD hS ls hl
      refine lv_iload hx hb dX10_findHeights_7 (lv_at hl 5 rfl) ?_
      refine lv_if_lt (tgt := 51) hx hb dX10_findHeights_9 (by decide) (fun c_41 => ?_) (fun c_41 => ?_)
      · have hie := gw_ge (N := 81) (by decide) hi c_41
        refine lv_aload hx hb dX10_findHeights_51 (lv_at hl 3 rfl) ?_
        refine lv_iload hx hb dX10_findHeights_53 (lv_at hl 4 rfl) ?_
        refine lv_iconst (v := 0) hx hb dX10_findHeights_55 (by decide) ?_
        refine va_iast hx hb hK hP hD hS 13 0 rfl rfl (fOk_end hie hf (f0_ne hf0)) dX10_findHeights_56 (fun H locs hP hD hS => ?_)
        have hP : va_P D vwCl (MW cy a J I (va_up R 13 (upd m0_7 v6_7.toNatClampNeg 0)) RJ) H := hP
        have hD : va_D A (MW cy a J I (va_up R 13 (upd m0_7 v6_7.toNatClampNeg 0)) RJ) := hD
        refine lv_iconst (v := 1) hx hb dX10_findHeights_57 (by decide) ?_
        refine lv_istore (lv' := [(7, .int 1), (0, .ref (a 0)), (1, .long x0), (3, .long x1), (5, .ref (a 13)), (6, .int v6_7)]) hx hb dX10_findHeights_58 hl (by decide) rfl (fun ls hl => ?_)
        exact lp60 _ true (upd m0_7 v6_7.toNatClampNeg 0) (hB_1 hie ha (fOk_end hie hf (f0_ne hf0))) (hV_0 hie ha (hfI_e hie hfm hf0) hf0) (fun z => absurd z (by decide)) (Nat.lt_succ_self _) _ _ hP hD hS ls (lv_sub hl [1, 2, 3, 4, 0] rfl)
      · obtain ⟨j, hj, he⟩ := gw_lt (N := 81) (by decide) hi c_41
        rw [he] at hl
        refine lv_aload hx hb dX10_findHeights_12 (lv_at hl 3 rfl) ?_
        refine lv_iload hx hb dX10_findHeights_14 (lv_at hl 5 rfl) ?_
        refine lv_ldc (v := 1000000) hx hb hown hw0 dX10_findHeights_16 ?_
        refine va_iast hx hb hK hP hD hS 13 0 rfl rfl (vp_in_nI (by omega) (by decide)) dX10_findHeights_18 (fun H locs hP hD hS => ?_)
        have hP : va_P D vwCl (MW cy a J I (va_up R 13 (upd m0_7 (nI j).toNatClampNeg 1000000)) RJ) H := hP
        have hD : va_D A (MW cy a J I (va_up R 13 (upd m0_7 (nI j).toNatClampNeg 1000000)) RJ) := hD
        refine lv_aload_n hx hb dX10_findHeights_19 rfl (lv_at hl 0 rfl) ?_
        refine lv_iload hx hb dX10_findHeights_20 (lv_at hl 5 rfl) ?_
        refine lv_bipush (v := 9) hx hb dX10_findHeights_22 (by decide) ?_
        refine lv_irem hx hb dX10_findHeights_24 (by decide) ?_
        refine lv_iload hx hb dX10_findHeights_25 (lv_at hl 5 rfl) ?_
        refine lv_bipush (v := 9) hx hb dX10_findHeights_27 (by decide) ?_
        refine lv_idiv hx hb dX10_findHeights_29 (by decide) ?_
        refine kR_i (As := [.int ((nI j) - (nI j) / 9 * 9), .int ((nI j) / 9)]) (rest := []) (q0 := 0) ⟨hx, hb, hml, hown, hts⟩ (c_X10_isPoint l D cy a _ J I (va_up R 13 (upd m0_7 (nI j).toNatClampNeg 1000000)) RJ ((nI j) - (nI j) / 9 * 9) ((nI j) / 9) ) (cwV 2 hts gX10_findHeights_X10_isPoint rfl rfl rfl (by decide +kernel) ⟨Nat.le_of_ble_eq_true rfl, Nat.le_of_ble_eq_true rfl⟩) hK hN hP hD rfl rfl rfl hl.1 rfl (Nat.le_of_ble_eq_true rfl) dX10_findHeights_30 ⟨Nat.le_of_ble_eq_true rfl, Nat.le_of_ble_eq_true rfl⟩ ?_
        refine lv_if_eq (tgt := 41) hx hb dX10_findHeights_33 (by decide) (fun c_42 => ?_) (fun c_42 => ?_)
        · replace c_42 := bI_f c_42
          refine lv_iload hx hb dX10_findHeights_41 (lv_at hl 4 rfl) ?_
          refine lv_istore (lv' := [(6, .int v6_7), (0, .ref (a 0)), (1, .long x0), (3, .long x1), (5, .ref (a 13)), (7, .int (nI j))]) hx hb dX10_findHeights_43 hl (by decide) rfl (fun ls hl => ?_)
          refine lv_iinc (v := nI (81 - (i + 1)) - 1) (lv' := [(7, .int (nI (81 - (i + 1)) - 1)), (6, .int v6_7), (0, .ref (a 0)), (1, .long x0), (3, .long x1), (5, .ref (a 13))]) hx hb dX10_findHeights_45 hl (k := 5) rfl (gw_dec hj) (by decide) rfl (fun ls hl => ?_)
          refine lv_goto (tgt := 7) hx hb dX10_findHeights_48 (by decide) ?_
          exact ih7 (i + 1) v6_7 (upd m0_7 (nI j).toNatClampNeg 1000000) (by omega) (fOk_f hj hf c_42) (aF_s hj ha) (hfI_f hj hfm c_42) (by omega) _ _ hP hD hS ls (lv_sub hl [2, 3, 4, 5, 1, 0] rfl)
        · replace c_42 := bI_t c_42
          refine lv_iload hx hb dX10_findHeights_36 (lv_at hl 5 rfl) ?_
          refine lv_goto (tgt := 43) hx hb dX10_findHeights_38 (by decide) ?_
          refine lv_istore (lv' := [(6, .int (nI j)), (0, .ref (a 0)), (1, .long x0), (3, .long x1), (5, .ref (a 13)), (7, .int (nI j))]) hx hb dX10_findHeights_43 hl (by decide) rfl (fun ls hl => ?_)
          refine lv_iinc (v := nI (81 - (i + 1)) - 1) (lv' := [(7, .int (nI (81 - (i + 1)) - 1)), (6, .int (nI j)), (0, .ref (a 0)), (1, .long x0), (3, .long x1), (5, .ref (a 13))]) hx hb dX10_findHeights_45 hl (k := 5) rfl (gw_dec hj) (by decide) rfl (fun ls hl => ?_)
          refine lv_goto (tgt := 7) hx hb dX10_findHeights_48 (by decide) ?_
          exact ih7 (i + 1) (nI j) (upd m0_7 (nI j).toNatClampNeg 1000000) (by omega) (fOk_t hj) (aF_s hj ha) (hfI_t hj c_42) (by omega) _ _ hP hD hS ls (lv_sub hl [2, 3, 4, 5, 1, 0] rfl)
  refine lv_iconst (v := (-1)) hx hb dX10_findHeights_0 (by decide) ?_
  refine lv_istore (lv' := [(6, .int (-1)), (0, .ref (a 0)), (1, .long x0), (3, .long x1), (5, .ref (a 13))]) hx hb dX10_findHeights_1 hl (by decide) rfl (fun ls hl => ?_)
  refine lv_bipush (v := 80) hx hb dX10_findHeights_3 (by decide) ?_
  refine wtop_i (y := nI (81 - 0) - 1) (by decide) ?_
  refine lv_istore (lv' := [(7, .int (nI (81 - 0) - 1)), (6, .int (-1)), (0, .ref (a 0)), (1, .long x0), (3, .long x1), (5, .ref (a 13))]) hx hb dX10_findHeights_5 hl (by decide) rfl (fun ls hl => ?_)
  exact lp7 _ 0 ((-1) : Int32) (R 13) (by omega) fOk_0 aF_0 hfI_0 (Nat.lt_succ_self _) _ _ hP hD hS ls (lv_sub hl [2, 3, 4, 5, 1, 0] rfl)
set_option maxHeartbeats 4000000 in
set_option maxRecDepth 100000 in
theorem x_X10_findHeights14 (l : Launch) (D : va_G) (cy : Nat → ClassId) (a : Nat → Nat) (sz : Nat) (J : Nat → Int64) (I : Nat → Int32) (R : Nat → Nat → Int32) (RJ : Nat → Nat → Int64) (x0 : Int64) (x1 : Int64) (hly : LY (bfx (J 0)) (bfx x0) (bfx x1)) (hwo : cFr (mOut (J 0)) A10 100 = 1 ∧ aPc (J 0) = 1) : Met l yX10_findHeights wsX10_findHeights ({ frames := 3, cells := 0, slots := 0, locals := 69 }) (va_Pc [.ref (a 0), .long x0, .long x1, .ref (a 14)] (PW D cy sz (MW cy a J I R RJ))) (va_Qv (fun (u : MS) => ∃ (w0 : Nat → Int32), ((hVal (J 0) x0 x1 (zF0 (J 0)) 1000000 w0) ∧ (∀ r, r < 81 → hpt (bfx (J 0)) r = true → -100 ≤ (w0 r).toInt ∧ (w0 r).toInt ≤ 100)) ∧ u = (J, I, (va_up R 14 w0), RJ)) (BW D (va_A (MW cy a J I R RJ) sz) (MWu cy a)) (va_A (MW cy a J I R RJ) sz)) 0 0 (va_A (MW cy a J I R RJ) sz) := by
  refine Met.ofW (cc := cX10_findHeights) (maxL := 11) (ret := none) (by decide) rfl ?_
  intro p e s m args below meth c s₁ B hml hv
  obtain ⟨rfl, rfl, hP, hK, hN, hD0⟩ := hv
  have hx := B.exec
  have hb := B.bytes
  have hr := B.returns
  have hts := atoms_spec (ws := wsX10_findHeights) B.pre
  have hown : s.vm.findClass RX10 = some m.cls := findClass_of_methodNamed B.named
  have hlocks := B.notSynchronized
  have hw0 := hts (.constant RX10 242 (1000000)) (by decide +kernel)
  have hD := hD0.self (sz := s.heap.size)
  generalize hAe : va_A (MW cy a J I R RJ) s.heap.size = A at hD ⊢
  have hA : ∀ q : Nat, s.heap.size ≤ q → A q := fun q h => by rw [← hAe]; exact Or.inr h
  have hS : va_S A s.heap s.heap [] := va_S.rf
  have hl := lv_entry ([.ref (a 0), .long x0, .long x1, .ref (a 14)]) (n := 11) (Nat.le_of_ble_eq_true rfl)
  rw [lg_entry_eq]
  generalize (lg_sl ([.ref (a 0), .long x0, .long x1, .ref (a 14)]) ++ List.replicate (11 - (lg_sl ([.ref (a 0), .long x0, .long x1, .ref (a 14)])).length) Slot.unset).toArray = ls at hl ⊢
  have hl : lv_has ls 11 [(0, .ref (a 0)), (1, .long x0), (3, .long x1), (5, .ref (a 14))] := hl
  have hZH := zH_t hwo.1 hly
  have hf0 := zF0_t hwo.2
  have hP : va_P D vwCl (MW cy a J I (va_up R 14 (R 14)) RJ) s.heap := hP
  have hD : va_D A (MW cy a J I (va_up R 14 (R 14)) RJ) := hD
  have lp60 : ∀ (n60 : Nat), ∀ (v7_60 : Bool) (m0_60 : Nat → Int32), (hB m0_60) → (hV (J 0) x0 x1 (hTL (zF0 (J 0))) m0_60) → (v7_60 = false → hbA (J 0) x0 x1 m0_60 81) → (cF m0_60 81 + bN v7_60) < n60 → ∀ (H : Heap) (locs : List Loc), va_P D vwCl (MW cy a J I (va_up R 14 m0_60) RJ) H → va_D A (MW cy a J I (va_up R 14 m0_60) RJ) → va_S A s.heap H locs → ∀ (ls : Array Slot), lv_has ls 11 [(0, .ref (a 0)), (1, .long x0), (3, .long x1), (5, .ref (a 14)), (7, .int (bI v7_60))] → W p l e (headSpec wsX10_findHeights ({ frames := 3, cells := 0, slots := 0, locals := 69 })).room s m ([.ref (a 0), .long x0, .long x1, .ref (a 14)] : List Value).toArray below meth c H locs 0 0 (MQ below (va_Qv (fun (u : MS) => ∃ (w0 : Nat → Int32), ((hVal (J 0) x0 x1 (zF0 (J 0)) 1000000 w0) ∧ (∀ r, r < 81 → hpt (bfx (J 0)) r = true → -100 ≤ (w0 r).toInt ∧ (w0 r).toInt ≤ 100)) ∧ u = (J, I, (va_up R 14 w0), RJ)) (BW D A (MWu cy a)) A) ([.ref (a 0), .long x0, .long x1, .ref (a 14)] : List Value).toArray s 0 0 A) (F0 m 60 ls []) := by
    intro n60
    induction n60 with
    | zero => intro v7_60 m0_60 hh hhv hbb hn; exact absurd hn (Nat.not_lt_zero _)
    | succ n60 ih60 =>
      intro v7_60 m0_60 hh hhv hbb hn60 H locs hP hD hS ls hl
      have lp71 : ∀ (n71 : Nat), ∀ (p9 : Nat) (v7_71 : Bool) (m0_71 : Nat → Int32), (p9 ≤ 81) → (v7_60 = true) → (cF m0_71 81 + bN v7_71 ≤ cF m0_60 81) → (hB m0_71) → (hV (J 0) x0 x1 (hTL (zF0 (J 0))) m0_71) → (v7_71 = false → hbA (J 0) x0 x1 m0_71 p9) → (81 - p9) < n71 → ∀ (H : Heap) (locs : List Loc), va_P D vwCl (MW cy a J I (va_up R 14 m0_71) RJ) H → va_D A (MW cy a J I (va_up R 14 m0_71) RJ) → va_S A s.heap H locs → ∀ (ls : Array Slot), lv_has ls 11 [(0, .ref (a 0)), (1, .long x0), (3, .long x1), (5, .ref (a 14)), (7, .int (bI v7_71)), (8, .int (nI p9))] → W p l e (headSpec wsX10_findHeights ({ frames := 3, cells := 0, slots := 0, locals := 69 })).room s m ([.ref (a 0), .long x0, .long x1, .ref (a 14)] : List Value).toArray below meth c H locs 0 0 (MQ below (va_Qv (fun (u : MS) => ∃ (w0 : Nat → Int32), ((hVal (J 0) x0 x1 (zF0 (J 0)) 1000000 w0) ∧ (∀ r, r < 81 → hpt (bfx (J 0)) r = true → -100 ≤ (w0 r).toInt ∧ (w0 r).toInt ≤ 100)) ∧ u = (J, I, (va_up R 14 w0), RJ)) (BW D A (MWu cy a)) A) ([.ref (a 0), .long x0, .long x1, .ref (a 14)] : List Value).toArray s 0 0 A) (F0 m 71 ls []) := by
        intro n71
        induction n71 with
        | zero => intro p9 v7_71 m0_71 hp9 hm hc hh hhv2 hbb2 hn; exact absurd hn (Nat.not_lt_zero _)
        | succ n71 ih71 =>
          intro p9 v7_71 m0_71 hp9 hm hc hh hhv2 hbb2 hn71 H locs hP hD hS ls hl
          have lp154 : ∀ (v7_154 : Bool) (m0_154 : Nat → Int32), (p9 < 81) → (cF m0_154 81 + bN v7_154 ≤ cF m0_60 81) → (hB m0_154) → (hV (J 0) x0 x1 (hTL (zF0 (J 0))) m0_154) → (v7_154 = false → hbA (J 0) x0 x1 m0_154 p9 ∧ hbR (J 0) x1 m0_154 p9) → ∀ (H : Heap) (locs : List Loc), va_P D vwCl (MW cy a J I (va_up R 14 m0_154) RJ) H → va_D A (MW cy a J I (va_up R 14 m0_154) RJ) → va_S A s.heap H locs → ∀ (ls : Array Slot), lv_has ls 11 [(0, .ref (a 0)), (1, .long x0), (3, .long x1), (5, .ref (a 14)), (7, .int (bI v7_154)), (8, .int (nI p9)), (9, .int (nI p9 - nI p9 / 9 * 9)), (10, .int (nI p9 / 9))] → W p l e (headSpec wsX10_findHeights ({ frames := 3, cells := 0, slots := 0, locals := 69 })).room s m ([.ref (a 0), .long x0, .long x1, .ref (a 14)] : List Value).toArray below meth c H locs 0 0 (MQ below (va_Qv (fun (u : MS) => ∃ (w0 : Nat → Int32), ((hVal (J 0) x0 x1 (zF0 (J 0)) 1000000 w0) ∧ (∀ r, r < 81 → hpt (bfx (J 0)) r = true → -100 ≤ (w0 r).toInt ∧ (w0 r).toInt ≤ 100)) ∧ u = (J, I, (va_up R 14 w0), RJ)) (BW D A (MWu cy a)) A) ([.ref (a 0), .long x0, .long x1, .ref (a 14)] : List Value).toArray s 0 0 A) (F0 m 154 ls []) := by
            intro v7_154 m0_154 hlt_p9 hc hh hhv3 hbb3 H locs hP hD hS ls hl
            refine lv_iload hx hb dX10_findHeights_154 (lv_at hl 7 rfl) ?_
            refine lv_bipush (v := 8) hx hb dX10_findHeights_156 (by decide) ?_
            refine lv_icmp_ge (tgt := 215) hx hb dX10_findHeights_158 (by decide) (fun c_1 => ?_) (fun c_1 => ?_)
            · refine lv_iinc (v := nI (p9 + 1)) (lv' := [(8, .int (nI (p9 + 1))), (0, .ref (a 0)), (1, .long x0), (3, .long x1), (5, .ref (a 14)), (7, .int (bI v7_154)), (9, .int (nI p9 - nI p9 / 9 * 9)), (10, .int (nI p9 / 9))]) hx hb dX10_findHeights_215 hl (k := 5) rfl (nI_1 _) (by decide) rfl (fun ls hl => ?_)
              refine lv_goto (tgt := 71) hx hb dX10_findHeights_218 (by decide) ?_
              exact ih71 (p9 + 1) v7_154 m0_154 hlt_p9 hm hc hh hhv3 (fun z => hbA_s (hbb3 z).1 (hbb3 z).2 (hbD_a hlt_p9 c_1)) (lt_dec hlt_p9 hn71) _ _ hP hD hS ls (lv_sub hl [1, 2, 3, 4, 5, 0] rfl)
            · refine lv_aload_n hx hb dX10_findHeights_161 rfl (lv_at hl 0 rfl) ?_
              refine lv_lload_n hx hb dX10_findHeights_162 rfl (lv_at hl 1 rfl) ?_
              refine lv_iload hx hb dX10_findHeights_163 (lv_at hl 6 rfl) ?_
              refine lv_iload hx hb dX10_findHeights_165 (lv_at hl 7 rfl) ?_
              refine kR_i (As := [.long x0, .int (nI p9 - nI p9 / 9 * 9), .int (nI p9 / 9)]) (rest := []) (q0 := 0) ⟨hx, hb, hml, hown, hts⟩ (c_X10_goesDown l D cy a _ J I (va_up R 14 m0_154) RJ x0 (nI p9 - nI p9 / 9 * 9) (nI p9 / 9) ) (cwV 3 hts gX10_findHeights_X10_goesDown rfl rfl rfl (by decide +kernel) ⟨Nat.le_of_ble_eq_true rfl, Nat.le_of_ble_eq_true rfl⟩) hK hN hP hD rfl rfl rfl hl.1 rfl (Nat.le_of_ble_eq_true rfl) dX10_findHeights_167 ⟨Nat.le_of_ble_eq_true rfl, Nat.le_of_ble_eq_true rfl⟩ ?_
              refine lv_if_eq (tgt := 215) hx hb dX10_findHeights_170 (by decide) (fun c_2 => ?_) (fun c_2 => ?_)
              · replace c_2 := bI_f c_2
                refine lv_iinc (v := nI (p9 + 1)) (lv' := [(8, .int (nI (p9 + 1))), (0, .ref (a 0)), (1, .long x0), (3, .long x1), (5, .ref (a 14)), (7, .int (bI v7_154)), (9, .int (nI p9 - nI p9 / 9 * 9)), (10, .int (nI p9 / 9))]) hx hb dX10_findHeights_215 hl (k := 5) rfl (nI_1 _) (by decide) rfl (fun ls hl => ?_)
                refine lv_goto (tgt := 71) hx hb dX10_findHeights_218 (by decide) ?_
                exact ih71 (p9 + 1) v7_154 m0_154 hlt_p9 hm hc hh hhv3 (fun z => hbA_s (hbb3 z).1 (hbb3 z).2 (hbD_b hlt_p9 c_2)) (lt_dec hlt_p9 hn71) _ _ hP hD hS ls (lv_sub hl [1, 2, 3, 4, 5, 0] rfl)
              · replace c_2 := bI_t c_2
                refine lv_aload hx hb dX10_findHeights_173 (lv_at hl 3 rfl) ?_
                refine lv_iload hx hb dX10_findHeights_175 (lv_at hl 5 rfl) ?_
                refine lv_iload hx hb dX10_findHeights_177 (lv_at hl 5 rfl) ?_
                refine lv_bipush (v := 9) hx hb dX10_findHeights_179 (by decide) ?_
                refine lv_iadd hx hb dX10_findHeights_181 ?_
                refine wtop_i (y := nI (p9 + 9)) (by rw [← nI_add]; rfl) ?_
                refine lv_iload hx hb dX10_findHeights_182 (lv_at hl 6 rfl) ?_
                refine lv_iload hx hb dX10_findHeights_184 (lv_at hl 7 rfl) ?_
                refine kS_i (As := [.int (nI p9 - nI p9 / 9 * 9), .int (nI p9 / 9)]) (rest := [.int (nI (p9 + 9)), .int (nI p9), .ref (a 14)]) ⟨hx, hb, hml, hown, hts⟩ (c_X10_isDark l (nI p9 - nI p9 / 9 * 9) (nI p9 / 9)) (va_cwS 2 hts gX10_findHeights_X10_isDark rfl rfl rfl (by decide +kernel) ⟨Nat.le_of_ble_eq_true rfl, Nat.le_of_ble_eq_true rfl⟩) rfl hl.1 rfl (Nat.le_of_ble_eq_true rfl) dX10_findHeights_186 ⟨Nat.le_of_ble_eq_true rfl, Nat.le_of_ble_eq_true rfl⟩ ?_
                refine lv_if_eq (tgt := 196) hx hb dX10_findHeights_189 (by decide) (fun c_3 => ?_) (fun c_3 => ?_)
                · replace c_3 := bI_f c_3
                  refine lv_iconst (v := (-1)) hx hb dX10_findHeights_196 (by decide) ?_
                  refine kW_i (As := [.ref (a 14), .int (nI p9), .int (nI (p9 + 9)), .int (-1)]) (rest := []) ⟨hx, hb, hml, hown, hts⟩ (x_X10_spread14 l D cy a _ J I (va_up R 14 m0_154) RJ p9 (p9 + 9) (-1) hlt_p9 (hx_9 ⟨p9, hlt_p9⟩ c_1) (Or.inr rfl) hh ) (va_cwS 4 hts gX10_findHeights_X10_spread rfl rfl rfl (by decide +kernel) ⟨Nat.le_of_ble_eq_true rfl, Nat.le_of_ble_eq_true rfl⟩) hK hN hP hD hS hA rfl hl.1 rfl (Nat.le_of_ble_eq_true rfl) dX10_findHeights_197 ⟨Nat.le_of_ble_eq_true rfl, Nat.le_of_ble_eq_true rfl⟩ (fun r_4 u H locs hw hP hD hS => ?_)
                  obtain ⟨w_5, zb_6, ⟨rfl, hp_7, hp_8, hp_9⟩, rfl⟩ := hw
                  have hP : va_P D vwCl (MW cy a J I (va_up R 14 w_5) RJ) H := hP
                  have hD : va_D A (MW cy a J I (va_up R 14 w_5) RJ) := hD
                  refine lv_if_ne (tgt := 208) hx hb dX10_findHeights_200 (by decide) (fun c_10 => ?_) (fun c_10 => ?_)
                  · replace c_10 := bI_t c_10
                    refine lv_iconst (v := 1) hx hb dX10_findHeights_208 (by decide) ?_
                    refine lv_goto (tgt := 213) hx hb dX10_findHeights_209 (by decide) ?_
                    refine lv_istore (lv' := [(7, .int 1), (0, .ref (a 0)), (1, .long x0), (3, .long x1), (5, .ref (a 14)), (8, .int (nI p9)), (9, .int (nI p9 - nI p9 / 9 * 9)), (10, .int (nI p9 / 9))]) hx hb dX10_findHeights_213 hl (by decide) rfl (fun ls hl => ?_)
                    refine lv_iinc (v := nI (p9 + 1)) (lv' := [(8, .int (nI (p9 + 1))), (7, .int 1), (0, .ref (a 0)), (1, .long x0), (3, .long x1), (5, .ref (a 14)), (9, .int (nI p9 - nI p9 / 9 * 9)), (10, .int (nI p9 / 9))]) hx hb dX10_findHeights_215 hl (k := 5) rfl (nI_1 _) (by decide) rfl (fun ls hl => ?_)
                    refine lv_goto (tgt := 71) hx hb dX10_findHeights_218 (by decide) ?_
                    exact ih71 (p9 + 1) true w_5 hlt_p9 hm (hc_t hp_8 hc c_10) hp_7 (hV_s hh hhv3 hlt_p9 (hx_9 ⟨p9, hlt_p9⟩ c_1) (Or.inr rfl) (hEd_d hZH hlt_p9 c_1 c_2 (by rw [if_neg (by rw [c_3]; decide)])) hp_9) (fun z => absurd z (by decide)) (lt_dec hlt_p9 hn71) _ _ hP hD hS ls (lv_sub hl [2, 3, 4, 5, 1, 0] rfl)
                  · replace c_10 := bI_f c_10
                    refine lv_iload hx hb dX10_findHeights_203 (lv_at hl 4 rfl) ?_
                    refine lv_if_eq (tgt := 212) hx hb dX10_findHeights_205 (by decide) (fun c_11 => ?_) (fun c_11 => ?_)
                    · replace c_11 := bI_f c_11
                      refine lv_iconst (v := 0) hx hb dX10_findHeights_212 (by decide) ?_
                      refine lv_istore (lv' := [(7, .int 0), (0, .ref (a 0)), (1, .long x0), (3, .long x1), (5, .ref (a 14)), (8, .int (nI p9)), (9, .int (nI p9 - nI p9 / 9 * 9)), (10, .int (nI p9 / 9))]) hx hb dX10_findHeights_213 hl (by decide) rfl (fun ls hl => ?_)
                      refine lv_iinc (v := nI (p9 + 1)) (lv' := [(8, .int (nI (p9 + 1))), (7, .int 0), (0, .ref (a 0)), (1, .long x0), (3, .long x1), (5, .ref (a 14)), (9, .int (nI p9 - nI p9 / 9 * 9)), (10, .int (nI p9 / 9))]) hx hb dX10_findHeights_215 hl (k := 5) rfl (nI_1 _) (by decide) rfl (fun ls hl => ?_)
                      refine lv_goto (tgt := 71) hx hb dX10_findHeights_218 (by decide) ?_
                      exact ih71 (p9 + 1) false w_5 hlt_p9 hm (hc_v hp_8 hc c_11) hp_7 (hV_s hh hhv3 hlt_p9 (hx_9 ⟨p9, hlt_p9⟩ c_1) (Or.inr rfl) (hEd_d hZH hlt_p9 c_1 c_2 (by rw [if_neg (by rw [c_3]; decide)])) hp_9) (fun _ => hbD_c hp_9 c_10 (hbb3 c_11)) (lt_dec hlt_p9 hn71) _ _ hP hD hS ls (lv_sub hl [2, 3, 4, 5, 1, 0] rfl)
                    · replace c_11 := bI_t c_11
                      refine lv_iconst (v := 1) hx hb dX10_findHeights_208 (by decide) ?_
                      refine lv_goto (tgt := 213) hx hb dX10_findHeights_209 (by decide) ?_
                      refine lv_istore (lv' := [(7, .int 1), (0, .ref (a 0)), (1, .long x0), (3, .long x1), (5, .ref (a 14)), (8, .int (nI p9)), (9, .int (nI p9 - nI p9 / 9 * 9)), (10, .int (nI p9 / 9))]) hx hb dX10_findHeights_213 hl (by decide) rfl (fun ls hl => ?_)
                      refine lv_iinc (v := nI (p9 + 1)) (lv' := [(8, .int (nI (p9 + 1))), (7, .int 1), (0, .ref (a 0)), (1, .long x0), (3, .long x1), (5, .ref (a 14)), (9, .int (nI p9 - nI p9 / 9 * 9)), (10, .int (nI p9 / 9))]) hx hb dX10_findHeights_215 hl (k := 5) rfl (nI_1 _) (by decide) rfl (fun ls hl => ?_)
                      refine lv_goto (tgt := 71) hx hb dX10_findHeights_218 (by decide) ?_
                      exact ih71 (p9 + 1) true w_5 hlt_p9 hm (hc_v hp_8 hc c_11) hp_7 (hV_s hh hhv3 hlt_p9 (hx_9 ⟨p9, hlt_p9⟩ c_1) (Or.inr rfl) (hEd_d hZH hlt_p9 c_1 c_2 (by rw [if_neg (by rw [c_3]; decide)])) hp_9) (fun z => absurd z (by decide)) (lt_dec hlt_p9 hn71) _ _ hP hD hS ls (lv_sub hl [2, 3, 4, 5, 1, 0] rfl)
                · replace c_3 := bI_t c_3
                  refine lv_iconst (v := 1) hx hb dX10_findHeights_192 (by decide) ?_
                  refine lv_goto (tgt := 197) hx hb dX10_findHeights_193 (by decide) ?_
                  refine kW_i (As := [.ref (a 14), .int (nI p9), .int (nI (p9 + 9)), .int 1]) (rest := []) ⟨hx, hb, hml, hown, hts⟩ (x_X10_spread14 l D cy a _ J I (va_up R 14 m0_154) RJ p9 (p9 + 9) 1 hlt_p9 (hx_9 ⟨p9, hlt_p9⟩ c_1) (Or.inl rfl) hh ) (va_cwS 4 hts gX10_findHeights_X10_spread rfl rfl rfl (by decide +kernel) ⟨Nat.le_of_ble_eq_true rfl, Nat.le_of_ble_eq_true rfl⟩) hK hN hP hD hS hA rfl hl.1 rfl (Nat.le_of_ble_eq_true rfl) dX10_findHeights_197 ⟨Nat.le_of_ble_eq_true rfl, Nat.le_of_ble_eq_true rfl⟩ (fun r_12 u H locs hw hP hD hS => ?_)
                  obtain ⟨w_13, zb_14, ⟨rfl, hp_15, hp_16, hp_17⟩, rfl⟩ := hw
                  have hP : va_P D vwCl (MW cy a J I (va_up R 14 w_13) RJ) H := hP
                  have hD : va_D A (MW cy a J I (va_up R 14 w_13) RJ) := hD
                  refine lv_if_ne (tgt := 208) hx hb dX10_findHeights_200 (by decide) (fun c_18 => ?_) (fun c_18 => ?_)
                  · replace c_18 := bI_t c_18
                    refine lv_iconst (v := 1) hx hb dX10_findHeights_208 (by decide) ?_
                    refine lv_goto (tgt := 213) hx hb dX10_findHeights_209 (by decide) ?_
                    refine lv_istore (lv' := [(7, .int 1), (0, .ref (a 0)), (1, .long x0), (3, .long x1), (5, .ref (a 14)), (8, .int (nI p9)), (9, .int (nI p9 - nI p9 / 9 * 9)), (10, .int (nI p9 / 9))]) hx hb dX10_findHeights_213 hl (by decide) rfl (fun ls hl => ?_)
                    refine lv_iinc (v := nI (p9 + 1)) (lv' := [(8, .int (nI (p9 + 1))), (7, .int 1), (0, .ref (a 0)), (1, .long x0), (3, .long x1), (5, .ref (a 14)), (9, .int (nI p9 - nI p9 / 9 * 9)), (10, .int (nI p9 / 9))]) hx hb dX10_findHeights_215 hl (k := 5) rfl (nI_1 _) (by decide) rfl (fun ls hl => ?_)
                    refine lv_goto (tgt := 71) hx hb dX10_findHeights_218 (by decide) ?_
                    exact ih71 (p9 + 1) true w_13 hlt_p9 hm (hc_t hp_16 hc c_18) hp_15 (hV_s hh hhv3 hlt_p9 (hx_9 ⟨p9, hlt_p9⟩ c_1) (Or.inl rfl) (hEd_d hZH hlt_p9 c_1 c_2 (by rw [if_pos c_3])) hp_17) (fun z => absurd z (by decide)) (lt_dec hlt_p9 hn71) _ _ hP hD hS ls (lv_sub hl [2, 3, 4, 5, 1, 0] rfl)
                  · replace c_18 := bI_f c_18
                    refine lv_iload hx hb dX10_findHeights_203 (lv_at hl 4 rfl) ?_
                    refine lv_if_eq (tgt := 212) hx hb dX10_findHeights_205 (by decide) (fun c_19 => ?_) (fun c_19 => ?_)
                    · replace c_19 := bI_f c_19
                      refine lv_iconst (v := 0) hx hb dX10_findHeights_212 (by decide) ?_
                      refine lv_istore (lv' := [(7, .int 0), (0, .ref (a 0)), (1, .long x0), (3, .long x1), (5, .ref (a 14)), (8, .int (nI p9)), (9, .int (nI p9 - nI p9 / 9 * 9)), (10, .int (nI p9 / 9))]) hx hb dX10_findHeights_213 hl (by decide) rfl (fun ls hl => ?_)
                      refine lv_iinc (v := nI (p9 + 1)) (lv' := [(8, .int (nI (p9 + 1))), (7, .int 0), (0, .ref (a 0)), (1, .long x0), (3, .long x1), (5, .ref (a 14)), (9, .int (nI p9 - nI p9 / 9 * 9)), (10, .int (nI p9 / 9))]) hx hb dX10_findHeights_215 hl (k := 5) rfl (nI_1 _) (by decide) rfl (fun ls hl => ?_)
                      refine lv_goto (tgt := 71) hx hb dX10_findHeights_218 (by decide) ?_
                      exact ih71 (p9 + 1) false w_13 hlt_p9 hm (hc_v hp_16 hc c_19) hp_15 (hV_s hh hhv3 hlt_p9 (hx_9 ⟨p9, hlt_p9⟩ c_1) (Or.inl rfl) (hEd_d hZH hlt_p9 c_1 c_2 (by rw [if_pos c_3])) hp_17) (fun _ => hbD_c hp_17 c_18 (hbb3 c_19)) (lt_dec hlt_p9 hn71) _ _ hP hD hS ls (lv_sub hl [2, 3, 4, 5, 1, 0] rfl)
                    · replace c_19 := bI_t c_19
                      refine lv_iconst (v := 1) hx hb dX10_findHeights_208 (by decide) ?_
                      refine lv_goto (tgt := 213) hx hb dX10_findHeights_209 (by decide) ?_
                      refine lv_istore (lv' := [(7, .int 1), (0, .ref (a 0)), (1, .long x0), (3, .long x1), (5, .ref (a 14)), (8, .int (nI p9)), (9, .int (nI p9 - nI p9 / 9 * 9)), (10, .int (nI p9 / 9))]) hx hb dX10_findHeights_213 hl (by decide) rfl (fun ls hl => ?_)
                      refine lv_iinc (v := nI (p9 + 1)) (lv' := [(8, .int (nI (p9 + 1))), (7, .int 1), (0, .ref (a 0)), (1, .long x0), (3, .long x1), (5, .ref (a 14)), (9, .int (nI p9 - nI p9 / 9 * 9)), (10, .int (nI p9 / 9))]) hx hb dX10_findHeights_215 hl (k := 5) rfl (nI_1 _) (by decide) rfl (fun ls hl => ?_)
                      refine lv_goto (tgt := 71) hx hb dX10_findHeights_218 (by decide) ?_
                      exact ih71 (p9 + 1) true w_13 hlt_p9 hm (hc_v hp_16 hc c_19) hp_15 (hV_s hh hhv3 hlt_p9 (hx_9 ⟨p9, hlt_p9⟩ c_1) (Or.inl rfl) (hEd_d hZH hlt_p9 c_1 c_2 (by rw [if_pos c_3])) hp_17) (fun z => absurd z (by decide)) (lt_dec hlt_p9 hn71) _ _ hP hD hS ls (lv_sub hl [2, 3, 4, 5, 1, 0] rfl)
          refine lv_iload hx hb dX10_findHeights_71 (lv_at hl 5 rfl) ?_
          refine lv_bipush (v := 81) hx hb dX10_findHeights_73 (by decide) ?_
          refine lv_icmp_ge (tgt := 221) hx hb dX10_findHeights_75 (by decide) (fun c_20 => ?_) (fun c_20 => ?_)
          · have hie_p9 := ctr_ge (N := 81) (by decide) hp9 c_20
            refine lv_goto (tgt := 60) hx hb dX10_findHeights_221 (by decide) ?_
            exact ih60 v7_71 m0_71 hh hhv2 (fun z => hbA_e hie_p9 (hbb2 z)) (mz hc hn60 (by rw [hm]; rfl)) _ _ hP hD hS ls (lv_sub hl [0, 1, 2, 3, 4] rfl)
          · have hlt_p9 := ctr_lt (N := 81) (by decide) hp9 c_20
            refine lv_iload hx hb dX10_findHeights_78 (lv_at hl 5 rfl) ?_
            refine lv_bipush (v := 9) hx hb dX10_findHeights_80 (by decide) ?_
            refine lv_irem hx hb dX10_findHeights_82 (by decide) ?_
            refine lv_istore (lv' := [(9, .int ((nI p9) - (nI p9) / 9 * 9)), (0, .ref (a 0)), (1, .long x0), (3, .long x1), (5, .ref (a 14)), (7, .int (bI v7_71)), (8, .int (nI p9))]) hx hb dX10_findHeights_83 hl (by decide) rfl (fun ls hl => ?_)
            refine lv_iload hx hb dX10_findHeights_85 (lv_at hl 6 rfl) ?_
            refine lv_bipush (v := 9) hx hb dX10_findHeights_87 (by decide) ?_
            refine lv_idiv hx hb dX10_findHeights_89 (by decide) ?_
            refine lv_istore (lv' := [(10, .int ((nI p9) / 9)), (9, .int ((nI p9) - (nI p9) / 9 * 9)), (0, .ref (a 0)), (1, .long x0), (3, .long x1), (5, .ref (a 14)), (7, .int (bI v7_71)), (8, .int (nI p9))]) hx hb dX10_findHeights_90 hl (by decide) rfl (fun ls hl => ?_)
            refine lv_iload hx hb dX10_findHeights_92 (lv_at hl 1 rfl) ?_
            refine lv_bipush (v := 8) hx hb dX10_findHeights_94 (by decide) ?_
            refine lv_icmp_ge (tgt := 154) hx hb dX10_findHeights_96 (by decide) (fun c_21 => ?_) (fun c_21 => ?_)
            · exact lp154 v7_71 m0_71 hlt_p9 hc hh hhv2 (fun z => ⟨hbb2 z, hbR_a hlt_p9 c_21⟩)  _ _ hP hD hS ls (lv_sub hl [2, 3, 4, 5, 6, 7, 1, 0] rfl)
            · refine lv_aload_n hx hb dX10_findHeights_99 rfl (lv_at hl 2 rfl) ?_
              refine lv_lload_n hx hb dX10_findHeights_100 rfl (lv_at hl 4 rfl) ?_
              refine lv_iload hx hb dX10_findHeights_101 (lv_at hl 1 rfl) ?_
              refine lv_iload hx hb dX10_findHeights_103 (lv_at hl 0 rfl) ?_
              refine kR_i (As := [.long x1, .int ((nI p9) - (nI p9) / 9 * 9), .int ((nI p9) / 9)]) (rest := []) (q0 := 0) ⟨hx, hb, hml, hown, hts⟩ (c_X10_goesRight l D cy a _ J I (va_up R 14 m0_71) RJ x1 ((nI p9) - (nI p9) / 9 * 9) ((nI p9) / 9) ) (cwV 3 hts gX10_findHeights_X10_goesRight rfl rfl rfl (by decide +kernel) ⟨Nat.le_of_ble_eq_true rfl, Nat.le_of_ble_eq_true rfl⟩) hK hN hP hD rfl rfl rfl hl.1 rfl (Nat.le_of_ble_eq_true rfl) dX10_findHeights_105 ⟨Nat.le_of_ble_eq_true rfl, Nat.le_of_ble_eq_true rfl⟩ ?_
              refine lv_if_eq (tgt := 154) hx hb dX10_findHeights_108 (by decide) (fun c_22 => ?_) (fun c_22 => ?_)
              · replace c_22 := bI_f c_22
                exact lp154 v7_71 m0_71 hlt_p9 hc hh hhv2 (fun z => ⟨hbb2 z, hbR_b hlt_p9 c_22⟩)  _ _ hP hD hS ls (lv_sub hl [2, 3, 4, 5, 6, 7, 1, 0] rfl)
              · replace c_22 := bI_t c_22
                refine lv_aload hx hb dX10_findHeights_111 (lv_at hl 5 rfl) ?_
                refine lv_iload hx hb dX10_findHeights_113 (lv_at hl 7 rfl) ?_
                refine lv_iload hx hb dX10_findHeights_115 (lv_at hl 7 rfl) ?_
                refine lv_iconst (v := 1) hx hb dX10_findHeights_117 (by decide) ?_
                refine lv_iadd hx hb dX10_findHeights_118 ?_
                refine wtop_i (y := nI (p9 + 1)) (nI_1 _) ?_
                refine lv_iload hx hb dX10_findHeights_119 (lv_at hl 1 rfl) ?_
                refine lv_iload hx hb dX10_findHeights_121 (lv_at hl 0 rfl) ?_
                refine lv_iconst (v := 1) hx hb dX10_findHeights_123 (by decide) ?_
                refine lv_isub hx hb dX10_findHeights_124 ?_
                refine kS_i (As := [.int ((nI p9) - (nI p9) / 9 * 9), .int (((nI p9) / 9) - 1)]) (rest := [.int (nI (p9 + 1)), .int (nI p9), .ref (a 14)]) ⟨hx, hb, hml, hown, hts⟩ (c_X10_isDark l ((nI p9) - (nI p9) / 9 * 9) (((nI p9) / 9) - 1)) (va_cwS 2 hts gX10_findHeights_X10_isDark rfl rfl rfl (by decide +kernel) ⟨Nat.le_of_ble_eq_true rfl, Nat.le_of_ble_eq_true rfl⟩) rfl hl.1 rfl (Nat.le_of_ble_eq_true rfl) dX10_findHeights_125 ⟨Nat.le_of_ble_eq_true rfl, Nat.le_of_ble_eq_true rfl⟩ ?_
                refine lv_if_eq (tgt := 135) hx hb dX10_findHeights_128 (by decide) (fun c_23 => ?_) (fun c_23 => ?_)
                · replace c_23 := bI_f c_23
                  refine lv_iconst (v := (-1)) hx hb dX10_findHeights_135 (by decide) ?_
                  refine kW_i (As := [.ref (a 14), .int (nI p9), .int (nI (p9 + 1)), .int (-1)]) (rest := []) ⟨hx, hb, hml, hown, hts⟩ (x_X10_spread14 l D cy a _ J I (va_up R 14 m0_71) RJ p9 (p9 + 1) (-1) hlt_p9 (hx_1 ⟨p9, hlt_p9⟩ c_21) (Or.inr rfl) hh ) (va_cwS 4 hts gX10_findHeights_X10_spread rfl rfl rfl (by decide +kernel) ⟨Nat.le_of_ble_eq_true rfl, Nat.le_of_ble_eq_true rfl⟩) hK hN hP hD hS hA rfl hl.1 rfl (Nat.le_of_ble_eq_true rfl) dX10_findHeights_136 ⟨Nat.le_of_ble_eq_true rfl, Nat.le_of_ble_eq_true rfl⟩ (fun r_24 u H locs hw hP hD hS => ?_)
                  obtain ⟨w_25, zb_26, ⟨rfl, hp_27, hp_28, hp_29⟩, rfl⟩ := hw
                  have hP : va_P D vwCl (MW cy a J I (va_up R 14 w_25) RJ) H := hP
                  have hD : va_D A (MW cy a J I (va_up R 14 w_25) RJ) := hD
                  refine lv_if_ne (tgt := 147) hx hb dX10_findHeights_139 (by decide) (fun c_30 => ?_) (fun c_30 => ?_)
                  · replace c_30 := bI_t c_30
                    refine lv_iconst (v := 1) hx hb dX10_findHeights_147 (by decide) ?_
                    refine lv_goto (tgt := 152) hx hb dX10_findHeights_148 (by decide) ?_
                    refine lv_istore (lv' := [(7, .int 1), (10, .int ((nI p9) / 9)), (9, .int ((nI p9) - (nI p9) / 9 * 9)), (0, .ref (a 0)), (1, .long x0), (3, .long x1), (5, .ref (a 14)), (8, .int (nI p9))]) hx hb dX10_findHeights_152 hl (by decide) rfl (fun ls hl => ?_)
                    exact lp154 true w_25 hlt_p9 (hc_t hp_28 hc c_30) hp_27 (hV_s hh hhv2 hlt_p9 (hx_1 ⟨p9, hlt_p9⟩ c_21) (Or.inr rfl) (hEd_r hZH hlt_p9 c_21 c_22 (by rw [if_neg (by rw [c_23]; decide)])) hp_29) (fun z => absurd z (by decide))  _ _ hP hD hS ls (lv_sub hl [3, 4, 5, 6, 0, 7, 2, 1] rfl)
                  · replace c_30 := bI_f c_30
                    refine lv_iload hx hb dX10_findHeights_142 (lv_at hl 6 rfl) ?_
                    refine lv_if_eq (tgt := 151) hx hb dX10_findHeights_144 (by decide) (fun c_31 => ?_) (fun c_31 => ?_)
                    · replace c_31 := bI_f c_31
                      refine lv_iconst (v := 0) hx hb dX10_findHeights_151 (by decide) ?_
                      refine lv_istore (lv' := [(7, .int 0), (10, .int ((nI p9) / 9)), (9, .int ((nI p9) - (nI p9) / 9 * 9)), (0, .ref (a 0)), (1, .long x0), (3, .long x1), (5, .ref (a 14)), (8, .int (nI p9))]) hx hb dX10_findHeights_152 hl (by decide) rfl (fun ls hl => ?_)
                      exact lp154 false w_25 hlt_p9 (hc_v hp_28 hc c_31) hp_27 (hV_s hh hhv2 hlt_p9 (hx_1 ⟨p9, hlt_p9⟩ c_21) (Or.inr rfl) (hEd_r hZH hlt_p9 c_21 c_22 (by rw [if_neg (by rw [c_23]; decide)])) hp_29) (fun _ => hbR_c hp_29 c_30 (hbb2 c_31))  _ _ hP hD hS ls (lv_sub hl [3, 4, 5, 6, 0, 7, 2, 1] rfl)
                    · replace c_31 := bI_t c_31
                      refine lv_iconst (v := 1) hx hb dX10_findHeights_147 (by decide) ?_
                      refine lv_goto (tgt := 152) hx hb dX10_findHeights_148 (by decide) ?_
                      refine lv_istore (lv' := [(7, .int 1), (10, .int ((nI p9) / 9)), (9, .int ((nI p9) - (nI p9) / 9 * 9)), (0, .ref (a 0)), (1, .long x0), (3, .long x1), (5, .ref (a 14)), (8, .int (nI p9))]) hx hb dX10_findHeights_152 hl (by decide) rfl (fun ls hl => ?_)
                      exact lp154 true w_25 hlt_p9 (hc_v hp_28 hc c_31) hp_27 (hV_s hh hhv2 hlt_p9 (hx_1 ⟨p9, hlt_p9⟩ c_21) (Or.inr rfl) (hEd_r hZH hlt_p9 c_21 c_22 (by rw [if_neg (by rw [c_23]; decide)])) hp_29) (fun z => absurd z (by decide))  _ _ hP hD hS ls (lv_sub hl [3, 4, 5, 6, 0, 7, 2, 1] rfl)
                · replace c_23 := bI_t c_23
                  refine lv_iconst (v := 1) hx hb dX10_findHeights_131 (by decide) ?_
                  refine lv_goto (tgt := 136) hx hb dX10_findHeights_132 (by decide) ?_
                  refine kW_i (As := [.ref (a 14), .int (nI p9), .int (nI (p9 + 1)), .int 1]) (rest := []) ⟨hx, hb, hml, hown, hts⟩ (x_X10_spread14 l D cy a _ J I (va_up R 14 m0_71) RJ p9 (p9 + 1) 1 hlt_p9 (hx_1 ⟨p9, hlt_p9⟩ c_21) (Or.inl rfl) hh ) (va_cwS 4 hts gX10_findHeights_X10_spread rfl rfl rfl (by decide +kernel) ⟨Nat.le_of_ble_eq_true rfl, Nat.le_of_ble_eq_true rfl⟩) hK hN hP hD hS hA rfl hl.1 rfl (Nat.le_of_ble_eq_true rfl) dX10_findHeights_136 ⟨Nat.le_of_ble_eq_true rfl, Nat.le_of_ble_eq_true rfl⟩ (fun r_32 u H locs hw hP hD hS => ?_)
                  obtain ⟨w_33, zb_34, ⟨rfl, hp_35, hp_36, hp_37⟩, rfl⟩ := hw
                  have hP : va_P D vwCl (MW cy a J I (va_up R 14 w_33) RJ) H := hP
                  have hD : va_D A (MW cy a J I (va_up R 14 w_33) RJ) := hD
                  refine lv_if_ne (tgt := 147) hx hb dX10_findHeights_139 (by decide) (fun c_38 => ?_) (fun c_38 => ?_)
                  · replace c_38 := bI_t c_38
                    refine lv_iconst (v := 1) hx hb dX10_findHeights_147 (by decide) ?_
                    refine lv_goto (tgt := 152) hx hb dX10_findHeights_148 (by decide) ?_
                    refine lv_istore (lv' := [(7, .int 1), (10, .int ((nI p9) / 9)), (9, .int ((nI p9) - (nI p9) / 9 * 9)), (0, .ref (a 0)), (1, .long x0), (3, .long x1), (5, .ref (a 14)), (8, .int (nI p9))]) hx hb dX10_findHeights_152 hl (by decide) rfl (fun ls hl => ?_)
                    exact lp154 true w_33 hlt_p9 (hc_t hp_36 hc c_38) hp_35 (hV_s hh hhv2 hlt_p9 (hx_1 ⟨p9, hlt_p9⟩ c_21) (Or.inl rfl) (hEd_r hZH hlt_p9 c_21 c_22 (by rw [if_pos c_23])) hp_37) (fun z => absurd z (by decide))  _ _ hP hD hS ls (lv_sub hl [3, 4, 5, 6, 0, 7, 2, 1] rfl)
                  · replace c_38 := bI_f c_38
                    refine lv_iload hx hb dX10_findHeights_142 (lv_at hl 6 rfl) ?_
                    refine lv_if_eq (tgt := 151) hx hb dX10_findHeights_144 (by decide) (fun c_39 => ?_) (fun c_39 => ?_)
                    · replace c_39 := bI_f c_39
                      refine lv_iconst (v := 0) hx hb dX10_findHeights_151 (by decide) ?_
                      refine lv_istore (lv' := [(7, .int 0), (10, .int ((nI p9) / 9)), (9, .int ((nI p9) - (nI p9) / 9 * 9)), (0, .ref (a 0)), (1, .long x0), (3, .long x1), (5, .ref (a 14)), (8, .int (nI p9))]) hx hb dX10_findHeights_152 hl (by decide) rfl (fun ls hl => ?_)
                      exact lp154 false w_33 hlt_p9 (hc_v hp_36 hc c_39) hp_35 (hV_s hh hhv2 hlt_p9 (hx_1 ⟨p9, hlt_p9⟩ c_21) (Or.inl rfl) (hEd_r hZH hlt_p9 c_21 c_22 (by rw [if_pos c_23])) hp_37) (fun _ => hbR_c hp_37 c_38 (hbb2 c_39))  _ _ hP hD hS ls (lv_sub hl [3, 4, 5, 6, 0, 7, 2, 1] rfl)
                    · replace c_39 := bI_t c_39
                      refine lv_iconst (v := 1) hx hb dX10_findHeights_147 (by decide) ?_
                      refine lv_goto (tgt := 152) hx hb dX10_findHeights_148 (by decide) ?_
                      refine lv_istore (lv' := [(7, .int 1), (10, .int ((nI p9) / 9)), (9, .int ((nI p9) - (nI p9) / 9 * 9)), (0, .ref (a 0)), (1, .long x0), (3, .long x1), (5, .ref (a 14)), (8, .int (nI p9))]) hx hb dX10_findHeights_152 hl (by decide) rfl (fun ls hl => ?_)
                      exact lp154 true w_33 hlt_p9 (hc_v hp_36 hc c_39) hp_35 (hV_s hh hhv2 hlt_p9 (hx_1 ⟨p9, hlt_p9⟩ c_21) (Or.inl rfl) (hEd_r hZH hlt_p9 c_21 c_22 (by rw [if_pos c_23])) hp_37) (fun z => absurd z (by decide))  _ _ hP hD hS ls (lv_sub hl [3, 4, 5, 6, 0, 7, 2, 1] rfl)
      refine lv_iload hx hb dX10_findHeights_60 (lv_at hl 4 rfl) ?_
      refine lv_if_eq (tgt := 224) hx hb dX10_findHeights_62 (by decide) (fun c_40 => ?_) (fun c_40 => ?_)
      · replace c_40 := bI_f c_40
        exact wret_v hx hb hr hlocks (J, I, (va_up R 14 m0_60), RJ) ⟨m0_60, ⟨(hV_end hly hwo.2 hf0 hhv (hbb c_40)), (hV_bd hly hwo.2 hf0 hhv (hbb c_40) hh)⟩, rfl⟩ hP hD hS dX10_findHeights_224
      · replace c_40 := bI_t c_40
        refine lv_iconst (v := 0) hx hb dX10_findHeights_65 (by decide) ?_
        refine lv_istore (lv' := [(7, .int 0), (0, .ref (a 0)), (1, .long x0), (3, .long x1), (5, .ref (a 14))]) hx hb dX10_findHeights_66 hl (by decide) rfl (fun ls hl => ?_)
        refine lv_iconst (v := 0) hx hb dX10_findHeights_68 (by decide) ?_
        refine lv_istore (lv' := [(8, .int 0), (7, .int 0), (0, .ref (a 0)), (1, .long x0), (3, .long x1), (5, .ref (a 14))]) hx hb dX10_findHeights_69 hl (by decide) rfl (fun ls hl => ?_)
        exact lp71 _ 0 false m0_60 (Nat.zero_le _) c_40 (spr_0 hh).2 hh hhv (fun _ => hbA_0) (Nat.lt_succ_self _) _ _ hP hD hS ls (lv_sub hl [2, 3, 4, 5, 1, 0] rfl)
  have lp7 : ∀ (n7 : Nat), ∀ (i : Nat) (v6_7 : Int32) (m0_7 : Nat → Int32), (i ≤ 81) → (fOk (J 0) i v6_7) → (aF m0_7 i) → (hfI (J 0) i v6_7) → (81 - i) < n7 → ∀ (H : Heap) (locs : List Loc), va_P D vwCl (MW cy a J I (va_up R 14 m0_7) RJ) H → va_D A (MW cy a J I (va_up R 14 m0_7) RJ) → va_S A s.heap H locs → ∀ (ls : Array Slot), lv_has ls 11 [(0, .ref (a 0)), (1, .long x0), (3, .long x1), (5, .ref (a 14)), (6, .int v6_7), (7, .int (nI (81 - i) - 1))] → W p l e (headSpec wsX10_findHeights ({ frames := 3, cells := 0, slots := 0, locals := 69 })).room s m ([.ref (a 0), .long x0, .long x1, .ref (a 14)] : List Value).toArray below meth c H locs 0 0 (MQ below (va_Qv (fun (u : MS) => ∃ (w0 : Nat → Int32), ((hVal (J 0) x0 x1 (zF0 (J 0)) 1000000 w0) ∧ (∀ r, r < 81 → hpt (bfx (J 0)) r = true → -100 ≤ (w0 r).toInt ∧ (w0 r).toInt ≤ 100)) ∧ u = (J, I, (va_up R 14 w0), RJ)) (BW D A (MWu cy a)) A) ([.ref (a 0), .long x0, .long x1, .ref (a 14)] : List Value).toArray s 0 0 A) (F0 m 7 ls []) := by
    intro n7
    induction n7 with
    | zero => intro i v6_7 m0_7 hi hf ha hfm hn; exact absurd hn (Nat.not_lt_zero _)
    | succ n7 ih7 =>
      intro i v6_7 m0_7 hi hf ha hfm hn7 H locs hP hD hS ls hl
      refine lv_iload hx hb dX10_findHeights_7 (lv_at hl 5 rfl) ?_
      refine lv_if_lt (tgt := 51) hx hb dX10_findHeights_9 (by decide) (fun c_41 => ?_) (fun c_41 => ?_)
      · have hie := gw_ge (N := 81) (by decide) hi c_41
        refine lv_aload hx hb dX10_findHeights_51 (lv_at hl 3 rfl) ?_
        refine lv_iload hx hb dX10_findHeights_53 (lv_at hl 4 rfl) ?_
        refine lv_iconst (v := 0) hx hb dX10_findHeights_55 (by decide) ?_
        refine va_iast hx hb hK hP hD hS 14 0 rfl rfl (fOk_end hie hf (f0_ne hf0)) dX10_findHeights_56 (fun H locs hP hD hS => ?_)
        have hP : va_P D vwCl (MW cy a J I (va_up R 14 (upd m0_7 v6_7.toNatClampNeg 0)) RJ) H := hP
        have hD : va_D A (MW cy a J I (va_up R 14 (upd m0_7 v6_7.toNatClampNeg 0)) RJ) := hD
        refine lv_iconst (v := 1) hx hb dX10_findHeights_57 (by decide) ?_
        refine lv_istore (lv' := [(7, .int 1), (0, .ref (a 0)), (1, .long x0), (3, .long x1), (5, .ref (a 14)), (6, .int v6_7)]) hx hb dX10_findHeights_58 hl (by decide) rfl (fun ls hl => ?_)
        exact lp60 _ true (upd m0_7 v6_7.toNatClampNeg 0) (hB_1 hie ha (fOk_end hie hf (f0_ne hf0))) (hV_0 hie ha (hfI_e hie hfm hf0) hf0) (fun z => absurd z (by decide)) (Nat.lt_succ_self _) _ _ hP hD hS ls (lv_sub hl [1, 2, 3, 4, 0] rfl)
      · obtain ⟨j, hj, he⟩ := gw_lt (N := 81) (by decide) hi c_41
        rw [he] at hl
        refine lv_aload hx hb dX10_findHeights_12 (lv_at hl 3 rfl) ?_
        refine lv_iload hx hb dX10_findHeights_14 (lv_at hl 5 rfl) ?_
        refine lv_ldc (v := 1000000) hx hb hown hw0 dX10_findHeights_16 ?_
        refine va_iast hx hb hK hP hD hS 14 0 rfl rfl (vp_in_nI (by omega) (by decide)) dX10_findHeights_18 (fun H locs hP hD hS => ?_)
        have hP : va_P D vwCl (MW cy a J I (va_up R 14 (upd m0_7 (nI j).toNatClampNeg 1000000)) RJ) H := hP
        have hD : va_D A (MW cy a J I (va_up R 14 (upd m0_7 (nI j).toNatClampNeg 1000000)) RJ) := hD
        refine lv_aload_n hx hb dX10_findHeights_19 rfl (lv_at hl 0 rfl) ?_
        refine lv_iload hx hb dX10_findHeights_20 (lv_at hl 5 rfl) ?_
        refine lv_bipush (v := 9) hx hb dX10_findHeights_22 (by decide) ?_
        refine lv_irem hx hb dX10_findHeights_24 (by decide) ?_
        refine lv_iload hx hb dX10_findHeights_25 (lv_at hl 5 rfl) ?_
        refine lv_bipush (v := 9) hx hb dX10_findHeights_27 (by decide) ?_
        refine lv_idiv hx hb dX10_findHeights_29 (by decide) ?_
        refine kR_i (As := [.int ((nI j) - (nI j) / 9 * 9), .int ((nI j) / 9)]) (rest := []) (q0 := 0) ⟨hx, hb, hml, hown, hts⟩ (c_X10_isPoint l D cy a _ J I (va_up R 14 (upd m0_7 (nI j).toNatClampNeg 1000000)) RJ ((nI j) - (nI j) / 9 * 9) ((nI j) / 9) ) (cwV 2 hts gX10_findHeights_X10_isPoint rfl rfl rfl (by decide +kernel) ⟨Nat.le_of_ble_eq_true rfl, Nat.le_of_ble_eq_true rfl⟩) hK hN hP hD rfl rfl rfl hl.1 rfl (Nat.le_of_ble_eq_true rfl) dX10_findHeights_30 ⟨Nat.le_of_ble_eq_true rfl, Nat.le_of_ble_eq_true rfl⟩ ?_
        refine lv_if_eq (tgt := 41) hx hb dX10_findHeights_33 (by decide) (fun c_42 => ?_) (fun c_42 => ?_)
        · replace c_42 := bI_f c_42
          refine lv_iload hx hb dX10_findHeights_41 (lv_at hl 4 rfl) ?_
          refine lv_istore (lv' := [(6, .int v6_7), (0, .ref (a 0)), (1, .long x0), (3, .long x1), (5, .ref (a 14)), (7, .int (nI j))]) hx hb dX10_findHeights_43 hl (by decide) rfl (fun ls hl => ?_)
          refine lv_iinc (v := nI (81 - (i + 1)) - 1) (lv' := [(7, .int (nI (81 - (i + 1)) - 1)), (6, .int v6_7), (0, .ref (a 0)), (1, .long x0), (3, .long x1), (5, .ref (a 14))]) hx hb dX10_findHeights_45 hl (k := 5) rfl (gw_dec hj) (by decide) rfl (fun ls hl => ?_)
          refine lv_goto (tgt := 7) hx hb dX10_findHeights_48 (by decide) ?_
          exact ih7 (i + 1) v6_7 (upd m0_7 (nI j).toNatClampNeg 1000000) (by omega) (fOk_f hj hf c_42) (aF_s hj ha) (hfI_f hj hfm c_42) (by omega) _ _ hP hD hS ls (lv_sub hl [2, 3, 4, 5, 1, 0] rfl)
        · replace c_42 := bI_t c_42
          refine lv_iload hx hb dX10_findHeights_36 (lv_at hl 5 rfl) ?_
          refine lv_goto (tgt := 43) hx hb dX10_findHeights_38 (by decide) ?_
          refine lv_istore (lv' := [(6, .int (nI j)), (0, .ref (a 0)), (1, .long x0), (3, .long x1), (5, .ref (a 14)), (7, .int (nI j))]) hx hb dX10_findHeights_43 hl (by decide) rfl (fun ls hl => ?_)
          refine lv_iinc (v := nI (81 - (i + 1)) - 1) (lv' := [(7, .int (nI (81 - (i + 1)) - 1)), (6, .int (nI j)), (0, .ref (a 0)), (1, .long x0), (3, .long x1), (5, .ref (a 14))]) hx hb dX10_findHeights_45 hl (k := 5) rfl (gw_dec hj) (by decide) rfl (fun ls hl => ?_)
          refine lv_goto (tgt := 7) hx hb dX10_findHeights_48 (by decide) ?_
          exact ih7 (i + 1) (nI j) (upd m0_7 (nI j).toNatClampNeg 1000000) (by omega) (fOk_t hj) (aF_s hj ha) (hfI_t hj c_42) (by omega) _ _ hP hD hS ls (lv_sub hl [2, 3, 4, 5, 1, 0] rfl)
  refine lv_iconst (v := (-1)) hx hb dX10_findHeights_0 (by decide) ?_
  refine lv_istore (lv' := [(6, .int (-1)), (0, .ref (a 0)), (1, .long x0), (3, .long x1), (5, .ref (a 14))]) hx hb dX10_findHeights_1 hl (by decide) rfl (fun ls hl => ?_)
  refine lv_bipush (v := 80) hx hb dX10_findHeights_3 (by decide) ?_
  refine wtop_i (y := nI (81 - 0) - 1) (by decide) ?_
  refine lv_istore (lv' := [(7, .int (nI (81 - 0) - 1)), (6, .int (-1)), (0, .ref (a 0)), (1, .long x0), (3, .long x1), (5, .ref (a 14))]) hx hb dX10_findHeights_5 hl (by decide) rfl (fun ls hl => ?_)
  exact lp7 _ 0 ((-1) : Int32) (R 14) (by omega) fOk_0 aF_0 hfI_0 (Nat.lt_succ_self _) _ _ hP hD hS ls (lv_sub hl [2, 3, 4, 5, 1, 0] rfl)
