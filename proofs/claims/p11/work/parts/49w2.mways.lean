set_option maxHeartbeats 4000000 in
set_option maxRecDepth 100000 in
theorem x_X10_findWays (l : Launch) (D : va_G) (cy : Nat → ClassId) (a : Nat → Nat) (sz : Nat) (J : Nat → Int64) (I : Nat → Int32) (R : Nat → Nat → Int32) (RJ : Nat → Nat → Int64)  : Met l yX10_findWays wsX10_findWays ({ frames := 2, cells := 0, slots := 0, locals := 46 }) (va_Pc [.ref (a 0)] (PW D cy sz (MW cy a J I R RJ))) (va_Qv (fun (u : MS) => ∃ (w0 : Nat → Int32), ((wE (bfx (J 0)) (may (J 0) (J 21) (J 19) (J 20) false) (may (J 0) (J 21) (J 19) (J 20) true) w0 (64 - 64))) ∧ u = (J, I, (va_up R 12 w0), RJ)) (BW D (va_A (MW cy a J I R RJ) sz) (MWu cy a)) (va_A (MW cy a J I R RJ) sz)) 0 0 (va_A (MW cy a J I R RJ) sz) := by
  refine Met.ofW (cc := cX10_findWays) (maxL := 8) (ret := none) (by decide) rfl ?_
  intro p e s m args below meth c s₁ B hml hv
  obtain ⟨rfl, rfl, hP, hK, hN, hD0⟩ := hv
  have hx := B.exec
  have hb := B.bytes
  have hr := B.returns
  have hts := atoms_spec (ws := wsX10_findWays) B.pre
  have hown : s.vm.findClass RX10 = some m.cls := findClass_of_methodNamed B.named
  have hlocks := B.notSynchronized
  have hw0 := hts (.fieldLink RX10 45 "ParquetLayerModel" "ways" "[I") (by decide +kernel)
  have hw1 := hts (.fieldLink RX10 81 "ParquetLayerModel" "floor" "J") (by decide +kernel)
  have hi10 := ihX10_findWays_10
  have hD := hD0.self (sz := s.heap.size)
  generalize hAe : va_A (MW cy a J I R RJ) s.heap.size = A at hD ⊢
  have hA : ∀ q : Nat, s.heap.size ≤ q → A q := fun q h => by rw [← hAe]; exact Or.inr h
  have hS : va_S A s.heap s.heap [] := va_S.rf
  have hl := lv_entry ([.ref (a 0)]) (n := 8) (Nat.le_of_ble_eq_true rfl)
  rw [lg_entry_eq]
  generalize (lg_sl ([.ref (a 0)]) ++ List.replicate (8 - (lg_sl ([.ref (a 0)])).length) Slot.unset).toArray = ls at hl ⊢
  have hl : lv_has ls 8 [(0, .ref (a 0))] := hl
  have hP : va_P D vwCl (MW cy a J I (va_up R 12 (R 12)) RJ) s.heap := hP
  have hD : va_D A (MW cy a J I (va_up R 12 (R 12)) RJ) := hD
  have lp37 : ∀ (n37 : Nat), ∀ (i : Nat) (m0_37 : Nat → Int32), (i ≤ 64) → (wE (bfx (J 0)) (may (J 0) (J 21) (J 19) (J 20) false) (may (J 0) (J 21) (J 19) (J 20) true) m0_37 (64 - i)) → (64 - i) < n37 → ∀ (H : Heap) (locs : List Loc), va_P D vwCl (MW cy a J I (va_up R 12 m0_37) RJ) H → va_D A (MW cy a J I (va_up R 12 m0_37) RJ) → va_S A s.heap H locs → ∀ (ls : Array Slot), lv_has ls 8 [(0, .ref (a 0)), (1, .int (nI (64 - i) - 1))] → W p l e (headSpec wsX10_findWays ({ frames := 2, cells := 0, slots := 0, locals := 46 })).room s m ([.ref (a 0)] : List Value).toArray below meth c H locs 0 0 (MQ below (va_Qv (fun (u : MS) => ∃ (w0 : Nat → Int32), ((wE (bfx (J 0)) (may (J 0) (J 21) (J 19) (J 20) false) (may (J 0) (J 21) (J 19) (J 20) true) w0 (64 - 64))) ∧ u = (J, I, (va_up R 12 w0), RJ)) (BW D A (MWu cy a)) A) ([.ref (a 0)] : List Value).toArray s 0 0 A) (F0 m 37 ls []) := by
    intro n37
    induction n37 with
    | zero => intro i m0_37 hi hwx hn; exact absurd hn (Nat.not_lt_zero _)
    | succ n37 ih37 =>
      intro i m0_37 hi hwx hn37 H locs hP hD hS ls hl
      have lp68 : ∀ (n68 : Nat), ∀ (mk : Nat) (j : Nat) (v2_68 : Bool) (v3_68 : Bool) (v4_68 : Bool) (m0_68 : Nat → Int32), (mk ≤ 256) → (i + j = 63) → (v2_68 = bfx (J 0) j) → (v3_68 = (may (J 0) (J 21) (J 19) (J 20) false) j) → (v4_68 = (may (J 0) (J 21) (J 19) (J 20) true) j) → (wEr (bfx (J 0)) (may (J 0) (J 21) (J 19) (J 20) false) (may (J 0) (J 21) (J 19) (J 20) true) m0_68 j mk) → (256 - mk) < n68 → ∀ (H : Heap) (locs : List Loc), va_P D vwCl (MW cy a J I (va_up R 12 m0_68) RJ) H → va_D A (MW cy a J I (va_up R 12 m0_68) RJ) → va_S A s.heap H locs → ∀ (ls : Array Slot), lv_has ls 8 [(0, .ref (a 0)), (1, .int (nI j)), (2, .int (bI v2_68)), (3, .int (bI v3_68)), (4, .int (bI v4_68)), (5, .int (nI mk))] → W p l e (headSpec wsX10_findWays ({ frames := 2, cells := 0, slots := 0, locals := 46 })).room s m ([.ref (a 0)] : List Value).toArray below meth c H locs 0 0 (MQ below (va_Qv (fun (u : MS) => ∃ (w0 : Nat → Int32), ((wE (bfx (J 0)) (may (J 0) (J 21) (J 19) (J 20) false) (may (J 0) (J 21) (J 19) (J 20) true) w0 (64 - 64))) ∧ u = (J, I, (va_up R 12 w0), RJ)) (BW D A (MWu cy a)) A) ([.ref (a 0)] : List Value).toArray s 0 0 A) (F0 m 68 ls []) := by
        intro n68
        induction n68 with
        | zero => intro mk j v2_68 v3_68 v4_68 m0_68 hmk hj ho ha hbb hwx hn; exact absurd hn (Nat.not_lt_zero _)
        | succ n68 ih68 =>
          intro mk j v2_68 v3_68 v4_68 m0_68 hmk hj ho ha hbb hwx hn68 H locs hP hD hS ls hl
          have lp191 : ∀ (v7_191 : Int32) (m0_191 : Nat → Int32), (wEr (bfx (J 0)) (may (J 0) (J 21) (J 19) (J 20) false) (may (J 0) (J 21) (J 19) (J 20) true) m0_191 j mk) → (mk < 256) → (v7_191 = Wm (bfx (J 0)) (may (J 0) (J 21) (J 19) (J 20) false) (may (J 0) (J 21) (J 19) (J 20) true) (64 - j) mk) → ∀ (H : Heap) (locs : List Loc), va_P D vwCl (MW cy a J I (va_up R 12 m0_191) RJ) H → va_D A (MW cy a J I (va_up R 12 m0_191) RJ) → va_S A s.heap H locs → ∀ (ls : Array Slot), lv_has ls 8 [(0, .ref (a 0)), (1, .int (nI j)), (2, .int (bI v2_68)), (3, .int (bI v3_68)), (4, .int (bI v4_68)), (5, .int (nI mk)), (7, .int v7_191)] → W p l e (headSpec wsX10_findWays ({ frames := 2, cells := 0, slots := 0, locals := 46 })).room s m ([.ref (a 0)] : List Value).toArray below meth c H locs 0 0 (MQ below (va_Qv (fun (u : MS) => ∃ (w0 : Nat → Int32), ((wE (bfx (J 0)) (may (J 0) (J 21) (J 19) (J 20) false) (may (J 0) (J 21) (J 19) (J 20) true) w0 (64 - 64))) ∧ u = (J, I, (va_up R 12 w0), RJ)) (BW D A (MWu cy a)) A) ([.ref (a 0)] : List Value).toArray s 0 0 A) (F0 m 191 ls []) := by
            intro v7_191 m0_191 hwx hlt_mk hv H locs hP hD hS ls hl
            refine lv_aload_n hx hb dX10_findWays_191 rfl (lv_at hl 0 rfl) ?_
            refine va_get (D := D) (ci := 9) (v := .ref (a 12)) (C := RX10) (T := TX10) (N := 30) hx hb hts hi10 hown hK hP 0 rfl rfl 18 (by decide) hw0 (fun _ h9 => h9) rfl dX10_findWays_192 ?_
            refine lv_sipush (v := 256) hx hb dX10_findWays_195 (by decide) ?_
            refine lv_iload_n hx hb dX10_findWays_198 rfl (lv_at hl 1 rfl) ?_
            refine lv_imul hx hb dX10_findWays_199 ?_
            refine lv_iload hx hb dX10_findWays_200 (lv_at hl 5 rfl) ?_
            refine lv_iadd hx hb dX10_findWays_202 ?_
            refine lv_iload hx hb dX10_findWays_203 (lv_at hl 6 rfl) ?_
            refine va_iast hx hb hK hP hD hS 12 0 rfl rfl (ix_w (by omega) hlt_mk) dX10_findWays_205 (fun H locs hP hD hS => ?_)
            have hP : va_P D vwCl (MW cy a J I (va_up R 12 (upd m0_191 ((256 * (nI j)) + (nI mk)).toNatClampNeg v7_191)) RJ) H := hP
            have hD : va_D A (MW cy a J I (va_up R 12 (upd m0_191 ((256 * (nI j)) + (nI mk)).toNatClampNeg v7_191)) RJ) := hD
            refine lv_iinc (v := nI (mk + 1)) (lv' := [(5, .int (nI (mk + 1))), (0, .ref (a 0)), (1, .int (nI j)), (2, .int (bI v2_68)), (3, .int (bI v3_68)), (4, .int (bI v4_68)), (7, .int v7_191)]) hx hb dX10_findWays_206 hl (k := 5) rfl (nI_1 _) (by decide) rfl (fun ls hl => ?_)
            refine lv_goto (tgt := 68) hx hb dX10_findWays_209 (by decide) ?_
            exact ih68 (mk + 1) j v2_68 v3_68 v4_68 (upd m0_191 ((256 * (nI j)) + (nI mk)).toNatClampNeg v7_191) hlt_mk hj ho ha hbb (wE_up hwx (by omega) hlt_mk hv) (lt_dec hlt_mk hn68) _ _ hP hD hS ls (lv_sub hl [1, 2, 3, 4, 5, 0] rfl)
          refine lv_iload hx hb dX10_findWays_68 (lv_at hl 5 rfl) ?_
          refine lv_sipush (v := 256) hx hb dX10_findWays_70 (by decide) ?_
          refine lv_icmp_ge (tgt := 212) hx hb dX10_findWays_73 (by decide) (fun c_1 => ?_) (fun c_1 => ?_)
          · have hme := ctr_ge (N := 256) (by decide) hmk c_1
            refine lv_iinc (v := nI (64 - (i + 1)) - 1) (lv' := [(1, .int (nI (64 - (i + 1)) - 1)), (0, .ref (a 0)), (2, .int (bI v2_68)), (3, .int (bI v3_68)), (4, .int (bI v4_68)), (5, .int (nI mk))]) hx hb dX10_findWays_212 hl (k := 1) rfl (fw_dec hj) (by decide) rfl (fun ls hl => ?_)
            refine lv_goto (tgt := 37) hx hb dX10_findWays_215 (by decide) ?_
            exact ih37 (i + 1) m0_68 (by omega) (wE_end hwx hme hj) (by omega) _ _ hP hD hS ls (lv_sub hl [1, 0] rfl)
          · have hlt_mk := ctr_lt (N := 256) (by decide) hmk c_1
            refine lv_iload hx hb dX10_findWays_76 (lv_at hl 5 rfl) ?_
            refine lv_iconst (v := 1) hx hb dX10_findWays_78 (by decide) ?_
            refine lv_ishr hx hb dX10_findWays_79 ?_
            refine wtop_i (y := nI (mk / 2)) (pk_shrN (by omega) _ 1 (by decide)) ?_
            refine lv_istore (lv' := [(6, .int (nI (mk / 2))), (0, .ref (a 0)), (1, .int (nI j)), (2, .int (bI v2_68)), (3, .int (bI v3_68)), (4, .int (bI v4_68)), (5, .int (nI mk))]) hx hb dX10_findWays_80 hl (by decide) rfl (fun ls hl => ?_)
            refine lv_iconst (v := 0) hx hb dX10_findWays_82 (by decide) ?_
            refine lv_istore (lv' := [(7, .int 0), (6, .int (nI (mk / 2))), (0, .ref (a 0)), (1, .int (nI j)), (2, .int (bI v2_68)), (3, .int (bI v3_68)), (4, .int (bI v4_68)), (5, .int (nI mk))]) hx hb dX10_findWays_83 hl (by decide) rfl (fun ls hl => ?_)
            refine lv_iload hx hb dX10_findWays_85 (lv_at hl 7 rfl) ?_
            refine lv_iconst (v := 1) hx hb dX10_findWays_87 (by decide) ?_
            refine lv_iand hx hb dX10_findWays_88 ?_
            refine lv_iconst (v := 1) hx hb dX10_findWays_89 (by decide) ?_
            refine lv_icmp_ne (tgt := 115) hx hb dX10_findWays_90 (by decide) (fun c_2 => ?_) (fun c_2 => ?_)
            · refine lv_iload_n hx hb dX10_findWays_115 rfl (lv_at hl 4 rfl) ?_
              refine lv_if_ne (tgt := 133) hx hb dX10_findWays_116 (by decide) (fun c_3 => ?_) (fun c_3 => ?_)
              · replace c_3 := bI_t c_3
                refine lv_iload hx hb dX10_findWays_133 (lv_at hl 0 rfl) ?_
                refine lv_iload_n hx hb dX10_findWays_135 rfl (lv_at hl 5 rfl) ?_
                refine lv_if_eq (tgt := 160) hx hb dX10_findWays_136 (by decide) (fun c_4 => ?_) (fun c_4 => ?_)
                · replace c_4 := bI_f c_4
                  refine lv_iconst (v := 0) hx hb dX10_findWays_160 (by decide) ?_
                  refine lv_iadd hx hb dX10_findWays_161 ?_
                  refine wtop_i (y := 0) (by decide) ?_
                  refine lv_istore (lv' := [(7, .int 0), (6, .int (nI (mk / 2))), (0, .ref (a 0)), (1, .int (nI j)), (2, .int (bI v2_68)), (3, .int (bI v3_68)), (4, .int (bI v4_68)), (5, .int (nI mk))]) hx hb dX10_findWays_162 hl (by decide) rfl (fun ls hl => ?_)
                  refine lv_iload hx hb dX10_findWays_164 (lv_at hl 0 rfl) ?_
                  refine lv_iload hx hb dX10_findWays_166 (lv_at hl 6 rfl) ?_
                  refine lv_if_eq (tgt := 187) hx hb dX10_findWays_168 (by decide) (fun c_5 => ?_) (fun c_5 => ?_)
                  · replace c_5 := bI_f c_5
                    refine lv_iconst (v := 0) hx hb dX10_findWays_187 (by decide) ?_
                    refine lv_iadd hx hb dX10_findWays_188 ?_
                    refine wtop_i (y := 0) (by decide) ?_
                    refine lv_istore (lv' := [(7, .int 0), (6, .int (nI (mk / 2))), (0, .ref (a 0)), (1, .int (nI j)), (2, .int (bI v2_68)), (3, .int (bI v3_68)), (4, .int (bI v4_68)), (5, .int (nI mk))]) hx hb dX10_findWays_189 hl (by decide) rfl (fun ls hl => ?_)
                    exact lp191 (0 : Int32) m0_68 hwx hlt_mk (we_4 (by omega) hlt_mk ho c_2 c_3 (wa_n1 ha c_4) (wb_n hbb c_5))  _ _ hP hD hS ls (lv_sub hl [2, 3, 4, 5, 6, 7, 0] rfl)
                  · replace c_5 := bI_t c_5
                    refine lv_aload_n hx hb dX10_findWays_171 rfl (lv_at hl 2 rfl) ?_
                    refine lv_iload_n hx hb dX10_findWays_172 rfl (lv_at hl 3 rfl) ?_
                    refine lv_iconst (v := 1) hx hb dX10_findWays_173 (by decide) ?_
                    refine lv_iadd hx hb dX10_findWays_174 ?_
                    refine wtop_i (y := nI (j + 1)) (nI_1 _) ?_
                    refine lv_iload hx hb dX10_findWays_175 (lv_at hl 1 rfl) ?_
                    refine lv_sipush (v := 128) hx hb dX10_findWays_177 (by decide) ?_
                    refine lv_ior hx hb dX10_findWays_180 ?_
                    refine wtop_i (y := nI (mk / 2 + 128)) (or128_t ⟨mk / 2, by omega⟩) ?_
                    refine kR_i (As := [.int (nI (j + 1)), .int (nI (mk / 2 + 128))]) (rest := [.int 0]) (q0 := 0) ⟨hx, hb, hml, hown, hts⟩ (c_X10_waysAt l D cy a _ J I (va_up R 12 m0_68) RJ (nI (j + 1)) (nI (mk / 2 + 128)) (ix_w (by omega) (by omega))) (cwV 2 hts gX10_findWays_X10_waysAt rfl rfl rfl (by decide +kernel) ⟨Nat.le_of_ble_eq_true rfl, Nat.le_of_ble_eq_true rfl⟩) hK hN hP hD rfl rfl rfl hl.1 rfl (Nat.le_of_ble_eq_true rfl) dX10_findWays_181 ⟨Nat.le_of_ble_eq_true rfl, Nat.le_of_ble_eq_true rfl⟩ ?_
                    refine lv_goto (tgt := 188) hx hb dX10_findWays_184 (by decide) ?_
                    refine lv_iadd hx hb dX10_findWays_188 ?_
                    refine lv_istore (lv' := [(7, .int (0 + (m0_68 ((256 : Int32) * (nI (j + 1)) + (nI (mk / 2 + 128))).toNatClampNeg))), (6, .int (nI (mk / 2))), (0, .ref (a 0)), (1, .int (nI j)), (2, .int (bI v2_68)), (3, .int (bI v3_68)), (4, .int (bI v4_68)), (5, .int (nI mk))]) hx hb dX10_findWays_189 hl (by decide) rfl (fun ls hl => ?_)
                    exact lp191 (0 + (m0_68 ((256 : Int32) * (nI (j + 1)) + (nI (mk / 2 + 128))).toNatClampNeg)) m0_68 hwx hlt_mk (we_5 (by omega) hlt_mk ho c_2 c_3 (wa_n1 ha c_4) (wb_y hwx (by omega) hlt_mk hbb c_5))  _ _ hP hD hS ls (lv_sub hl [2, 3, 4, 5, 6, 7, 0] rfl)
                · replace c_4 := bI_t c_4
                  refine lv_iload hx hb dX10_findWays_139 (lv_at hl 7 rfl) ?_
                  refine lv_iconst (v := 2) hx hb dX10_findWays_141 (by decide) ?_
                  refine lv_iand hx hb dX10_findWays_142 ?_
                  refine lv_if_ne (tgt := 160) hx hb dX10_findWays_143 (by decide) (fun c_6 => ?_) (fun c_6 => ?_)
                  · refine lv_iconst (v := 0) hx hb dX10_findWays_160 (by decide) ?_
                    refine lv_iadd hx hb dX10_findWays_161 ?_
                    refine wtop_i (y := 0) (by decide) ?_
                    refine lv_istore (lv' := [(7, .int 0), (6, .int (nI (mk / 2))), (0, .ref (a 0)), (1, .int (nI j)), (2, .int (bI v2_68)), (3, .int (bI v3_68)), (4, .int (bI v4_68)), (5, .int (nI mk))]) hx hb dX10_findWays_162 hl (by decide) rfl (fun ls hl => ?_)
                    refine lv_iload hx hb dX10_findWays_164 (lv_at hl 0 rfl) ?_
                    refine lv_iload hx hb dX10_findWays_166 (lv_at hl 6 rfl) ?_
                    refine lv_if_eq (tgt := 187) hx hb dX10_findWays_168 (by decide) (fun c_7 => ?_) (fun c_7 => ?_)
                    · replace c_7 := bI_f c_7
                      refine lv_iconst (v := 0) hx hb dX10_findWays_187 (by decide) ?_
                      refine lv_iadd hx hb dX10_findWays_188 ?_
                      refine wtop_i (y := 0) (by decide) ?_
                      refine lv_istore (lv' := [(7, .int 0), (6, .int (nI (mk / 2))), (0, .ref (a 0)), (1, .int (nI j)), (2, .int (bI v2_68)), (3, .int (bI v3_68)), (4, .int (bI v4_68)), (5, .int (nI mk))]) hx hb dX10_findWays_189 hl (by decide) rfl (fun ls hl => ?_)
                      exact lp191 (0 : Int32) m0_68 hwx hlt_mk (we_4 (by omega) hlt_mk ho c_2 c_3 (wa_n2 hlt_mk c_6) (wb_n hbb c_7))  _ _ hP hD hS ls (lv_sub hl [2, 3, 4, 5, 6, 7, 0] rfl)
                    · replace c_7 := bI_t c_7
                      refine lv_aload_n hx hb dX10_findWays_171 rfl (lv_at hl 2 rfl) ?_
                      refine lv_iload_n hx hb dX10_findWays_172 rfl (lv_at hl 3 rfl) ?_
                      refine lv_iconst (v := 1) hx hb dX10_findWays_173 (by decide) ?_
                      refine lv_iadd hx hb dX10_findWays_174 ?_
                      refine wtop_i (y := nI (j + 1)) (nI_1 _) ?_
                      refine lv_iload hx hb dX10_findWays_175 (lv_at hl 1 rfl) ?_
                      refine lv_sipush (v := 128) hx hb dX10_findWays_177 (by decide) ?_
                      refine lv_ior hx hb dX10_findWays_180 ?_
                      refine wtop_i (y := nI (mk / 2 + 128)) (or128_t ⟨mk / 2, by omega⟩) ?_
                      refine kR_i (As := [.int (nI (j + 1)), .int (nI (mk / 2 + 128))]) (rest := [.int 0]) (q0 := 0) ⟨hx, hb, hml, hown, hts⟩ (c_X10_waysAt l D cy a _ J I (va_up R 12 m0_68) RJ (nI (j + 1)) (nI (mk / 2 + 128)) (ix_w (by omega) (by omega))) (cwV 2 hts gX10_findWays_X10_waysAt rfl rfl rfl (by decide +kernel) ⟨Nat.le_of_ble_eq_true rfl, Nat.le_of_ble_eq_true rfl⟩) hK hN hP hD rfl rfl rfl hl.1 rfl (Nat.le_of_ble_eq_true rfl) dX10_findWays_181 ⟨Nat.le_of_ble_eq_true rfl, Nat.le_of_ble_eq_true rfl⟩ ?_
                      refine lv_goto (tgt := 188) hx hb dX10_findWays_184 (by decide) ?_
                      refine lv_iadd hx hb dX10_findWays_188 ?_
                      refine lv_istore (lv' := [(7, .int (0 + (m0_68 ((256 : Int32) * (nI (j + 1)) + (nI (mk / 2 + 128))).toNatClampNeg))), (6, .int (nI (mk / 2))), (0, .ref (a 0)), (1, .int (nI j)), (2, .int (bI v2_68)), (3, .int (bI v3_68)), (4, .int (bI v4_68)), (5, .int (nI mk))]) hx hb dX10_findWays_189 hl (by decide) rfl (fun ls hl => ?_)
                      exact lp191 (0 + (m0_68 ((256 : Int32) * (nI (j + 1)) + (nI (mk / 2 + 128))).toNatClampNeg)) m0_68 hwx hlt_mk (we_5 (by omega) hlt_mk ho c_2 c_3 (wa_n2 hlt_mk c_6) (wb_y hwx (by omega) hlt_mk hbb c_7))  _ _ hP hD hS ls (lv_sub hl [2, 3, 4, 5, 6, 7, 0] rfl)
                  · refine lv_aload_n hx hb dX10_findWays_146 rfl (lv_at hl 2 rfl) ?_
                    refine lv_iload_n hx hb dX10_findWays_147 rfl (lv_at hl 3 rfl) ?_
                    refine lv_iconst (v := 1) hx hb dX10_findWays_148 (by decide) ?_
                    refine lv_iadd hx hb dX10_findWays_149 ?_
                    refine wtop_i (y := nI (j + 1)) (nI_1 _) ?_
                    refine lv_iload hx hb dX10_findWays_150 (lv_at hl 1 rfl) ?_
                    refine lv_iconst (v := 1) hx hb dX10_findWays_152 (by decide) ?_
                    refine lv_ior hx hb dX10_findWays_153 ?_
                    refine wtop_i (y := nI (mk / 2 / 2 * 2 + 1)) (or1_t ⟨mk / 2, by omega⟩) ?_
                    refine kR_i (As := [.int (nI (j + 1)), .int (nI (mk / 2 / 2 * 2 + 1))]) (rest := [.int 0]) (q0 := 0) ⟨hx, hb, hml, hown, hts⟩ (c_X10_waysAt l D cy a _ J I (va_up R 12 m0_68) RJ (nI (j + 1)) (nI (mk / 2 / 2 * 2 + 1)) (ix_w (by omega) (by omega))) (cwV 2 hts gX10_findWays_X10_waysAt rfl rfl rfl (by decide +kernel) ⟨Nat.le_of_ble_eq_true rfl, Nat.le_of_ble_eq_true rfl⟩) hK hN hP hD rfl rfl rfl hl.1 rfl (Nat.le_of_ble_eq_true rfl) dX10_findWays_154 ⟨Nat.le_of_ble_eq_true rfl, Nat.le_of_ble_eq_true rfl⟩ ?_
                    refine lv_goto (tgt := 161) hx hb dX10_findWays_157 (by decide) ?_
                    refine lv_iadd hx hb dX10_findWays_161 ?_
                    refine lv_istore (lv' := [(7, .int (0 + (m0_68 ((256 : Int32) * (nI (j + 1)) + (nI (mk / 2 / 2 * 2 + 1))).toNatClampNeg))), (6, .int (nI (mk / 2))), (0, .ref (a 0)), (1, .int (nI j)), (2, .int (bI v2_68)), (3, .int (bI v3_68)), (4, .int (bI v4_68)), (5, .int (nI mk))]) hx hb dX10_findWays_162 hl (by decide) rfl (fun ls hl => ?_)
                    refine lv_iload hx hb dX10_findWays_164 (lv_at hl 0 rfl) ?_
                    refine lv_iload hx hb dX10_findWays_166 (lv_at hl 6 rfl) ?_
                    refine lv_if_eq (tgt := 187) hx hb dX10_findWays_168 (by decide) (fun c_8 => ?_) (fun c_8 => ?_)
                    · replace c_8 := bI_f c_8
                      refine lv_iconst (v := 0) hx hb dX10_findWays_187 (by decide) ?_
                      refine lv_iadd hx hb dX10_findWays_188 ?_
                      refine lv_istore (lv' := [(7, .int ((0 + (m0_68 ((256 : Int32) * (nI (j + 1)) + (nI (mk / 2 / 2 * 2 + 1))).toNatClampNeg)) + 0)), (6, .int (nI (mk / 2))), (0, .ref (a 0)), (1, .int (nI j)), (2, .int (bI v2_68)), (3, .int (bI v3_68)), (4, .int (bI v4_68)), (5, .int (nI mk))]) hx hb dX10_findWays_189 hl (by decide) rfl (fun ls hl => ?_)
                      exact lp191 ((0 + (m0_68 ((256 : Int32) * (nI (j + 1)) + (nI (mk / 2 / 2 * 2 + 1))).toNatClampNeg)) + 0) m0_68 hwx hlt_mk (we_4 (by omega) hlt_mk ho c_2 c_3 (wa_y hwx (by omega) hlt_mk ha c_4 c_6) (wb_n hbb c_8))  _ _ hP hD hS ls (lv_sub hl [2, 3, 4, 5, 6, 7, 0] rfl)
                    · replace c_8 := bI_t c_8
                      refine lv_aload_n hx hb dX10_findWays_171 rfl (lv_at hl 2 rfl) ?_
                      refine lv_iload_n hx hb dX10_findWays_172 rfl (lv_at hl 3 rfl) ?_
                      refine lv_iconst (v := 1) hx hb dX10_findWays_173 (by decide) ?_
                      refine lv_iadd hx hb dX10_findWays_174 ?_
                      refine wtop_i (y := nI (j + 1)) (nI_1 _) ?_
                      refine lv_iload hx hb dX10_findWays_175 (lv_at hl 1 rfl) ?_
                      refine lv_sipush (v := 128) hx hb dX10_findWays_177 (by decide) ?_
                      refine lv_ior hx hb dX10_findWays_180 ?_
                      refine wtop_i (y := nI (mk / 2 + 128)) (or128_t ⟨mk / 2, by omega⟩) ?_
                      refine kR_i (As := [.int (nI (j + 1)), .int (nI (mk / 2 + 128))]) (rest := [.int (0 + (m0_68 ((256 : Int32) * (nI (j + 1)) + (nI (mk / 2 / 2 * 2 + 1))).toNatClampNeg))]) (q0 := 0) ⟨hx, hb, hml, hown, hts⟩ (c_X10_waysAt l D cy a _ J I (va_up R 12 m0_68) RJ (nI (j + 1)) (nI (mk / 2 + 128)) (ix_w (by omega) (by omega))) (cwV 2 hts gX10_findWays_X10_waysAt rfl rfl rfl (by decide +kernel) ⟨Nat.le_of_ble_eq_true rfl, Nat.le_of_ble_eq_true rfl⟩) hK hN hP hD rfl rfl rfl hl.1 rfl (Nat.le_of_ble_eq_true rfl) dX10_findWays_181 ⟨Nat.le_of_ble_eq_true rfl, Nat.le_of_ble_eq_true rfl⟩ ?_
                      refine lv_goto (tgt := 188) hx hb dX10_findWays_184 (by decide) ?_
                      refine lv_iadd hx hb dX10_findWays_188 ?_
                      refine lv_istore (lv' := [(7, .int ((0 + (m0_68 ((256 : Int32) * (nI (j + 1)) + (nI (mk / 2 / 2 * 2 + 1))).toNatClampNeg)) + (m0_68 ((256 : Int32) * (nI (j + 1)) + (nI (mk / 2 + 128))).toNatClampNeg))), (6, .int (nI (mk / 2))), (0, .ref (a 0)), (1, .int (nI j)), (2, .int (bI v2_68)), (3, .int (bI v3_68)), (4, .int (bI v4_68)), (5, .int (nI mk))]) hx hb dX10_findWays_189 hl (by decide) rfl (fun ls hl => ?_)
                      exact lp191 ((0 + (m0_68 ((256 : Int32) * (nI (j + 1)) + (nI (mk / 2 / 2 * 2 + 1))).toNatClampNeg)) + (m0_68 ((256 : Int32) * (nI (j + 1)) + (nI (mk / 2 + 128))).toNatClampNeg)) m0_68 hwx hlt_mk (we_4 (by omega) hlt_mk ho c_2 c_3 (wa_y hwx (by omega) hlt_mk ha c_4 c_6) (wb_y hwx (by omega) hlt_mk hbb c_8))  _ _ hP hD hS ls (lv_sub hl [2, 3, 4, 5, 6, 7, 0] rfl)
              · replace c_3 := bI_f c_3
                refine lv_aload_n hx hb dX10_findWays_119 rfl (lv_at hl 2 rfl) ?_
                refine lv_iload_n hx hb dX10_findWays_120 rfl (lv_at hl 3 rfl) ?_
                refine lv_iconst (v := 1) hx hb dX10_findWays_121 (by decide) ?_
                refine lv_iadd hx hb dX10_findWays_122 ?_
                refine wtop_i (y := nI (j + 1)) (nI_1 _) ?_
                refine lv_iload hx hb dX10_findWays_123 (lv_at hl 1 rfl) ?_
                refine kR_i (As := [.int (nI (j + 1)), .int (nI (mk / 2))]) (rest := []) (q0 := 0) ⟨hx, hb, hml, hown, hts⟩ (c_X10_waysAt l D cy a _ J I (va_up R 12 m0_68) RJ (nI (j + 1)) (nI (mk / 2)) (ix_w (by omega) (by omega))) (cwV 2 hts gX10_findWays_X10_waysAt rfl rfl rfl (by decide +kernel) ⟨Nat.le_of_ble_eq_true rfl, Nat.le_of_ble_eq_true rfl⟩) hK hN hP hD rfl rfl rfl hl.1 rfl (Nat.le_of_ble_eq_true rfl) dX10_findWays_125 ⟨Nat.le_of_ble_eq_true rfl, Nat.le_of_ble_eq_true rfl⟩ ?_
                refine lv_istore (lv' := [(7, .int (m0_68 ((256 : Int32) * (nI (j + 1)) + (nI (mk / 2))).toNatClampNeg)), (6, .int (nI (mk / 2))), (0, .ref (a 0)), (1, .int (nI j)), (2, .int (bI v2_68)), (3, .int (bI v3_68)), (4, .int (bI v4_68)), (5, .int (nI mk))]) hx hb dX10_findWays_128 hl (by decide) rfl (fun ls hl => ?_)
                refine lv_goto (tgt := 191) hx hb dX10_findWays_130 (by decide) ?_
                exact lp191 (m0_68 ((256 : Int32) * (nI (j + 1)) + (nI (mk / 2))).toNatClampNeg) m0_68 hwx hlt_mk (we_3 hwx (by omega) hlt_mk ho c_2 c_3)  _ _ hP hD hS ls (lv_sub hl [2, 3, 4, 5, 6, 7, 0] rfl)
            · refine lv_iload_n hx hb dX10_findWays_93 rfl (lv_at hl 4 rfl) ?_
              refine lv_if_eq (tgt := 109) hx hb dX10_findWays_94 (by decide) (fun c_9 => ?_) (fun c_9 => ?_)
              · replace c_9 := bI_f c_9
                refine lv_iconst (v := 0) hx hb dX10_findWays_109 (by decide) ?_
                refine lv_istore (lv' := [(7, .int 0), (6, .int (nI (mk / 2))), (0, .ref (a 0)), (1, .int (nI j)), (2, .int (bI v2_68)), (3, .int (bI v3_68)), (4, .int (bI v4_68)), (5, .int (nI mk))]) hx hb dX10_findWays_110 hl (by decide) rfl (fun ls hl => ?_)
                refine lv_goto (tgt := 191) hx hb dX10_findWays_112 (by decide) ?_
                exact lp191 (0 : Int32) m0_68 hwx hlt_mk (we_2 (by omega) hlt_mk ho c_2 c_9)  _ _ hP hD hS ls (lv_sub hl [2, 3, 4, 5, 6, 7, 0] rfl)
              · replace c_9 := bI_t c_9
                refine lv_aload_n hx hb dX10_findWays_97 rfl (lv_at hl 2 rfl) ?_
                refine lv_iload_n hx hb dX10_findWays_98 rfl (lv_at hl 3 rfl) ?_
                refine lv_iconst (v := 1) hx hb dX10_findWays_99 (by decide) ?_
                refine lv_iadd hx hb dX10_findWays_100 ?_
                refine wtop_i (y := nI (j + 1)) (nI_1 _) ?_
                refine lv_iload hx hb dX10_findWays_101 (lv_at hl 1 rfl) ?_
                refine kR_i (As := [.int (nI (j + 1)), .int (nI (mk / 2))]) (rest := []) (q0 := 0) ⟨hx, hb, hml, hown, hts⟩ (c_X10_waysAt l D cy a _ J I (va_up R 12 m0_68) RJ (nI (j + 1)) (nI (mk / 2)) (ix_w (by omega) (by omega))) (cwV 2 hts gX10_findWays_X10_waysAt rfl rfl rfl (by decide +kernel) ⟨Nat.le_of_ble_eq_true rfl, Nat.le_of_ble_eq_true rfl⟩) hK hN hP hD rfl rfl rfl hl.1 rfl (Nat.le_of_ble_eq_true rfl) dX10_findWays_103 ⟨Nat.le_of_ble_eq_true rfl, Nat.le_of_ble_eq_true rfl⟩ ?_
                refine lv_goto (tgt := 110) hx hb dX10_findWays_106 (by decide) ?_
                refine lv_istore (lv' := [(7, .int (m0_68 ((256 : Int32) * (nI (j + 1)) + (nI (mk / 2))).toNatClampNeg)), (6, .int (nI (mk / 2))), (0, .ref (a 0)), (1, .int (nI j)), (2, .int (bI v2_68)), (3, .int (bI v3_68)), (4, .int (bI v4_68)), (5, .int (nI mk))]) hx hb dX10_findWays_110 hl (by decide) rfl (fun ls hl => ?_)
                refine lv_goto (tgt := 191) hx hb dX10_findWays_112 (by decide) ?_
                exact lp191 (m0_68 ((256 : Int32) * (nI (j + 1)) + (nI (mk / 2))).toNatClampNeg) m0_68 hwx hlt_mk (we_1 hwx (by omega) hlt_mk ho c_2 c_9)  _ _ hP hD hS ls (lv_sub hl [2, 3, 4, 5, 6, 7, 0] rfl)
      refine lv_iload_n hx hb dX10_findWays_37 rfl (lv_at hl 1 rfl) ?_
      refine lv_if_lt (tgt := 218) hx hb dX10_findWays_38 (by decide) (fun c_10 => ?_) (fun c_10 => ?_)
      · have hie := fw_ge hi c_10
        exact wret_v hx hb hr hlocks (J, I, (va_up R 12 m0_37), RJ) ⟨m0_37, (by rw [hie] at hwx; exact hwx), rfl⟩ hP hD hS dX10_findWays_218
      · obtain ⟨j, hj, he⟩ := fw_lt hi c_10
        rw [he] at hl
        refine lv_aload_n hx hb dX10_findWays_41 rfl (lv_at hl 0 rfl) ?_
        refine va_get (D := D) (ci := 9) (v := .long (J 0)) (C := RX10) (T := TX10) (N := 30) hx hb hts hi10 hown hK hP 0 rfl rfl 0 (by decide) hw1 (fun _ h9 => h9) rfl dX10_findWays_42 ?_
        refine lv_iload_n hx hb dX10_findWays_45 rfl (lv_at hl 1 rfl) ?_
        refine kS_i (As := [.long (J 0), .int (nI j)]) (rest := []) ⟨hx, hb, hml, hown, hts⟩ (c_X10_hasBit l (J 0) (nI j)) (va_cwS 2 hts gX10_findWays_X10_hasBit rfl rfl rfl (by decide +kernel) ⟨Nat.le_of_ble_eq_true rfl, Nat.le_of_ble_eq_true rfl⟩) rfl hl.1 rfl (Nat.le_of_ble_eq_true rfl) dX10_findWays_46 ⟨Nat.le_of_ble_eq_true rfl, Nat.le_of_ble_eq_true rfl⟩ ?_
        refine lv_istore_n (lv' := [(2, .int (bI (m_hasBit (J 0) (nI j)))), (0, .ref (a 0)), (1, .int (nI j))]) hx hb dX10_findWays_49 rfl hl (by decide) rfl (fun ls hl => ?_)
        refine lv_aload_n hx hb dX10_findWays_50 rfl (lv_at hl 1 rfl) ?_
        refine lv_iload_n hx hb dX10_findWays_51 rfl (lv_at hl 2 rfl) ?_
        refine lv_iconst (v := 0) hx hb dX10_findWays_52 (by decide) ?_
        refine kR_i (As := [.int (nI j), .int 0]) (rest := []) (q0 := 0) ⟨hx, hb, hml, hown, hts⟩ (c_X10_mayLie l D cy a _ J I (va_up R 12 m0_37) RJ (nI j) false ) (cwV 2 hts gX10_findWays_X10_mayLie rfl rfl rfl (by decide +kernel) ⟨Nat.le_of_ble_eq_true rfl, Nat.le_of_ble_eq_true rfl⟩) hK hN hP hD rfl rfl rfl hl.1 rfl (Nat.le_of_ble_eq_true rfl) dX10_findWays_53 ⟨Nat.le_of_ble_eq_true rfl, Nat.le_of_ble_eq_true rfl⟩ ?_
        refine lv_istore_n (lv' := [(3, .int (bI (m_may (J 0) (J 21) (J 19) (J 20) (nI j) false))), (2, .int (bI (m_hasBit (J 0) (nI j)))), (0, .ref (a 0)), (1, .int (nI j))]) hx hb dX10_findWays_56 rfl hl (by decide) rfl (fun ls hl => ?_)
        refine lv_aload_n hx hb dX10_findWays_57 rfl (lv_at hl 2 rfl) ?_
        refine lv_iload_n hx hb dX10_findWays_58 rfl (lv_at hl 3 rfl) ?_
        refine lv_iconst (v := 1) hx hb dX10_findWays_59 (by decide) ?_
        refine kR_i (As := [.int (nI j), .int 1]) (rest := []) (q0 := 0) ⟨hx, hb, hml, hown, hts⟩ (c_X10_mayLie l D cy a _ J I (va_up R 12 m0_37) RJ (nI j) true ) (cwV 2 hts gX10_findWays_X10_mayLie rfl rfl rfl (by decide +kernel) ⟨Nat.le_of_ble_eq_true rfl, Nat.le_of_ble_eq_true rfl⟩) hK hN hP hD rfl rfl rfl hl.1 rfl (Nat.le_of_ble_eq_true rfl) dX10_findWays_60 ⟨Nat.le_of_ble_eq_true rfl, Nat.le_of_ble_eq_true rfl⟩ ?_
        refine lv_istore (lv' := [(4, .int (bI (m_may (J 0) (J 21) (J 19) (J 20) (nI j) true))), (3, .int (bI (m_may (J 0) (J 21) (J 19) (J 20) (nI j) false))), (2, .int (bI (m_hasBit (J 0) (nI j)))), (0, .ref (a 0)), (1, .int (nI j))]) hx hb dX10_findWays_63 hl (by decide) rfl (fun ls hl => ?_)
        refine lv_iconst (v := 0) hx hb dX10_findWays_65 (by decide) ?_
        refine lv_istore (lv' := [(5, .int 0), (4, .int (bI (m_may (J 0) (J 21) (J 19) (J 20) (nI j) true))), (3, .int (bI (m_may (J 0) (J 21) (J 19) (J 20) (nI j) false))), (2, .int (bI (m_hasBit (J 0) (nI j)))), (0, .ref (a 0)), (1, .int (nI j))]) hx hb dX10_findWays_66 hl (by decide) rfl (fun ls hl => ?_)
        exact lp68 _ 0 j (m_hasBit (J 0) (nI j)) (m_may (J 0) (J 21) (J 19) (J 20) (nI j) false) (m_may (J 0) (J 21) (J 19) (J 20) (nI j) true) m0_37 (Nat.zero_le _) hj (hb_bf _ (by omega)) (by rw [may, decide_eq_true (show j < 64 by omega), Bool.true_and]) (by rw [may, decide_eq_true (show j < 64 by omega), Bool.true_and]) (wE_j hwx hj) (Nat.lt_succ_self _) _ _ hP hD hS ls (lv_sub hl [4, 5, 3, 2, 1, 0] rfl)
  have lp2 : ∀ (n2 : Nat), ∀ (i : Nat) (m0_2 : Nat → Int32), (i ≤ 256) → (∀ m, m < i → m0_2 (16384 + m) = if m = 0 then 1 else 0) → (256 - i) < n2 → ∀ (H : Heap) (locs : List Loc), va_P D vwCl (MW cy a J I (va_up R 12 m0_2) RJ) H → va_D A (MW cy a J I (va_up R 12 m0_2) RJ) → va_S A s.heap H locs → ∀ (ls : Array Slot), lv_has ls 8 [(0, .ref (a 0)), (1, .int (nI i))] → W p l e (headSpec wsX10_findWays ({ frames := 2, cells := 0, slots := 0, locals := 46 })).room s m ([.ref (a 0)] : List Value).toArray below meth c H locs 0 0 (MQ below (va_Qv (fun (u : MS) => ∃ (w0 : Nat → Int32), ((wE (bfx (J 0)) (may (J 0) (J 21) (J 19) (J 20) false) (may (J 0) (J 21) (J 19) (J 20) true) w0 (64 - 64))) ∧ u = (J, I, (va_up R 12 w0), RJ)) (BW D A (MWu cy a)) A) ([.ref (a 0)] : List Value).toArray s 0 0 A) (F0 m 2 ls []) := by
    intro n2
    induction n2 with
    | zero => intro i m0_2 hi hwx hn; exact absurd hn (Nat.not_lt_zero _)
    | succ n2 ih2 =>
      intro i m0_2 hi hwx hn2 H locs hP hD hS ls hl
      refine lv_iload_n hx hb dX10_findWays_2 rfl (lv_at hl 1 rfl) ?_
      refine lv_sipush (v := 256) hx hb dX10_findWays_3 (by decide) ?_
      refine lv_icmp_ge (tgt := 34) hx hb dX10_findWays_6 (by decide) (fun c_11 => ?_) (fun c_11 => ?_)
      · have hie := ctr_ge (N := 256) (by decide) hi c_11
        refine lv_bipush (v := 63) hx hb dX10_findWays_34 (by decide) ?_
        refine wtop_i (y := nI (64 - 0) - 1) (by decide) ?_
        refine lv_istore_n (lv' := [(1, .int (nI (64 - 0) - 1)), (0, .ref (a 0))]) hx hb dX10_findWays_36 rfl hl (by decide) rfl (fun ls hl => ?_)
        exact lp37 _ 0 m0_2 (by omega) (wE_0 hwx hie) (Nat.lt_succ_self _) _ _ hP hD hS ls (lv_sub hl [1, 0] rfl)
      · have hlt_i := ctr_lt (N := 256) (by decide) hi c_11
        refine lv_aload_n hx hb dX10_findWays_9 rfl (lv_at hl 0 rfl) ?_
        refine va_get (D := D) (ci := 9) (v := .ref (a 12)) (C := RX10) (T := TX10) (N := 30) hx hb hts hi10 hown hK hP 0 rfl rfl 18 (by decide) hw0 (fun _ h9 => h9) rfl dX10_findWays_10 ?_
        refine lv_sipush (v := 16384) hx hb dX10_findWays_13 (by decide) ?_
        refine lv_iload_n hx hb dX10_findWays_16 rfl (lv_at hl 1 rfl) ?_
        refine lv_iadd hx hb dX10_findWays_17 ?_
        refine lv_iload_n hx hb dX10_findWays_18 rfl (lv_at hl 1 rfl) ?_
        refine lv_if_ne (tgt := 26) hx hb dX10_findWays_19 (by decide) (fun c_12 => ?_) (fun c_12 => ?_)
        · refine lv_iconst (v := 0) hx hb dX10_findWays_26 (by decide) ?_
          refine va_iast hx hb hK hP hD hS 12 0 rfl rfl (ix16384 hlt_i) dX10_findWays_27 (fun H locs hP hD hS => ?_)
          have hP : va_P D vwCl (MW cy a J I (va_up R 12 (upd m0_2 (16384 + (nI i)).toNatClampNeg 0)) RJ) H := hP
          have hD : va_D A (MW cy a J I (va_up R 12 (upd m0_2 (16384 + (nI i)).toNatClampNeg 0)) RJ) := hD
          refine lv_iinc (v := nI (i + 1)) (lv' := [(1, .int (nI (i + 1))), (0, .ref (a 0))]) hx hb dX10_findWays_28 hl (k := 1) rfl (nI_1 _) (by decide) rfl (fun ls hl => ?_)
          refine lv_goto (tgt := 2) hx hb dX10_findWays_31 (by decide) ?_
          exact ih2 (i + 1) (upd m0_2 (16384 + (nI i)).toNatClampNeg 0) (by omega) (wE_u hwx hlt_i (i1 c_12)) (by omega) _ _ hP hD hS ls (lv_sub hl [1, 0] rfl)
        · refine lv_iconst (v := 1) hx hb dX10_findWays_22 (by decide) ?_
          refine lv_goto (tgt := 27) hx hb dX10_findWays_23 (by decide) ?_
          refine va_iast hx hb hK hP hD hS 12 0 rfl rfl (ix16384 hlt_i) dX10_findWays_27 (fun H locs hP hD hS => ?_)
          have hP : va_P D vwCl (MW cy a J I (va_up R 12 (upd m0_2 (16384 + (nI i)).toNatClampNeg 1)) RJ) H := hP
          have hD : va_D A (MW cy a J I (va_up R 12 (upd m0_2 (16384 + (nI i)).toNatClampNeg 1)) RJ) := hD
          refine lv_iinc (v := nI (i + 1)) (lv' := [(1, .int (nI (i + 1))), (0, .ref (a 0))]) hx hb dX10_findWays_28 hl (k := 1) rfl (nI_1 _) (by decide) rfl (fun ls hl => ?_)
          refine lv_goto (tgt := 2) hx hb dX10_findWays_31 (by decide) ?_
          exact ih2 (i + 1) (upd m0_2 (16384 + (nI i)).toNatClampNeg 1) (by omega) (wE_u hwx hlt_i (i0 hlt_i c_12)) (by omega) _ _ hP hD hS ls (lv_sub hl [1, 0] rfl)
  refine lv_iconst (v := 0) hx hb dX10_findWays_0 (by decide) ?_
  refine lv_istore_n (lv' := [(1, .int 0), (0, .ref (a 0))]) hx hb dX10_findWays_1 rfl hl (by decide) rfl (fun ls hl => ?_)
  exact lp2 _ 0 (R 12) (by omega) (fun m h => absurd h (Nat.not_lt_zero _)) (Nat.lt_succ_self _) _ _ hP hD hS ls (lv_sub hl [1, 0] rfl)
