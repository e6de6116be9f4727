set_option maxHeartbeats 4000000 in
set_option maxRecDepth 100000 in
theorem x_X10_meet (l : Launch) (D : va_G) (cy : Nat → ClassId) (a : Nat → Nat) (sz : Nat) (J : Nat → Int64) (I : Nat → Int32) (R : Nat → Nat → Int32) (RJ : Nat → Nat → Int64) (x0 : Int32) (x1 : Int32) (x2 : Bool) (fl : Int64) (S : List Int32) (P : List PE) (hRA : RMf (J 0) (I 1) (I 12) (R 1) (R 3) (R 4) (RJ 2) fl S P) (hG : gInv fl S) (hM : MI I R) : Met l yX10_meet wsX10_meet ({ frames := 7, cells := 0, slots := 0, locals := 159 }) (va_Pc [.ref (a 0), .int x0, .int x1, .int (bI x2)] (PW D cy sz (MW cy a J I R RJ))) (va_Qi (fun r (u : MS) => ∃ (w0 : Int64), ∃ (w1 : Int64), ∃ (w2 : Int64), ∃ (w3 : Int64), ∃ (w4 : Int64), ∃ (w5 : Int32), ∃ (w6 : Nat → Int32), ∃ (w7 : Nat → Int32), ∃ (w8 : Nat → Int32), ∃ (w9 : Nat → Int32), (r = (aMee fl S x0 x1 x2)) ∧ u = ((va_up (va_up (va_up (va_up (va_up J 19 w0) 20 w1) 21 w2) 22 w3) 23 w4), (va_up I 13 w5), (va_up (va_up (va_up (va_up R 11 w6) 12 w7) 13 w8) 14 w9), RJ)) (BW D (va_A (MW cy a J I R RJ) sz) (MWu cy a)) (va_A (MW cy a J I R RJ) sz)) 0 0 (va_A (MW cy a J I R RJ) sz) := by
  refine Met.ofW (cc := cX10_meet) (maxL := 13) (ret := (some .int)) (by decide) rfl ?_
  intro p e s m args below meth c s₁ B hml hv
  obtain ⟨rfl, rfl, hP, hK, hN, hD0⟩ := hv
  have hx := B.exec
  have hb := B.bytes
  have hr := B.returns
  have hts := atoms_spec (ws := wsX10_meet) B.pre
  have hown : s.vm.findClass RX10 = some m.cls := findClass_of_methodNamed B.named
  have hlocks := B.notSynchronized
  have hw0 := hts (.fieldLink RX10 81 "ParquetLayerModel" "floor" "J") (by decide +kernel)
  have hw1 := hts (.fieldLink RX10 48 "ParquetLayerModel" "one" "[I") (by decide +kernel)
  have hw2 := hts (.methodLink RX10 263 Lib.Math.abs.name) (by decide +kernel)
  have hw3 := hts (.static Lib.Math.abs.name) (by decide +kernel)
  have hw4 := hts (.initialized "java/lang/Math") (by decide +kernel)
  have hw5 := hts (.code Lib.Math.abs.name Lib.Math.abs.code 1 (some .int)) (by decide +kernel)
  have hw6 := hts (.fieldLink RX10 51 "ParquetLayerModel" "two" "[I") (by decide +kernel)
  have hw7 := hts (.methodLink RX10 283 Lib.Math.min.name) (by decide +kernel)
  have hw8 := hts (.static Lib.Math.min.name) (by decide +kernel)
  have hw9 := hts (.code Lib.Math.min.name Lib.Math.min.code 2 (some .int)) (by decide +kernel)
  have hw10 := hts (.methodLink RX10 280 Lib.Math.max.name) (by decide +kernel)
  have hw11 := hts (.static Lib.Math.max.name) (by decide +kernel)
  have hw12 := hts (.code Lib.Math.max.name Lib.Math.max.code 2 (some .int)) (by decide +kernel)
  have hi10 := ihX10_meet_10
  have hD := hD0.self (sz := s.heap.size)
  generalize hAe : va_A (MW cy a J I R RJ) s.heap.size = A at hD ⊢
  have hA : ∀ q : Nat, s.heap.size ≤ q → A q := fun q h => by rw [← hAe]; exact Or.inr h
  have hS : va_S A s.heap s.heap [] := va_S.rf
  have hl := lv_entry ([.ref (a 0), .int x0, .int x1, .int (bI x2)]) (n := 13) (Nat.le_of_ble_eq_true rfl)
  rw [lg_entry_eq]
  generalize (lg_sl ([.ref (a 0), .int x0, .int x1, .int (bI x2)]) ++ List.replicate (13 - (lg_sl ([.ref (a 0), .int x0, .int x1, .int (bI x2)])).length) Slot.unset).toArray = ls at hl ⊢
  have hl : lv_has ls 13 [(0, .ref (a 0)), (1, .int x0), (2, .int x1), (3, .int (bI x2))] := hl
  have hP : va_P D vwCl (MW cy a (va_up (va_up (va_up (va_up (va_up J 19 (J 19)) 20 (J 20)) 21 (J 21)) 22 (J 22)) 23 (J 23)) (va_up I 13 (I 13)) (va_up (va_up (va_up (va_up R 11 (R 11)) 12 (R 12)) 13 (R 13)) 14 (R 14)) RJ) s.heap := hP
  have hD : va_D A (MW cy a (va_up (va_up (va_up (va_up (va_up J 19 (J 19)) 20 (J 20)) 21 (J 21)) 22 (J 22)) 23 (J 23)) (va_up I 13 (I 13)) (va_up (va_up (va_up (va_up R 11 (R 11)) 12 (R 12)) 13 (R 13)) 14 (R 14)) RJ) := hD
  have lp93 : ∀ (n93 : Nat), ∀ (f9 : Nat) (v5_93 : Int64) (v7_93 : Int64) (m0_93 : Int64) (m1_93 : Int64) (m2_93 : Int64) (m3_93 : Int64) (m4_93 : Int64) (m5_93 : Int32) (m6_93 : Nat → Int32) (m7_93 : Nat → Int32) (m8_93 : Nat → Int32) (m9_93 : Nat → Int32), (f9 ≤ 64) → (aAg fl S x0 x1 = 0) → (zIn (bfx (J 0)) x0.toNatClampNeg ∧ zIn (bfx (J 0)) x1.toNatClampNeg) → (m0_93 = 0 ∧ m1_93 = 0 ∧ m2_93 = 0) → (zT (bfx (J 0)) m7_93) → (hMx (J 0) (zLy (J 0) x0.toNatClampNeg) (zLy (J 0) x1.toNatClampNeg) x2 m8_93) → (zbm (zmL (J 0) (zLy (J 0) x0.toNatClampNeg) (zLy (J 0) x1.toNatClampNeg) x2) f9 v5_93) → (zbm (zmC (J 0) (zLy (J 0) x0.toNatClampNeg) (zLy (J 0) x1.toNatClampNeg) x2) f9 v7_93) → (64 - f9) < n93 → ∀ (H : Heap) (locs : List Loc), va_P D vwCl (MW cy a (va_up (va_up (va_up (va_up (va_up J 19 m0_93) 20 m1_93) 21 m2_93) 22 m3_93) 23 m4_93) (va_up I 13 m5_93) (va_up (va_up (va_up (va_up R 11 m6_93) 12 m7_93) 13 m8_93) 14 m9_93) RJ) H → va_D A (MW cy a (va_up (va_up (va_up (va_up (va_up J 19 m0_93) 20 m1_93) 21 m2_93) 22 m3_93) 23 m4_93) (va_up I 13 m5_93) (va_up (va_up (va_up (va_up R 11 m6_93) 12 m7_93) 13 m8_93) 14 m9_93) RJ) → va_S A s.heap H locs → ∀ (ls : Array Slot), lv_has ls 13 [(0, .ref (a 0)), (5, .long v5_93), (7, .long v7_93), (9, .int (nI f9))] → W p l e (headSpec wsX10_meet ({ frames := 7, cells := 0, slots := 0, locals := 159 })).room s m ([.ref (a 0), .int x0, .int x1, .int (bI x2)] : List Value).toArray below meth c H locs 0 0 (MQ below (va_Qi (fun r (u : MS) => ∃ (w0 : Int64), ∃ (w1 : Int64), ∃ (w2 : Int64), ∃ (w3 : Int64), ∃ (w4 : Int64), ∃ (w5 : Int32), ∃ (w6 : Nat → Int32), ∃ (w7 : Nat → Int32), ∃ (w8 : Nat → Int32), ∃ (w9 : Nat → Int32), (r = (aMee fl S x0 x1 x2)) ∧ u = ((va_up (va_up (va_up (va_up (va_up J 19 w0) 20 w1) 21 w2) 22 w3) 23 w4), (va_up I 13 w5), (va_up (va_up (va_up (va_up R 11 w6) 12 w7) 13 w8) 14 w9), RJ)) (BW D A (MWu cy a)) A) ([.ref (a 0), .int x0, .int x1, .int (bI x2)] : List Value).toArray s 0 0 A) (F0 m 93 ls []) := by
    intro n93
    induction n93 with
    | zero => intro f9 v5_93 v7_93 m0_93 m1_93 m2_93 m3_93 m4_93 m5_93 m6_93 m7_93 m8_93 m9_93 hf9 h0 hAn hz0_93 hzt_93 hmx hb5 hb7 hn; exact absurd hn (Nat.not_lt_zero _)
    | succ n93 ih93 =>
      intro f9 v5_93 v7_93 m0_93 m1_93 m2_93 m3_93 m4_93 m5_93 m6_93 m7_93 m8_93 m9_93 hf9 h0 hAn hz0_93 hzt_93 hmx hb5 hb7 hn93 H locs hP hD hS ls hl
      have lp192 : ∀ (v11_192 : Bool) (m0_192 : Int64) (m1_192 : Int64) (m2_192 : Int64) (m3_192 : Int64) (m4_192 : Int64) (m5_192 : Int32) (m6_192 : Nat → Int32) (m7_192 : Nat → Int32) (m8_192 : Nat → Int32) (m9_192 : Nat → Int32), (f9 < 64) → (m0_192 = 0 ∧ m1_192 = 0 ∧ m2_192 = 0) → (zT (bfx (J 0)) m7_192) → (hMx (J 0) (zLy (J 0) x0.toNatClampNeg) (zLy (J 0) x1.toNatClampNeg) x2 m8_192) → (v11_192 = zmL (J 0) (zLy (J 0) x0.toNatClampNeg) (zLy (J 0) x1.toNatClampNeg) x2 f9) → ∀ (H : Heap) (locs : List Loc), va_P D vwCl (MW cy a (va_up (va_up (va_up (va_up (va_up J 19 m0_192) 20 m1_192) 21 m2_192) 22 m3_192) 23 m4_192) (va_up I 13 m5_192) (va_up (va_up (va_up (va_up R 11 m6_192) 12 m7_192) 13 m8_192) 14 m9_192) RJ) H → va_D A (MW cy a (va_up (va_up (va_up (va_up (va_up J 19 m0_192) 20 m1_192) 21 m2_192) 22 m3_192) 23 m4_192) (va_up I 13 m5_192) (va_up (va_up (va_up (va_up R 11 m6_192) 12 m7_192) 13 m8_192) 14 m9_192) RJ) → va_S A s.heap H locs → ∀ (ls : Array Slot), lv_has ls 13 [(0, .ref (a 0)), (5, .long v5_93), (7, .long v7_93), (9, .int (nI f9)), (10, .int (nI (9 * (f9 / 8) + f9 % 8))), (11, .int (bI v11_192))] → W p l e (headSpec wsX10_meet ({ frames := 7, cells := 0, slots := 0, locals := 159 })).room s m ([.ref (a 0), .int x0, .int x1, .int (bI x2)] : List Value).toArray below meth c H locs 0 0 (MQ below (va_Qi (fun r (u : MS) => ∃ (w0 : Int64), ∃ (w1 : Int64), ∃ (w2 : Int64), ∃ (w3 : Int64), ∃ (w4 : Int64), ∃ (w5 : Int32), ∃ (w6 : Nat → Int32), ∃ (w7 : Nat → Int32), ∃ (w8 : Nat → Int32), ∃ (w9 : Nat → Int32), (r = (aMee fl S x0 x1 x2)) ∧ u = ((va_up (va_up (va_up (va_up (va_up J 19 w0) 20 w1) 21 w2) 22 w3) 23 w4), (va_up I 13 w5), (va_up (va_up (va_up (va_up R 11 w6) 12 w7) 13 w8) 14 w9), RJ)) (BW D A (MWu cy a)) A) ([.ref (a 0), .int x0, .int x1, .int (bI x2)] : List Value).toArray s 0 0 A) (F0 m 192 ls []) := by
        intro v11_192 m0_192 m1_192 m2_192 m3_192 m4_192 m5_192 m6_192 m7_192 m8_192 m9_192 hlt_f9 hz0_192 hzt_192 hmx_192 hL9 H locs hP hD hS ls hl
        have lp269 : ∀ (v12_269 : Bool) (m0_269 : Int64) (m1_269 : Int64) (m2_269 : Int64) (m3_269 : Int64) (m4_269 : Int64) (m5_269 : Int32) (m6_269 : Nat → Int32) (m7_269 : Nat → Int32) (m8_269 : Nat → Int32) (m9_269 : Nat → Int32), (f9 < 64) → (m0_269 = 0 ∧ m1_269 = 0 ∧ m2_269 = 0) → (zT (bfx (J 0)) m7_269) → (hMx (J 0) (zLy (J 0) x0.toNatClampNeg) (zLy (J 0) x1.toNatClampNeg) x2 m8_269) → (v12_269 = zmC (J 0) (zLy (J 0) x0.toNatClampNeg) (zLy (J 0) x1.toNatClampNeg) x2 f9) → ∀ (H : Heap) (locs : List Loc), va_P D vwCl (MW cy a (va_up (va_up (va_up (va_up (va_up J 19 m0_269) 20 m1_269) 21 m2_269) 22 m3_269) 23 m4_269) (va_up I 13 m5_269) (va_up (va_up (va_up (va_up R 11 m6_269) 12 m7_269) 13 m8_269) 14 m9_269) RJ) H → va_D A (MW cy a (va_up (va_up (va_up (va_up (va_up J 19 m0_269) 20 m1_269) 21 m2_269) 22 m3_269) 23 m4_269) (va_up I 13 m5_269) (va_up (va_up (va_up (va_up R 11 m6_269) 12 m7_269) 13 m8_269) 14 m9_269) RJ) → va_S A s.heap H locs → ∀ (ls : Array Slot), lv_has ls 13 [(0, .ref (a 0)), (5, .long v5_93), (7, .long v7_93), (9, .int (nI f9)), (11, .int (bI v11_192)), (12, .int (bI v12_269))] → W p l e (headSpec wsX10_meet ({ frames := 7, cells := 0, slots := 0, locals := 159 })).room s m ([.ref (a 0), .int x0, .int x1, .int (bI x2)] : List Value).toArray below meth c H locs 0 0 (MQ below (va_Qi (fun r (u : MS) => ∃ (w0 : Int64), ∃ (w1 : Int64), ∃ (w2 : Int64), ∃ (w3 : Int64), ∃ (w4 : Int64), ∃ (w5 : Int32), ∃ (w6 : Nat → Int32), ∃ (w7 : Nat → Int32), ∃ (w8 : Nat → Int32), ∃ (w9 : Nat → Int32), (r = (aMee fl S x0 x1 x2)) ∧ u = ((va_up (va_up (va_up (va_up (va_up J 19 w0) 20 w1) 21 w2) 22 w3) 23 w4), (va_up I 13 w5), (va_up (va_up (va_up (va_up R 11 w6) 12 w7) 13 w8) 14 w9), RJ)) (BW D A (MWu cy a)) A) ([.ref (a 0), .int x0, .int x1, .int (bI x2)] : List Value).toArray s 0 0 A) (F0 m 269 ls []) := by
          intro v12_269 m0_269 m1_269 m2_269 m3_269 m4_269 m5_269 m6_269 m7_269 m8_269 m9_269 hlt_f9 hz0_269 hzt_269 hmx_269 hC9 H locs hP hD hS ls hl
          refine lv_lload hx hb dX10_meet_269 (lv_at hl 1 rfl) ?_
          refine lv_iload hx hb dX10_meet_271 (lv_at hl 4 rfl) ?_
          refine lv_if_eq (tgt := 283) hx hb dX10_meet_273 (by decide) (fun c_1 => ?_) (fun c_1 => ?_)
          · replace c_1 := bI_f c_1
            refine lv_lconst (v := 0) hx hb dX10_meet_283 (by decide) ?_
            refine lv_lor hx hb dX10_meet_284 ?_
            refine lv_lstore (lv' := [(5, .long (v5_93 ||| 0)), (0, .ref (a 0)), (7, .long v7_93), (9, .int (nI f9)), (11, .int (bI v11_192)), (12, .int (bI v12_269))]) hx hb dX10_meet_285 hl (by decide) rfl (fun ls hl => ?_)
            refine lv_lload hx hb dX10_meet_287 (lv_at hl 2 rfl) ?_
            refine lv_iload hx hb dX10_meet_289 (lv_at hl 5 rfl) ?_
            refine lv_if_eq (tgt := 301) hx hb dX10_meet_291 (by decide) (fun c_2 => ?_) (fun c_2 => ?_)
            · replace c_2 := bI_f c_2
              refine lv_lconst (v := 0) hx hb dX10_meet_301 (by decide) ?_
              refine lv_lor hx hb dX10_meet_302 ?_
              refine lv_lstore (lv' := [(7, .long (v7_93 ||| 0)), (5, .long (v5_93 ||| 0)), (0, .ref (a 0)), (9, .int (nI f9)), (11, .int (bI v11_192)), (12, .int (bI v12_269))]) hx hb dX10_meet_303 hl (by decide) rfl (fun ls hl => ?_)
              refine lv_iinc (v := nI (f9 + 1)) (lv' := [(9, .int (nI (f9 + 1))), (7, .long (v7_93 ||| 0)), (5, .long (v5_93 ||| 0)), (0, .ref (a 0)), (11, .int (bI v11_192)), (12, .int (bI v12_269))]) hx hb dX10_meet_305 hl (k := 3) rfl (nI_1 _) (by decide) rfl (fun ls hl => ?_)
              refine lv_goto (tgt := 93) hx hb dX10_meet_308 (by decide) ?_
              exact ih93 (f9 + 1) (v5_93 ||| 0) (v7_93 ||| 0) m0_269 m1_269 m2_269 m3_269 m4_269 m5_269 m6_269 m7_269 m8_269 m9_269 hlt_f9 h0 hAn hz0_269 hzt_269 hmx_269 (zbm_n0 hb5 (hL9.symm.trans c_1)) (zbm_n0 hb7 (hC9.symm.trans c_2)) (lt_dec hlt_f9 hn93) _ _ hP hD hS ls (lv_sub hl [3, 2, 1, 0] rfl)
            · replace c_2 := bI_t c_2
              refine lv_lconst (v := 1) hx hb dX10_meet_294 (by decide) ?_
              refine lv_iload hx hb dX10_meet_295 (lv_at hl 3 rfl) ?_
              refine lv_lshl (v := (1 : Int64) <<< ((nI f9 : Int32).toInt64 &&& 63)) hx hb dX10_meet_297 rfl ?_
              refine lv_goto (tgt := 302) hx hb dX10_meet_298 (by decide) ?_
              refine lv_lor hx hb dX10_meet_302 ?_
              refine lv_lstore (lv' := [(7, .long (v7_93 ||| ((1 : Int64) <<< ((nI f9 : Int32).toInt64 &&& 63)))), (5, .long (v5_93 ||| 0)), (0, .ref (a 0)), (9, .int (nI f9)), (11, .int (bI v11_192)), (12, .int (bI v12_269))]) hx hb dX10_meet_303 hl (by decide) rfl (fun ls hl => ?_)
              refine lv_iinc (v := nI (f9 + 1)) (lv' := [(9, .int (nI (f9 + 1))), (7, .long (v7_93 ||| ((1 : Int64) <<< ((nI f9 : Int32).toInt64 &&& 63)))), (5, .long (v5_93 ||| 0)), (0, .ref (a 0)), (11, .int (bI v11_192)), (12, .int (bI v12_269))]) hx hb dX10_meet_305 hl (k := 3) rfl (nI_1 _) (by decide) rfl (fun ls hl => ?_)
              refine lv_goto (tgt := 93) hx hb dX10_meet_308 (by decide) ?_
              exact ih93 (f9 + 1) (v5_93 ||| 0) (v7_93 ||| ((1 : Int64) <<< ((nI f9 : Int32).toInt64 &&& 63))) m0_269 m1_269 m2_269 m3_269 m4_269 m5_269 m6_269 m7_269 m8_269 m9_269 hlt_f9 h0 hAn hz0_269 hzt_269 hmx_269 (zbm_n0 hb5 (hL9.symm.trans c_1)) (zbm_y hlt_f9 hb7 (hC9.symm.trans c_2)) (lt_dec hlt_f9 hn93) _ _ hP hD hS ls (lv_sub hl [3, 2, 1, 0] rfl)
          · replace c_1 := bI_t c_1
            refine lv_lconst (v := 1) hx hb dX10_meet_276 (by decide) ?_
            refine lv_iload hx hb dX10_meet_277 (lv_at hl 3 rfl) ?_
            refine lv_lshl (v := (1 : Int64) <<< ((nI f9 : Int32).toInt64 &&& 63)) hx hb dX10_meet_279 rfl ?_
            refine lv_goto (tgt := 284) hx hb dX10_meet_280 (by decide) ?_
            refine lv_lor hx hb dX10_meet_284 ?_
            refine lv_lstore (lv' := [(5, .long (v5_93 ||| ((1 : Int64) <<< ((nI f9 : Int32).toInt64 &&& 63)))), (0, .ref (a 0)), (7, .long v7_93), (9, .int (nI f9)), (11, .int (bI v11_192)), (12, .int (bI v12_269))]) hx hb dX10_meet_285 hl (by decide) rfl (fun ls hl => ?_)
            refine lv_lload hx hb dX10_meet_287 (lv_at hl 2 rfl) ?_
            refine lv_iload hx hb dX10_meet_289 (lv_at hl 5 rfl) ?_
            refine lv_if_eq (tgt := 301) hx hb dX10_meet_291 (by decide) (fun c_3 => ?_) (fun c_3 => ?_)
            · replace c_3 := bI_f c_3
              refine lv_lconst (v := 0) hx hb dX10_meet_301 (by decide) ?_
              refine lv_lor hx hb dX10_meet_302 ?_
              refine lv_lstore (lv' := [(7, .long (v7_93 ||| 0)), (5, .long (v5_93 ||| ((1 : Int64) <<< ((nI f9 : Int32).toInt64 &&& 63)))), (0, .ref (a 0)), (9, .int (nI f9)), (11, .int (bI v11_192)), (12, .int (bI v12_269))]) hx hb dX10_meet_303 hl (by decide) rfl (fun ls hl => ?_)
              refine lv_iinc (v := nI (f9 + 1)) (lv' := [(9, .int (nI (f9 + 1))), (7, .long (v7_93 ||| 0)), (5, .long (v5_93 ||| ((1 : Int64) <<< ((nI f9 : Int32).toInt64 &&& 63)))), (0, .ref (a 0)), (11, .int (bI v11_192)), (12, .int (bI v12_269))]) hx hb dX10_meet_305 hl (k := 3) rfl (nI_1 _) (by decide) rfl (fun ls hl => ?_)
              refine lv_goto (tgt := 93) hx hb dX10_meet_308 (by decide) ?_
              exact ih93 (f9 + 1) (v5_93 ||| ((1 : Int64) <<< ((nI f9 : Int32).toInt64 &&& 63))) (v7_93 ||| 0) m0_269 m1_269 m2_269 m3_269 m4_269 m5_269 m6_269 m7_269 m8_269 m9_269 hlt_f9 h0 hAn hz0_269 hzt_269 hmx_269 (zbm_y hlt_f9 hb5 (hL9.symm.trans c_1)) (zbm_n0 hb7 (hC9.symm.trans c_3)) (lt_dec hlt_f9 hn93) _ _ hP hD hS ls (lv_sub hl [3, 2, 1, 0] rfl)
            · replace c_3 := bI_t c_3
              refine lv_lconst (v := 1) hx hb dX10_meet_294 (by decide) ?_
              refine lv_iload hx hb dX10_meet_295 (lv_at hl 3 rfl) ?_
              refine lv_lshl (v := (1 : Int64) <<< ((nI f9 : Int32).toInt64 &&& 63)) hx hb dX10_meet_297 rfl ?_
              refine lv_goto (tgt := 302) hx hb dX10_meet_298 (by decide) ?_
              refine lv_lor hx hb dX10_meet_302 ?_
              refine lv_lstore (lv' := [(7, .long (v7_93 ||| ((1 : Int64) <<< ((nI f9 : Int32).toInt64 &&& 63)))), (5, .long (v5_93 ||| ((1 : Int64) <<< ((nI f9 : Int32).toInt64 &&& 63)))), (0, .ref (a 0)), (9, .int (nI f9)), (11, .int (bI v11_192)), (12, .int (bI v12_269))]) hx hb dX10_meet_303 hl (by decide) rfl (fun ls hl => ?_)
              refine lv_iinc (v := nI (f9 + 1)) (lv' := [(9, .int (nI (f9 + 1))), (7, .long (v7_93 ||| ((1 : Int64) <<< ((nI f9 : Int32).toInt64 &&& 63)))), (5, .long (v5_93 ||| ((1 : Int64) <<< ((nI f9 : Int32).toInt64 &&& 63)))), (0, .ref (a 0)), (11, .int (bI v11_192)), (12, .int (bI v12_269))]) hx hb dX10_meet_305 hl (k := 3) rfl (nI_1 _) (by decide) rfl (fun ls hl => ?_)
              refine lv_goto (tgt := 93) hx hb dX10_meet_308 (by decide) ?_
              exact ih93 (f9 + 1) (v5_93 ||| ((1 : Int64) <<< ((nI f9 : Int32).toInt64 &&& 63))) (v7_93 ||| ((1 : Int64) <<< ((nI f9 : Int32).toInt64 &&& 63))) m0_269 m1_269 m2_269 m3_269 m4_269 m5_269 m6_269 m7_269 m8_269 m9_269 hlt_f9 h0 hAn hz0_269 hzt_269 hmx_269 (zbm_y hlt_f9 hb5 (hL9.symm.trans c_1)) (zbm_y hlt_f9 hb7 (hC9.symm.trans c_3)) (lt_dec hlt_f9 hn93) _ _ hP hD hS ls (lv_sub hl [3, 2, 1, 0] rfl)
        refine lv_aload_n hx hb dX10_meet_192 rfl (lv_at hl 0 rfl) ?_
        refine va_get (D := D) (ci := 9) (v := .long (J 0)) (C := RX10) (T := TX10) (N := 30) hx hb hts hi10 hown hK hP 0 rfl rfl 0 (by decide) hw0 (fun _ h9 => h9) rfl dX10_meet_193 ?_
        refine lv_iload hx hb dX10_meet_196 (lv_at hl 3 rfl) ?_
        refine lv_bipush (v := 8) hx hb dX10_meet_198 (by decide) ?_
        refine lv_irem hx hb dX10_meet_200 (by decide) ?_
        refine lv_iload hx hb dX10_meet_201 (lv_at hl 3 rfl) ?_
        refine lv_bipush (v := 8) hx hb dX10_meet_203 (by decide) ?_
        refine lv_idiv hx hb dX10_meet_205 (by decide) ?_
        refine kS_i (As := [.long (J 0), .int ((nI f9) - (nI f9) / 8 * 8), .int ((nI f9) / 8)]) (rest := []) ⟨hx, hb, hml, hown, hts⟩ (c_X10_isOn l (J 0) ((nI f9) - (nI f9) / 8 * 8) ((nI f9) / 8)) (va_cwS 3 hts gX10_meet_X10_isOn rfl rfl rfl (by decide +kernel) ⟨Nat.le_of_ble_eq_true rfl, Nat.le_of_ble_eq_true rfl⟩) rfl hl.1 rfl (Nat.le_of_ble_eq_true rfl) dX10_meet_206 ⟨Nat.le_of_ble_eq_true rfl, Nat.le_of_ble_eq_true rfl⟩ ?_
        refine lv_if_eq (tgt := 266) hx hb dX10_meet_209 (by decide) (fun c_4 => ?_) (fun c_4 => ?_)
        · replace c_4 := bI_f c_4
          refine lv_iconst (v := 0) hx hb dX10_meet_266 (by decide) ?_
          refine lv_istore (lv' := [(12, .int 0), (0, .ref (a 0)), (5, .long v5_93), (7, .long v7_93), (9, .int (nI f9)), (10, .int (nI (9 * (f9 / 8) + f9 % 8))), (11, .int (bI v11_192))]) hx hb dX10_meet_267 hl (by decide) rfl (fun ls hl => ?_)
          exact lp269 false m0_192 m1_192 m2_192 m3_192 m4_192 m5_192 m6_192 m7_192 m8_192 m9_192 hlt_f9 hz0_192 hzt_192 hmx_192 (mc_1 hlt_f9 c_4)  _ _ hP hD hS ls (lv_sub hl [1, 2, 3, 4, 6, 0] rfl)
        · replace c_4 := bI_t c_4
          refine lv_aload_n hx hb dX10_meet_212 rfl (lv_at hl 0 rfl) ?_
          refine va_get (D := D) (ci := 9) (v := .long (J 0)) (C := RX10) (T := TX10) (N := 30) hx hb hts hi10 hown hK hP 0 rfl rfl 0 (by decide) hw0 (fun _ h9 => h9) rfl dX10_meet_213 ?_
          refine lv_iload hx hb dX10_meet_216 (lv_at hl 3 rfl) ?_
          refine lv_bipush (v := 8) hx hb dX10_meet_218 (by decide) ?_
          refine lv_irem hx hb dX10_meet_220 (by decide) ?_
          refine lv_iload hx hb dX10_meet_221 (lv_at hl 3 rfl) ?_
          refine lv_bipush (v := 8) hx hb dX10_meet_223 (by decide) ?_
          refine lv_idiv hx hb dX10_meet_225 (by decide) ?_
          refine lv_iconst (v := 1) hx hb dX10_meet_226 (by decide) ?_
          refine lv_iadd hx hb dX10_meet_227 ?_
          refine kS_i (As := [.long (J 0), .int ((nI f9) - (nI f9) / 8 * 8), .int (((nI f9) / 8) + 1)]) (rest := []) ⟨hx, hb, hml, hown, hts⟩ (c_X10_isOn l (J 0) ((nI f9) - (nI f9) / 8 * 8) (((nI f9) / 8) + 1)) (va_cwS 3 hts gX10_meet_X10_isOn rfl rfl rfl (by decide +kernel) ⟨Nat.le_of_ble_eq_true rfl, Nat.le_of_ble_eq_true rfl⟩) rfl hl.1 rfl (Nat.le_of_ble_eq_true rfl) dX10_meet_228 ⟨Nat.le_of_ble_eq_true rfl, Nat.le_of_ble_eq_true rfl⟩ ?_
          refine lv_if_eq (tgt := 266) hx hb dX10_meet_231 (by decide) (fun c_5 => ?_) (fun c_5 => ?_)
          · replace c_5 := bI_f c_5
            refine lv_iconst (v := 0) hx hb dX10_meet_266 (by decide) ?_
            refine lv_istore (lv' := [(12, .int 0), (0, .ref (a 0)), (5, .long v5_93), (7, .long v7_93), (9, .int (nI f9)), (10, .int (nI (9 * (f9 / 8) + f9 % 8))), (11, .int (bI v11_192))]) hx hb dX10_meet_267 hl (by decide) rfl (fun ls hl => ?_)
            exact lp269 false m0_192 m1_192 m2_192 m3_192 m4_192 m5_192 m6_192 m7_192 m8_192 m9_192 hlt_f9 hz0_192 hzt_192 hmx_192 (mc_2 hlt_f9 c_5)  _ _ hP hD hS ls (lv_sub hl [1, 2, 3, 4, 6, 0] rfl)
          · replace c_5 := bI_t c_5
            refine lv_aload_n hx hb dX10_meet_234 rfl (lv_at hl 0 rfl) ?_
            refine va_get (D := D) (ci := 9) (v := .ref (a 13)) (C := RX10) (T := TX10) (N := 30) hx hb hts hi10 hown hK hP 0 rfl rfl 24 (by decide) hw1 (fun _ h9 => h9) rfl dX10_meet_235 ?_
            refine lv_iload hx hb dX10_meet_238 (lv_at hl 4 rfl) ?_
            refine lv_bipush (v := 9) hx hb dX10_meet_240 (by decide) ?_
            refine lv_iadd hx hb dX10_meet_242 ?_
            refine va_iald hx hb hK hP 13 0 rfl rfl (mp_9 hlt_f9) dX10_meet_243 ?_
            refine lv_aload_n hx hb dX10_meet_244 rfl (lv_at hl 0 rfl) ?_
            refine va_get (D := D) (ci := 9) (v := .ref (a 13)) (C := RX10) (T := TX10) (N := 30) hx hb hts hi10 hown hK hP 0 rfl rfl 24 (by decide) hw1 (fun _ h9 => h9) rfl dX10_meet_245 ?_
            refine lv_iload hx hb dX10_meet_248 (lv_at hl 4 rfl) ?_
            refine lv_bipush (v := 10) hx hb dX10_meet_250 (by decide) ?_
            refine lv_iadd hx hb dX10_meet_252 ?_
            refine va_iald hx hb hK hP 13 0 rfl rfl (mp_10 hlt_f9) dX10_meet_253 ?_
            refine lv_isub hx hb dX10_meet_254 ?_
            refine va_mabs hx hb (by rw [hml]; exact hl.1.symm) hown hw2 hw3 hw4 hw5 (Nat.le_of_ble_eq_true rfl) (Nat.le_of_ble_eq_true rfl) (Nat.le_of_ble_eq_true rfl) (Nat.le_of_ble_eq_true rfl) dX10_meet_255 ?_
            refine lv_iconst (v := 3) hx hb dX10_meet_258 (by decide) ?_
            refine lv_icmp_ne (tgt := 266) hx hb dX10_meet_259 (by decide) (fun c_6 => ?_) (fun c_6 => ?_)
            · refine lv_iconst (v := 0) hx hb dX10_meet_266 (by decide) ?_
              refine lv_istore (lv' := [(12, .int 0), (0, .ref (a 0)), (5, .long v5_93), (7, .long v7_93), (9, .int (nI f9)), (10, .int (nI (9 * (f9 / 8) + f9 % 8))), (11, .int (bI v11_192))]) hx hb dX10_meet_267 hl (by decide) rfl (fun ls hl => ?_)
              exact lp269 false m0_192 m1_192 m2_192 m3_192 m4_192 m5_192 m6_192 m7_192 m8_192 m9_192 hlt_f9 hz0_192 hzt_192 hmx_192 (mc_3 hlt_f9 c_4 c_5 (fun ho => zmC_iff (wh_oJ hRA.1 (ag_w h0)) (zLy_LY hAn.1) (zLy_LY hAn.2) hmx_192 hlt_f9 ho) ⟨fun z => absurd z (by decide), fun z => absurd z c_6⟩)  _ _ hP hD hS ls (lv_sub hl [1, 2, 3, 4, 6, 0] rfl)
            · refine lv_iconst (v := 1) hx hb dX10_meet_262 (by decide) ?_
              refine lv_goto (tgt := 267) hx hb dX10_meet_263 (by decide) ?_
              refine lv_istore (lv' := [(12, .int 1), (0, .ref (a 0)), (5, .long v5_93), (7, .long v7_93), (9, .int (nI f9)), (10, .int (nI (9 * (f9 / 8) + f9 % 8))), (11, .int (bI v11_192))]) hx hb dX10_meet_267 hl (by decide) rfl (fun ls hl => ?_)
              exact lp269 true m0_192 m1_192 m2_192 m3_192 m4_192 m5_192 m6_192 m7_192 m8_192 m9_192 hlt_f9 hz0_192 hzt_192 hmx_192 (mc_3 hlt_f9 c_4 c_5 (fun ho => zmC_iff (wh_oJ hRA.1 (ag_w h0)) (zLy_LY hAn.1) (zLy_LY hAn.2) hmx_192 hlt_f9 ho) ⟨fun _ => c_6, fun _ => rfl⟩)  _ _ hP hD hS ls (lv_sub hl [1, 2, 3, 4, 6, 0] rfl)
      refine lv_iload hx hb dX10_meet_93 (lv_at hl 3 rfl) ?_
      refine lv_bipush (v := 64) hx hb dX10_meet_95 (by decide) ?_
      refine lv_icmp_ge (tgt := 311) hx hb dX10_meet_97 (by decide) (fun c_7 => ?_) (fun c_7 => ?_)
      · have hie_f9 := ctr_ge (N := 64) (by decide) hf9 c_7
        refine lv_aload_n hx hb dX10_meet_311 rfl (lv_at hl 0 rfl) ?_
        refine lv_lload hx hb dX10_meet_312 (lv_at hl 1 rfl) ?_
        refine lv_lload hx hb dX10_meet_314 (lv_at hl 2 rfl) ?_
        refine kM_i (As := [.long v5_93, .long v7_93]) (rest := []) (q0 := 0) ⟨hx, hb, hml, hown, hts⟩ (x_X10_numberOf l D cy a _ (va_up (va_up (va_up (va_up (va_up J 19 m0_93) 20 m1_93) 21 m2_93) 22 m3_93) 23 m4_93) (va_up I 13 m5_93) (va_up (va_up (va_up (va_up R 11 m6_93) 12 m7_93) 13 m8_93) 14 m9_93) RJ v5_93 v7_93 (me_LY (wh_oJ hRA.1 (ag_w h0)) (zLy_LY hAn.1) (zLy_LY hAn.2) (zbm_e hie_f9 (fun g hg => zmL_hi hg) hb5) (zbm_e hie_f9 (fun g hg => zmC_hi (Nat.le_trans (by decide) hg)) hb7)) hz0_93 hzt_93 ) (cwV 2 hts gX10_meet_X10_numberOf rfl rfl rfl (by decide +kernel) ⟨Nat.le_of_ble_eq_true rfl, Nat.le_of_ble_eq_true rfl⟩) hK hN hP hD hS hA rfl rfl rfl hl.1 rfl (Nat.le_of_ble_eq_true rfl) dX10_meet_316 ⟨Nat.le_of_ble_eq_true rfl, Nat.le_of_ble_eq_true rfl⟩ (fun r_8 u H locs hw hP hD hS => ?_)
        obtain ⟨rfl, rfl⟩ := hw
        have hP : va_P D vwCl (MW cy a (va_up (va_up (va_up (va_up (va_up J 19 m0_93) 20 m1_93) 21 m2_93) 22 m3_93) 23 m4_93) (va_up I 13 m5_93) (va_up (va_up (va_up (va_up R 11 m6_93) 12 m7_93) 13 m8_93) 14 m9_93) RJ) H := hP
        have hD : va_D A (MW cy a (va_up (va_up (va_up (va_up (va_up J 19 m0_93) 20 m1_93) 21 m2_93) 22 m3_93) 23 m4_93) (va_up I 13 m5_93) (va_up (va_up (va_up (va_up R 11 m6_93) 12 m7_93) 13 m8_93) 14 m9_93) RJ) := hD
        exact wret_i hx hb hr hlocks ((va_up (va_up (va_up (va_up (va_up J 19 m0_93) 20 m1_93) 21 m2_93) 22 m3_93) 23 m4_93), (va_up I 13 m5_93), (va_up (va_up (va_up (va_up R 11 m6_93) 12 m7_93) 13 m8_93) 14 m9_93), RJ) ⟨m0_93, m1_93, m2_93, m3_93, m4_93, m5_93, m6_93, m7_93, m8_93, m9_93, (me_yes hRA.1 h0 (zbm_e hie_f9 (fun g hg => zmC_hi (Nat.le_trans (by decide) hg)) hb7)), rfl⟩ hP hD hS dX10_meet_319
      · have hlt_f9 := ctr_lt (N := 64) (by decide) hf9 c_7
        refine lv_bipush (v := 9) hx hb dX10_meet_100 (by decide) ?_
        refine lv_iload hx hb dX10_meet_102 (lv_at hl 3 rfl) ?_
        refine lv_bipush (v := 8) hx hb dX10_meet_104 (by decide) ?_
        refine lv_idiv hx hb dX10_meet_106 (by decide) ?_
        refine lv_imul hx hb dX10_meet_107 ?_
        refine lv_iload hx hb dX10_meet_108 (lv_at hl 3 rfl) ?_
        refine lv_bipush (v := 8) hx hb dX10_meet_110 (by decide) ?_
        refine lv_irem hx hb dX10_meet_112 (by decide) ?_
        refine lv_iadd hx hb dX10_meet_113 ?_
        refine wtop_i (y := nI (9 * (f9 / 8) + f9 % 8)) (mp_t ⟨f9, hlt_f9⟩) ?_
        refine lv_istore (lv' := [(10, .int (nI (9 * (f9 / 8) + f9 % 8))), (0, .ref (a 0)), (5, .long v5_93), (7, .long v7_93), (9, .int (nI f9))]) hx hb dX10_meet_114 hl (by decide) rfl (fun ls hl => ?_)
        refine lv_aload_n hx hb dX10_meet_116 rfl (lv_at hl 1 rfl) ?_
        refine va_get (D := D) (ci := 9) (v := .long (J 0)) (C := RX10) (T := TX10) (N := 30) hx hb hts hi10 hown hK hP 0 rfl rfl 0 (by decide) hw0 (fun _ h9 => h9) rfl dX10_meet_117 ?_
        refine lv_iload hx hb dX10_meet_120 (lv_at hl 4 rfl) ?_
        refine lv_bipush (v := 8) hx hb dX10_meet_122 (by decide) ?_
        refine lv_irem hx hb dX10_meet_124 (by decide) ?_
        refine lv_iload hx hb dX10_meet_125 (lv_at hl 4 rfl) ?_
        refine lv_bipush (v := 8) hx hb dX10_meet_127 (by decide) ?_
        refine lv_idiv hx hb dX10_meet_129 (by decide) ?_
        refine kS_i (As := [.long (J 0), .int ((nI f9) - (nI f9) / 8 * 8), .int ((nI f9) / 8)]) (rest := []) ⟨hx, hb, hml, hown, hts⟩ (c_X10_isOn l (J 0) ((nI f9) - (nI f9) / 8 * 8) ((nI f9) / 8)) (va_cwS 3 hts gX10_meet_X10_isOn rfl rfl rfl (by decide +kernel) ⟨Nat.le_of_ble_eq_true rfl, Nat.le_of_ble_eq_true rfl⟩) rfl hl.1 rfl (Nat.le_of_ble_eq_true rfl) dX10_meet_130 ⟨Nat.le_of_ble_eq_true rfl, Nat.le_of_ble_eq_true rfl⟩ ?_
        refine lv_if_eq (tgt := 189) hx hb dX10_meet_133 (by decide) (fun c_9 => ?_) (fun c_9 => ?_)
        · replace c_9 := bI_f c_9
          refine lv_iconst (v := 0) hx hb dX10_meet_189 (by decide) ?_
          refine lv_istore (lv' := [(11, .int 0), (10, .int (nI (9 * (f9 / 8) + f9 % 8))), (0, .ref (a 0)), (5, .long v5_93), (7, .long v7_93), (9, .int (nI f9))]) hx hb dX10_meet_190 hl (by decide) rfl (fun ls hl => ?_)
          exact lp192 false m0_93 m1_93 m2_93 m3_93 m4_93 m5_93 m6_93 m7_93 m8_93 m9_93 hlt_f9 hz0_93 hzt_93 hmx (ml_1 hlt_f9 c_9)  _ _ hP hD hS ls (lv_sub hl [2, 3, 4, 5, 1, 0] rfl)
        · replace c_9 := bI_t c_9
          refine lv_aload_n hx hb dX10_meet_136 rfl (lv_at hl 1 rfl) ?_
          refine va_get (D := D) (ci := 9) (v := .long (J 0)) (C := RX10) (T := TX10) (N := 30) hx hb hts hi10 hown hK hP 0 rfl rfl 0 (by decide) hw0 (fun _ h9 => h9) rfl dX10_meet_137 ?_
          refine lv_iload hx hb dX10_meet_140 (lv_at hl 4 rfl) ?_
          refine lv_bipush (v := 8) hx hb dX10_meet_142 (by decide) ?_
          refine lv_irem hx hb dX10_meet_144 (by decide) ?_
          refine lv_iconst (v := 1) hx hb dX10_meet_145 (by decide) ?_
          refine lv_iadd hx hb dX10_meet_146 ?_
          refine lv_iload hx hb dX10_meet_147 (lv_at hl 4 rfl) ?_
          refine lv_bipush (v := 8) hx hb dX10_meet_149 (by decide) ?_
          refine lv_idiv hx hb dX10_meet_151 (by decide) ?_
          refine kS_i (As := [.long (J 0), .int (((nI f9) - (nI f9) / 8 * 8) + 1), .int ((nI f9) / 8)]) (rest := []) ⟨hx, hb, hml, hown, hts⟩ (c_X10_isOn l (J 0) (((nI f9) - (nI f9) / 8 * 8) + 1) ((nI f9) / 8)) (va_cwS 3 hts gX10_meet_X10_isOn rfl rfl rfl (by decide +kernel) ⟨Nat.le_of_ble_eq_true rfl, Nat.le_of_ble_eq_true rfl⟩) rfl hl.1 rfl (Nat.le_of_ble_eq_true rfl) dX10_meet_152 ⟨Nat.le_of_ble_eq_true rfl, Nat.le_of_ble_eq_true rfl⟩ ?_
          refine lv_if_eq (tgt := 189) hx hb dX10_meet_155 (by decide) (fun c_10 => ?_) (fun c_10 => ?_)
          · replace c_10 := bI_f c_10
            refine lv_iconst (v := 0) hx hb dX10_meet_189 (by decide) ?_
            refine lv_istore (lv' := [(11, .int 0), (10, .int (nI (9 * (f9 / 8) + f9 % 8))), (0, .ref (a 0)), (5, .long v5_93), (7, .long v7_93), (9, .int (nI f9))]) hx hb dX10_meet_190 hl (by decide) rfl (fun ls hl => ?_)
            exact lp192 false m0_93 m1_93 m2_93 m3_93 m4_93 m5_93 m6_93 m7_93 m8_93 m9_93 hlt_f9 hz0_93 hzt_93 hmx (ml_2 hlt_f9 c_10)  _ _ hP hD hS ls (lv_sub hl [2, 3, 4, 5, 1, 0] rfl)
          · replace c_10 := bI_t c_10
            refine lv_aload_n hx hb dX10_meet_158 rfl (lv_at hl 1 rfl) ?_
            refine va_get (D := D) (ci := 9) (v := .ref (a 13)) (C := RX10) (T := TX10) (N := 30) hx hb hts hi10 hown hK hP 0 rfl rfl 24 (by decide) hw1 (fun _ h9 => h9) rfl dX10_meet_159 ?_
            refine lv_iload hx hb dX10_meet_162 (lv_at hl 0 rfl) ?_
            refine lv_iconst (v := 1) hx hb dX10_meet_164 (by decide) ?_
            refine lv_iadd hx hb dX10_meet_165 ?_
            refine va_iald hx hb hK hP 13 0 rfl rfl (mp_1 hlt_f9) dX10_meet_166 ?_
            refine lv_aload_n hx hb dX10_meet_167 rfl (lv_at hl 1 rfl) ?_
            refine va_get (D := D) (ci := 9) (v := .ref (a 13)) (C := RX10) (T := TX10) (N := 30) hx hb hts hi10 hown hK hP 0 rfl rfl 24 (by decide) hw1 (fun _ h9 => h9) rfl dX10_meet_168 ?_
            refine lv_iload hx hb dX10_meet_171 (lv_at hl 0 rfl) ?_
            refine lv_bipush (v := 10) hx hb dX10_meet_173 (by decide) ?_
            refine lv_iadd hx hb dX10_meet_175 ?_
            refine va_iald hx hb hK hP 13 0 rfl rfl (mp_10 hlt_f9) dX10_meet_176 ?_
            refine lv_isub hx hb dX10_meet_177 ?_
            refine va_mabs hx hb (by rw [hml]; exact hl.1.symm) hown hw2 hw3 hw4 hw5 (Nat.le_of_ble_eq_true rfl) (Nat.le_of_ble_eq_true rfl) (Nat.le_of_ble_eq_true rfl) (Nat.le_of_ble_eq_true rfl) dX10_meet_178 ?_
            refine lv_iconst (v := 3) hx hb dX10_meet_181 (by decide) ?_
            refine lv_icmp_ne (tgt := 189) hx hb dX10_meet_182 (by decide) (fun c_11 => ?_) (fun c_11 => ?_)
            · refine lv_iconst (v := 0) hx hb dX10_meet_189 (by decide) ?_
              refine lv_istore (lv' := [(11, .int 0), (10, .int (nI (9 * (f9 / 8) + f9 % 8))), (0, .ref (a 0)), (5, .long v5_93), (7, .long v7_93), (9, .int (nI f9))]) hx hb dX10_meet_190 hl (by decide) rfl (fun ls hl => ?_)
              exact lp192 false m0_93 m1_93 m2_93 m3_93 m4_93 m5_93 m6_93 m7_93 m8_93 m9_93 hlt_f9 hz0_93 hzt_93 hmx (ml_3 hlt_f9 c_9 c_10 (fun ho => zmL_iff (wh_oJ hRA.1 (ag_w h0)) (zLy_LY hAn.1) (zLy_LY hAn.2) hmx hlt_f9 ho) ⟨fun z => absurd z (by decide), fun z => absurd z c_11⟩)  _ _ hP hD hS ls (lv_sub hl [2, 3, 4, 5, 1, 0] rfl)
            · refine lv_iconst (v := 1) hx hb dX10_meet_185 (by decide) ?_
              refine lv_goto (tgt := 190) hx hb dX10_meet_186 (by decide) ?_
              refine lv_istore (lv' := [(11, .int 1), (10, .int (nI (9 * (f9 / 8) + f9 % 8))), (0, .ref (a 0)), (5, .long v5_93), (7, .long v7_93), (9, .int (nI f9))]) hx hb dX10_meet_190 hl (by decide) rfl (fun ls hl => ?_)
              exact lp192 true m0_93 m1_93 m2_93 m3_93 m4_93 m5_93 m6_93 m7_93 m8_93 m9_93 hlt_f9 hz0_93 hzt_93 hmx (ml_3 hlt_f9 c_9 c_10 (fun ho => zmL_iff (wh_oJ hRA.1 (ag_w h0)) (zLy_LY hAn.1) (zLy_LY hAn.2) hmx hlt_f9 ho) ⟨fun _ => c_11, fun _ => rfl⟩)  _ _ hP hD hS ls (lv_sub hl [2, 3, 4, 5, 1, 0] rfl)
  have lp29 : ∀ (n29 : Nat), ∀ (i : Nat) (o0 : Nat → Int32) (m0_29 : Int64) (m1_29 : Int64) (m2_29 : Int64) (m3_29 : Int64) (m4_29 : Int64) (m5_29 : Int32) (m6_29 : Nat → Int32) (m7_29 : Nat → Int32) (m8_29 : Nat → Int32) (m9_29 : Nat → Int32), (i ≤ 81) → (aAg fl S x0 x1 = 0) → (zIn (bfx (J 0)) x0.toNatClampNeg ∧ zIn (bfx (J 0)) x1.toNatClampNeg) → (hVal (J 0) (zLy (J 0) x0.toNatClampNeg).1 (zLy (J 0) x0.toNatClampNeg).2 (zF0 (J 0)) 1000000 o0) → (hVal (J 0) (zLy (J 0) x1.toNatClampNeg).1 (zLy (J 0) x1.toNatClampNeg).2 (zF0 (J 0)) 1000000 m9_29) → (m0_29 = 0 ∧ m1_29 = 0 ∧ m2_29 = 0) → (zT (bfx (J 0)) m7_29) → (mxQ x2 o0 m9_29 m8_29 i) → (81 - i) < n29 → ∀ (H : Heap) (locs : List Loc), va_P D vwCl (MW cy a (va_up (va_up (va_up (va_up (va_up J 19 m0_29) 20 m1_29) 21 m2_29) 22 m3_29) 23 m4_29) (va_up I 13 m5_29) (va_up (va_up (va_up (va_up R 11 m6_29) 12 m7_29) 13 m8_29) 14 m9_29) RJ) H → va_D A (MW cy a (va_up (va_up (va_up (va_up (va_up J 19 m0_29) 20 m1_29) 21 m2_29) 22 m3_29) 23 m4_29) (va_up I 13 m5_29) (va_up (va_up (va_up (va_up R 11 m6_29) 12 m7_29) 13 m8_29) 14 m9_29) RJ) → va_S A s.heap H locs → ∀ (ls : Array Slot), lv_has ls 13 [(0, .ref (a 0)), (3, .int (bI x2)), (5, .long 0), (7, .long 0), (9, .int (nI i))] → W p l e (headSpec wsX10_meet ({ frames := 7, cells := 0, slots := 0, locals := 159 })).room s m ([.ref (a 0), .int x0, .int x1, .int (bI x2)] : List Value).toArray below meth c H locs 0 0 (MQ below (va_Qi (fun r (u : MS) => ∃ (w0 : Int64), ∃ (w1 : Int64), ∃ (w2 : Int64), ∃ (w3 : Int64), ∃ (w4 : Int64), ∃ (w5 : Int32), ∃ (w6 : Nat → Int32), ∃ (w7 : Nat → Int32), ∃ (w8 : Nat → Int32), ∃ (w9 : Nat → Int32), (r = (aMee fl S x0 x1 x2)) ∧ u = ((va_up (va_up (va_up (va_up (va_up J 19 w0) 20 w1) 21 w2) 22 w3) 23 w4), (va_up I 13 w5), (va_up (va_up (va_up (va_up R 11 w6) 12 w7) 13 w8) 14 w9), RJ)) (BW D A (MWu cy a)) A) ([.ref (a 0), .int x0, .int x1, .int (bI x2)] : List Value).toArray s 0 0 A) (F0 m 29 ls []) := by
    intro n29
    induction n29 with
    | zero => intro i o0 m0_29 m1_29 m2_29 m3_29 m4_29 m5_29 m6_29 m7_29 m8_29 m9_29 hi h0 hAn hva hvb hz0 hzt hmq hn; exact absurd hn (Nat.not_lt_zero _)
    | succ n29 ih29 =>
      intro i o0 m0_29 m1_29 m2_29 m3_29 m4_29 m5_29 m6_29 m7_29 m8_29 m9_29 hi h0 hAn hva hvb hz0 hzt hmq hn29 H locs hP hD hS ls hl
      refine lv_iload hx hb dX10_meet_29 (lv_at hl 4 rfl) ?_
      refine lv_bipush (v := 81) hx hb dX10_meet_31 (by decide) ?_
      refine lv_icmp_ge (tgt := 90) hx hb dX10_meet_33 (by decide) (fun c_12 => ?_) (fun c_12 => ?_)
      · have hie_i := ctr_ge (N := 81) (by decide) hi c_12
        refine lv_iconst (v := 0) hx hb dX10_meet_90 (by decide) ?_
        refine lv_istore (lv' := [(9, .int 0), (0, .ref (a 0)), (3, .int (bI x2)), (5, .long 0), (7, .long 0)]) hx hb dX10_meet_91 hl (by decide) rfl (fun ls hl => ?_)
        exact lp93 _ 0 (0 : Int64) (0 : Int64) m0_29 m1_29 m2_29 m3_29 m4_29 m5_29 m6_29 m7_29 m8_29 m9_29 (Nat.zero_le _) h0 hAn hz0 hzt (mxQ_e hie_i hmq hva hvb) zbm_0 zbm_0 (Nat.lt_succ_self _) _ _ hP hD hS ls (lv_sub hl [1, 3, 4, 0] rfl)
      · have hlt_i := ctr_lt (N := 81) (by decide) hi c_12
        refine lv_aload_n hx hb dX10_meet_36 rfl (lv_at hl 0 rfl) ?_
        refine va_get (D := D) (ci := 9) (v := .ref (a 13)) (C := RX10) (T := TX10) (N := 30) hx hb hts hi10 hown hK hP 0 rfl rfl 24 (by decide) hw1 (fun _ h9 => h9) rfl dX10_meet_37 ?_
        refine lv_iload hx hb dX10_meet_40 (lv_at hl 4 rfl) ?_
        refine lv_iload_n hx hb dX10_meet_42 rfl (lv_at hl 1 rfl) ?_
        refine lv_if_eq (tgt := 66) hx hb dX10_meet_43 (by decide) (fun c_13 => ?_) (fun c_13 => ?_)
        · replace c_13 := bI_f c_13
          refine lv_aload_n hx hb dX10_meet_66 rfl (lv_at hl 0 rfl) ?_
          refine va_get (D := D) (ci := 9) (v := .ref (a 13)) (C := RX10) (T := TX10) (N := 30) hx hb hts hi10 hown hK hP 0 rfl rfl 24 (by decide) hw1 (fun _ h9 => h9) rfl dX10_meet_67 ?_
          refine lv_iload hx hb dX10_meet_70 (lv_at hl 4 rfl) ?_
          refine va_iald hx hb hK hP 13 0 rfl rfl (vp_in_nI hlt_i (by decide)) dX10_meet_72 ?_
          refine lv_aload_n hx hb dX10_meet_73 rfl (lv_at hl 0 rfl) ?_
          refine va_get (D := D) (ci := 9) (v := .ref (a 14)) (C := RX10) (T := TX10) (N := 30) hx hb hts hi10 hown hK hP 0 rfl rfl 25 (by decide) hw6 (fun _ h9 => h9) rfl dX10_meet_74 ?_
          refine lv_iload hx hb dX10_meet_77 (lv_at hl 4 rfl) ?_
          refine va_iald hx hb hK hP 14 0 rfl rfl (vp_in_nI hlt_i (by decide)) dX10_meet_79 ?_
          refine va_mmin hx hb (by rw [hml]; exact hl.1.symm) hown hw7 hw8 hw4 hw9 (Nat.le_of_ble_eq_true rfl) (Nat.le_of_ble_eq_true rfl) (Nat.le_of_ble_eq_true rfl) (Nat.le_of_ble_eq_true rfl) dX10_meet_80 ?_
          refine va_iast hx hb hK hP hD hS 13 0 rfl rfl (vp_in_nI hlt_i (by decide)) dX10_meet_83 (fun H locs hP hD hS => ?_)
          have hP : va_P D vwCl (MW cy a (va_up (va_up (va_up (va_up (va_up J 19 m0_29) 20 m1_29) 21 m2_29) 22 m3_29) 23 m4_29) (va_up I 13 m5_29) (va_up (va_up (va_up (va_up R 11 m6_29) 12 m7_29) 13 (upd m8_29 (nI i).toNatClampNeg (if (m9_29 (nI i).toNatClampNeg) < (m8_29 (nI i).toNatClampNeg) then (m9_29 (nI i).toNatClampNeg) else (m8_29 (nI i).toNatClampNeg)))) 14 m9_29) RJ) H := hP
          have hD : va_D A (MW cy a (va_up (va_up (va_up (va_up (va_up J 19 m0_29) 20 m1_29) 21 m2_29) 22 m3_29) 23 m4_29) (va_up I 13 m5_29) (va_up (va_up (va_up (va_up R 11 m6_29) 12 m7_29) 13 (upd m8_29 (nI i).toNatClampNeg (if (m9_29 (nI i).toNatClampNeg) < (m8_29 (nI i).toNatClampNeg) then (m9_29 (nI i).toNatClampNeg) else (m8_29 (nI i).toNatClampNeg)))) 14 m9_29) RJ) := hD
          refine lv_iinc (v := nI (i + 1)) (lv' := [(9, .int (nI (i + 1))), (0, .ref (a 0)), (3, .int (bI x2)), (5, .long 0), (7, .long 0)]) hx hb dX10_meet_84 hl (k := 4) rfl (nI_1 _) (by decide) rfl (fun ls hl => ?_)
          refine lv_goto (tgt := 29) hx hb dX10_meet_87 (by decide) ?_
          exact ih29 (i + 1) o0 m0_29 m1_29 m2_29 m3_29 m4_29 m5_29 m6_29 m7_29 (upd m8_29 (nI i).toNatClampNeg (if (m9_29 (nI i).toNatClampNeg) < (m8_29 (nI i).toNatClampNeg) then (m9_29 (nI i).toNatClampNeg) else (m8_29 (nI i).toNatClampNeg))) m9_29 hlt_i h0 hAn hva hvb hz0 hzt (mxQ_u hlt_i hmq (mxf_f c_13)) (lt_dec hlt_i hn29) _ _ hP hD hS ls (lv_sub hl [1, 2, 3, 4, 0] rfl)
        · replace c_13 := bI_t c_13
          refine lv_aload_n hx hb dX10_meet_46 rfl (lv_at hl 0 rfl) ?_
          refine va_get (D := D) (ci := 9) (v := .ref (a 13)) (C := RX10) (T := TX10) (N := 30) hx hb hts hi10 hown hK hP 0 rfl rfl 24 (by decide) hw1 (fun _ h9 => h9) rfl dX10_meet_47 ?_
          refine lv_iload hx hb dX10_meet_50 (lv_at hl 4 rfl) ?_
          refine va_iald hx hb hK hP 13 0 rfl rfl (vp_in_nI hlt_i (by decide)) dX10_meet_52 ?_
          refine lv_aload_n hx hb dX10_meet_53 rfl (lv_at hl 0 rfl) ?_
          refine va_get (D := D) (ci := 9) (v := .ref (a 14)) (C := RX10) (T := TX10) (N := 30) hx hb hts hi10 hown hK hP 0 rfl rfl 25 (by decide) hw6 (fun _ h9 => h9) rfl dX10_meet_54 ?_
          refine lv_iload hx hb dX10_meet_57 (lv_at hl 4 rfl) ?_
          refine va_iald hx hb hK hP 14 0 rfl rfl (vp_in_nI hlt_i (by decide)) dX10_meet_59 ?_
          refine va_mmax hx hb (by rw [hml]; exact hl.1.symm) hown hw10 hw11 hw4 hw12 (Nat.le_of_ble_eq_true rfl) (Nat.le_of_ble_eq_true rfl) (Nat.le_of_ble_eq_true rfl) (Nat.le_of_ble_eq_true rfl) dX10_meet_60 ?_
          refine lv_goto (tgt := 83) hx hb dX10_meet_63 (by decide) ?_
          refine va_iast hx hb hK hP hD hS 13 0 rfl rfl (vp_in_nI hlt_i (by decide)) dX10_meet_83 (fun H locs hP hD hS => ?_)
          have hP : va_P D vwCl (MW cy a (va_up (va_up (va_up (va_up (va_up J 19 m0_29) 20 m1_29) 21 m2_29) 22 m3_29) 23 m4_29) (va_up I 13 m5_29) (va_up (va_up (va_up (va_up R 11 m6_29) 12 m7_29) 13 (upd m8_29 (nI i).toNatClampNeg (if (m8_29 (nI i).toNatClampNeg) < (m9_29 (nI i).toNatClampNeg) then (m9_29 (nI i).toNatClampNeg) else (m8_29 (nI i).toNatClampNeg)))) 14 m9_29) RJ) H := hP
          have hD : va_D A (MW cy a (va_up (va_up (va_up (va_up (va_up J 19 m0_29) 20 m1_29) 21 m2_29) 22 m3_29) 23 m4_29) (va_up I 13 m5_29) (va_up (va_up (va_up (va_up R 11 m6_29) 12 m7_29) 13 (upd m8_29 (nI i).toNatClampNeg (if (m8_29 (nI i).toNatClampNeg) < (m9_29 (nI i).toNatClampNeg) then (m9_29 (nI i).toNatClampNeg) else (m8_29 (nI i).toNatClampNeg)))) 14 m9_29) RJ) := hD
          refine lv_iinc (v := nI (i + 1)) (lv' := [(9, .int (nI (i + 1))), (0, .ref (a 0)), (3, .int (bI x2)), (5, .long 0), (7, .long 0)]) hx hb dX10_meet_84 hl (k := 4) rfl (nI_1 _) (by decide) rfl (fun ls hl => ?_)
          refine lv_goto (tgt := 29) hx hb dX10_meet_87 (by decide) ?_
          exact ih29 (i + 1) o0 m0_29 m1_29 m2_29 m3_29 m4_29 m5_29 m6_29 m7_29 (upd m8_29 (nI i).toNatClampNeg (if (m8_29 (nI i).toNatClampNeg) < (m9_29 (nI i).toNatClampNeg) then (m9_29 (nI i).toNatClampNeg) else (m8_29 (nI i).toNatClampNeg))) m9_29 hlt_i h0 hAn hva hvb hz0 hzt (mxQ_u hlt_i hmq (mxf_t c_13)) (lt_dec hlt_i hn29) _ _ hP hD hS ls (lv_sub hl [1, 2, 3, 4, 0] rfl)
  refine lv_aload_n hx hb dX10_meet_0 rfl (lv_at hl 0 rfl) ?_
  refine lv_iload_n hx hb dX10_meet_1 rfl (lv_at hl 1 rfl) ?_
  refine lv_iload_n hx hb dX10_meet_2 rfl (lv_at hl 2 rfl) ?_
  refine kM_i (As := [.int x0, .int x1]) (rest := []) (q0 := 0) ⟨hx, hb, hml, hown, hts⟩ (x_X10_against l D cy a _ (va_up (va_up (va_up (va_up (va_up J 19 (J 19)) 20 (J 20)) 21 (J 21)) 22 (J 22)) 23 (J 23)) (va_up I 13 (I 13)) (va_up (va_up (va_up (va_up R 11 (R 11)) 12 (R 12)) 13 (R 13)) 14 (R 14)) RJ x0 x1 fl S P hRA hG ⟨hM.1, hM.2.1, hM.2.2.1, hM.2.2.2.1, hM.2.2.2.2.1, hM.2.2.2.2.2⟩) (cwV 2 hts gX10_meet_X10_against rfl rfl rfl (by decide +kernel) ⟨Nat.le_of_ble_eq_true rfl, Nat.le_of_ble_eq_true rfl⟩) hK hN hP hD hS hA rfl rfl rfl hl.1 rfl (Nat.le_of_ble_eq_true rfl) dX10_meet_3 ⟨Nat.le_of_ble_eq_true rfl, Nat.le_of_ble_eq_true rfl⟩ (fun r_14 u H locs hw hP hD hS => ?_)
  obtain ⟨w_15, w_16, w_17, w_18, w_19, w_20, w_21, w_22, w_23, ⟨rfl, hp_24, hp_25, hp_26⟩, rfl⟩ := hw
  have hP : va_P D vwCl (MW cy a (va_up (va_up (va_up (va_up (va_up J 19 w_15) 20 w_16) 21 w_17) 22 w_18) 23 w_19) (va_up I 13 (I 13)) (va_up (va_up (va_up (va_up R 11 w_20) 12 w_21) 13 w_22) 14 w_23) RJ) H := hP
  have hD : va_D A (MW cy a (va_up (va_up (va_up (va_up (va_up J 19 w_15) 20 w_16) 21 w_17) 22 w_18) 23 w_19) (va_up I 13 (I 13)) (va_up (va_up (va_up (va_up R 11 w_20) 12 w_21) 13 w_22) 14 w_23) RJ) := hD
  refine lv_istore (lv' := [(4, .int (aAg fl S x0 x1)), (0, .ref (a 0)), (1, .int x0), (2, .int x1), (3, .int (bI x2))]) hx hb dX10_meet_6 hl (by decide) rfl (fun ls hl => ?_)
  refine lv_iload hx hb dX10_meet_8 (lv_at hl 0 rfl) ?_
  refine lv_if_eq (tgt := 20) hx hb dX10_meet_10 (by decide) (fun c_27 => ?_) (fun c_27 => ?_)
  · obtain ⟨hAn, hAl, hva, hvb⟩ := AgP_n (hp_24 c_27)
    have hg2 := hp_25 c_27
    refine lv_lconst (v := 0) hx hb dX10_meet_20 (by decide) ?_
    refine lv_lstore (lv' := [(5, .long 0), (4, .int (aAg fl S x0 x1)), (0, .ref (a 0)), (1, .int x0), (2, .int x1), (3, .int (bI x2))]) hx hb dX10_meet_21 hl (by decide) rfl (fun ls hl => ?_)
    refine lv_lconst (v := 0) hx hb dX10_meet_23 (by decide) ?_
    refine lv_lstore (lv' := [(7, .long 0), (5, .long 0), (4, .int (aAg fl S x0 x1)), (0, .ref (a 0)), (1, .int x0), (2, .int x1), (3, .int (bI x2))]) hx hb dX10_meet_24 hl (by decide) rfl (fun ls hl => ?_)
    refine lv_iconst (v := 0) hx hb dX10_meet_26 (by decide) ?_
    refine lv_istore (lv' := [(9, .int 0), (7, .long 0), (5, .long 0), (4, .int (aAg fl S x0 x1)), (0, .ref (a 0)), (1, .int x0), (2, .int x1), (3, .int (bI x2))]) hx hb dX10_meet_27 hl (by decide) rfl (fun ls hl => ?_)
    exact lp29 _ 0 w_22 w_15 w_16 w_17 w_18 w_19 (I 13) w_20 w_21 w_22 w_23 (Nat.zero_le _) c_27 hAn hva hvb hg2.1 hg2.2 mxQ_0 (Nat.lt_succ_self _) _ _ hP hD hS ls (lv_sub hl [4, 7, 2, 1, 0] rfl)
  · refine lv_aload_n hx hb dX10_meet_13 rfl (lv_at hl 1 rfl) ?_
    refine lv_iload hx hb dX10_meet_14 (lv_at hl 0 rfl) ?_
    refine kM_i (As := [.int (aAg fl S x0 x1)]) (rest := []) (q0 := 0) ⟨hx, hb, hml, hown, hts⟩ (c_X10_finding l D cy a _ (va_up (va_up (va_up (va_up (va_up J 19 w_15) 20 w_16) 21 w_17) 22 w_18) 23 w_19) (va_up I 13 (I 13)) (va_up (va_up (va_up (va_up R 11 w_20) 12 w_21) 13 w_22) 14 w_23) RJ (aAg fl S x0 x1) ) (cwV 1 hts gX10_meet_X10_finding rfl rfl rfl (by decide +kernel) ⟨Nat.le_of_ble_eq_true rfl, Nat.le_of_ble_eq_true rfl⟩) hK hN hP hD hS hA rfl rfl rfl hl.1 rfl (Nat.le_of_ble_eq_true rfl) dX10_meet_16 ⟨Nat.le_of_ble_eq_true rfl, Nat.le_of_ble_eq_true rfl⟩ (fun r_28 u H locs hw hP hD hS => ?_)
    obtain ⟨rfl, rfl⟩ := hw
    have hP : va_P D vwCl (MW cy a (va_up (va_up (va_up (va_up (va_up J 19 w_15) 20 w_16) 21 w_17) 22 w_18) 23 w_19) (va_up I 13 ((I 13) + 1)) (va_up (va_up (va_up (va_up R 11 w_20) 12 w_21) 13 w_22) 14 w_23) RJ) H := hP
    have hD : va_D A (MW cy a (va_up (va_up (va_up (va_up (va_up J 19 w_15) 20 w_16) 21 w_17) 22 w_18) 23 w_19) (va_up I 13 ((I 13) + 1)) (va_up (va_up (va_up (va_up R 11 w_20) 12 w_21) 13 w_22) 14 w_23) RJ) := hD
    exact wret_i hx hb hr hlocks ((va_up (va_up (va_up (va_up (va_up J 19 w_15) 20 w_16) 21 w_17) 22 w_18) 23 w_19), (va_up I 13 ((I 13) + 1)), (va_up (va_up (va_up (va_up R 11 w_20) 12 w_21) 13 w_22) 14 w_23), RJ) ⟨w_15, w_16, w_17, w_18, w_19, ((I 13) + 1), w_20, w_21, w_22, w_23, (me_no rfl c_27), rfl⟩ hP hD hS dX10_meet_19
