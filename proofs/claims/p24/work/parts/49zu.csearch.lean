set_option maxHeartbeats 4000000 in
set_option maxRecDepth 100000 in
theorem x_X0_search (l : Launch) (D : va_G) (cy : Nat → ClassId) (a : Nat → Nat) (sz : Nat) (J : Nat → Int64) (I : Nat → Int32) (O : Nat → Option Nat) (R : Nat → Nat → Int32) (RO : Nat → Nat → Option Nat) (LL : va_W) (Y : va_W) (x0 : Int64) (hG : RG (R 9)) (hQ : Q64 (R 11)) (hF : Q64 (R 10)) (hSY : SYx (R 9) 64) (hPR : PRp x0 (R 9)) : Met l yX0_search wsX0_search ({ frames := 3, cells := 0, slots := 0, locals := 66 }) (va_Pc [.ref (a 8), .long x0] (PW D cy sz (CT cy a J I O R RO (LL ++ Y)))) (va_Qi (fun r (u : TS) => ∃ (w0 : Int64), ∃ (w1 : Int64), ∃ (w2 : Int64), ∃ (w3 : Int32), ∃ (w4 : Nat → Int32), ∃ (w5 : Nat → Int32), ((Q64 w5) ∧ (Q64 w4) ∧ (m1in r) ∧ (r = -1 → sEnd x0 (sv w2 w0) (R 9) (-1) ∧ ∀ d, d < 64 → (bfx w2 d = true ↔ (dk x0 d ∧ ¬ sv w2 w0 d = 0))) ∧ (sfOk2 x0 (-1) w4 (R 9) r) ∧ (∀ d, d < 64 → (bfx w1 d = true ↔ UD x0 (R 9) d))) ∧ u = ((va_up (va_up (va_up J 260 w0) 261 w1) 262 w2), (va_up I 259 w3), O, (va_up (va_up R 10 w4) 11 w5), RO, LL, Y)) (BW D (va_A (CT cy a J I O R RO (LL ++ Y)) sz) (CTu cy a)) (va_A (CT cy a J I O R RO (LL ++ Y)) sz)) 0 0 (va_A (CT cy a J I O R RO (LL ++ Y)) sz) := by
  refine Met.ofW (cc := cX0_search) (maxL := 9) (ret := (some .int)) (by decide) rfl ?_
  intro p e s m args below meth c s₁ B hml hv
  obtain ⟨rfl, rfl, hP, hK, hN, hD0⟩ := hv
  have hx := B.exec
  have hb := B.bytes
  have hr := B.returns
  have hts := atoms_spec (ws := wsX0_search) B.pre
  have hown : s.vm.findClass RX0 = some m.cls := findClass_of_methodNamed B.named
  have hlocks := B.notSynchronized
  have hw0 := hts (.fieldLink RX0 13 "ParquetLayer$Covering" "reachedFrom" "[I") (by decide +kernel)
  have hw1 := hts (.fieldLink RX0 7 "ParquetLayer$Covering" "mate" "[I") (by decide +kernel)
  have hw2 := hts (.fieldLink RX0 41 "ParquetLayer$Covering" "seen" "J") (by decide +kernel)
  have hw3 := hts (.fieldLink RX0 16 "ParquetLayer$Covering" "queue" "[I") (by decide +kernel)
  have hw4 := hts (.fieldLink RX0 45 "ParquetLayer$Covering" "queued" "I") (by decide +kernel)
  have hw5 := hts (.constantLong RX0 53 (-1)) (by decide +kernel)
  have hw6 := hts (.methodLink RX0 55 Lib.Math.min.name) (by decide +kernel)
  have hw7 := hts (.static Lib.Math.min.name) (by decide +kernel)
  have hw8 := hts (.initialized "java/lang/Math") (by decide +kernel)
  have hw9 := hts (.code Lib.Math.min.name Lib.Math.min.code 2 (some .int)) (by decide +kernel)
  have hw10 := hts (.methodLink RX0 61 Lib.Math.max.name) (by decide +kernel)
  have hw11 := hts (.static Lib.Math.max.name) (by decide +kernel)
  have hw12 := hts (.code Lib.Math.max.name Lib.Math.max.code 2 (some .int)) (by decide +kernel)
  have hw13 := hts (.constantLong RX0 35 (-6172840429334713771)) (by decide +kernel)
  have hi0 := ihX0_search_0
  have hD := hD0.self (sz := s.heap.size)
  generalize hAe : va_A (CT cy a J I O R RO (LL ++ Y)) s.heap.size = A at hD ⊢
  have hA : ∀ q : Nat, s.heap.size ≤ q → A q := fun q h => by rw [← hAe]; exact Or.inr h
  have hS : va_S A s.heap s.heap [] := va_S.rf
  have hl := lv_entry ([.ref (a 8), .long x0]) (n := 9) (Nat.le_of_ble_eq_true rfl)
  rw [lg_entry_eq]
  generalize (lg_sl ([.ref (a 8), .long x0]) ++ List.replicate (9 - (lg_sl ([.ref (a 8), .long x0])).length) Slot.unset).toArray = ls at hl ⊢
  have hl : lv_has ls 9 [(0, .ref (a 8)), (1, .long x0)] := hl
  have lp16 : ∀ (n16 : Nat), ∀ (i : Nat) (m0_16 : Int64) (m1_16 : Int64) (m2_16 : Int64) (m3_16 : Int32) (m4_16 : Nat → Int32) (m5_16 : Nat → Int32), (i ≤ 64) → (vp_in m3_16 65) → (Q64 m5_16) → (Q64 m4_16) → (seI x0 m2_16 m0_16 (R 9) m4_16 m5_16 m3_16 i) → (∀ d, d < 64 → (bfx m1_16 d = true ↔ UD x0 (R 9) d)) → (64 - i) < n16 → ∀ (H : Heap) (locs : List Loc), va_P D vwCl (CT cy a (va_up (va_up (va_up J 260 m0_16) 261 m1_16) 262 m2_16) (va_up I 259 m3_16) O (va_up (va_up R 10 m4_16) 11 m5_16) RO (LL ++ Y)) H → va_D A (CT cy a (va_up (va_up (va_up J 260 m0_16) 261 m1_16) 262 m2_16) (va_up I 259 m3_16) O (va_up (va_up R 10 m4_16) 11 m5_16) RO (LL ++ Y)) → va_S A s.heap H locs → ∀ (ls : Array Slot), lv_has ls 9 [(0, .ref (a 8)), (1, .long x0), (3, .int (nI i))] → W p l e (headSpec wsX0_search ({ frames := 3, cells := 0, slots := 0, locals := 66 })).room s m ([.ref (a 8), .long x0] : List Value).toArray below meth c H locs 0 0 (MQ below (va_Qi (fun r (u : TS) => ∃ (w0 : Int64), ∃ (w1 : Int64), ∃ (w2 : Int64), ∃ (w3 : Int32), ∃ (w4 : Nat → Int32), ∃ (w5 : Nat → Int32), ((Q64 w5) ∧ (Q64 w4) ∧ (m1in r) ∧ (r = -1 → sEnd x0 (sv w2 w0) (R 9) (-1) ∧ ∀ d, d < 64 → (bfx w2 d = true ↔ (dk x0 d ∧ ¬ sv w2 w0 d = 0))) ∧ (sfOk2 x0 (-1) w4 (R 9) r) ∧ (∀ d, d < 64 → (bfx w1 d = true ↔ UD x0 (R 9) d))) ∧ u = ((va_up (va_up (va_up J 260 w0) 261 w1) 262 w2), (va_up I 259 w3), O, (va_up (va_up R 10 w4) 11 w5), RO, LL, Y)) (BW D A (CTu cy a)) A) ([.ref (a 8), .long x0] : List Value).toArray s 0 0 A) (F0 m 16 ls []) := by
    intro n16
    induction n16 with
    | zero => intro i m0_16 m1_16 m2_16 m3_16 m4_16 m5_16 hi hq hQ hF hsI hlf hn; exact absurd hn (Nat.not_lt_zero _)
    | succ n16 ih16 =>
      intro i m0_16 m1_16 m2_16 m3_16 m4_16 m5_16 hi hq hQ hF hsI hlf hn16 H locs hP hD hS ls hl
      have lp84 : ∀ (n84 : Nat), ∀ (l9 : Nat) (d9 : Nat) (v5_84 : Int64) (v7_84 : Int32) (m0_84 : Int64) (m1_84 : Int64) (m2_84 : Int64) (m3_84 : Int32) (m4_84 : Nat → Int32) (m5_84 : Nat → Int32), (l9 ≤ 64) → (i < 64) → (d9 < 64) → (v7_84 ≤ 63) → (vp_in m3_84 65) → (Q64 m5_84) → (Q64 m4_84) → (v7_84 = nI (if d9 + 8 < 63 then d9 + 8 else 63)) → (seJ x0 m2_84 m0_84 v5_84 (R 9) m4_84 m5_84 m3_84 i d9 l9) → (∀ d, d < 64 → (bfx m1_84 d = true ↔ UD x0 (R 9) d)) → (64 - l9) < n84 → ∀ (H : Heap) (locs : List Loc), va_P D vwCl (CT cy a (va_up (va_up (va_up J 260 m0_84) 261 m1_84) 262 m2_84) (va_up I 259 m3_84) O (va_up (va_up R 10 m4_84) 11 m5_84) RO (LL ++ Y)) H → va_D A (CT cy a (va_up (va_up (va_up J 260 m0_84) 261 m1_84) 262 m2_84) (va_up I 259 m3_84) O (va_up (va_up R 10 m4_84) 11 m5_84) RO (LL ++ Y)) → va_S A s.heap H locs → ∀ (ls : Array Slot), lv_has ls 9 [(0, .ref (a 8)), (1, .long x0), (3, .int (nI i)), (4, .int (nI d9)), (5, .long v5_84), (7, .int v7_84), (8, .int (nI l9))] → W p l e (headSpec wsX0_search ({ frames := 3, cells := 0, slots := 0, locals := 66 })).room s m ([.ref (a 8), .long x0] : List Value).toArray below meth c H locs 0 0 (MQ below (va_Qi (fun r (u : TS) => ∃ (w0 : Int64), ∃ (w1 : Int64), ∃ (w2 : Int64), ∃ (w3 : Int32), ∃ (w4 : Nat → Int32), ∃ (w5 : Nat → Int32), ((Q64 w5) ∧ (Q64 w4) ∧ (m1in r) ∧ (r = -1 → sEnd x0 (sv w2 w0) (R 9) (-1) ∧ ∀ d, d < 64 → (bfx w2 d = true ↔ (dk x0 d ∧ ¬ sv w2 w0 d = 0))) ∧ (sfOk2 x0 (-1) w4 (R 9) r) ∧ (∀ d, d < 64 → (bfx w1 d = true ↔ UD x0 (R 9) d))) ∧ u = ((va_up (va_up (va_up J 260 w0) 261 w1) 262 w2), (va_up I 259 w3), O, (va_up (va_up R 10 w4) 11 w5), RO, LL, Y)) (BW D A (CTu cy a)) A) ([.ref (a 8), .long x0] : List Value).toArray s 0 0 A) (F0 m 84 ls []) := by
        intro n84
        induction n84 with
        | zero => intro l9 d9 v5_84 v7_84 m0_84 m1_84 m2_84 m3_84 m4_84 m5_84 hl9 hlt_i hd9 hv7 hq hQ hF hv7e hsJ hlf2 hn; exact absurd hn (Nat.not_lt_zero _)
        | succ n84 ih84 =>
          intro l9 d9 v5_84 v7_84 m0_84 m1_84 m2_84 m3_84 m4_84 m5_84 hl9 hlt_i hd9 hv7 hq hQ hF hv7e hsJ hlf2 hn84 H locs hP hD hS ls hl
          refine lv_iload hx hb dX0_search_84 (lv_at hl 6 rfl) ?_
          refine lv_iload hx hb dX0_search_86 (lv_at hl 5 rfl) ?_
          refine lv_icmp_gt (tgt := 154) hx hb dX0_search_88 (by decide) (fun c_1 => ?_) (fun c_1 => ?_)
          · refine lv_iinc (v := nI (i + 1)) (lv' := [(3, .int (nI (i + 1))), (0, .ref (a 8)), (1, .long x0), (4, .int (nI d9)), (5, .long v5_84), (7, .int v7_84), (8, .int (nI l9))]) hx hb dX0_search_154 hl (k := 2) rfl (nI_1 _) (by decide) rfl (fun ls hl => ?_)
            refine lv_goto (tgt := 16) hx hb dX0_search_157 (by decide) ?_
            exact ih16 (i + 1) m0_84 m1_84 m2_84 m3_84 m4_84 m5_84 hlt_i hq hQ hF (se_s hd9 hsJ (by rw [← hv7e]; exact c_1) hl9) hlf2 (lt_dec hlt_i hn16) _ _ hP hD hS ls (lv_sub hl [1, 2, 0] rfl)
          · have hll := lg_lt hv7 hl9 c_1
            refine lv_lload hx hb dX0_search_91 (lv_at hl 4 rfl) ?_
            refine lv_iload hx hb dX0_search_93 (lv_at hl 6 rfl) ?_
            refine kS_i (As := [.long v5_84, .int (nI l9)]) (rest := []) ⟨hx, hb, hml, hown, hts⟩ (c_X1_holds l v5_84 (nI l9)) (va_cwS 2 hts gX0_search_X1_holds rfl rfl rfl (by decide +kernel) ⟨Nat.le_of_ble_eq_true rfl, Nat.le_of_ble_eq_true rfl⟩) rfl hl.1 rfl (Nat.le_of_ble_eq_true rfl) dX0_search_95 ⟨Nat.le_of_ble_eq_true rfl, Nat.le_of_ble_eq_true rfl⟩ ?_
            refine lv_if_eq (tgt := 148) hx hb dX0_search_98 (by decide) (fun c_2 => ?_) (fun c_2 => ?_)
            · replace c_2 := bI_f c_2
              refine lv_iinc (v := nI (l9 + 1)) (lv' := [(8, .int (nI (l9 + 1))), (0, .ref (a 8)), (1, .long x0), (3, .int (nI i)), (4, .int (nI d9)), (5, .long v5_84), (7, .int v7_84)]) hx hb dX0_search_148 hl (k := 6) rfl (nI_1 _) (by decide) rfl (fun ls hl => ?_)
              refine lv_goto (tgt := 84) hx hb dX0_search_151 (by decide) ?_
              exact ih84 (l9 + 1) d9 v5_84 v7_84 m0_84 m1_84 m2_84 m3_84 m4_84 m5_84 hll hlt_i hd9 hv7 hq hQ hF hv7e (se_no hll hsJ c_2) hlf2 (lt_dec hll hn84) _ _ hP hD hS ls (lv_sub hl [1, 2, 3, 4, 5, 6, 0] rfl)
            · replace c_2 := bI_t c_2
              refine lv_aload_n hx hb dX0_search_101 rfl (lv_at hl 0 rfl) ?_
              refine va_get (D := D) (ci := 0) (v := .ref (a 10)) (C := RX0) (T := TX0) (N := 7) hx hb hts hi0 hown hK hP 8 rfl rfl 1 (by decide) hw0 (fun _ h9 => h9) rfl dX0_search_102 ?_
              refine lv_iload hx hb dX0_search_105 (lv_at hl 6 rfl) ?_
              refine lv_iload hx hb dX0_search_107 (lv_at hl 3 rfl) ?_
              refine va_iast hx hb hK hP hD hS 10 0 rfl rfl (vp_in_nI hll (by decide)) dX0_search_109 (fun H locs hP hD hS => ?_)
              have hP : va_P D vwCl (CT cy a (va_up (va_up (va_up J 260 m0_84) 261 m1_84) 262 m2_84) (va_up I 259 m3_84) O (va_up (va_up R 10 (upd m4_84 (nI l9).toNatClampNeg (nI d9))) 11 m5_84) RO (LL ++ Y)) H := hP
              have hD : va_D A (CT cy a (va_up (va_up (va_up J 260 m0_84) 261 m1_84) 262 m2_84) (va_up I 259 m3_84) O (va_up (va_up R 10 (upd m4_84 (nI l9).toNatClampNeg (nI d9))) 11 m5_84) RO (LL ++ Y)) := hD
              refine lv_aload_n hx hb dX0_search_110 rfl (lv_at hl 0 rfl) ?_
              refine va_get (D := D) (ci := 0) (v := .ref (a 9)) (C := RX0) (T := TX0) (N := 7) hx hb hts hi0 hown hK hP 8 rfl rfl 0 (by decide) hw1 (fun _ h9 => h9) rfl dX0_search_111 ?_
              refine lv_iload hx hb dX0_search_114 (lv_at hl 6 rfl) ?_
              refine va_iald hx hb hK hP 9 0 rfl rfl (vp_in_nI hll (by decide)) dX0_search_116 ?_
              refine lv_iconst (v := (-1)) hx hb dX0_search_117 (by decide) ?_
              refine lv_icmp_ne (tgt := 124) hx hb dX0_search_118 (by decide) (fun c_3 => ?_) (fun c_3 => ?_)
              · obtain ⟨x9, hx9, ex9⟩ := rg_x hG hll c_3
                refine lv_aload_n hx hb dX0_search_124 rfl (lv_at hl 0 rfl) ?_
                refine lv_dup hx hb dX0_search_125 rfl ?_
                refine va_get (D := D) (ci := 0) (v := .long m0_84) (C := RX0) (T := TX0) (N := 7) hx hb hts hi0 hown hK hP 8 rfl rfl 4 (by decide) hw2 (fun _ h9 => h9) rfl dX0_search_126 ?_
                refine lv_lconst (v := 1) hx hb dX0_search_129 (by decide) ?_
                refine lv_iload hx hb dX0_search_130 (lv_at hl 6 rfl) ?_
                refine lv_lshl (v := (1 : Int64) <<< ((nI l9 : Int32).toInt64 &&& 63)) hx hb dX0_search_132 rfl ?_
                refine lv_lor hx hb dX0_search_133 ?_
                refine va_put (D := D) (ci := 0) (v := .long (m0_84 ||| ((1 : Int64) <<< ((nI l9 : Int32).toInt64 &&& 63)))) (ty := .long) (C := RX0) (T := TX0) (N := 7) hx hb hts hi0 tyX0 tyX0_ok nmX0 hown hK hP hD hS 8 rfl rfl 4 (by decide) hw2 (fun _ h9 => h9) rfl (by decide +kernel) rfl rfl (Nat.le_of_ble_eq_true rfl) dX0_search_134 (fun H locs hP hD hS => ?_)
                have hP : va_P D vwCl (CT cy a (va_up (va_up (va_up J 260 (m0_84 ||| ((1 : Int64) <<< ((nI l9 : Int32).toInt64 &&& 63)))) 261 m1_84) 262 m2_84) (va_up I 259 m3_84) O (va_up (va_up R 10 (upd m4_84 (nI l9).toNatClampNeg (nI d9))) 11 m5_84) RO (LL ++ Y)) H := hP
                have hD : va_D A (CT cy a (va_up (va_up (va_up J 260 (m0_84 ||| ((1 : Int64) <<< ((nI l9 : Int32).toInt64 &&& 63)))) 261 m1_84) 262 m2_84) (va_up I 259 m3_84) O (va_up (va_up R 10 (upd m4_84 (nI l9).toNatClampNeg (nI d9))) 11 m5_84) RO (LL ++ Y)) := hD
                refine lv_aload_n hx hb dX0_search_137 rfl (lv_at hl 0 rfl) ?_
                refine lv_aload_n hx hb dX0_search_138 rfl (lv_at hl 0 rfl) ?_
                refine va_get (D := D) (ci := 0) (v := .ref (a 9)) (C := RX0) (T := TX0) (N := 7) hx hb hts hi0 hown hK hP 8 rfl rfl 0 (by decide) hw1 (fun _ h9 => h9) rfl dX0_search_139 ?_
                refine lv_iload hx hb dX0_search_142 (lv_at hl 6 rfl) ?_
                refine va_iald hx hb hK hP 9 0 rfl rfl (vp_in_nI hll (by decide)) dX0_search_144 ?_
                refine wtop_i (y := nI x9) ex9 ?_
                refine kM_v (As := [.int (nI x9)]) (rest := []) (q0 := 8) ⟨hx, hb, hml, hown, hts⟩ (x_X0_enqueue l D cy a _ (va_up (va_up (va_up J 260 (m0_84 ||| ((1 : Int64) <<< ((nI l9 : Int32).toInt64 &&& 63)))) 261 m1_84) 262 m2_84) (va_up I 259 m3_84) O (va_up (va_up R 10 (upd m4_84 (nI l9).toNatClampNeg (nI d9))) 11 m5_84) RO LL Y (nI x9) (vp_in_nI hx9 (by decide)) hq hQ  ) (cwV 1 hts gX0_search_X0_enqueue rfl rfl rfl (by decide +kernel) ⟨Nat.le_of_ble_eq_true rfl, Nat.le_of_ble_eq_true rfl⟩) hK hN hP hD hS hA rfl rfl rfl hl.1 rfl (Nat.le_of_ble_eq_true rfl) dX0_search_145 ⟨Nat.le_of_ble_eq_true rfl, Nat.le_of_ble_eq_true rfl⟩ (fun u H locs hw hP hD hS => ?_)
                obtain ⟨w_5, w_6, w_7, ⟨hp_8, hp_9, hp_10⟩, rfl⟩ := hw
                have hP : va_P D vwCl (CT cy a (va_up (va_up (va_up J 260 (m0_84 ||| ((1 : Int64) <<< ((nI l9 : Int32).toInt64 &&& 63)))) 261 m1_84) 262 w_5) (va_up I 259 w_6) O (va_up (va_up R 10 (upd m4_84 (nI l9).toNatClampNeg (nI d9))) 11 w_7) RO (LL ++ Y)) H := hP
                have hD : va_D A (CT cy a (va_up (va_up (va_up J 260 (m0_84 ||| ((1 : Int64) <<< ((nI l9 : Int32).toInt64 &&& 63)))) 261 m1_84) 262 w_5) (va_up I 259 w_6) O (va_up (va_up R 10 (upd m4_84 (nI l9).toNatClampNeg (nI d9))) 11 w_7) RO (LL ++ Y)) := hD
                refine lv_iinc (v := nI (l9 + 1)) (lv' := [(8, .int (nI (l9 + 1))), (0, .ref (a 8)), (1, .long x0), (3, .int (nI i)), (4, .int (nI d9)), (5, .long v5_84), (7, .int v7_84)]) hx hb dX0_search_148 hl (k := 6) rfl (nI_1 _) (by decide) rfl (fun ls hl => ?_)
                refine lv_goto (tgt := 84) hx hb dX0_search_151 (by decide) ?_
                exact ih84 (l9 + 1) d9 v5_84 v7_84 (m0_84 ||| ((1 : Int64) <<< ((nI l9 : Int32).toInt64 &&& 63))) m1_84 w_5 w_6 (upd m4_84 (nI l9).toNatClampNeg (nI d9)) w_7 hll hlt_i hd9 hv7 hp_8 hp_9 (Q64_up hF (vp_in_nI hd9 (by decide))) hv7e (se_y hSY hPR hll hd9 hx9 hsJ c_2 ex9 hp_10) hlf2 (lt_dec hll hn84) _ _ hP hD hS ls (lv_sub hl [1, 2, 3, 4, 5, 6, 0] rfl)
              · refine lv_iload hx hb dX0_search_121 (lv_at hl 6 rfl) ?_
                exact wret_i hx hb hr hlocks ((va_up (va_up (va_up J 260 m0_84) 261 m1_84) 262 m2_84), (va_up I 259 m3_84), O, (va_up (va_up R 10 (upd m4_84 (nI l9).toNatClampNeg (nI d9))) 11 m5_84), RO, LL, Y) ⟨m0_84, m1_84, m2_84, m3_84, (upd m4_84 (nI l9).toNatClampNeg (nI d9)), m5_84, ⟨hQ, (Q64_up hF (vp_in_nI hd9 (by decide))), (Or.inr (vp_in_nI hll (by decide))), (fun z => absurd z (nI_ne1 hll)), (se_r hll hd9 hsJ c_2 c_3), hlf2⟩, rfl⟩ hP hD hS dX0_search_123
      refine lv_iload_n hx hb dX0_search_16 rfl (lv_at hl 2 rfl) ?_
      refine lv_aload_n hx hb dX0_search_17 rfl (lv_at hl 0 rfl) ?_
      refine va_get (D := D) (ci := 0) (v := .ref (a 11)) (C := RX0) (T := TX0) (N := 7) hx hb hts hi0 hown hK hP 8 rfl rfl 2 (by decide) hw3 (fun _ h9 => h9) rfl dX0_search_18 ?_
      refine va_alen hx hb hK hP 11 0 rfl rfl (v := 64) rfl dX0_search_21 ?_
      refine lv_icmp_ge (tgt := 160) hx hb dX0_search_22 (by decide) (fun c_11 => ?_) (fun c_11 => ?_)
      · have hie_i := ctr_ge (N := 64) (by decide) hi c_11
        refine lv_iconst (v := (-1)) hx hb dX0_search_160 (by decide) ?_
        exact wret_i hx hb hr hlocks ((va_up (va_up (va_up J 260 m0_16) 261 m1_16) 262 m2_16), (va_up I 259 m3_16), O, (va_up (va_up R 10 m4_16) 11 m5_16), RO, LL, Y) ⟨m0_16, m1_16, m2_16, m3_16, m4_16, m5_16, ⟨hQ, hF, (Or.inl rfl), (fun _ => (se_e hSY hPR hi hsI (Or.inr hie_i))), (Or.inl rfl), hlf⟩, rfl⟩ hP hD hS dX0_search_161
      · have hlt_i := ctr_lt (N := 64) (by decide) hi c_11
        refine lv_iload_n hx hb dX0_search_25 rfl (lv_at hl 2 rfl) ?_
        refine lv_aload_n hx hb dX0_search_26 rfl (lv_at hl 0 rfl) ?_
        refine va_get (D := D) (ci := 0) (v := .int m3_16) (C := RX0) (T := TX0) (N := 7) hx hb hts hi0 hown hK hP 8 rfl rfl 3 (by decide) hw4 (fun _ h9 => h9) rfl dX0_search_27 ?_
        refine lv_icmp_ge (tgt := 160) hx hb dX0_search_30 (by decide) (fun c_12 => ?_) (fun c_12 => ?_)
        · refine lv_iconst (v := (-1)) hx hb dX0_search_160 (by decide) ?_
          exact wret_i hx hb hr hlocks ((va_up (va_up (va_up J 260 m0_16) 261 m1_16) 262 m2_16), (va_up I 259 m3_16), O, (va_up (va_up R 10 m4_16) 11 m5_16), RO, LL, Y) ⟨m0_16, m1_16, m2_16, m3_16, m4_16, m5_16, ⟨hQ, hF, (Or.inl rfl), (fun _ => (se_e hSY hPR hi hsI (Or.inl c_12))), (Or.inl rfl), hlf⟩, rfl⟩ hP hD hS dX0_search_161
        · obtain ⟨d9, hd9, ed9, hsJ0⟩ := se_t hlt_i hsI c_12
          refine lv_aload_n hx hb dX0_search_33 rfl (lv_at hl 0 rfl) ?_
          refine va_get (D := D) (ci := 0) (v := .ref (a 11)) (C := RX0) (T := TX0) (N := 7) hx hb hts hi0 hown hK hP 8 rfl rfl 2 (by decide) hw3 (fun _ h9 => h9) rfl dX0_search_34 ?_
          refine lv_iload_n hx hb dX0_search_37 rfl (lv_at hl 2 rfl) ?_
          refine va_iald hx hb hK hP 11 0 rfl rfl (vp_in_nI hlt_i (by decide)) dX0_search_38 ?_
          refine wtop_i (y := nI d9) ed9 ?_
          refine lv_istore (lv' := [(4, .int (nI d9)), (0, .ref (a 8)), (1, .long x0), (3, .int (nI i))]) hx hb dX0_search_39 hl (by decide) rfl (fun ls hl => ?_)
          refine lv_lconst (v := 1) hx hb dX0_search_41 (by decide) ?_
          refine lv_iload hx hb dX0_search_42 (lv_at hl 0 rfl) ?_
          refine lv_lshl (v := (1 : Int64) <<< ((nI d9 : Int32).toInt64 &&& 63)) hx hb dX0_search_44 rfl ?_
          refine kS_l (As := [.long ((1 : Int64) <<< ((nI d9 : Int32).toInt64 &&& 63))]) (rest := []) ⟨hx, hb, hml, hown, hts⟩ (x_X1_beside l ((1 : Int64) <<< ((nI d9 : Int32).toInt64 &&& 63))) (va_cwS 1 hts gX0_search_X1_beside rfl rfl rfl (by decide +kernel) ⟨Nat.le_of_ble_eq_true rfl, Nat.le_of_ble_eq_true rfl⟩) rfl hl.1 rfl (Nat.le_of_ble_eq_true rfl) dX0_search_45 ⟨Nat.le_of_ble_eq_true rfl, Nat.le_of_ble_eq_true rfl⟩ ?_
          refine lv_lload_n hx hb dX0_search_48 rfl (lv_at hl 2 rfl) ?_
          refine lv_land hx hb dX0_search_49 ?_
          refine lv_aload_n hx hb dX0_search_50 rfl (lv_at hl 1 rfl) ?_
          refine va_get (D := D) (ci := 0) (v := .long m0_16) (C := RX0) (T := TX0) (N := 7) hx hb hts hi0 hown hK hP 8 rfl rfl 4 (by decide) hw2 (fun _ h9 => h9) rfl dX0_search_51 ?_
          refine lv_ldc2 (v := (-1)) hx hb hown hw5 dX0_search_54 ?_
          refine lv_lxor hx hb dX0_search_57 ?_
          refine lv_land hx hb dX0_search_58 ?_
          refine lv_lstore (lv' := [(5, .long (((g_beside ((1 : Int64) <<< ((nI d9 : Int32).toInt64 &&& 63))) &&& x0) &&& (m0_16 ^^^ (-1)))), (4, .int (nI d9)), (0, .ref (a 8)), (1, .long x0), (3, .int (nI i))]) hx hb dX0_search_59 hl (by decide) rfl (fun ls hl => ?_)
          refine lv_bipush (v := 63) hx hb dX0_search_61 (by decide) ?_
          refine lv_iload hx hb dX0_search_63 (lv_at hl 1 rfl) ?_
          refine lv_bipush (v := 8) hx hb dX0_search_65 (by decide) ?_
          refine lv_iadd hx hb dX0_search_67 ?_
          refine va_mmin hx hb (by rw [hml]; exact hl.1.symm) hown hw6 hw7 hw8 hw9 (Nat.le_of_ble_eq_true rfl) (Nat.le_of_ble_eq_true rfl) (Nat.le_of_ble_eq_true rfl) (Nat.le_of_ble_eq_true rfl) dX0_search_68 ?_
          refine lv_istore (lv' := [(7, .int (if ((nI d9) + 8) < 63 then ((nI d9) + 8) else 63)), (5, .long (((g_beside ((1 : Int64) <<< ((nI d9 : Int32).toInt64 &&& 63))) &&& x0) &&& (m0_16 ^^^ (-1)))), (4, .int (nI d9)), (0, .ref (a 8)), (1, .long x0), (3, .int (nI i))]) hx hb dX0_search_71 hl (by decide) rfl (fun ls hl => ?_)
          refine lv_iconst (v := 0) hx hb dX0_search_73 (by decide) ?_
          refine lv_iload hx hb dX0_search_74 (lv_at hl 2 rfl) ?_
          refine lv_bipush (v := 8) hx hb dX0_search_76 (by decide) ?_
          refine lv_isub hx hb dX0_search_78 ?_
          refine va_mmax hx hb (by rw [hml]; exact hl.1.symm) hown hw10 hw11 hw8 hw12 (Nat.le_of_ble_eq_true rfl) (Nat.le_of_ble_eq_true rfl) (Nat.le_of_ble_eq_true rfl) (Nat.le_of_ble_eq_true rfl) dX0_search_79 ?_
          refine wtop_i (y := nI (d9 - 8)) (mx_t2 ⟨d9, hd9⟩) ?_
          refine lv_istore (lv' := [(8, .int (nI (d9 - 8))), (7, .int (if ((nI d9) + 8) < 63 then ((nI d9) + 8) else 63)), (5, .long (((g_beside ((1 : Int64) <<< ((nI d9 : Int32).toInt64 &&& 63))) &&& x0) &&& (m0_16 ^^^ (-1)))), (4, .int (nI d9)), (0, .ref (a 8)), (1, .long x0), (3, .int (nI i))]) hx hb dX0_search_82 hl (by decide) rfl (fun ls hl => ?_)
          exact lp84 _ (d9 - 8) d9 (((g_beside ((1 : Int64) <<< ((nI d9 : Int32).toInt64 &&& 63))) &&& x0) &&& (m0_16 ^^^ (-1))) (if ((nI d9) + 8) < 63 then ((nI d9) + 8) else 63) m0_16 m1_16 m2_16 m3_16 m4_16 m5_16 (Nat.le_trans (Nat.sub_le _ _) (Nat.le_of_lt hd9)) hlt_i hd9 mn_le hq hQ hF (mn_t2 ⟨d9, hd9⟩) hsJ0 hlf (Nat.lt_succ_self _) _ _ hP hD hS ls (lv_sub hl [4, 5, 6, 3, 2, 1, 0] rfl)
  have hP : va_P D vwCl (CT cy a (va_up (va_up (va_up J 260 (J 260)) 261 (J 261)) 262 (J 262)) (va_up I 259 (I 259)) O (va_up (va_up R 10 (R 10)) 11 (R 11)) RO (LL ++ Y)) s.heap := hP
  have hD : va_D A (CT cy a (va_up (va_up (va_up J 260 (J 260)) 261 (J 261)) 262 (J 262)) (va_up I 259 (I 259)) O (va_up (va_up R 10 (R 10)) 11 (R 11)) RO (LL ++ Y)) := hD
  refine lv_aload_n hx hb dX0_search_0 rfl (lv_at hl 0 rfl) ?_
  refine lv_lload_n hx hb dX0_search_1 rfl (lv_at hl 1 rfl) ?_
  refine lv_ldc2 (v := (-6172840429334713771)) hx hb hown hw13 dX0_search_2 ?_
  refine lv_land hx hb dX0_search_5 ?_
  refine kM_v (As := [.long (x0 &&& (-6172840429334713771))]) (rest := []) (q0 := 8) ⟨hx, hb, hml, hown, hts⟩ (x_X0_queueLeft l D cy a _ (va_up (va_up (va_up J 260 (J 260)) 261 (J 261)) 262 (J 262)) (va_up I 259 (I 259)) O (va_up (va_up R 10 (R 10)) 11 (R 11)) RO LL Y (x0 &&& (-6172840429334713771)) hQ x0 rfl  ) (cwV 1 hts gX0_search_X0_queueLeft rfl rfl rfl (by decide +kernel) ⟨Nat.le_of_ble_eq_true rfl, Nat.le_of_ble_eq_true rfl⟩) hK hN hP hD hS hA rfl rfl rfl hl.1 rfl (Nat.le_of_ble_eq_true rfl) dX0_search_6 ⟨Nat.le_of_ble_eq_true rfl, Nat.le_of_ble_eq_true rfl⟩ (fun u H locs hw hP hD hS => ?_)
  obtain ⟨w_14, w_15, w_16, w_17, ⟨hp_18, hp_19, hp_20, hp_21⟩, rfl⟩ := hw
  have hP : va_P D vwCl (CT cy a (va_up (va_up (va_up J 260 (J 260)) 261 w_14) 262 w_15) (va_up I 259 w_16) O (va_up (va_up R 10 (R 10)) 11 w_17) RO (LL ++ Y)) H := hP
  have hD : va_D A (CT cy a (va_up (va_up (va_up J 260 (J 260)) 261 w_14) 262 w_15) (va_up I 259 w_16) O (va_up (va_up R 10 (R 10)) 11 w_17) RO (LL ++ Y)) := hD
  refine lv_aload_n hx hb dX0_search_9 rfl (lv_at hl 0 rfl) ?_
  refine lv_lconst (v := 0) hx hb dX0_search_10 (by decide) ?_
  refine va_put (D := D) (ci := 0) (v := .long 0) (ty := .long) (C := RX0) (T := TX0) (N := 7) hx hb hts hi0 tyX0 tyX0_ok nmX0 hown hK hP hD hS 8 rfl rfl 4 (by decide) hw2 (fun _ h9 => h9) rfl (by decide +kernel) rfl rfl (Nat.le_of_ble_eq_true rfl) dX0_search_11 (fun H locs hP hD hS => ?_)
  have hP : va_P D vwCl (CT cy a (va_up (va_up (va_up J 260 0) 261 w_14) 262 w_15) (va_up I 259 w_16) O (va_up (va_up R 10 (R 10)) 11 w_17) RO (LL ++ Y)) H := hP
  have hD : va_D A (CT cy a (va_up (va_up (va_up J 260 0) 261 w_14) 262 w_15) (va_up I 259 w_16) O (va_up (va_up R 10 (R 10)) 11 w_17) RO (LL ++ Y)) := hD
  refine lv_iconst (v := 0) hx hb dX0_search_14 (by decide) ?_
  refine lv_istore_n (lv' := [(3, .int 0), (0, .ref (a 8)), (1, .long x0)]) hx hb dX0_search_15 rfl hl (by decide) rfl (fun ls hl => ?_)
  exact lp16 _ 0 0 w_14 w_15 w_16 (R 10) w_17 (Nat.zero_le _) hp_18 hp_19 hF (se_0 hp_20 rfl) (qB_lf hp_20 hp_21) (Nat.lt_succ_self _) _ _ hP hD hS ls (lv_sub hl [1, 2, 0] rfl)
