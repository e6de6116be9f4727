set_option maxHeartbeats 4000000 in
set_option maxRecDepth 100000 in
theorem x_X2_mix (l : Launch) (D : va_G) (cy : Nat → ClassId) (a : Nat → Nat) (sz : Nat) (J : Nat → Int64) (I : Nat → Int32) (O : Nat → Option Nat) (R : Nat → Nat → Int32) (RO : Nat → Nat → Option Nat) (LL : va_W) (Y : va_W) (x0 : Bool) : Met l yX2_mix wsX2_mix ({ frames := 1, cells := 0, slots := 0, locals := 29 }) (va_Pc [.ref (a 3), .int (bI x0)] (PW D cy sz (CT cy a J I O R RO (LL ++ Y)))) (va_Qv (fun (u : TS) => ∃ (w0 : Nat → Int32), ((mxQ x0 (R 4) (R 5) w0 81)) ∧ u = (J, I, O, (va_up R 4 w0), RO, LL, Y)) (BW D (va_A (CT cy a J I O R RO (LL ++ Y)) sz) (CTu cy a)) (va_A (CT cy a J I O R RO (LL ++ Y)) sz)) 0 0 (va_A (CT cy a J I O R RO (LL ++ Y)) sz) := by
  refine Met.ofW (cc := cX2_mix) (maxL := 3) (ret := none) (by decide) rfl ?_
  intro p e s m args below meth c s₁ B hml hv
  obtain ⟨rfl, rfl, hP, hK, hN, hD0⟩ := hv
  have hx := B.exec
  have hb := B.bytes
  have hr := B.returns
  have hts := atoms_spec (ws := wsX2_mix) B.pre
  have hown : s.vm.findClass RX2 = some m.cls := findClass_of_methodNamed B.named
  have hlocks := B.notSynchronized
  have hw0 := hts (.fieldLink RX2 9 "ParquetLayer$Heights" "here" "[I") (by decide +kernel)
  have hw1 := hts (.fieldLink RX2 13 "ParquetLayer$Heights" "there" "[I") (by decide +kernel)
  have hw2 := hts (.methodLink RX2 82 Lib.Math.min.name) (by decide +kernel)
  have hw3 := hts (.static Lib.Math.min.name) (by decide +kernel)
  have hw4 := hts (.initialized "java/lang/Math") (by decide +kernel)
  have hw5 := hts (.code Lib.Math.min.name Lib.Math.min.code 2 (some .int)) (by decide +kernel)
  have hw6 := hts (.methodLink RX2 79 Lib.Math.max.name) (by decide +kernel)
  have hw7 := hts (.static Lib.Math.max.name) (by decide +kernel)
  have hw8 := hts (.code Lib.Math.max.name Lib.Math.max.code 2 (some .int)) (by decide +kernel)
  have hi2 := ihX2_mix_2
  have hD := hD0.self (sz := s.heap.size)
  generalize hAe : va_A (CT cy a J I O R RO (LL ++ Y)) s.heap.size = A at hD ⊢
  have hA : ∀ q : Nat, s.heap.size ≤ q → A q := fun q h => by rw [← hAe]; exact Or.inr h
  have hS : va_S A s.heap s.heap [] := va_S.rf
  have hl := lv_entry ([.ref (a 3), .int (bI x0)]) (n := 3) (Nat.le_of_ble_eq_true rfl)
  rw [lg_entry_eq]
  generalize (lg_sl ([.ref (a 3), .int (bI x0)]) ++ List.replicate (3 - (lg_sl ([.ref (a 3), .int (bI x0)])).length) Slot.unset).toArray = ls at hl ⊢
  have hl : lv_has ls 3 [(0, .ref (a 3)), (1, .int (bI x0))] := hl
  have lp2 : ∀ (n2 : Nat), ∀ (i : Nat) (m0_2 : Nat → Int32), (i ≤ 81) → (mxQ x0 (R 4) (R 5) m0_2 i) → (81 - i) < n2 → ∀ (H : Heap) (locs : List Loc), va_P D vwCl (CT cy a J I O (va_up R 4 m0_2) RO (LL ++ Y)) H → va_D A (CT cy a J I O (va_up R 4 m0_2) RO (LL ++ Y)) → va_S A s.heap H locs → ∀ (ls : Array Slot), lv_has ls 3 [(0, .ref (a 3)), (1, .int (bI x0)), (2, .int (nI i))] → W p l e (headSpec wsX2_mix ({ frames := 1, cells := 0, slots := 0, locals := 29 })).room s m ([.ref (a 3), .int (bI x0)] : List Value).toArray below meth c H locs 0 0 (MQ below (va_Qv (fun (u : TS) => ∃ (w0 : Nat → Int32), ((mxQ x0 (R 4) (R 5) w0 81)) ∧ u = (J, I, O, (va_up R 4 w0), RO, LL, Y)) (BW D A (CTu cy a)) A) ([.ref (a 3), .int (bI x0)] : List Value).toArray s 0 0 A) (F0 m 2 ls []) := by
    intro n2
    induction n2 with
    | zero => intro i m0_2 hi hmq hn; exact absurd hn (Nat.not_lt_zero _)
    | succ n2 ih2 =>
      intro i m0_2 hi hmq hn2 H locs hP hD hS ls hl
      refine lv_iload_n hx hb dX2_mix_2 rfl (lv_at hl 2 rfl) ?_
      refine lv_bipush (v := 81) hx hb dX2_mix_3 (by decide) ?_
      refine lv_icmp_ge (tgt := 57) hx hb dX2_mix_5 (by decide) (fun c_1 => ?_) (fun c_1 => ?_)
      · have hie_i := ctr_ge (N := 81) (by decide) hi c_1
        exact wret_v hx hb hr hlocks (J, I, O, (va_up R 4 m0_2), RO, LL, Y) ⟨m0_2, (by rw [hie_i] at hmq; exact hmq), rfl⟩ hP hD hS dX2_mix_57
      · have hlt_i := ctr_lt (N := 81) (by decide) hi c_1
        refine lv_aload_n hx hb dX2_mix_8 rfl (lv_at hl 0 rfl) ?_
        refine va_get (D := D) (ci := 1) (v := .ref (a 4)) (C := RX2) (T := TX2) (N := 5) hx hb hts hi2 hown hK hP 3 rfl rfl 0 (by decide) hw0 (fun _ h9 => h9) rfl dX2_mix_9 ?_
        refine lv_iload_n hx hb dX2_mix_12 rfl (lv_at hl 2 rfl) ?_
        refine lv_iload_n hx hb dX2_mix_13 rfl (lv_at hl 1 rfl) ?_
        refine lv_if_eq (tgt := 35) hx hb dX2_mix_14 (by decide) (fun c_2 => ?_) (fun c_2 => ?_)
        · replace c_2 := bI_f c_2
          refine lv_aload_n hx hb dX2_mix_35 rfl (lv_at hl 0 rfl) ?_
          refine va_get (D := D) (ci := 1) (v := .ref (a 4)) (C := RX2) (T := TX2) (N := 5) hx hb hts hi2 hown hK hP 3 rfl rfl 0 (by decide) hw0 (fun _ h9 => h9) rfl dX2_mix_36 ?_
          refine lv_iload_n hx hb dX2_mix_39 rfl (lv_at hl 2 rfl) ?_
          refine va_iald hx hb hK hP 4 0 rfl rfl (vp_in_nI hlt_i (by decide)) dX2_mix_40 ?_
          refine lv_aload_n hx hb dX2_mix_41 rfl (lv_at hl 0 rfl) ?_
          refine va_get (D := D) (ci := 1) (v := .ref (a 5)) (C := RX2) (T := TX2) (N := 5) hx hb hts hi2 hown hK hP 3 rfl rfl 1 (by decide) hw1 (fun _ h9 => h9) rfl dX2_mix_42 ?_
          refine lv_iload_n hx hb dX2_mix_45 rfl (lv_at hl 2 rfl) ?_
          refine va_iald hx hb hK hP 5 0 rfl rfl (vp_in_nI hlt_i (by decide)) dX2_mix_46 ?_
          refine va_mmin hx hb (by rw [hml]; exact hl.1.symm) hown hw2 hw3 hw4 hw5 (Nat.le_of_ble_eq_true rfl) (Nat.le_of_ble_eq_true rfl) (Nat.le_of_ble_eq_true rfl) (Nat.le_of_ble_eq_true rfl) dX2_mix_47 ?_
          refine va_iast hx hb hK hP hD hS 4 0 rfl rfl (vp_in_nI hlt_i (by decide)) dX2_mix_50 (fun H locs hP hD hS => ?_)
          have hP : va_P D vwCl (CT cy a J I O (va_up R 4 (upd m0_2 (nI i).toNatClampNeg (if ((R 5) (nI i).toNatClampNeg) < (m0_2 (nI i).toNatClampNeg) then ((R 5) (nI i).toNatClampNeg) else (m0_2 (nI i).toNatClampNeg)))) RO (LL ++ Y)) H := hP
          have hD : va_D A (CT cy a J I O (va_up R 4 (upd m0_2 (nI i).toNatClampNeg (if ((R 5) (nI i).toNatClampNeg) < (m0_2 (nI i).toNatClampNeg) then ((R 5) (nI i).toNatClampNeg) else (m0_2 (nI i).toNatClampNeg)))) RO (LL ++ Y)) := hD
          refine lv_iinc (v := nI (i + 1)) (lv' := [(2, .int (nI (i + 1))), (0, .ref (a 3)), (1, .int (bI x0))]) hx hb dX2_mix_51 hl (k := 2) rfl (nI_1 _) (by decide) rfl (fun ls hl => ?_)
          refine lv_goto (tgt := 2) hx hb dX2_mix_54 (by decide) ?_
          exact ih2 (i + 1) (upd m0_2 (nI i).toNatClampNeg (if ((R 5) (nI i).toNatClampNeg) < (m0_2 (nI i).toNatClampNeg) then ((R 5) (nI i).toNatClampNeg) else (m0_2 (nI i).toNatClampNeg))) hlt_i (mxQ_u hlt_i hmq (mxf_f c_2)) (lt_dec hlt_i hn2) _ _ hP hD hS ls (lv_sub hl [1, 2, 0] rfl)
        · replace c_2 := bI_t c_2
          refine lv_aload_n hx hb dX2_mix_17 rfl (lv_at hl 0 rfl) ?_
          refine va_get (D := D) (ci := 1) (v := .ref (a 4)) (C := RX2) (T := TX2) (N := 5) hx hb hts hi2 hown hK hP 3 rfl rfl 0 (by decide) hw0 (fun _ h9 => h9) rfl dX2_mix_18 ?_
          refine lv_iload_n hx hb dX2_mix_21 rfl (lv_at hl 2 rfl) ?_
          refine va_iald hx hb hK hP 4 0 rfl rfl (vp_in_nI hlt_i (by decide)) dX2_mix_22 ?_
          refine lv_aload_n hx hb dX2_mix_23 rfl (lv_at hl 0 rfl) ?_
          refine va_get (D := D) (ci := 1) (v := .ref (a 5)) (C := RX2) (T := TX2) (N := 5) hx hb hts hi2 hown hK hP 3 rfl rfl 1 (by decide) hw1 (fun _ h9 => h9) rfl dX2_mix_24 ?_
          refine lv_iload_n hx hb dX2_mix_27 rfl (lv_at hl 2 rfl) ?_
          refine va_iald hx hb hK hP 5 0 rfl rfl (vp_in_nI hlt_i (by decide)) dX2_mix_28 ?_
          refine va_mmax hx hb (by rw [hml]; exact hl.1.symm) hown hw6 hw7 hw4 hw8 (Nat.le_of_ble_eq_true rfl) (Nat.le_of_ble_eq_true rfl) (Nat.le_of_ble_eq_true rfl) (Nat.le_of_ble_eq_true rfl) dX2_mix_29 ?_
          refine lv_goto (tgt := 50) hx hb dX2_mix_32 (by decide) ?_
          refine va_iast hx hb hK hP hD hS 4 0 rfl rfl (vp_in_nI hlt_i (by decide)) dX2_mix_50 (fun H locs hP hD hS => ?_)
          have hP : va_P D vwCl (CT cy a J I O (va_up R 4 (upd m0_2 (nI i).toNatClampNeg (if (m0_2 (nI i).toNatClampNeg) < ((R 5) (nI i).toNatClampNeg) then ((R 5) (nI i).toNatClampNeg) else (m0_2 (nI i).toNatClampNeg)))) RO (LL ++ Y)) H := hP
          have hD : va_D A (CT cy a J I O (va_up R 4 (upd m0_2 (nI i).toNatClampNeg (if (m0_2 (nI i).toNatClampNeg) < ((R 5) (nI i).toNatClampNeg) then ((R 5) (nI i).toNatClampNeg) else (m0_2 (nI i).toNatClampNeg)))) RO (LL ++ Y)) := hD
          refine lv_iinc (v := nI (i + 1)) (lv' := [(2, .int (nI (i + 1))), (0, .ref (a 3)), (1, .int (bI x0))]) hx hb dX2_mix_51 hl (k := 2) rfl (nI_1 _) (by decide) rfl (fun ls hl => ?_)
          refine lv_goto (tgt := 2) hx hb dX2_mix_54 (by decide) ?_
          exact ih2 (i + 1) (upd m0_2 (nI i).toNatClampNeg (if (m0_2 (nI i).toNatClampNeg) < ((R 5) (nI i).toNatClampNeg) then ((R 5) (nI i).toNatClampNeg) else (m0_2 (nI i).toNatClampNeg))) hlt_i (mxQ_u hlt_i hmq (mxf_t c_2)) (lt_dec hlt_i hn2) _ _ hP hD hS ls (lv_sub hl [1, 2, 0] rfl)
  have hP : va_P D vwCl (CT cy a J I O (va_up R 4 (R 4)) RO (LL ++ Y)) s.heap := hP
  have hD : va_D A (CT cy a J I O (va_up R 4 (R 4)) RO (LL ++ Y)) := hD
  refine lv_iconst (v := 0) hx hb dX2_mix_0 (by decide) ?_
  refine lv_istore_n (lv' := [(2, .int 0), (0, .ref (a 3)), (1, .int (bI x0))]) hx hb dX2_mix_1 rfl hl (by decide) rfl (fun ls hl => ?_)
  exact lp2 _ 0 (R 4) (Nat.zero_le _) mxQ_0 (Nat.lt_succ_self _) _ _ hP hD hS ls (lv_sub hl [1, 2, 0] rfl)
set_option maxHeartbeats 4000000 in
set_option maxRecDepth 100000 in
theorem x_X2_acrossStones (l : Launch) (D : va_G) (cy : Nat → ClassId) (a : Nat → Nat) (sz : Nat) (J : Nat → Int64) (I : Nat → Int32) (O : Nat → Option Nat) (R : Nat → Nat → Int32) (RO : Nat → Nat → Option Nat) (LL : va_W) (Y : va_W) (x0 : Int64) (pp : Int64 × Int64) (qq : Int64 × Int64) (jj : Bool) (hmx : hMx x0 pp qq jj (R 4)) (hla : LY (bfx x0) (bfx pp.1) (bfx pp.2)) (hlb : LY (bfx x0) (bfx qq.1) (bfx qq.2)) (hwo : cFr (mOut x0) A10 100 = 1 ∧ aPc x0 = 1) : Met l yX2_acrossStones wsX2_acrossStones ({ frames := 1, cells := 0, slots := 0, locals := 29 }) (va_Pc [.ref (a 3), .long x0] (PW D cy sz (CT cy a J I O R RO (LL ++ Y)))) (vp_Sl (fun r => bfx r = zmC x0 pp qq jj)) 0 0 (fun _ => False) := by
  refine Met.ofW (cc := cX2_acrossStones) (maxL := 8) (ret := (some .long)) (by decide) rfl ?_
  intro p e s m args below meth c s₁ B hml hv
  obtain ⟨rfl, rfl, hP, hK, hN, hD0⟩ := hv
  have hx := B.exec
  have hb := B.bytes
  have hr := B.returns
  have hts := atoms_spec (ws := wsX2_acrossStones) B.pre
  have hown : s.vm.findClass RX2 = some m.cls := findClass_of_methodNamed B.named
  have hlocks := B.notSynchronized
  have hw0 := hts (.fieldLink RX2 9 "ParquetLayer$Heights" "here" "[I") (by decide +kernel)
  have hw1 := hts (.methodLink RX2 73 Lib.Math.abs.name) (by decide +kernel)
  have hw2 := hts (.static Lib.Math.abs.name) (by decide +kernel)
  have hw3 := hts (.initialized "java/lang/Math") (by decide +kernel)
  have hw4 := hts (.code Lib.Math.abs.name Lib.Math.abs.code 1 (some .int)) (by decide +kernel)
  have hi2 := ihX2_acrossStones_2
  have hD := hD0
  have hl := lv_entry ([.ref (a 3), .long x0]) (n := 8) (Nat.le_of_ble_eq_true rfl)
  rw [lg_entry_eq]
  generalize (lg_sl ([.ref (a 3), .long x0]) ++ List.replicate (8 - (lg_sl ([.ref (a 3), .long x0])).length) Slot.unset).toArray = ls at hl ⊢
  have hl : lv_has ls 8 [(0, .ref (a 3)), (1, .long x0)] := hl
  have lp5 : ∀ (n5 : Nat), ∀ (i : Nat) (v3_5 : Int64), (i ≤ 56) → (zbm (zmC x0 pp qq jj) i v3_5) → (56 - i) < n5 → ∀ (ls : Array Slot), lv_has ls 8 [(0, .ref (a 3)), (1, .long x0), (3, .long v3_5), (5, .int (nI i))] → W p l e (headSpec wsX2_acrossStones ({ frames := 1, cells := 0, slots := 0, locals := 29 })).room s m ([.ref (a 3), .long x0] : List Value).toArray below meth c s.heap [] 0 0 (MQ below (vp_Sl (fun r => bfx r = zmC x0 pp qq jj)) ([.ref (a 3), .long x0] : List Value).toArray s 0 0 (fun _ => False)) (F0 m 5 ls []) := by
    intro n5
    induction n5 with
    | zero => intro i v3_5 hi hbm hn; exact absurd hn (Nat.not_lt_zero _)
    | succ n5 ih5 =>
      intro i v3_5 hi hbm hn5 ls hl
      refine lv_iload hx hb dX2_acrossStones_5 (lv_at hl 3 rfl) ?_
      refine lv_bipush (v := 56) hx hb dX2_acrossStones_7 (by decide) ?_
      refine lv_icmp_ge (tgt := 99) hx hb dX2_acrossStones_9 (by decide) (fun c_1 => ?_) (fun c_1 => ?_)
      · have hie_i := ctr_ge (N := 56) (by decide) hi c_1
        refine lv_lload_n hx hb dX2_acrossStones_99 rfl (lv_at hl 2 rfl) ?_
        exact aret_l hx hb hr hlocks (zbm_e hie_i (fun g hg => zmC_hi hg) hbm) dX2_acrossStones_100
      · have hlt_i := ctr_lt (N := 56) (by decide) hi c_1
        refine lv_iload hx hb dX2_acrossStones_12 (lv_at hl 3 rfl) ?_
        refine lv_bipush (v := 8) hx hb dX2_acrossStones_14 (by decide) ?_
        refine lv_irem hx hb dX2_acrossStones_16 (by decide) ?_
        refine lv_iload hx hb dX2_acrossStones_17 (lv_at hl 3 rfl) ?_
        refine lv_bipush (v := 8) hx hb dX2_acrossStones_19 (by decide) ?_
        refine lv_idiv hx hb dX2_acrossStones_21 (by decide) ?_
        refine lv_iconst (v := 1) hx hb dX2_acrossStones_22 (by decide) ?_
        refine lv_iadd hx hb dX2_acrossStones_23 ?_
        refine kS_i (As := [.int ((nI i) - (nI i) / 8 * 8), .int (((nI i) / 8) + 1)]) (rest := []) ⟨hx, hb, hml, hown, hts⟩ (c_X2_pointOf l ((nI i) - (nI i) / 8 * 8) (((nI i) / 8) + 1)) (va_cwS 2 hts gX2_acrossStones_X2_pointOf rfl rfl rfl (by decide +kernel) ⟨Nat.le_of_ble_eq_true rfl, Nat.le_of_ble_eq_true rfl⟩) rfl hl.1 rfl (Nat.le_of_ble_eq_true rfl) dX2_acrossStones_24 ⟨Nat.le_of_ble_eq_true rfl, Nat.le_of_ble_eq_true rfl⟩ ?_
        refine wtop_i (y := nI (9 * (i / 8) + i % 8 + 9)) (lf_t ⟨i, hlt_i⟩) ?_
        refine lv_istore (lv' := [(6, .int (nI (9 * (i / 8) + i % 8 + 9))), (0, .ref (a 3)), (1, .long x0), (3, .long v3_5), (5, .int (nI i))]) hx hb dX2_acrossStones_27 hl (by decide) rfl (fun ls hl => ?_)
        refine lv_lload_n hx hb dX2_acrossStones_29 rfl (lv_at hl 2 rfl) ?_
        refine lv_iload hx hb dX2_acrossStones_30 (lv_at hl 4 rfl) ?_
        refine kS_i (As := [.long x0, .int (nI i)]) (rest := []) ⟨hx, hb, hml, hown, hts⟩ (c_X1_holds l x0 (nI i)) (va_cwS 2 hts gX2_acrossStones_X1_holds rfl rfl rfl (by decide +kernel) ⟨Nat.le_of_ble_eq_true rfl, Nat.le_of_ble_eq_true rfl⟩) rfl hl.1 rfl (Nat.le_of_ble_eq_true rfl) dX2_acrossStones_32 ⟨Nat.le_of_ble_eq_true rfl, Nat.le_of_ble_eq_true rfl⟩ ?_
        refine lv_if_eq (tgt := 54) hx hb dX2_acrossStones_35 (by decide) (fun c_2 => ?_) (fun c_2 => ?_)
        · replace c_2 := bI_f c_2
          refine lv_iconst (v := 0) hx hb dX2_acrossStones_54 (by decide) ?_
          refine lv_istore (lv' := [(7, .int 0), (6, .int (nI (9 * (i / 8) + i % 8 + 9))), (0, .ref (a 3)), (1, .long x0), (3, .long v3_5), (5, .int (nI i))]) hx hb dX2_acrossStones_55 hl (by decide) rfl (fun ls hl => ?_)
          refine lv_iload hx hb dX2_acrossStones_57 (lv_at hl 0 rfl) ?_
          refine lv_if_eq (tgt := 93) hx hb dX2_acrossStones_59 (by decide) (fun c_3 => ?_) (fun c_3 => absurd (by decide) c_3)
          refine lv_iinc (v := nI (i + 1)) (lv' := [(5, .int (nI (i + 1))), (7, .int 0), (6, .int (nI (9 * (i / 8) + i % 8 + 9))), (0, .ref (a 3)), (1, .long x0), (3, .long v3_5)]) hx hb dX2_acrossStones_93 hl (k := 5) rfl (nI_1 _) (by decide) rfl (fun ls hl => ?_)
          refine lv_goto (tgt := 5) hx hb dX2_acrossStones_96 (by decide) ?_
          exact ih5 (i + 1) v3_5 hlt_i (zbm_n hbm (cs_1 hlt_i c_2)) (lt_dec hlt_i hn5) ls (lv_sub hl [3, 4, 5, 0] rfl)
        · replace c_2 := bI_t c_2
          refine lv_lload_n hx hb dX2_acrossStones_38 rfl (lv_at hl 2 rfl) ?_
          refine lv_iload hx hb dX2_acrossStones_39 (lv_at hl 4 rfl) ?_
          refine lv_bipush (v := 8) hx hb dX2_acrossStones_41 (by decide) ?_
          refine lv_iadd hx hb dX2_acrossStones_43 ?_
          refine kS_i (As := [.long x0, .int ((nI i) + 8)]) (rest := []) ⟨hx, hb, hml, hown, hts⟩ (c_X1_holds l x0 ((nI i) + 8)) (va_cwS 2 hts gX2_acrossStones_X1_holds rfl rfl rfl (by decide +kernel) ⟨Nat.le_of_ble_eq_true rfl, Nat.le_of_ble_eq_true rfl⟩) rfl hl.1 rfl (Nat.le_of_ble_eq_true rfl) dX2_acrossStones_44 ⟨Nat.le_of_ble_eq_true rfl, Nat.le_of_ble_eq_true rfl⟩ ?_
          refine lv_if_eq (tgt := 54) hx hb dX2_acrossStones_47 (by decide) (fun c_4 => ?_) (fun c_4 => ?_)
          · replace c_4 := bI_f c_4
            refine lv_iconst (v := 0) hx hb dX2_acrossStones_54 (by decide) ?_
            refine lv_istore (lv' := [(7, .int 0), (6, .int (nI (9 * (i / 8) + i % 8 + 9))), (0, .ref (a 3)), (1, .long x0), (3, .long v3_5), (5, .int (nI i))]) hx hb dX2_acrossStones_55 hl (by decide) rfl (fun ls hl => ?_)
            refine lv_iload hx hb dX2_acrossStones_57 (lv_at hl 0 rfl) ?_
            refine lv_if_eq (tgt := 93) hx hb dX2_acrossStones_59 (by decide) (fun c_5 => ?_) (fun c_5 => absurd (by decide) c_5)
            refine lv_iinc (v := nI (i + 1)) (lv' := [(5, .int (nI (i + 1))), (7, .int 0), (6, .int (nI (9 * (i / 8) + i % 8 + 9))), (0, .ref (a 3)), (1, .long x0), (3, .long v3_5)]) hx hb dX2_acrossStones_93 hl (k := 5) rfl (nI_1 _) (by decide) rfl (fun ls hl => ?_)
            refine lv_goto (tgt := 5) hx hb dX2_acrossStones_96 (by decide) ?_
            exact ih5 (i + 1) v3_5 hlt_i (zbm_n hbm (cs_8 hlt_i c_4)) (lt_dec hlt_i hn5) ls (lv_sub hl [3, 4, 5, 0] rfl)
          · replace c_4 := bI_t c_4
            refine lv_iconst (v := 1) hx hb dX2_acrossStones_50 (by decide) ?_
            refine lv_goto (tgt := 55) hx hb dX2_acrossStones_51 (by decide) ?_
            refine lv_istore (lv' := [(7, .int 1), (6, .int (nI (9 * (i / 8) + i % 8 + 9))), (0, .ref (a 3)), (1, .long x0), (3, .long v3_5), (5, .int (nI i))]) hx hb dX2_acrossStones_55 hl (by decide) rfl (fun ls hl => ?_)
            refine lv_iload hx hb dX2_acrossStones_57 (lv_at hl 0 rfl) ?_
            refine lv_if_eq (tgt := 93) hx hb dX2_acrossStones_59 (by decide) (fun c_6 => absurd c_6 (by decide)) (fun c_6 => ?_)
            refine lv_aload_n hx hb dX2_acrossStones_62 rfl (lv_at hl 2 rfl) ?_
            refine va_get (D := D) (ci := 1) (v := .ref (a 4)) (C := RX2) (T := TX2) (N := 5) hx hb hts hi2 hown hK hP 3 rfl rfl 0 (by decide) hw0 (fun _ h9 => h9) rfl dX2_acrossStones_63 ?_
            refine lv_iload hx hb dX2_acrossStones_66 (lv_at hl 1 rfl) ?_
            refine va_iald hx hb hK hP 4 0 rfl rfl (vp_in_nI (z_81 hlt_i).1 (by decide)) dX2_acrossStones_68 ?_
            refine lv_aload_n hx hb dX2_acrossStones_69 rfl (lv_at hl 2 rfl) ?_
            refine va_get (D := D) (ci := 1) (v := .ref (a 4)) (C := RX2) (T := TX2) (N := 5) hx hb hts hi2 hown hK hP 3 rfl rfl 0 (by decide) hw0 (fun _ h9 => h9) rfl dX2_acrossStones_70 ?_
            refine lv_iload hx hb dX2_acrossStones_73 (lv_at hl 1 rfl) ?_
            refine lv_iconst (v := 1) hx hb dX2_acrossStones_75 (by decide) ?_
            refine lv_iadd hx hb dX2_acrossStones_76 ?_
            refine va_iald hx hb hK hP 4 0 rfl rfl (by rw [nI_1]; exact vp_in_nI (z_81 hlt_i).2 (by decide)) dX2_acrossStones_77 ?_
            refine lv_isub hx hb dX2_acrossStones_78 ?_
            refine va_mabs hx hb (by rw [hml]; exact hl.1.symm) hown hw1 hw2 hw3 hw4 (Nat.le_of_ble_eq_true rfl) (Nat.le_of_ble_eq_true rfl) (Nat.le_of_ble_eq_true rfl) (Nat.le_of_ble_eq_true rfl) dX2_acrossStones_79 ?_
            refine lv_iconst (v := 3) hx hb dX2_acrossStones_82 (by decide) ?_
            refine lv_icmp_ne (tgt := 93) hx hb dX2_acrossStones_83 (by decide) (fun c_7 => ?_) (fun c_7 => ?_)
            · refine lv_iinc (v := nI (i + 1)) (lv' := [(5, .int (nI (i + 1))), (7, .int 1), (6, .int (nI (9 * (i / 8) + i % 8 + 9))), (0, .ref (a 3)), (1, .long x0), (3, .long v3_5)]) hx hb dX2_acrossStones_93 hl (k := 5) rfl (nI_1 _) (by decide) rfl (fun ls hl => ?_)
              refine lv_goto (tgt := 5) hx hb dX2_acrossStones_96 (by decide) ?_
              exact ih5 (i + 1) v3_5 hlt_i (zbm_n hbm (cs_n hlt_i c_2 (fun ho => zcC_iff hwo hla hlb hmx hlt_i ho) c_7)) (lt_dec hlt_i hn5) ls (lv_sub hl [3, 4, 5, 0] rfl)
            · refine lv_lload_n hx hb dX2_acrossStones_86 rfl (lv_at hl 4 rfl) ?_
              refine lv_lconst (v := 1) hx hb dX2_acrossStones_87 (by decide) ?_
              refine lv_iload hx hb dX2_acrossStones_88 (lv_at hl 5 rfl) ?_
              refine lv_lshl (v := (1 : Int64) <<< ((nI i : Int32).toInt64 &&& 63)) hx hb dX2_acrossStones_90 rfl ?_
              refine lv_lor hx hb dX2_acrossStones_91 ?_
              refine lv_lstore_n (lv' := [(3, .long (v3_5 ||| ((1 : Int64) <<< ((nI i : Int32).toInt64 &&& 63)))), (7, .int 1), (6, .int (nI (9 * (i / 8) + i % 8 + 9))), (0, .ref (a 3)), (1, .long x0), (5, .int (nI i))]) hx hb dX2_acrossStones_92 rfl hl (by decide) rfl (fun ls hl => ?_)
              refine lv_iinc (v := nI (i + 1)) (lv' := [(5, .int (nI (i + 1))), (3, .long (v3_5 ||| ((1 : Int64) <<< ((nI i : Int32).toInt64 &&& 63)))), (7, .int 1), (6, .int (nI (9 * (i / 8) + i % 8 + 9))), (0, .ref (a 3)), (1, .long x0)]) hx hb dX2_acrossStones_93 hl (k := 5) rfl (nI_1 _) (by decide) rfl (fun ls hl => ?_)
              refine lv_goto (tgt := 5) hx hb dX2_acrossStones_96 (by decide) ?_
              exact ih5 (i + 1) (v3_5 ||| ((1 : Int64) <<< ((nI i : Int32).toInt64 &&& 63))) hlt_i (zbm_y (Nat.lt_trans hlt_i (by decide)) hbm (cs_y hlt_i c_2 c_4 (fun ho => zcC_iff hwo hla hlb hmx hlt_i ho) c_7)) (lt_dec hlt_i hn5) ls (lv_sub hl [4, 5, 1, 0] rfl)
  refine lv_lconst (v := 0) hx hb dX2_acrossStones_0 (by decide) ?_
  refine lv_lstore_n (lv' := [(3, .long 0), (0, .ref (a 3)), (1, .long x0)]) hx hb dX2_acrossStones_1 rfl hl (by decide) rfl (fun ls hl => ?_)
  refine lv_iconst (v := 0) hx hb dX2_acrossStones_2 (by decide) ?_
  refine lv_istore (lv' := [(5, .int 0), (3, .long 0), (0, .ref (a 3)), (1, .long x0)]) hx hb dX2_acrossStones_3 hl (by decide) rfl (fun ls hl => ?_)
  exact lp5 _ 0 (0 : Int64) (Nat.zero_le _) zbm_0 (Nat.lt_succ_self _) ls (lv_sub hl [2, 3, 1, 0] rfl)
set_option maxHeartbeats 4000000 in
set_option maxRecDepth 100000 in
theorem x_X9_meet (l : Launch) (D : va_G) (cy : Nat → ClassId) (a : Nat → Nat) (sz : Nat) (J : Nat → Int64) (I : Nat → Int32) (O : Nat → Option Nat) (R : Nat → Nat → Int32) (RO : Nat → Nat → Option Nat) (LL : va_W) (Y : va_W) (x0 : Int32) (x1 : Int32) (x2 : Bool) (hQ : ∀ i, i < 81 → vp_in (R 6 i) 81) (fl : Int64) (S : List Int32) (P : List PE) (hRA : RCf Y (J 6) (O 7) (I 9) (RO 2) fl S P) (hM : CI a Y I O RO) (hL : LOK cy (O 5) LL) : Met l yX9_meet wsX9_meet ({ frames := 6, cells := 17, slots := 85786, locals := 145 }) (va_Pc [.ref (a 0), .int x0, .int x1, .int (bI x2)] (PW D cy sz (CT cy a J I O R RO (LL ++ Y)))) (va_Qi (fun r (u : TS) => ∃ (w0 : Int32), ∃ (w1 : Int32), ∃ (w2 : Option Nat), ∃ (w3 : Option Nat), ∃ (w4 : Nat → Int32), ∃ (w5 : Nat → Int32), ∃ (w6 : Nat → Int32), ∃ (LL9 : va_W), ∃ (Y9 : va_W), (r = (aMee fl S x0 x1 x2) ∧ (∀ c, c ∈ Y → c ∈ Y9) ∧ LOK cy w2 LL9 ∧ (∀ i, i < 81 → vp_in (w6 i) 81)) ∧ u = (J, (va_up (va_up I 10 w0) 99 w1), (va_up (va_up O 5 w2) 100 w3), (va_up (va_up (va_up R 4 w4) 5 w5) 6 w6), RO, LL9, Y9)) (BW D (va_A (CT cy a J I O R RO (LL ++ Y)) sz) (CTu cy a)) (va_A (CT cy a J I O R RO (LL ++ Y)) sz)) 17 85786 (va_A (CT cy a J I O R RO (LL ++ Y)) sz) := by
  refine Met.ofW (cc := cX9_meet) (maxL := 4) (ret := (some .int)) (by decide) rfl ?_
  intro p e s m args below meth c s₁ B hml hv
  obtain ⟨rfl, rfl, hP, hK, hN, hD0⟩ := hv
  have hx := B.exec
  have hb := B.bytes
  have hr := B.returns
  have hts := atoms_spec (ws := wsX9_meet) B.pre
  have hown : s.vm.findClass RX9 = some m.cls := findClass_of_methodNamed B.named
  have hlocks := B.notSynchronized
  have hw0 := hts (.constant RX9 43 (-100001)) (by decide +kernel)
  have hw1 := hts (.fieldLink RX9 24 "ParquetLayer" "heights" "LParquetLayer$Heights;") (by decide +kernel)
  have hw2 := hts (.fieldLink RX9 48 "ParquetLayer" "fields" "J") (by decide +kernel)
  have hw3 := hts (.constant RX9 128 (-100004)) (by decide +kernel)
  have hi9 := ihX9_meet_9
  have hD := hD0.self (sz := s.heap.size)
  generalize hAe : va_A (CT cy a J I O R RO (LL ++ Y)) s.heap.size = A at hD ⊢
  have hA : ∀ q : Nat, s.heap.size ≤ q → A q := fun q h => by rw [← hAe]; exact Or.inr h
  have hS : va_S A s.heap s.heap [] := va_S.rf
  have hl := lv_entry ([.ref (a 0), .int x0, .int x1, .int (bI x2)]) (n := 4) (Nat.le_of_ble_eq_true rfl)
  rw [lg_entry_eq]
  generalize (lg_sl ([.ref (a 0), .int x0, .int x1, .int (bI x2)]) ++ List.replicate (4 - (lg_sl ([.ref (a 0), .int x0, .int x1, .int (bI x2)])).length) Slot.unset).toArray = ls at hl ⊢
  have hl : lv_has ls 4 [(0, .ref (a 0)), (1, .int x0), (2, .int x1), (3, .int (bI x2))] := hl
  have hRO0 := hM.2.2.2.2.2.2.2.2.1
  have hRO1 := hM.2.2.2.2.2.2.2.2.2.1
  have hRO2 := hM.2.2.2.2.2.2.2.2.2.2.1
  have hRO3 := hM.2.2.2.2.2.2.2.2.2.2.2
  have hP : va_P D vwCl (CT cy a J (va_up (va_up I 10 (I 10)) 99 (I 99)) (va_up (va_up O 5 (O 5)) 100 (O 100)) (va_up (va_up (va_up R 4 (R 4)) 5 (R 5)) 6 (R 6)) RO (LL ++ Y)) s.heap := hP
  have hD : va_D A (CT cy a J (va_up (va_up I 10 (I 10)) 99 (I 99)) (va_up (va_up O 5 (O 5)) 100 (O 100)) (va_up (va_up (va_up R 4 (R 4)) 5 (R 5)) 6 (R 6)) RO (LL ++ Y)) := hD
  refine lv_aload_n hx hb dX9_meet_0 rfl (lv_at hl 0 rfl) ?_
  refine kR_i (As := []) (rest := []) (q0 := 0) ⟨hx, hb, hml, hown, hts⟩ (x_X9_isWhole l D cy a _ J (va_up (va_up I 10 (I 10)) 99 (I 99)) (va_up (va_up O 5 (O 5)) 100 (O 100)) (va_up (va_up (va_up R 4 (R 4)) 5 (R 5)) 6 (R 6)) RO LL Y  fl S P hRA ⟨hM.1, hM.2.1, hM.2.2.1, hM.2.2.2.1, hM.2.2.2.2.1, hM.2.2.2.2.2.1, hM.2.2.2.2.2.2.1, hM.2.2.2.2.2.2.2.1, hRO0, hRO1, hRO2, hRO3⟩) (cwV 0 hts gX9_meet_X9_isWhole rfl rfl rfl (by decide +kernel) ⟨Nat.le_of_ble_eq_true rfl, Nat.le_of_ble_eq_true rfl⟩) hK hN hP hD rfl rfl rfl hl.1 rfl (Nat.le_of_ble_eq_true rfl) dX9_meet_1 ⟨Nat.le_of_ble_eq_true rfl, Nat.le_of_ble_eq_true rfl⟩ ?_
  refine lv_if_ne (tgt := 14) hx hb dX9_meet_4 (by decide) (fun c_1 => ?_) (fun c_1 => ?_)
  · replace c_1 := bI_t c_1
    refine lv_aload_n hx hb dX9_meet_14 rfl (lv_at hl 0 rfl) ?_
    refine lv_iload_n hx hb dX9_meet_15 rfl (lv_at hl 1 rfl) ?_
    refine kM_i (As := [.int x0]) (rest := []) (q0 := 0) ⟨hx, hb, hml, hown, hts⟩ (x_X9_isLaying l D cy a _ J (va_up (va_up I 10 (I 10)) 99 (I 99)) (va_up (va_up O 5 (O 5)) 100 (O 100)) (va_up (va_up (va_up R 4 (R 4)) 5 (R 5)) 6 (R 6)) RO LL Y x0 fl S P hRA ⟨hM.1, hM.2.1, hM.2.2.1, hM.2.2.2.1, hM.2.2.2.2.1, hM.2.2.2.2.2.1, hM.2.2.2.2.2.2.1, hM.2.2.2.2.2.2.2.1, hRO0, hRO1, hRO2, hRO3⟩ hL) (cwV 1 hts gX9_meet_X9_isLaying rfl rfl rfl (by decide +kernel) ⟨Nat.le_of_ble_eq_true rfl, Nat.le_of_ble_eq_true rfl⟩) hK hN hP hD hS hA rfl rfl rfl hl.1 rfl (Nat.le_of_ble_eq_true rfl) dX9_meet_16 ⟨Nat.le_of_ble_eq_true rfl, Nat.le_of_ble_eq_true rfl⟩ (fun r_2 u H locs hw hP hD hS => ?_)
    obtain ⟨w_3, LL_4, ⟨rfl, hL_5⟩, rfl⟩ := hw
    have hP : va_P D vwCl (CT cy a J (va_up (va_up I 10 (I 10)) 99 (I 99)) (va_up (va_up O 5 w_3) 100 (O 100)) (va_up (va_up (va_up R 4 (R 4)) 5 (R 5)) 6 (R 6)) RO (LL_4 ++ Y)) H := hP
    have hD : va_D A (CT cy a J (va_up (va_up I 10 (I 10)) 99 (I 99)) (va_up (va_up O 5 w_3) 100 (O 100)) (va_up (va_up (va_up R 4 (R 4)) 5 (R 5)) 6 (R 6)) RO (LL_4 ++ Y)) := hD
    refine lv_if_eq (tgt := 30) hx hb dX9_meet_19 (by decide) (fun c_6 => ?_) (fun c_6 => ?_)
    · replace c_6 := bI_f c_6
      refine lv_aload_n hx hb dX9_meet_30 rfl (lv_at hl 0 rfl) ?_
      refine lv_ldc (v := (-100001)) hx hb hown hw0 dX9_meet_31 ?_
      refine kM_i (As := [.int (-100001)]) (rest := []) (q0 := 0) ⟨hx, hb, hml, hown, hts⟩ (t_X9_finding l D cy a _ J (va_up (va_up I 10 (I 10)) 99 (I 99)) (va_up (va_up O 5 w_3) 100 (O 100)) (va_up (va_up (va_up R 4 (R 4)) 5 (R 5)) 6 (R 6)) RO LL_4 Y ((-100001) : Int32)   ) (cwV 1 hts gX9_meet_X9_finding rfl rfl rfl (by decide +kernel) ⟨Nat.le_of_ble_eq_true rfl, Nat.le_of_ble_eq_true rfl⟩) hK hN hP hD hS hA rfl rfl rfl hl.1 rfl (Nat.le_of_ble_eq_true rfl) dX9_meet_33 ⟨Nat.le_of_ble_eq_true rfl, Nat.le_of_ble_eq_true rfl⟩ (fun r_7 u H locs hw hP hD hS => ?_)
      obtain ⟨w_8, rfl, rfl⟩ := hw
      have hP : va_P D vwCl (CT cy a J (va_up (va_up I 10 w_8) 99 (I 99)) (va_up (va_up O 5 w_3) 100 (O 100)) (va_up (va_up (va_up R 4 (R 4)) 5 (R 5)) 6 (R 6)) RO (LL_4 ++ Y)) H := hP
      have hD : va_D A (CT cy a J (va_up (va_up I 10 w_8) 99 (I 99)) (va_up (va_up O 5 w_3) 100 (O 100)) (va_up (va_up (va_up R 4 (R 4)) 5 (R 5)) 6 (R 6)) RO (LL_4 ++ Y)) := hD
      refine W.widen (k := 17) (n := 85786) (Nat.le_of_ble_eq_true rfl) (Nat.le_of_ble_eq_true rfl) ?_
      exact wret_i hx hb hr hlocks (J, (va_up (va_up I 10 w_8) 99 (I 99)), (va_up (va_up O 5 w_3) 100 (O 100)), (va_up (va_up (va_up R 4 (R 4)) 5 (R 5)) 6 (R 6)), RO, LL_4, Y) ⟨w_8, (I 99), w_3, (O 100), (R 4), (R 5), (R 6), LL_4, Y, ⟨(me_no (ag_1 c_1 c_6) (by decide)), (fun _ h => h), hL_5, hQ⟩, rfl⟩ hP hD hS dX9_meet_36
    · replace c_6 := bI_t c_6
      refine lv_aload_n hx hb dX9_meet_22 rfl (lv_at hl 0 rfl) ?_
      refine lv_iload_n hx hb dX9_meet_23 rfl (lv_at hl 2 rfl) ?_
      refine kM_i (As := [.int x1]) (rest := []) (q0 := 0) ⟨hx, hb, hml, hown, hts⟩ (x_X9_isLaying l D cy a _ J (va_up (va_up I 10 (I 10)) 99 (I 99)) (va_up (va_up O 5 w_3) 100 (O 100)) (va_up (va_up (va_up R 4 (R 4)) 5 (R 5)) 6 (R 6)) RO LL_4 Y x1 fl S P hRA ⟨hM.1, hM.2.1, hM.2.2.1, hM.2.2.2.1, hM.2.2.2.2.1, hM.2.2.2.2.2.1, hM.2.2.2.2.2.2.1, hM.2.2.2.2.2.2.2.1, hRO0, hRO1, hRO2, hRO3⟩ hL_5) (cwV 1 hts gX9_meet_X9_isLaying rfl rfl rfl (by decide +kernel) ⟨Nat.le_of_ble_eq_true rfl, Nat.le_of_ble_eq_true rfl⟩) hK hN hP hD hS hA rfl rfl rfl hl.1 rfl (Nat.le_of_ble_eq_true rfl) dX9_meet_24 ⟨Nat.le_of_ble_eq_true rfl, Nat.le_of_ble_eq_true rfl⟩ (fun r_9 u H locs hw hP hD hS => ?_)
      obtain ⟨w_10, LL_11, ⟨rfl, hL_12⟩, rfl⟩ := hw
      have hP : va_P D vwCl (CT cy a J (va_up (va_up I 10 (I 10)) 99 (I 99)) (va_up (va_up O 5 w_10) 100 (O 100)) (va_up (va_up (va_up R 4 (R 4)) 5 (R 5)) 6 (R 6)) RO (LL_11 ++ Y)) H := hP
      have hD : va_D A (CT cy a J (va_up (va_up I 10 (I 10)) 99 (I 99)) (va_up (va_up O 5 w_10) 100 (O 100)) (va_up (va_up (va_up R 4 (R 4)) 5 (R 5)) 6 (R 6)) RO (LL_11 ++ Y)) := hD
      refine lv_if_ne (tgt := 37) hx hb dX9_meet_27 (by decide) (fun c_13 => ?_) (fun c_13 => ?_)
      · replace c_13 := bI_t c_13
        obtain ⟨na, ea, hza⟩ := ic_nat (wh_ng c_1) c_6
        obtain ⟨nb, eb, hzb⟩ := ic_nat (wh_ng c_1) c_13
        rw [ea, eb] at hl
        refine lv_aload_n hx hb dX9_meet_37 rfl (lv_at hl 0 rfl) ?_
        refine lv_aload_n hx hb dX9_meet_38 rfl (lv_at hl 0 rfl) ?_
        refine lv_iload_n hx hb dX9_meet_39 rfl (lv_at hl 1 rfl) ?_
        refine kM_r (As := [.int (nI na)]) (rest := [.ref (a 0)]) (q0 := 0) ⟨hx, hb, hml, hown, hts⟩ (y_X9_layingOf l D cy a _ J (va_up (va_up I 10 (I 10)) 99 (I 99)) (va_up (va_up O 5 w_10) 100 (O 100)) (va_up (va_up (va_up R 4 (R 4)) 5 (R 5)) 6 (R 6)) RO LL_11 Y na fl S P hRA (wh_ng c_1) (show zIn (bfx fl) na from hza) ⟨hM.1, hM.2.1, hM.2.2.1, hM.2.2.2.1, hM.2.2.2.2.1, hM.2.2.2.2.2.1, hM.2.2.2.2.2.2.1, hM.2.2.2.2.2.2.2.1, hRO0, hRO1, hRO2, hRO3⟩ hL_12) (cwV 1 hts gX9_meet_X9_layingOf rfl rfl rfl (by decide +kernel) ⟨Nat.le_of_ble_eq_true rfl, Nat.le_of_ble_eq_true rfl⟩) hK hN hP hD hS hA rfl rfl rfl hl.1 rfl (Nat.le_of_ble_eq_true rfl) dX9_meet_40 ⟨Nat.le_of_ble_eq_true rfl, Nat.le_of_ble_eq_true rfl⟩ (fun u r_14 H locs hw hP hD hS => ?_)
        obtain ⟨g_15, g_16⟩ := u
        have hL_17 : LOK cy g_15 g_16 := hw
        have hs_18 : ∀ c, c ∈ Y → c ∈ (Y ++ [laC r_14 (nI na) (zLy fl na).1 (zLy fl na).2]) := fun c h => List.mem_append_left _ h
        have hi_19 : chO (Y ++ [laC r_14 (nI na) (zLy fl na).1 (zLy fl na).2]) (O 7) := chO_mono hs_18 hM.2.1
        have hi_20 : layO (Y ++ [laC r_14 (nI na) (zLy fl na).1 (zLy fl na).2]) (O 8) := layO_mono hs_18 hM.2.2.1
        have hi_21 : ∀ i, i < 20 → pasO (Y ++ [laC r_14 (nI na) (zLy fl na).1 (zLy fl na).2]) ((RO 2) i) := pas_mono hs_18 hM.2.2.2.1
        have hmono_22 : ∀ c, c ∈ Y → c ∈ (Y ++ [laC r_14 (nI na) (zLy fl na).1 (zLy fl na).2]) := fun c h => hs_18 c ((fun _ h => h) c h)
        have hP : va_P D vwCl (CT cy a J (va_up (va_up I 10 (I 10)) 99 (I 99)) (va_up (va_up O 5 g_15) 100 (O 100)) (va_up (va_up (va_up R 4 (R 4)) 5 (R 5)) 6 (R 6)) RO (g_16 ++ (Y ++ [laC r_14 (nI na) (zLy fl na).1 (zLy fl na).2]))) H := hP
        have hD : va_D A (CT cy a J (va_up (va_up I 10 (I 10)) 99 (I 99)) (va_up (va_up O 5 g_15) 100 (O 100)) (va_up (va_up (va_up R 4 (R 4)) 5 (R 5)) 6 (R 6)) RO (g_16 ++ (Y ++ [laC r_14 (nI na) (zLy fl na).1 (zLy fl na).2]))) := hD
        refine lv_aload_n hx hb dX9_meet_43 rfl (lv_at hl 0 rfl) ?_
        refine lv_iload_n hx hb dX9_meet_44 rfl (lv_at hl 2 rfl) ?_
        refine kM_r (As := [.int (nI nb)]) (rest := [.ref r_14, .ref (a 0)]) (q0 := 0) ⟨hx, hb, hml, hown, hts⟩ (y_X9_layingOf l D cy a _ J (va_up (va_up I 10 (I 10)) 99 (I 99)) (va_up (va_up O 5 g_15) 100 (O 100)) (va_up (va_up (va_up R 4 (R 4)) 5 (R 5)) 6 (R 6)) RO g_16 (Y ++ [laC r_14 (nI na) (zLy fl na).1 (zLy fl na).2]) nb fl S P (RCf_mono hmono_22 hRA) (wh_ng c_1) (show zIn (bfx fl) nb from hzb) ⟨hM.1, hi_19, hi_20, hi_21, hM.2.2.2.2.1, hM.2.2.2.2.2.1, hM.2.2.2.2.2.2.1, hM.2.2.2.2.2.2.2.1, hRO0, hRO1, hRO2, hRO3⟩ hL_17) (cwV 1 hts gX9_meet_X9_layingOf rfl rfl rfl (by decide +kernel) ⟨Nat.le_of_ble_eq_true rfl, Nat.le_of_ble_eq_true rfl⟩) hK hN hP hD hS hA rfl rfl rfl hl.1 rfl (Nat.le_of_ble_eq_true rfl) dX9_meet_45 ⟨Nat.le_of_ble_eq_true rfl, Nat.le_of_ble_eq_true rfl⟩ (fun u r_23 H locs hw hP hD hS => ?_)
        obtain ⟨g_24, g_25⟩ := u
        have hL_26 : LOK cy g_24 g_25 := hw
        have hs_27 : ∀ c, c ∈ (Y ++ [laC r_14 (nI na) (zLy fl na).1 (zLy fl na).2]) → c ∈ ((Y ++ [laC r_14 (nI na) (zLy fl na).1 (zLy fl na).2]) ++ [laC r_23 (nI nb) (zLy fl nb).1 (zLy fl nb).2]) := fun c h => List.mem_append_left _ h
        have hi_28 : chO ((Y ++ [laC r_14 (nI na) (zLy fl na).1 (zLy fl na).2]) ++ [laC r_23 (nI nb) (zLy fl nb).1 (zLy fl nb).2]) (O 7) := chO_mono hs_27 hi_19
        have hi_29 : layO ((Y ++ [laC r_14 (nI na) (zLy fl na).1 (zLy fl na).2]) ++ [laC r_23 (nI nb) (zLy fl nb).1 (zLy fl nb).2]) (O 8) := layO_mono hs_27 hi_20
        have hi_30 : ∀ i, i < 20 → pasO ((Y ++ [laC r_14 (nI na) (zLy fl na).1 (zLy fl na).2]) ++ [laC r_23 (nI nb) (zLy fl nb).1 (zLy fl nb).2]) ((RO 2) i) := pas_mono hs_27 hi_21
        have hmono_31 : ∀ c, c ∈ Y → c ∈ ((Y ++ [laC r_14 (nI na) (zLy fl na).1 (zLy fl na).2]) ++ [laC r_23 (nI nb) (zLy fl nb).1 (zLy fl nb).2]) := fun c h => hs_27 c (hmono_22 c h)
        have hP : va_P D vwCl (CT cy a J (va_up (va_up I 10 (I 10)) 99 (I 99)) (va_up (va_up O 5 g_24) 100 (O 100)) (va_up (va_up (va_up R 4 (R 4)) 5 (R 5)) 6 (R 6)) RO (g_25 ++ ((Y ++ [laC r_14 (nI na) (zLy fl na).1 (zLy fl na).2]) ++ [laC r_23 (nI nb) (zLy fl nb).1 (zLy fl nb).2]))) H := hP
        have hD : va_D A (CT cy a J (va_up (va_up I 10 (I 10)) 99 (I 99)) (va_up (va_up O 5 g_24) 100 (O 100)) (va_up (va_up (va_up R 4 (R 4)) 5 (R 5)) 6 (R 6)) RO (g_25 ++ ((Y ++ [laC r_14 (nI na) (zLy fl na).1 (zLy fl na).2]) ++ [laC r_23 (nI nb) (zLy fl nb).1 (zLy fl nb).2]))) := hD
        refine kM_v (As := [.ref r_14, .ref r_23]) (rest := []) (q0 := 0) ⟨hx, hb, hml, hown, hts⟩ (x_X9_measureBoth l D cy a _ J (va_up (va_up I 10 (I 10)) 99 (I 99)) (va_up (va_up O 5 g_24) 100 (O 100)) (va_up (va_up (va_up R 4 (R 4)) 5 (R 5)) 6 (R 6)) RO g_25 ((Y ++ [laC r_14 (nI na) (zLy fl na).1 (zLy fl na).2]) ++ [laC r_23 (nI nb) (zLy fl nb).1 (zLy fl nb).2]) r_14 (nI na) ((zLy fl na).1) ((zLy fl na).2) (hs_27 _ mem_last) r_23 (nI nb) ((zLy fl nb).1) ((zLy fl nb).2) mem_last hQ (show LY (bfx (J 6)) (bfx (zLy fl na).1) (bfx (zLy fl na).2) by rw [hRA.1]; exact zLy_LY hza) (show LY (bfx (J 6)) (bfx (zLy fl nb).1) (bfx (zLy fl nb).2) by rw [hRA.1]; exact zLy_LY hzb) (wh_oJ hRA.1 c_1)  ) (cwV 2 hts gX9_meet_X9_measureBoth rfl rfl rfl (by decide +kernel) ⟨Nat.le_of_ble_eq_true rfl, Nat.le_of_ble_eq_true rfl⟩) hK hN hP hD hS hA rfl rfl rfl hl.1 rfl (Nat.le_of_ble_eq_true rfl) dX9_meet_48 ⟨Nat.le_of_ble_eq_true rfl, Nat.le_of_ble_eq_true rfl⟩ (fun u H locs hw hP hD hS => ?_)
        obtain ⟨w_33, w_34, w_35, w_36, w_37, ⟨hp_38, hp_39, hp_40, hp_41, hp_42⟩, rfl⟩ := hw
        have hP : va_P D vwCl (CT cy a J (va_up (va_up I 10 (I 10)) 99 w_33) (va_up (va_up O 5 g_24) 100 w_34) (va_up (va_up (va_up R 4 w_35) 5 w_36) 6 w_37) RO (g_25 ++ ((Y ++ [laC r_14 (nI na) (zLy fl na).1 (zLy fl na).2]) ++ [laC r_23 (nI nb) (zLy fl nb).1 (zLy fl nb).2]))) H := hP
        have hD : va_D A (CT cy a J (va_up (va_up I 10 (I 10)) 99 w_33) (va_up (va_up O 5 g_24) 100 w_34) (va_up (va_up (va_up R 4 w_35) 5 w_36) 6 w_37) RO (g_25 ++ ((Y ++ [laC r_14 (nI na) (zLy fl na).1 (zLy fl na).2]) ++ [laC r_23 (nI nb) (zLy fl nb).1 (zLy fl nb).2]))) := hD
        refine lv_aload_n hx hb dX9_meet_51 rfl (lv_at hl 0 rfl) ?_
        refine va_get (D := D) (ci := 8) (v := .ref (a 3)) (C := RX9) (T := TX9) (N := 11) hx hb hts hi9 hown hK hP 0 rfl rfl 2 (by decide) hw1 (fun _ h9 => h9) rfl dX9_meet_52 ?_
        refine lv_iload_n hx hb dX9_meet_55 rfl (lv_at hl 3 rfl) ?_
        refine kM_v (As := [.int (bI x2)]) (rest := []) (q0 := 3) ⟨hx, hb, hml, hown, hts⟩ (x_X2_mix l D cy a _ J (va_up (va_up I 10 (I 10)) 99 w_33) (va_up (va_up O 5 g_24) 100 w_34) (va_up (va_up (va_up R 4 w_35) 5 w_36) 6 w_37) RO g_25 ((Y ++ [laC r_14 (nI na) (zLy fl na).1 (zLy fl na).2]) ++ [laC r_23 (nI nb) (zLy fl nb).1 (zLy fl nb).2]) x2   ) (cwV 1 hts gX9_meet_X2_mix rfl rfl rfl (by decide +kernel) ⟨Nat.le_of_ble_eq_true rfl, Nat.le_of_ble_eq_true rfl⟩) hK hN hP hD hS hA rfl rfl rfl hl.1 rfl (Nat.le_of_ble_eq_true rfl) dX9_meet_56 ⟨Nat.le_of_ble_eq_true rfl, Nat.le_of_ble_eq_true rfl⟩ (fun u H locs hw hP hD hS => ?_)
        obtain ⟨w_44, hp_45, rfl⟩ := hw
        have hP : va_P D vwCl (CT cy a J (va_up (va_up I 10 (I 10)) 99 w_33) (va_up (va_up O 5 g_24) 100 w_34) (va_up (va_up (va_up R 4 w_44) 5 w_36) 6 w_37) RO (g_25 ++ ((Y ++ [laC r_14 (nI na) (zLy fl na).1 (zLy fl na).2]) ++ [laC r_23 (nI nb) (zLy fl nb).1 (zLy fl nb).2]))) H := hP
        have hD : va_D A (CT cy a J (va_up (va_up I 10 (I 10)) 99 w_33) (va_up (va_up O 5 g_24) 100 w_34) (va_up (va_up (va_up R 4 w_44) 5 w_36) 6 w_37) RO (g_25 ++ ((Y ++ [laC r_14 (nI na) (zLy fl na).1 (zLy fl na).2]) ++ [laC r_23 (nI nb) (zLy fl nb).1 (zLy fl nb).2]))) := hD
        have hmx9 : hMx fl (zLy fl na) (zLy fl nb) x2 w_44 := mxQ_e rfl hp_45 (hVal_J hRA.1 hp_39) (hVal_J hRA.1 hp_40)
        obtain ⟨al9, hal9⟩ := zb_ex (A := zmL fl (zLy fl na) (zLy fl nb) x2) (fun g hg => zmL_hi hg)
        refine lv_aload_n hx hb dX9_meet_59 rfl (lv_at hl 0 rfl) ?_
        refine kM_r (As := []) (rest := []) (q0 := 0) ⟨hx, hb, hml, hown, hts⟩ (y_X9_knownLayings l D cy a _ J (va_up (va_up I 10 (I 10)) 99 w_33) (va_up (va_up O 5 g_24) 100 w_34) (va_up (va_up (va_up R 4 w_44) 5 w_36) 6 w_37) RO g_25 ((Y ++ [laC r_14 (nI na) (zLy fl na).1 (zLy fl na).2]) ++ [laC r_23 (nI nb) (zLy fl nb).1 (zLy fl nb).2])  fl S P (RCf_mono hmono_31 hRA) (wh_ng c_1) ⟨hM.1, hi_28, hi_29, hi_30, hM.2.2.2.2.1, hM.2.2.2.2.2.1, hM.2.2.2.2.2.2.1, hM.2.2.2.2.2.2.2.1, hRO0, hRO1, hRO2, hRO3⟩ hL_26) (cwV 0 hts gX9_meet_X9_knownLayings rfl rfl rfl (by decide +kernel) ⟨Nat.le_of_ble_eq_true rfl, Nat.le_of_ble_eq_true rfl⟩) hK hN hP hD hS hA rfl rfl rfl hl.1 rfl (Nat.le_of_ble_eq_true rfl) dX9_meet_60 ⟨Nat.le_of_ble_eq_true rfl, Nat.le_of_ble_eq_true rfl⟩ (fun u r_46 H locs hw hP hD hS => ?_)
        obtain ⟨g_47, g_48, g_49, g_50⟩ := u
        have htab_51 : tabF (bfx fl) g_49 0 := hw
        have hP : va_P D vwCl (CT cy a J (va_up (va_up I 10 (I 10)) 99 w_33) (va_up (va_up O 5 (some r_46)) 100 w_34) (va_up (va_up (va_up R 4 w_44) 5 w_36) 6 w_37) RO ([(r_46, .inr (3, [.ref g_47, .ref g_48, .long fl, .int 1])), (g_47, .inl (cy 0, 16640, .inl g_49)), (g_48, .inl (cy 0, 512, .inl g_50))] ++ ((Y ++ [laC r_14 (nI na) (zLy fl na).1 (zLy fl na).2]) ++ [laC r_23 (nI nb) (zLy fl nb).1 (zLy fl nb).2]))) H := hP
        have hD : va_D A (CT cy a J (va_up (va_up I 10 (I 10)) 99 w_33) (va_up (va_up O 5 (some r_46)) 100 w_34) (va_up (va_up (va_up R 4 w_44) 5 w_36) 6 w_37) RO ([(r_46, .inr (3, [.ref g_47, .ref g_48, .long fl, .int 1])), (g_47, .inl (cy 0, 16640, .inl g_49)), (g_48, .inl (cy 0, 512, .inl g_50))] ++ ((Y ++ [laC r_14 (nI na) (zLy fl na).1 (zLy fl na).2]) ++ [laC r_23 (nI nb) (zLy fl nb).1 (zLy fl nb).2]))) := hD
        refine lv_aload_n hx hb dX9_meet_63 rfl (lv_at hl 0 rfl) ?_
        refine va_get (D := D) (ci := 8) (v := .ref (a 3)) (C := RX9) (T := TX9) (N := 11) hx hb hts hi9 hown hK hP 0 rfl rfl 2 (by decide) hw1 (fun _ h9 => h9) rfl dX9_meet_64 ?_
        refine lv_aload_n hx hb dX9_meet_67 rfl (lv_at hl 0 rfl) ?_
        refine va_get (D := D) (ci := 8) (v := .long (J 6)) (C := RX9) (T := TX9) (N := 11) hx hb hts hi9 hown hK hP 0 rfl rfl 6 (by decide) hw2 (fun _ h9 => h9) rfl dX9_meet_68 ?_
        refine kRa_l (As := [.long (J 6)]) (rest := [.ref r_46]) (q0 := 3) ⟨hx, hb, hml, hown, hts⟩ (x_X2_acrossStones l D cy a _ J (va_up (va_up I 10 (I 10)) 99 w_33) (va_up (va_up O 5 (some r_46)) 100 w_34) (va_up (va_up (va_up R 4 w_44) 5 w_36) 6 w_37) RO ([(r_46, .inr (3, [.ref g_47, .ref g_48, .long fl, .int 1])), (g_47, .inl (cy 0, 16640, .inl g_49)), (g_48, .inl (cy 0, 512, .inl g_50))]) ((Y ++ [laC r_14 (nI na) (zLy fl na).1 (zLy fl na).2]) ++ [laC r_23 (nI nb) (zLy fl nb).1 (zLy fl nb).2]) (J 6) (zLy fl na) (zLy fl nb) x2 (hMx_J hRA.1 hmx9) (show LY (bfx (J 6)) (bfx (zLy fl na).1) (bfx (zLy fl na).2) by rw [hRA.1]; exact zLy_LY hza) (show LY (bfx (J 6)) (bfx (zLy fl nb).1) (bfx (zLy fl nb).2) by rw [hRA.1]; exact zLy_LY hzb) (wh_oJ hRA.1 c_1) ) (cwV 1 hts gX9_meet_X2_acrossStones rfl rfl rfl (by decide +kernel) ⟨Nat.le_of_ble_eq_true rfl, Nat.le_of_ble_eq_true rfl⟩) hK hN hP hD rfl rfl rfl hl.1 rfl (Nat.le_of_ble_eq_true rfl) dX9_meet_71 ⟨Nat.le_of_ble_eq_true rfl, Nat.le_of_ble_eq_true rfl⟩ (fun r_52 hr_53 => ?_)
        refine kR_i (As := [.long r_52]) (rest := []) (q0 := 20) ⟨hx, hb, hml, hown, hts⟩ (x_X4_numberOf l D cy a _ J (va_up (va_up I 10 (I 10)) 99 w_33) (va_up (va_up O 5 (some r_46)) 100 w_34) (va_up (va_up (va_up R 4 w_44) 5 w_36) 6 w_37) RO r_46 g_47 g_48 fl 1 g_49 g_50 (Or.inr rfl) ((Y ++ [laC r_14 (nI na) (zLy fl na).1 (zLy fl na).2]) ++ [laC r_23 (nI nb) (zLy fl nb).1 (zLy fl nb).2]) r_52 al9 (me_LY (wh_o c_1) (zLy_LY hza) (zLy_LY hzb) hal9 (hac_J hRA.1 hr_53)) htab_51 ) (cwV 1 hts gX9_meet_X4_numberOf rfl rfl rfl (by decide +kernel) ⟨Nat.le_of_ble_eq_true rfl, Nat.le_of_ble_eq_true rfl⟩) hK hN hP hD rfl rfl rfl hl.1 rfl (Nat.le_of_ble_eq_true rfl) dX9_meet_74 ⟨Nat.le_of_ble_eq_true rfl, Nat.le_of_ble_eq_true rfl⟩ ?_
        exact wret_i hx hb hr hlocks (J, (va_up (va_up I 10 (I 10)) 99 w_33), (va_up (va_up O 5 (some r_46)) 100 w_34), (va_up (va_up (va_up R 4 w_44) 5 w_36) 6 w_37), RO, [(r_46, .inr (3, [.ref g_47, .ref g_48, .long fl, .int 1])), (g_47, .inl (cy 0, 16640, .inl g_49)), (g_48, .inl (cy 0, 512, .inl g_50))], (Y ++ [laC r_14 (nI na) (zLy fl na).1 (zLy fl na).2]) ++ [laC r_23 (nI nb) (zLy fl nb).1 (zLy fl nb).2]) ⟨(I 10), w_33, (some r_46), w_34, w_44, w_36, w_37, ([(r_46, .inr (3, [.ref g_47, .ref g_48, .long fl, .int 1])), (g_47, .inl (cy 0, 16640, .inl g_49)), (g_48, .inl (cy 0, 512, .inl g_50))]), ((Y ++ [laC r_14 (nI na) (zLy fl na).1 (zLy fl na).2]) ++ [laC r_23 (nI nb) (zLy fl nb).1 (zLy fl nb).2]), ⟨(me_fin ea eb hza hzb (ag_3 c_1 c_6 c_13).symm (hac_J hRA.1 hr_53)), hmono_31, (Or.inr ⟨_, _, _, _, _, _, _, rfl, (Or.inr rfl), (fun _ => htab_51), rfl⟩), hp_38⟩, rfl⟩ hP hD hS dX9_meet_77
      · replace c_13 := bI_f c_13
        refine lv_aload_n hx hb dX9_meet_30 rfl (lv_at hl 0 rfl) ?_
        refine lv_ldc (v := (-100001)) hx hb hown hw0 dX9_meet_31 ?_
        refine kM_i (As := [.int (-100001)]) (rest := []) (q0 := 0) ⟨hx, hb, hml, hown, hts⟩ (t_X9_finding l D cy a _ J (va_up (va_up I 10 (I 10)) 99 (I 99)) (va_up (va_up O 5 w_10) 100 (O 100)) (va_up (va_up (va_up R 4 (R 4)) 5 (R 5)) 6 (R 6)) RO LL_11 Y ((-100001) : Int32)   ) (cwV 1 hts gX9_meet_X9_finding rfl rfl rfl (by decide +kernel) ⟨Nat.le_of_ble_eq_true rfl, Nat.le_of_ble_eq_true rfl⟩) hK hN hP hD hS hA rfl rfl rfl hl.1 rfl (Nat.le_of_ble_eq_true rfl) dX9_meet_33 ⟨Nat.le_of_ble_eq_true rfl, Nat.le_of_ble_eq_true rfl⟩ (fun r_54 u H locs hw hP hD hS => ?_)
        obtain ⟨w_55, rfl, rfl⟩ := hw
        have hP : va_P D vwCl (CT cy a J (va_up (va_up I 10 w_55) 99 (I 99)) (va_up (va_up O 5 w_10) 100 (O 100)) (va_up (va_up (va_up R 4 (R 4)) 5 (R 5)) 6 (R 6)) RO (LL_11 ++ Y)) H := hP
        have hD : va_D A (CT cy a J (va_up (va_up I 10 w_55) 99 (I 99)) (va_up (va_up O 5 w_10) 100 (O 100)) (va_up (va_up (va_up R 4 (R 4)) 5 (R 5)) 6 (R 6)) RO (LL_11 ++ Y)) := hD
        refine W.widen (k := 17) (n := 85786) (Nat.le_of_ble_eq_true rfl) (Nat.le_of_ble_eq_true rfl) ?_
        exact wret_i hx hb hr hlocks (J, (va_up (va_up I 10 w_55) 99 (I 99)), (va_up (va_up O 5 w_10) 100 (O 100)), (va_up (va_up (va_up R 4 (R 4)) 5 (R 5)) 6 (R 6)), RO, LL_11, Y) ⟨w_55, (I 99), w_10, (O 100), (R 4), (R 5), (R 6), LL_11, Y, ⟨(me_no (ag_2 c_1 c_13) (by decide)), (fun _ h => h), hL_12, hQ⟩, rfl⟩ hP hD hS dX9_meet_36
  · replace c_1 := bI_f c_1
    refine lv_aload_n hx hb dX9_meet_7 rfl (lv_at hl 0 rfl) ?_
    refine lv_ldc (v := (-100004)) hx hb hown hw3 dX9_meet_8 ?_
    refine kM_i (As := [.int (-100004)]) (rest := []) (q0 := 0) ⟨hx, hb, hml, hown, hts⟩ (t_X9_finding l D cy a _ J (va_up (va_up I 10 (I 10)) 99 (I 99)) (va_up (va_up O 5 (O 5)) 100 (O 100)) (va_up (va_up (va_up R 4 (R 4)) 5 (R 5)) 6 (R 6)) RO LL Y ((-100004) : Int32)   ) (cwV 1 hts gX9_meet_X9_finding rfl rfl rfl (by decide +kernel) ⟨Nat.le_of_ble_eq_true rfl, Nat.le_of_ble_eq_true rfl⟩) hK hN hP hD hS hA rfl rfl rfl hl.1 rfl (Nat.le_of_ble_eq_true rfl) dX9_meet_10 ⟨Nat.le_of_ble_eq_true rfl, Nat.le_of_ble_eq_true rfl⟩ (fun r_56 u H locs hw hP hD hS => ?_)
    obtain ⟨w_57, rfl, rfl⟩ := hw
    have hP : va_P D vwCl (CT cy a J (va_up (va_up I 10 w_57) 99 (I 99)) (va_up (va_up O 5 (O 5)) 100 (O 100)) (va_up (va_up (va_up R 4 (R 4)) 5 (R 5)) 6 (R 6)) RO (LL ++ Y)) H := hP
    have hD : va_D A (CT cy a J (va_up (va_up I 10 w_57) 99 (I 99)) (va_up (va_up O 5 (O 5)) 100 (O 100)) (va_up (va_up (va_up R 4 (R 4)) 5 (R 5)) 6 (R 6)) RO (LL ++ Y)) := hD
    refine W.widen (k := 17) (n := 85786) (Nat.le_of_ble_eq_true rfl) (Nat.le_of_ble_eq_true rfl) ?_
    exact wret_i hx hb hr hlocks (J, (va_up (va_up I 10 w_57) 99 (I 99)), (va_up (va_up O 5 (O 5)) 100 (O 100)), (va_up (va_up (va_up R 4 (R 4)) 5 (R 5)) 6 (R 6)), RO, LL, Y) ⟨w_57, (I 99), (O 5), (O 100), (R 4), (R 5), (R 6), LL, Y, ⟨(me_no (ag_0 c_1) (by decide)), (fun _ h => h), hL, hQ⟩, rfl⟩ hP hD hS dX9_meet_13
