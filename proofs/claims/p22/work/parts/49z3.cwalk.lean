set_option maxHeartbeats 4000000 in
set_option maxRecDepth 100000 in
theorem x_X4_alongWays (l : Launch) (D : va_G) (cy : Nat → ClassId) (a : Nat → Nat) (sz : Nat) (J : Nat → Int64) (I : Nat → Int32) (O : Nat → Option Nat) (R : Nat → Nat → Int32) (RO : Nat → Nat → Option Nat) (b0 b1 b2 : Nat) (jf : Int64) (kn : Int32) (fw fp : Nat → Int32) (hkn : isB kn) (Y : va_W) (x0 : Nat) (x1 : Nat) (hx0 : x0 < 64) (hx1 : x1 < 256) (htb : tabF (bfx jf) fw 0) (hsb : sub x1 (wf (bfx jf) x0)) : Met l yX4_alongWays wsX4_alongWays ({ frames := 2, cells := 0, slots := 0, locals := 44 }) (va_Pc [.ref b0, .int (nI x0), .int (nI x1)] (PW D cy sz (CT cy a J I O R RO ([(b0, .inr (3, [.ref b1, .ref b2, .long jf, .int kn])), (b1, .inl (cy 0, 16640, .inl fw)), (b2, .inl (cy 0, 512, .inl fp))] ++ Y)))) (vp_Si (fun r => r = (nI (zAw (bfx jf) x0 x1)))) 0 0 (fun _ => False) := by
  refine Met.ofW (cc := cX4_alongWays) (maxL := 3) (ret := (some .int)) (by decide) rfl ?_
  intro p e s m args below meth c s₁ B hml hv
  obtain ⟨rfl, rfl, hP, hK, hN, hD0⟩ := hv
  have hx := B.exec
  have hb := B.bytes
  have hr := B.returns
  have hts := atoms_spec (ws := wsX4_alongWays) B.pre
  have hown : s.vm.findClass RX4 = some m.cls := findClass_of_methodNamed B.named
  have hlocks := B.notSynchronized
  have hw0 := hts (.fieldLink RX4 20 "ParquetLayer$Layings" "free" "J") (by decide +kernel)
  have hw1 := hts (.fieldLink RX4 9 "ParquetLayer$Layings" "ways" "[I") (by decide +kernel)
  have hi4 := ihX4_alongWays_4
  have hD := hD0
  have hl := lv_entry ([.ref b0, .int (nI x0), .int (nI x1)]) (n := 3) (Nat.le_of_ble_eq_true rfl)
  rw [lg_entry_eq]
  generalize (lg_sl ([.ref b0, .int (nI x0), .int (nI x1)]) ++ List.replicate (3 - (lg_sl ([.ref b0, .int (nI x0), .int (nI x1)])).length) Slot.unset).toArray = ls at hl ⊢
  have hl : lv_has ls 3 [(0, .ref b0), (1, .int (nI x0)), (2, .int (nI x1))] := hl
  refine lv_aload_n hx hb dX4_alongWays_0 rfl (lv_at hl 0 rfl) ?_
  refine va_get (D := D) (ci := 3) (v := .long jf) (C := RX4) (T := TX4) (N := 4) hx hb hts hi4 hown hK hP 20 rfl rfl 2 (by decide) hw0 (fun _ h9 => h9) rfl dX4_alongWays_1 ?_
  refine lv_iload_n hx hb dX4_alongWays_4 rfl (lv_at hl 1 rfl) ?_
  refine kS_i (As := [.long jf, .int (nI x0)]) (rest := []) ⟨hx, hb, hml, hown, hts⟩ (c_X4_alongFits l jf (nI x0)) (va_cwS 2 hts gX4_alongWays_X4_alongFits rfl rfl rfl (by decide +kernel) ⟨Nat.le_of_ble_eq_true rfl, Nat.le_of_ble_eq_true rfl⟩) rfl hl.1 rfl (Nat.le_of_ble_eq_true rfl) dX4_alongWays_5 ⟨Nat.le_of_ble_eq_true rfl, Nat.le_of_ble_eq_true rfl⟩ ?_
  refine lv_if_eq (tgt := 17) hx hb dX4_alongWays_8 (by decide) (fun c_1 => ?_) (fun c_1 => ?_)
  · replace c_1 := bI_f c_1
    refine lv_iconst (v := 0) hx hb dX4_alongWays_17 (by decide) ?_
    exact pret_i hx hb hr hlocks (zaw_0 hx0 c_1) dX4_alongWays_18
  · replace c_1 := bI_t c_1
    refine lv_iload_n hx hb dX4_alongWays_11 rfl (lv_at hl 2 rfl) ?_
    refine lv_iconst (v := 2) hx hb dX4_alongWays_12 (by decide) ?_
    refine lv_iand hx hb dX4_alongWays_13 ?_
    refine lv_if_eq (tgt := 19) hx hb dX4_alongWays_14 (by decide) (fun c_2 => ?_) (fun c_2 => ?_)
    · refine lv_aload_n hx hb dX4_alongWays_19 rfl (lv_at hl 0 rfl) ?_
      refine va_get (D := D) (ci := 3) (v := .ref b1) (C := RX4) (T := TX4) (N := 4) hx hb hts hi4 hown hK hP 20 rfl rfl 0 (by decide) hw1 (fun _ h9 => h9) rfl dX4_alongWays_20 ?_
      refine lv_iload_n hx hb dX4_alongWays_23 rfl (lv_at hl 1 rfl) ?_
      refine lv_iconst (v := 1) hx hb dX4_alongWays_24 (by decide) ?_
      refine lv_iadd hx hb dX4_alongWays_25 ?_
      refine wtop_i (y := nI (x0 + 1)) (nI_1 _) ?_
      refine lv_sipush (v := 256) hx hb dX4_alongWays_26 (by decide) ?_
      refine lv_imul hx hb dX4_alongWays_29 ?_
      refine wtop_i (y := nI ((x0 + 1) * 256)) (pk_mul (x0 + 1) 256) ?_
      refine lv_iload_n hx hb dX4_alongWays_30 rfl (lv_at hl 2 rfl) ?_
      refine lv_iconst (v := 1) hx hb dX4_alongWays_31 (by decide) ?_
      refine lv_ishr hx hb dX4_alongWays_32 ?_
      refine wtop_i (y := nI (x1 / 2)) (pk_shrN (by omega) _ 1 (by decide)) ?_
      refine lv_iconst (v := 1) hx hb dX4_alongWays_33 (by decide) ?_
      refine lv_ior hx hb dX4_alongWays_34 ?_
      refine wtop_i (y := nI (x1 / 2 / 2 * 2 + 1)) (or1_t ⟨x1 / 2, by omega⟩) ?_
      refine lv_iadd hx hb dX4_alongWays_35 ?_
      refine va_iald hx hb hK hP 21 0 rfl rfl (ixa hx0 (by omega)) dX4_alongWays_36 ?_
      exact pret_i hx hb hr hlocks (zaw_2 hx0 hx1 htb hsb c_1 c_2) dX4_alongWays_37
    · refine lv_iconst (v := 0) hx hb dX4_alongWays_17 (by decide) ?_
      exact pret_i hx hb hr hlocks (zaw_1 hx1 c_2) dX4_alongWays_18
set_option maxHeartbeats 4000000 in
set_option maxRecDepth 100000 in
theorem x_X4_beginsStone (l : Launch) (D : va_G) (cy : Nat → ClassId) (a : Nat → Nat) (sz : Nat) (J : Nat → Int64) (I : Nat → Int32) (O : Nat → Option Nat) (R : Nat → Nat → Int32) (RO : Nat → Nat → Option Nat) (b0 b1 b2 : Nat) (jf : Int64) (kn : Int32) (fw fp : Nat → Int32) (hkn : isB kn) (Y : va_W) (x0 : Nat) (x1 : Nat) (hx0 : x0 < 64) (hx1 : x1 < 256) : Met l yX4_beginsStone wsX4_beginsStone ({ frames := 1, cells := 0, slots := 0, locals := 22 }) (va_Pc [.ref b0, .int (nI x0), .int (nI x1)] (PW D cy sz (CT cy a J I O R RO ([(b0, .inr (3, [.ref b1, .ref b2, .long jf, .int kn])), (b1, .inl (cy 0, 16640, .inl fw)), (b2, .inl (cy 0, 512, .inl fp))] ++ Y)))) (vp_Si (fun r => r = bI (zbg (bfx jf) x0 x1))) 0 0 (fun _ => False) := by
  refine Met.ofW (cc := cX4_beginsStone) (maxL := 3) (ret := (some .boolean)) (by decide) rfl ?_
  intro p e s m args below meth c s₁ B hml hv
  obtain ⟨rfl, rfl, hP, hK, hN, hD0⟩ := hv
  have hx := B.exec
  have hb := B.bytes
  have hr := B.returns
  have hts := atoms_spec (ws := wsX4_beginsStone) B.pre
  have hown : s.vm.findClass RX4 = some m.cls := findClass_of_methodNamed B.named
  have hlocks := B.notSynchronized
  have hw0 := hts (.fieldLink RX4 20 "ParquetLayer$Layings" "free" "J") (by decide +kernel)
  have hi4 := ihX4_beginsStone_4
  have hD := hD0
  have hl := lv_entry ([.ref b0, .int (nI x0), .int (nI x1)]) (n := 3) (Nat.le_of_ble_eq_true rfl)
  rw [lg_entry_eq]
  generalize (lg_sl ([.ref b0, .int (nI x0), .int (nI x1)]) ++ List.replicate (3 - (lg_sl ([.ref b0, .int (nI x0), .int (nI x1)])).length) Slot.unset).toArray = ls at hl ⊢
  have hl : lv_has ls 3 [(0, .ref b0), (1, .int (nI x0)), (2, .int (nI x1))] := hl
  refine lv_aload_n hx hb dX4_beginsStone_0 rfl (lv_at hl 0 rfl) ?_
  refine va_get (D := D) (ci := 3) (v := .long jf) (C := RX4) (T := TX4) (N := 4) hx hb hts hi4 hown hK hP 20 rfl rfl 2 (by decide) hw0 (fun _ h9 => h9) rfl dX4_beginsStone_1 ?_
  refine lv_iload_n hx hb dX4_beginsStone_4 rfl (lv_at hl 1 rfl) ?_
  refine kS_i (As := [.long jf, .int (nI x0)]) (rest := []) ⟨hx, hb, hml, hown, hts⟩ (c_X1_holds l jf (nI x0)) (va_cwS 2 hts gX4_beginsStone_X1_holds rfl rfl rfl (by decide +kernel) ⟨Nat.le_of_ble_eq_true rfl, Nat.le_of_ble_eq_true rfl⟩) rfl hl.1 rfl (Nat.le_of_ble_eq_true rfl) dX4_beginsStone_5 ⟨Nat.le_of_ble_eq_true rfl, Nat.le_of_ble_eq_true rfl⟩ ?_
  refine lv_if_eq (tgt := 21) hx hb dX4_beginsStone_8 (by decide) (fun c_1 => ?_) (fun c_1 => ?_)
  · replace c_1 := bI_f c_1
    refine lv_iconst (v := 0) hx hb dX4_beginsStone_21 (by decide) ?_
    exact pret_z hx hb hr hlocks (zbs_0 hx0 c_1) dX4_beginsStone_22
  · replace c_1 := bI_t c_1
    refine lv_iload_n hx hb dX4_beginsStone_11 rfl (lv_at hl 2 rfl) ?_
    refine lv_iconst (v := 1) hx hb dX4_beginsStone_12 (by decide) ?_
    refine lv_iand hx hb dX4_beginsStone_13 ?_
    refine lv_if_ne (tgt := 21) hx hb dX4_beginsStone_14 (by decide) (fun c_2 => ?_) (fun c_2 => ?_)
    · refine lv_iconst (v := 0) hx hb dX4_beginsStone_21 (by decide) ?_
      exact pret_z hx hb hr hlocks (zbs_1 hx1 c_2) dX4_beginsStone_22
    · refine lv_iconst (v := 1) hx hb dX4_beginsStone_17 (by decide) ?_
      refine lv_goto (tgt := 22) hx hb dX4_beginsStone_18 (by decide) ?_
      exact pret_z hx hb hr hlocks (zbs_2 hx0 hx1 c_1 c_2) dX4_beginsStone_22
set_option maxHeartbeats 4000000 in
set_option maxRecDepth 100000 in
theorem x_X4_acrossOf (l : Launch) (D : va_G) (cy : Nat → ClassId) (a : Nat → Nat) (sz : Nat) (J : Nat → Int64) (I : Nat → Int32) (O : Nat → Option Nat) (R : Nat → Nat → Int32) (RO : Nat → Nat → Option Nat) (b0 b1 b2 : Nat) (jf : Int64) (kn : Int32) (fw fp : Nat → Int32) (hkn : isB kn) (Y : va_W) (x0 : Nat) (hzi : zIn (bfx jf) x0) (htb : tabF (bfx jf) fw 0) : Met l yX4_acrossOf wsX4_acrossOf ({ frames := 3, cells := 0, slots := 0, locals := 66 }) (va_Pc [.ref b0, .int (nI x0)] (PW D cy sz (CT cy a J I O R RO ([(b0, .inr (3, [.ref b1, .ref b2, .long jf, .int kn])), (b1, .inl (cy 0, 16640, .inl fw)), (b2, .inl (cy 0, 512, .inl fp))] ++ Y)))) (vp_Sl (fun r => r = (zst (bfx jf) x0 64).2.2.2)) 0 0 (fun _ => False) := by
  refine Met.ofW (cc := cX4_acrossOf) (maxL := 9) (ret := (some .long)) (by decide) rfl ?_
  intro p e s m args below meth c s₁ B hml hv
  obtain ⟨rfl, rfl, hP, hK, hN, hD0⟩ := hv
  have hx := B.exec
  have hb := B.bytes
  have hr := B.returns
  have hts := atoms_spec (ws := wsX4_acrossOf) B.pre
  have hown : s.vm.findClass RX4 = some m.cls := findClass_of_methodNamed B.named
  have hlocks := B.notSynchronized
  have hD := hD0
  have hl := lv_entry ([.ref b0, .int (nI x0)]) (n := 9) (Nat.le_of_ble_eq_true rfl)
  rw [lg_entry_eq]
  generalize (lg_sl ([.ref b0, .int (nI x0)]) ++ List.replicate (9 - (lg_sl ([.ref b0, .int (nI x0)])).length) Slot.unset).toArray = ls at hl ⊢
  have hl : lv_has ls 9 [(0, .ref b0), (1, .int (nI x0))] := hl
  have lp11 : ∀ (n11 : Nat), ∀ (i : Nat) (mk : Nat) (l9 : Nat) (a9 : Int64) (v2_11 : Int64), (i ≤ 64) → (zst (bfx jf) x0 i = (l9, mk, a9, v2_11)) → (64 - i) < n11 → ∀ (ls : Array Slot), lv_has ls 9 [(0, .ref b0), (2, .long v2_11), (4, .int (nI l9)), (5, .int (nI mk)), (6, .int (nI i))] → W p l e (headSpec wsX4_acrossOf ({ frames := 3, cells := 0, slots := 0, locals := 66 })).room s m ([.ref b0, .int (nI x0)] : List Value).toArray below meth c s.heap [] 0 0 (MQ below (vp_Sl (fun r => r = (zst (bfx jf) x0 64).2.2.2)) ([.ref b0, .int (nI x0)] : List Value).toArray s 0 0 (fun _ => False)) (F0 m 11 ls []) := by
    intro n11
    induction n11 with
    | zero => intro i mk l9 a9 v2_11 hi hst hn; exact absurd hn (Nat.not_lt_zero _)
    | succ n11 ih11 =>
      intro i mk l9 a9 v2_11 hi hst hn11 ls hl
      refine lv_iload hx hb dX4_acrossOf_11 (lv_at hl 4 rfl) ?_
      refine lv_bipush (v := 64) hx hb dX4_acrossOf_13 (by decide) ?_
      refine lv_icmp_ge (tgt := 93) hx hb dX4_acrossOf_15 (by decide) (fun c_1 => ?_) (fun c_1 => ?_)
      · have hie_i := ctr_ge (N := 64) (by decide) hi c_1
        refine lv_lload_n hx hb dX4_acrossOf_93 rfl (lv_at hl 1 rfl) ?_
        exact pret_l hx hb hr hlocks (zst_o2 hst hie_i) dX4_acrossOf_94
      · have hlt_i := ctr_lt (N := 64) (by decide) hi c_1
        obtain ⟨hsb, hmk, hl31⟩ := zst_j hzi hlt_i hst
        refine lv_iload hx hb dX4_acrossOf_18 (lv_at hl 3 rfl) ?_
        refine lv_iconst (v := 1) hx hb dX4_acrossOf_20 (by decide) ?_
        refine lv_ishr hx hb dX4_acrossOf_21 ?_
        refine wtop_i (y := nI (mk / 2)) (pk_shrN (Nat.lt_trans hmk (by decide)) _ 1 (by decide)) ?_
        refine lv_istore (lv' := [(7, .int (nI (mk / 2))), (0, .ref b0), (2, .long v2_11), (4, .int (nI l9)), (5, .int (nI mk)), (6, .int (nI i))]) hx hb dX4_acrossOf_22 hl (by decide) rfl (fun ls hl => ?_)
        refine lv_aload_n hx hb dX4_acrossOf_24 rfl (lv_at hl 1 rfl) ?_
        refine lv_iload hx hb dX4_acrossOf_25 (lv_at hl 5 rfl) ?_
        refine lv_iload hx hb dX4_acrossOf_27 (lv_at hl 4 rfl) ?_
        refine kR_i (As := [.int (nI i), .int (nI mk)]) (rest := []) (q0 := 20) ⟨hx, hb, hml, hown, hts⟩ (x_X4_beginsStone l D cy a _ J I O R RO b0 b1 b2 jf kn fw fp hkn Y i mk hlt_i hmk ) (cwV 2 hts gX4_acrossOf_X4_beginsStone rfl rfl rfl (by decide +kernel) ⟨Nat.le_of_ble_eq_true rfl, Nat.le_of_ble_eq_true rfl⟩) hK hN hP hD rfl rfl rfl hl.1 rfl (Nat.le_of_ble_eq_true rfl) dX4_acrossOf_29 ⟨Nat.le_of_ble_eq_true rfl, Nat.le_of_ble_eq_true rfl⟩ ?_
        refine lv_if_eq (tgt := 83) hx hb dX4_acrossOf_32 (by decide) (fun c_2 => ?_) (fun c_2 => ?_)
        · replace c_2 := bI_f c_2
          refine lv_iload hx hb dX4_acrossOf_83 (lv_at hl 0 rfl) ?_
          refine lv_istore (lv' := [(5, .int (nI (mk / 2))), (7, .int (nI (mk / 2))), (0, .ref b0), (2, .long v2_11), (4, .int (nI l9)), (6, .int (nI i))]) hx hb dX4_acrossOf_85 hl (by decide) rfl (fun ls hl => ?_)
          refine lv_iinc (v := nI (i + 1)) (lv' := [(6, .int (nI (i + 1))), (5, .int (nI (mk / 2))), (7, .int (nI (mk / 2))), (0, .ref b0), (2, .long v2_11), (4, .int (nI l9))]) hx hb dX4_acrossOf_87 hl (k := 5) rfl (nI_1 _) (by decide) rfl (fun ls hl => ?_)
          refine lv_goto (tgt := 11) hx hb dX4_acrossOf_90 (by decide) ?_
          exact ih11 (i + 1) (mk / 2) l9 a9 v2_11 hlt_i (zst_n hst (zbg_f c_2)) (lt_dec hlt_i hn11) ls (lv_sub hl [3, 4, 5, 1, 0] rfl)
        · replace c_2 := bI_t c_2
          refine lv_aload_n hx hb dX4_acrossOf_35 rfl (lv_at hl 1 rfl) ?_
          refine lv_iload hx hb dX4_acrossOf_36 (lv_at hl 5 rfl) ?_
          refine lv_iload hx hb dX4_acrossOf_38 (lv_at hl 4 rfl) ?_
          refine kR_i (As := [.int (nI i), .int (nI mk)]) (rest := []) (q0 := 20) ⟨hx, hb, hml, hown, hts⟩ (x_X4_alongWays l D cy a _ J I O R RO b0 b1 b2 jf kn fw fp hkn Y i mk hlt_i hmk htb hsb ) (cwV 2 hts gX4_acrossOf_X4_alongWays rfl rfl rfl (by decide +kernel) ⟨Nat.le_of_ble_eq_true rfl, Nat.le_of_ble_eq_true rfl⟩) hK hN hP hD rfl rfl rfl hl.1 rfl (Nat.le_of_ble_eq_true rfl) dX4_acrossOf_40 ⟨Nat.le_of_ble_eq_true rfl, Nat.le_of_ble_eq_true rfl⟩ ?_
          refine lv_istore (lv' := [(8, .int (nI (zAw (bfx jf) i mk))), (7, .int (nI (mk / 2))), (0, .ref b0), (2, .long v2_11), (4, .int (nI l9)), (5, .int (nI mk)), (6, .int (nI i))]) hx hb dX4_acrossOf_43 hl (by decide) rfl (fun ls hl => ?_)
          refine lv_iload hx hb dX4_acrossOf_45 (lv_at hl 4 rfl) ?_
          refine lv_iload hx hb dX4_acrossOf_47 (lv_at hl 0 rfl) ?_
          refine lv_icmp_ge (tgt := 61) hx hb dX4_acrossOf_49 (by decide) (fun c_3 => ?_) (fun c_3 => ?_)
          · refine lv_iload hx hb dX4_acrossOf_61 (lv_at hl 4 rfl) ?_
            refine lv_iload hx hb dX4_acrossOf_63 (lv_at hl 0 rfl) ?_
            refine lv_isub hx hb dX4_acrossOf_65 ?_
            refine wtop_i (y := nI (l9 - zAw (bfx jf) i mk)) (zsub (zcmp_f hl31 (zAw_b hmk) c_3)) ?_
            refine lv_istore (lv' := [(4, .int (nI (l9 - zAw (bfx jf) i mk))), (8, .int (nI (zAw (bfx jf) i mk))), (7, .int (nI (mk / 2))), (0, .ref b0), (2, .long v2_11), (5, .int (nI mk)), (6, .int (nI i))]) hx hb dX4_acrossOf_66 hl (by decide) rfl (fun ls hl => ?_)
            refine lv_lload_n hx hb dX4_acrossOf_68 rfl (lv_at hl 4 rfl) ?_
            refine lv_lconst (v := 1) hx hb dX4_acrossOf_69 (by decide) ?_
            refine lv_iload hx hb dX4_acrossOf_70 (lv_at hl 6 rfl) ?_
            refine lv_lshl (v := (1 : Int64) <<< ((nI i : Int32).toInt64 &&& 63)) hx hb dX4_acrossOf_72 rfl ?_
            refine lv_lor hx hb dX4_acrossOf_73 ?_
            refine lv_lstore_n (lv' := [(2, .long (v2_11 ||| ((1 : Int64) <<< ((nI i : Int32).toInt64 &&& 63)))), (4, .int (nI (l9 - zAw (bfx jf) i mk))), (8, .int (nI (zAw (bfx jf) i mk))), (7, .int (nI (mk / 2))), (0, .ref b0), (5, .int (nI mk)), (6, .int (nI i))]) hx hb dX4_acrossOf_74 rfl hl (by decide) rfl (fun ls hl => ?_)
            refine lv_iload hx hb dX4_acrossOf_75 (lv_at hl 3 rfl) ?_
            refine lv_sipush (v := 128) hx hb dX4_acrossOf_77 (by decide) ?_
            refine lv_ior hx hb dX4_acrossOf_80 ?_
            refine wtop_i (y := nI (mk / 2 + 128)) (or128_t ⟨mk / 2, z_h128 hmk⟩) ?_
            refine lv_istore (lv' := [(7, .int (nI (mk / 2 + 128))), (2, .long (v2_11 ||| ((1 : Int64) <<< ((nI i : Int32).toInt64 &&& 63)))), (4, .int (nI (l9 - zAw (bfx jf) i mk))), (8, .int (nI (zAw (bfx jf) i mk))), (0, .ref b0), (5, .int (nI mk)), (6, .int (nI i))]) hx hb dX4_acrossOf_81 hl (by decide) rfl (fun ls hl => ?_)
            refine lv_iload hx hb dX4_acrossOf_83 (lv_at hl 0 rfl) ?_
            refine lv_istore (lv' := [(5, .int (nI (mk / 2 + 128))), (7, .int (nI (mk / 2 + 128))), (2, .long (v2_11 ||| ((1 : Int64) <<< ((nI i : Int32).toInt64 &&& 63)))), (4, .int (nI (l9 - zAw (bfx jf) i mk))), (8, .int (nI (zAw (bfx jf) i mk))), (0, .ref b0), (6, .int (nI i))]) hx hb dX4_acrossOf_85 hl (by decide) rfl (fun ls hl => ?_)
            refine lv_iinc (v := nI (i + 1)) (lv' := [(6, .int (nI (i + 1))), (5, .int (nI (mk / 2 + 128))), (7, .int (nI (mk / 2 + 128))), (2, .long (v2_11 ||| ((1 : Int64) <<< ((nI i : Int32).toInt64 &&& 63)))), (4, .int (nI (l9 - zAw (bfx jf) i mk))), (8, .int (nI (zAw (bfx jf) i mk))), (0, .ref b0)]) hx hb dX4_acrossOf_87 hl (k := 6) rfl (nI_1 _) (by decide) rfl (fun ls hl => ?_)
            refine lv_goto (tgt := 11) hx hb dX4_acrossOf_90 (by decide) ?_
            exact ih11 (i + 1) (mk / 2 + 128) (l9 - zAw (bfx jf) i mk) a9 (v2_11 ||| ((1 : Int64) <<< ((nI i : Int32).toInt64 &&& 63))) hlt_i (zst_c hst (zbg_t c_2).1 (zbg_t c_2).2 (zcmp_f hl31 (zAw_b hmk) c_3)) (lt_dec hlt_i hn11) ls (lv_sub hl [6, 3, 4, 1, 0] rfl)
          · refine lv_iload hx hb dX4_acrossOf_52 (lv_at hl 1 rfl) ?_
            refine lv_iconst (v := 1) hx hb dX4_acrossOf_54 (by decide) ?_
            refine lv_ior hx hb dX4_acrossOf_55 ?_
            refine wtop_i (y := nI (mk / 2 / 2 * 2 + 1)) (or1_t ⟨mk / 2, z_h128 hmk⟩) ?_
            refine lv_istore (lv' := [(7, .int (nI (mk / 2 / 2 * 2 + 1))), (8, .int (nI (zAw (bfx jf) i mk))), (0, .ref b0), (2, .long v2_11), (4, .int (nI l9)), (5, .int (nI mk)), (6, .int (nI i))]) hx hb dX4_acrossOf_56 hl (by decide) rfl (fun ls hl => ?_)
            refine lv_goto (tgt := 83) hx hb dX4_acrossOf_58 (by decide) ?_
            refine lv_iload hx hb dX4_acrossOf_83 (lv_at hl 0 rfl) ?_
            refine lv_istore (lv' := [(5, .int (nI (mk / 2 / 2 * 2 + 1))), (7, .int (nI (mk / 2 / 2 * 2 + 1))), (8, .int (nI (zAw (bfx jf) i mk))), (0, .ref b0), (2, .long v2_11), (4, .int (nI l9)), (6, .int (nI i))]) hx hb dX4_acrossOf_85 hl (by decide) rfl (fun ls hl => ?_)
            refine lv_iinc (v := nI (i + 1)) (lv' := [(6, .int (nI (i + 1))), (5, .int (nI (mk / 2 / 2 * 2 + 1))), (7, .int (nI (mk / 2 / 2 * 2 + 1))), (8, .int (nI (zAw (bfx jf) i mk))), (0, .ref b0), (2, .long v2_11), (4, .int (nI l9))]) hx hb dX4_acrossOf_87 hl (k := 6) rfl (nI_1 _) (by decide) rfl (fun ls hl => ?_)
            refine lv_goto (tgt := 11) hx hb dX4_acrossOf_90 (by decide) ?_
            exact ih11 (i + 1) (mk / 2 / 2 * 2 + 1) l9 (a9 ||| zBt i) v2_11 hlt_i (zst_a hst (zbg_t c_2).1 (zbg_t c_2).2 (zcmp_t hl31 (zAw_b hmk) c_3)) (lt_dec hlt_i hn11) ls (lv_sub hl [4, 5, 6, 1, 0] rfl)
  refine lv_lconst (v := 0) hx hb dX4_acrossOf_0 (by decide) ?_
  refine lv_lstore_n (lv' := [(2, .long 0), (0, .ref b0), (1, .int (nI x0))]) hx hb dX4_acrossOf_1 rfl hl (by decide) rfl (fun ls hl => ?_)
  refine lv_iload_n hx hb dX4_acrossOf_2 rfl (lv_at hl 2 rfl) ?_
  refine lv_istore (lv' := [(4, .int (nI x0)), (2, .long 0), (0, .ref b0), (1, .int (nI x0))]) hx hb dX4_acrossOf_3 hl (by decide) rfl (fun ls hl => ?_)
  refine lv_iconst (v := 0) hx hb dX4_acrossOf_5 (by decide) ?_
  refine lv_istore (lv' := [(5, .int 0), (4, .int (nI x0)), (2, .long 0), (0, .ref b0), (1, .int (nI x0))]) hx hb dX4_acrossOf_6 hl (by decide) rfl (fun ls hl => ?_)
  refine lv_iconst (v := 0) hx hb dX4_acrossOf_8 (by decide) ?_
  refine lv_istore (lv' := [(6, .int 0), (5, .int 0), (4, .int (nI x0)), (2, .long 0), (0, .ref b0), (1, .int (nI x0))]) hx hb dX4_acrossOf_9 hl (by decide) rfl (fun ls hl => ?_)
  exact lp11 _ 0 0 x0 0 (0 : Int64) (Nat.zero_le _) rfl (Nat.lt_succ_self _) ls (lv_sub hl [4, 3, 2, 1, 0] rfl)
set_option maxHeartbeats 4000000 in
set_option maxRecDepth 100000 in
theorem x_X4_alongBeside (l : Launch) (D : va_G) (cy : Nat → ClassId) (a : Nat → Nat) (sz : Nat) (J : Nat → Int64) (I : Nat → Int32) (O : Nat → Option Nat) (R : Nat → Nat → Int32) (RO : Nat → Nat → Option Nat) (b0 b1 b2 : Nat) (jf : Int64) (kn : Int32) (fw fp : Nat → Int32) (hkn : isB kn) (Y : va_W) (x0 : Int64) (al9 : Int64) (hly : LY (bfx jf) (bfx al9) (bfx x0)) : Met l yX4_alongBeside wsX4_alongBeside ({ frames := 1, cells := 0, slots := 0, locals := 22 }) (va_Pc [.ref b0, .long x0] (PW D cy sz (CT cy a J I O R RO ([(b0, .inr (3, [.ref b1, .ref b2, .long jf, .int kn])), (b1, .inl (cy 0, 16640, .inl fw)), (b2, .inl (cy 0, 512, .inl fp))] ++ Y)))) (vp_Sl (fun r => r = al9)) 0 0 (fun _ => False) := by
  refine Met.ofW (cc := cX4_alongBeside) (maxL := 8) (ret := (some .long)) (by decide) rfl ?_
  intro p e s m args below meth c s₁ B hml hv
  obtain ⟨rfl, rfl, hP, hK, hN, hD0⟩ := hv
  have hx := B.exec
  have hb := B.bytes
  have hr := B.returns
  have hts := atoms_spec (ws := wsX4_alongBeside) B.pre
  have hown : s.vm.findClass RX4 = some m.cls := findClass_of_methodNamed B.named
  have hlocks := B.notSynchronized
  have hw0 := hts (.constantLong RX4 50 (3)) (by decide +kernel)
  have hw1 := hts (.constantLong RX4 28 (-1)) (by decide +kernel)
  have hw2 := hts (.fieldLink RX4 20 "ParquetLayer$Layings" "free" "J") (by decide +kernel)
  have hi4 := ihX4_alongBeside_4
  have hD := hD0
  have hl := lv_entry ([.ref b0, .long x0]) (n := 8) (Nat.le_of_ble_eq_true rfl)
  rw [lg_entry_eq]
  generalize (lg_sl ([.ref b0, .long x0]) ++ List.replicate (8 - (lg_sl ([.ref b0, .long x0])).length) Slot.unset).toArray = ls at hl ⊢
  have hl : lv_has ls 8 [(0, .ref b0), (1, .long x0)] := hl
  have lp26 : ∀ (n26 : Nat), ∀ (i : Nat) (v3_26 : Int64) (v5_26 : Int64), (i ≤ 63) → (zAB (bfx al9) i v3_26 v5_26) → (63 - i) < n26 → ∀ (ls : Array Slot), lv_has ls 8 [(0, .ref b0), (3, .long v3_26), (5, .long v5_26), (7, .int (nI i))] → W p l e (headSpec wsX4_alongBeside ({ frames := 1, cells := 0, slots := 0, locals := 22 })).room s m ([.ref b0, .long x0] : List Value).toArray below meth c s.heap [] 0 0 (MQ below (vp_Sl (fun r => r = al9)) ([.ref b0, .long x0] : List Value).toArray s 0 0 (fun _ => False)) (F0 m 26 ls []) := by
    intro n26
    induction n26 with
    | zero => intro i v3_26 v5_26 hi hab hn; exact absurd hn (Nat.not_lt_zero _)
    | succ n26 ih26 =>
      intro i v3_26 v5_26 hi hab hn26 ls hl
      refine lv_iload hx hb dX4_alongBeside_26 (lv_at hl 3 rfl) ?_
      refine lv_bipush (v := 63) hx hb dX4_alongBeside_28 (by decide) ?_
      refine lv_icmp_ge (tgt := 71) hx hb dX4_alongBeside_30 (by decide) (fun c_1 => ?_) (fun c_1 => ?_)
      · have hie_i := ctr_ge (N := 63) (by decide) hi c_1
        refine lv_lload_n hx hb dX4_alongBeside_71 rfl (lv_at hl 1 rfl) ?_
        exact pret_l hx hb hr hlocks (zab_e hie_i hly hab) dX4_alongBeside_72
      · have hlt_i := ctr_lt (N := 63) (by decide) hi c_1
        refine lv_lload hx hb dX4_alongBeside_33 (lv_at hl 2 rfl) ?_
        refine lv_iload hx hb dX4_alongBeside_35 (lv_at hl 3 rfl) ?_
        refine kS_i (As := [.long v5_26, .int (nI i)]) (rest := []) ⟨hx, hb, hml, hown, hts⟩ (c_X1_holds l v5_26 (nI i)) (va_cwS 2 hts gX4_alongBeside_X1_holds rfl rfl rfl (by decide +kernel) ⟨Nat.le_of_ble_eq_true rfl, Nat.le_of_ble_eq_true rfl⟩) rfl hl.1 rfl (Nat.le_of_ble_eq_true rfl) dX4_alongBeside_37 ⟨Nat.le_of_ble_eq_true rfl, Nat.le_of_ble_eq_true rfl⟩ ?_
        refine lv_if_eq (tgt := 65) hx hb dX4_alongBeside_40 (by decide) (fun c_2 => ?_) (fun c_2 => ?_)
        · replace c_2 := bI_f c_2
          refine lv_iinc (v := nI (i + 1)) (lv' := [(7, .int (nI (i + 1))), (0, .ref b0), (3, .long v3_26), (5, .long v5_26)]) hx hb dX4_alongBeside_65 hl (k := 3) rfl (nI_1 _) (by decide) rfl (fun ls hl => ?_)
          refine lv_goto (tgt := 26) hx hb dX4_alongBeside_68 (by decide) ?_
          exact ih26 (i + 1) v3_26 v5_26 hlt_i (zab_n hlt_i hab c_2) (lt_dec hlt_i hn26) ls (lv_sub hl [1, 2, 3, 0] rfl)
        · replace c_2 := bI_t c_2
          refine lv_lload_n hx hb dX4_alongBeside_43 rfl (lv_at hl 1 rfl) ?_
          refine lv_lconst (v := 1) hx hb dX4_alongBeside_44 (by decide) ?_
          refine lv_iload hx hb dX4_alongBeside_45 (lv_at hl 3 rfl) ?_
          refine lv_lshl (v := (1 : Int64) <<< ((nI i : Int32).toInt64 &&& 63)) hx hb dX4_alongBeside_47 rfl ?_
          refine lv_lor hx hb dX4_alongBeside_48 ?_
          refine lv_lstore_n (lv' := [(3, .long (v3_26 ||| ((1 : Int64) <<< ((nI i : Int32).toInt64 &&& 63)))), (0, .ref b0), (5, .long v5_26), (7, .int (nI i))]) hx hb dX4_alongBeside_49 rfl hl (by decide) rfl (fun ls hl => ?_)
          refine lv_lload hx hb dX4_alongBeside_50 (lv_at hl 2 rfl) ?_
          refine lv_ldc2 (v := 3) hx hb hown hw0 dX4_alongBeside_52 ?_
          refine lv_iload hx hb dX4_alongBeside_55 (lv_at hl 3 rfl) ?_
          refine lv_lshl (v := (3 : Int64) <<< ((nI i : Int32).toInt64 &&& 63)) hx hb dX4_alongBeside_57 rfl ?_
          refine lv_ldc2 (v := (-1)) hx hb hown hw1 dX4_alongBeside_58 ?_
          refine lv_lxor hx hb dX4_alongBeside_61 ?_
          refine lv_land hx hb dX4_alongBeside_62 ?_
          refine lv_lstore (lv' := [(5, .long (v5_26 &&& (((3 : Int64) <<< ((nI i : Int32).toInt64 &&& 63)) ^^^ (-1)))), (3, .long (v3_26 ||| ((1 : Int64) <<< ((nI i : Int32).toInt64 &&& 63)))), (0, .ref b0), (7, .int (nI i))]) hx hb dX4_alongBeside_63 hl (by decide) rfl (fun ls hl => ?_)
          refine lv_iinc (v := nI (i + 1)) (lv' := [(7, .int (nI (i + 1))), (5, .long (v5_26 &&& (((3 : Int64) <<< ((nI i : Int32).toInt64 &&& 63)) ^^^ (-1)))), (3, .long (v3_26 ||| ((1 : Int64) <<< ((nI i : Int32).toInt64 &&& 63)))), (0, .ref b0)]) hx hb dX4_alongBeside_65 hl (k := 3) rfl (nI_1 _) (by decide) rfl (fun ls hl => ?_)
          refine lv_goto (tgt := 26) hx hb dX4_alongBeside_68 (by decide) ?_
          exact ih26 (i + 1) (v3_26 ||| ((1 : Int64) <<< ((nI i : Int32).toInt64 &&& 63))) (v5_26 &&& (((3 : Int64) <<< ((nI i : Int32).toInt64 &&& 63)) ^^^ (-1))) hlt_i (zab_y hlt_i hly hab c_2) (lt_dec hlt_i hn26) ls (lv_sub hl [3, 2, 1, 0] rfl)
  refine lv_lconst (v := 0) hx hb dX4_alongBeside_0 (by decide) ?_
  refine lv_lstore_n (lv' := [(3, .long 0), (0, .ref b0), (1, .long x0)]) hx hb dX4_alongBeside_1 rfl hl (by decide) rfl (fun ls hl => ?_)
  refine lv_aload_n hx hb dX4_alongBeside_2 rfl (lv_at hl 1 rfl) ?_
  refine va_get (D := D) (ci := 3) (v := .long jf) (C := RX4) (T := TX4) (N := 4) hx hb hts hi4 hown hK hP 20 rfl rfl 2 (by decide) hw2 (fun _ h9 => h9) rfl dX4_alongBeside_3 ?_
  refine lv_lload_n hx hb dX4_alongBeside_6 rfl (lv_at hl 2 rfl) ?_
  refine lv_ldc2 (v := (-1)) hx hb hown hw1 dX4_alongBeside_7 ?_
  refine lv_lxor hx hb dX4_alongBeside_10 ?_
  refine lv_land hx hb dX4_alongBeside_11 ?_
  refine lv_lload_n hx hb dX4_alongBeside_12 rfl (lv_at hl 2 rfl) ?_
  refine lv_bipush (v := 8) hx hb dX4_alongBeside_13 (by decide) ?_
  refine lv_lshl (v := x0 <<< ((8 : Int32).toInt64 &&& 63)) hx hb dX4_alongBeside_15 rfl ?_
  refine lv_ldc2 (v := (-1)) hx hb hown hw1 dX4_alongBeside_16 ?_
  refine lv_lxor hx hb dX4_alongBeside_19 ?_
  refine lv_land hx hb dX4_alongBeside_20 ?_
  refine lv_lstore (lv' := [(5, .long ((jf &&& (x0 ^^^ (-1))) &&& ((x0 <<< ((8 : Int32).toInt64 &&& 63)) ^^^ (-1)))), (3, .long 0), (0, .ref b0), (1, .long x0)]) hx hb dX4_alongBeside_21 hl (by decide) rfl (fun ls hl => ?_)
  refine lv_iconst (v := 0) hx hb dX4_alongBeside_23 (by decide) ?_
  refine lv_istore (lv' := [(7, .int 0), (5, .long ((jf &&& (x0 ^^^ (-1))) &&& ((x0 <<< ((8 : Int32).toInt64 &&& 63)) ^^^ (-1)))), (3, .long 0), (0, .ref b0), (1, .long x0)]) hx hb dX4_alongBeside_24 hl (by decide) rfl (fun ls hl => ?_)
  exact lp26 _ 0 (0 : Int64) ((jf &&& (x0 ^^^ (-1))) &&& ((x0 <<< ((8 : Int32).toInt64 &&& 63)) ^^^ (-1))) (Nat.zero_le _) (zab_0 hly) (Nat.lt_succ_self _) ls (lv_sub hl [3, 2, 1, 0] rfl)
set_option maxHeartbeats 4000000 in
set_option maxRecDepth 100000 in
theorem x_X4_numberOf (l : Launch) (D : va_G) (cy : Nat → ClassId) (a : Nat → Nat) (sz : Nat) (J : Nat → Int64) (I : Nat → Int32) (O : Nat → Option Nat) (R : Nat → Nat → Int32) (RO : Nat → Nat → Option Nat) (b0 b1 b2 : Nat) (jf : Int64) (kn : Int32) (fw fp : Nat → Int32) (hkn : isB kn) (Y : va_W) (x0 : Int64) (al9 : Int64) (hly : LY (bfx jf) (bfx al9) (bfx x0)) (htb : tabF (bfx jf) fw 0) : Met l yX4_numberOf wsX4_numberOf ({ frames := 3, cells := 0, slots := 0, locals := 66 }) (va_Pc [.ref b0, .long x0] (PW D cy sz (CT cy a J I O R RO ([(b0, .inr (3, [.ref b1, .ref b2, .long jf, .int kn])), (b1, .inl (cy 0, 16640, .inl fw)), (b2, .inl (cy 0, 512, .inl fp))] ++ Y)))) (vp_Si (fun r => r = (nI (znb (bfx jf) (bfx x0) 64).1))) 0 0 (fun _ => False) := by
  refine Met.ofW (cc := cX4_numberOf) (maxL := 7) (ret := (some .int)) (by decide) rfl ?_
  intro p e s m args below meth c s₁ B hml hv
  obtain ⟨rfl, rfl, hP, hK, hN, hD0⟩ := hv
  have hx := B.exec
  have hb := B.bytes
  have hr := B.returns
  have hts := atoms_spec (ws := wsX4_numberOf) B.pre
  have hown : s.vm.findClass RX4 = some m.cls := findClass_of_methodNamed B.named
  have hlocks := B.notSynchronized
  have hD := hD0
  have hl := lv_entry ([.ref b0, .long x0]) (n := 7) (Nat.le_of_ble_eq_true rfl)
  rw [lg_entry_eq]
  generalize (lg_sl ([.ref b0, .long x0]) ++ List.replicate (7 - (lg_sl ([.ref b0, .long x0])).length) Slot.unset).toArray = ls at hl ⊢
  have hl : lv_has ls 7 [(0, .ref b0), (1, .long x0)] := hl
  have lp8 : ∀ (n8 : Nat), ∀ (i : Nat) (mk : Nat) (nz9 : Nat), (i ≤ 64) → (znb (bfx jf) (bfx x0) i = (nz9, mk)) → (64 - i) < n8 → ∀ (ls : Array Slot), lv_has ls 7 [(0, .ref b0), (1, .long x0), (3, .int (nI nz9)), (4, .int (nI mk)), (5, .int (nI i))] → W p l e (headSpec wsX4_numberOf ({ frames := 3, cells := 0, slots := 0, locals := 66 })).room s m ([.ref b0, .long x0] : List Value).toArray below meth c s.heap [] 0 0 (MQ below (vp_Si (fun r => r = (nI (znb (bfx jf) (bfx x0) 64).1))) ([.ref b0, .long x0] : List Value).toArray s 0 0 (fun _ => False)) (F0 m 8 ls []) := by
    intro n8
    induction n8 with
    | zero => intro i mk nz9 hi hnb hn; exact absurd hn (Nat.not_lt_zero _)
    | succ n8 ih8 =>
      intro i mk nz9 hi hnb hn8 ls hl
      refine lv_iload hx hb dX4_numberOf_8 (lv_at hl 4 rfl) ?_
      refine lv_bipush (v := 64) hx hb dX4_numberOf_10 (by decide) ?_
      refine lv_icmp_ge (tgt := 79) hx hb dX4_numberOf_12 (by decide) (fun c_1 => ?_) (fun c_1 => ?_)
      · have hie_i := ctr_ge (N := 64) (by decide) hi c_1
        refine lv_iload_n hx hb dX4_numberOf_79 rfl (lv_at hl 2 rfl) ?_
        exact pret_i hx hb hr hlocks (znb_o hnb hie_i) dX4_numberOf_80
      · have hlt_i := ctr_lt (N := 64) (by decide) hi c_1
        obtain ⟨hmo, hsb, hmk⟩ := znb_i hly hnb
        refine lv_iload hx hb dX4_numberOf_15 (lv_at hl 3 rfl) ?_
        refine lv_iconst (v := 1) hx hb dX4_numberOf_17 (by decide) ?_
        refine lv_ishr hx hb dX4_numberOf_18 ?_
        refine wtop_i (y := nI (mk / 2)) (pk_shrN (Nat.lt_trans hmk (by decide)) _ 1 (by decide)) ?_
        refine lv_istore (lv' := [(6, .int (nI (mk / 2))), (0, .ref b0), (1, .long x0), (3, .int (nI nz9)), (4, .int (nI mk)), (5, .int (nI i))]) hx hb dX4_numberOf_19 hl (by decide) rfl (fun ls hl => ?_)
        refine lv_aload_n hx hb dX4_numberOf_21 rfl (lv_at hl 1 rfl) ?_
        refine lv_iload hx hb dX4_numberOf_22 (lv_at hl 5 rfl) ?_
        refine lv_iload hx hb dX4_numberOf_24 (lv_at hl 4 rfl) ?_
        refine kR_i (As := [.int (nI i), .int (nI mk)]) (rest := []) (q0 := 20) ⟨hx, hb, hml, hown, hts⟩ (x_X4_beginsStone l D cy a _ J I O R RO b0 b1 b2 jf kn fw fp hkn Y i mk hlt_i hmk ) (cwV 2 hts gX4_numberOf_X4_beginsStone rfl rfl rfl (by decide +kernel) ⟨Nat.le_of_ble_eq_true rfl, Nat.le_of_ble_eq_true rfl⟩) hK hN hP hD rfl rfl rfl hl.1 rfl (Nat.le_of_ble_eq_true rfl) dX4_numberOf_26 ⟨Nat.le_of_ble_eq_true rfl, Nat.le_of_ble_eq_true rfl⟩ ?_
        refine lv_if_eq (tgt := 69) hx hb dX4_numberOf_29 (by decide) (fun c_2 => ?_) (fun c_2 => ?_)
        · replace c_2 := bI_f c_2
          refine lv_iload hx hb dX4_numberOf_69 (lv_at hl 0 rfl) ?_
          refine lv_istore (lv' := [(4, .int (nI (mk / 2))), (6, .int (nI (mk / 2))), (0, .ref b0), (1, .long x0), (3, .int (nI nz9)), (5, .int (nI i))]) hx hb dX4_numberOf_71 hl (by decide) rfl (fun ls hl => ?_)
          refine lv_iinc (v := nI (i + 1)) (lv' := [(5, .int (nI (i + 1))), (4, .int (nI (mk / 2))), (6, .int (nI (mk / 2))), (0, .ref b0), (1, .long x0), (3, .int (nI nz9))]) hx hb dX4_numberOf_73 hl (k := 5) rfl (nI_1 _) (by decide) rfl (fun ls hl => ?_)
          refine lv_goto (tgt := 8) hx hb dX4_numberOf_76 (by decide) ?_
          exact ih8 (i + 1) (mk / 2) nz9 hlt_i (znb_n hnb (zbg_f c_2)) (lt_dec hlt_i hn8) ls (lv_sub hl [3, 4, 5, 1, 0] rfl)
        · replace c_2 := bI_t c_2
          refine lv_lload_n hx hb dX4_numberOf_32 rfl (lv_at hl 2 rfl) ?_
          refine lv_iload hx hb dX4_numberOf_33 (lv_at hl 5 rfl) ?_
          refine kS_i (As := [.long x0, .int (nI i)]) (rest := []) ⟨hx, hb, hml, hown, hts⟩ (c_X1_holds l x0 (nI i)) (va_cwS 2 hts gX4_numberOf_X1_holds rfl rfl rfl (by decide +kernel) ⟨Nat.le_of_ble_eq_true rfl, Nat.le_of_ble_eq_true rfl⟩) rfl hl.1 rfl (Nat.le_of_ble_eq_true rfl) dX4_numberOf_35 ⟨Nat.le_of_ble_eq_true rfl, Nat.le_of_ble_eq_true rfl⟩ ?_
          refine lv_if_eq (tgt := 63) hx hb dX4_numberOf_38 (by decide) (fun c_3 => ?_) (fun c_3 => ?_)
          · replace c_3 := bI_f c_3
            refine lv_iload hx hb dX4_numberOf_63 (lv_at hl 0 rfl) ?_
            refine lv_iconst (v := 1) hx hb dX4_numberOf_65 (by decide) ?_
            refine lv_ior hx hb dX4_numberOf_66 ?_
            refine wtop_i (y := nI (mk / 2 / 2 * 2 + 1)) (or1_t ⟨mk / 2, z_h128 hmk⟩) ?_
            refine lv_istore (lv' := [(6, .int (nI (mk / 2 / 2 * 2 + 1))), (0, .ref b0), (1, .long x0), (3, .int (nI nz9)), (4, .int (nI mk)), (5, .int (nI i))]) hx hb dX4_numberOf_67 hl (by decide) rfl (fun ls hl => ?_)
            refine lv_iload hx hb dX4_numberOf_69 (lv_at hl 0 rfl) ?_
            refine lv_istore (lv' := [(4, .int (nI (mk / 2 / 2 * 2 + 1))), (6, .int (nI (mk / 2 / 2 * 2 + 1))), (0, .ref b0), (1, .long x0), (3, .int (nI nz9)), (5, .int (nI i))]) hx hb dX4_numberOf_71 hl (by decide) rfl (fun ls hl => ?_)
            refine lv_iinc (v := nI (i + 1)) (lv' := [(5, .int (nI (i + 1))), (4, .int (nI (mk / 2 / 2 * 2 + 1))), (6, .int (nI (mk / 2 / 2 * 2 + 1))), (0, .ref b0), (1, .long x0), (3, .int (nI nz9))]) hx hb dX4_numberOf_73 hl (k := 5) rfl (nI_1 _) (by decide) rfl (fun ls hl => ?_)
            refine lv_goto (tgt := 8) hx hb dX4_numberOf_76 (by decide) ?_
            exact ih8 (i + 1) (mk / 2 / 2 * 2 + 1) nz9 hlt_i (znb_a hnb (zbg_t c_2).1 (zbg_t c_2).2 (zh_b hlt_i c_3)) (lt_dec hlt_i hn8) ls (lv_sub hl [3, 4, 5, 1, 0] rfl)
          · replace c_3 := bI_t c_3
            refine lv_iload_n hx hb dX4_numberOf_41 rfl (lv_at hl 3 rfl) ?_
            refine lv_aload_n hx hb dX4_numberOf_42 rfl (lv_at hl 1 rfl) ?_
            refine lv_iload hx hb dX4_numberOf_43 (lv_at hl 5 rfl) ?_
            refine lv_iload hx hb dX4_numberOf_45 (lv_at hl 4 rfl) ?_
            refine kR_i (As := [.int (nI i), .int (nI mk)]) (rest := [.int (nI nz9)]) (q0 := 20) ⟨hx, hb, hml, hown, hts⟩ (x_X4_alongWays l D cy a _ J I O R RO b0 b1 b2 jf kn fw fp hkn Y i mk hlt_i hmk htb hsb ) (cwV 2 hts gX4_numberOf_X4_alongWays rfl rfl rfl (by decide +kernel) ⟨Nat.le_of_ble_eq_true rfl, Nat.le_of_ble_eq_true rfl⟩) hK hN hP hD rfl rfl rfl hl.1 rfl (Nat.le_of_ble_eq_true rfl) dX4_numberOf_47 ⟨Nat.le_of_ble_eq_true rfl, Nat.le_of_ble_eq_true rfl⟩ ?_
            refine lv_iadd hx hb dX4_numberOf_50 ?_
            refine wtop_i (y := nI (nz9 + zAw (bfx jf) i mk)) (nI_add _ _) ?_
            refine lv_istore_n (lv' := [(3, .int (nI (nz9 + zAw (bfx jf) i mk))), (6, .int (nI (mk / 2))), (0, .ref b0), (1, .long x0), (4, .int (nI mk)), (5, .int (nI i))]) hx hb dX4_numberOf_51 rfl hl (by decide) rfl (fun ls hl => ?_)
            refine lv_iload hx hb dX4_numberOf_52 (lv_at hl 1 rfl) ?_
            refine lv_sipush (v := 128) hx hb dX4_numberOf_54 (by decide) ?_
            refine lv_ior hx hb dX4_numberOf_57 ?_
            refine wtop_i (y := nI (mk / 2 + 128)) (or128_t ⟨mk / 2, z_h128 hmk⟩) ?_
            refine lv_istore (lv' := [(6, .int (nI (mk / 2 + 128))), (3, .int (nI (nz9 + zAw (bfx jf) i mk))), (0, .ref b0), (1, .long x0), (4, .int (nI mk)), (5, .int (nI i))]) hx hb dX4_numberOf_58 hl (by decide) rfl (fun ls hl => ?_)
            refine lv_goto (tgt := 69) hx hb dX4_numberOf_60 (by decide) ?_
            refine lv_iload hx hb dX4_numberOf_69 (lv_at hl 0 rfl) ?_
            refine lv_istore (lv' := [(4, .int (nI (mk / 2 + 128))), (6, .int (nI (mk / 2 + 128))), (3, .int (nI (nz9 + zAw (bfx jf) i mk))), (0, .ref b0), (1, .long x0), (5, .int (nI i))]) hx hb dX4_numberOf_71 hl (by decide) rfl (fun ls hl => ?_)
            refine lv_iinc (v := nI (i + 1)) (lv' := [(5, .int (nI (i + 1))), (4, .int (nI (mk / 2 + 128))), (6, .int (nI (mk / 2 + 128))), (3, .int (nI (nz9 + zAw (bfx jf) i mk))), (0, .ref b0), (1, .long x0)]) hx hb dX4_numberOf_73 hl (k := 5) rfl (nI_1 _) (by decide) rfl (fun ls hl => ?_)
            refine lv_goto (tgt := 8) hx hb dX4_numberOf_76 (by decide) ?_
            exact ih8 (i + 1) (mk / 2 + 128) (nz9 + zAw (bfx jf) i mk) hlt_i (znb_c hnb (zbg_t c_2).1 (zbg_t c_2).2 (zh_b hlt_i c_3)) (lt_dec hlt_i hn8) ls (lv_sub hl [4, 5, 3, 1, 0] rfl)
  refine lv_iconst (v := 0) hx hb dX4_numberOf_0 (by decide) ?_
  refine lv_istore_n (lv' := [(3, .int 0), (0, .ref b0), (1, .long x0)]) hx hb dX4_numberOf_1 rfl hl (by decide) rfl (fun ls hl => ?_)
  refine lv_iconst (v := 0) hx hb dX4_numberOf_2 (by decide) ?_
  refine lv_istore (lv' := [(4, .int 0), (3, .int 0), (0, .ref b0), (1, .long x0)]) hx hb dX4_numberOf_3 hl (by decide) rfl (fun ls hl => ?_)
  refine lv_iconst (v := 0) hx hb dX4_numberOf_5 (by decide) ?_
  refine lv_istore (lv' := [(5, .int 0), (4, .int 0), (3, .int 0), (0, .ref b0), (1, .long x0)]) hx hb dX4_numberOf_6 hl (by decide) rfl (fun ls hl => ?_)
  exact lp8 _ 0 0 0 (Nat.zero_le _) rfl (Nat.lt_succ_self _) ls (lv_sub hl [3, 4, 2, 1, 0] rfl)
