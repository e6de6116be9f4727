set_option maxHeartbeats 4000000 in
set_option maxRecDepth 100000 in
theorem x_X8_leastToward (l : Launch) (D : va_G) (cy : Nat → ClassId) (a : Nat → Nat) (sz : Nat) (J : Nat → Int64) (I : Nat → Int32) (O : Nat → Option Nat) (R : Nat → Nat → Int32) (RO : Nat → Nat → Option Nat) (LL : va_W) (Y : va_W)  (fl9 : Int64) (qq : Int64 × Int64) (hly : LY (bfx fl9) (bfx (J 224, J 225).1) (bfx (J 224, J 225).2)) (hvo : hVI fl9 (J 224, J 225) (R 4)) (hvt : hVI fl9 qq (R 5)) : Met l yX8_leastToward wsX8_leastToward ({ frames := 3, cells := 0, slots := 0, locals := 67 }) (va_Pc [.ref (a 7), .ref (a 4), .ref (a 5)] (PW D cy sz (CT cy a J I O R RO (LL ++ Y)))) (vp_Si (fun r => r = zlw (zqB fl9 (J 224, J 225) qq) 55)) 0 0 (fun _ => False) := by
  refine Met.ofW (cc := cX8_leastToward) (maxL := 6) (ret := (some .int)) (by decide) rfl ?_
  intro p e s m args below meth c s₁ B hml hv
  obtain ⟨rfl, rfl, hP, hK, hN, hD0⟩ := hv
  have hx := B.exec
  have hb := B.bytes
  have hr := B.returns
  have hts := atoms_spec (ws := wsX8_leastToward) B.pre
  have hown : s.vm.findClass RX8 = some m.cls := findClass_of_methodNamed B.named
  have hlocks := B.notSynchronized
  have hD := hD0
  have hl := lv_entry ([.ref (a 7), .ref (a 4), .ref (a 5)]) (n := 6) (Nat.le_of_ble_eq_true rfl)
  rw [lg_entry_eq]
  generalize (lg_sl ([.ref (a 7), .ref (a 4), .ref (a 5)]) ++ List.replicate (6 - (lg_sl ([.ref (a 7), .ref (a 4), .ref (a 5)])).length) Slot.unset).toArray = ls at hl ⊢
  have hl : lv_has ls 6 [(0, .ref (a 7)), (1, .ref (a 4)), (2, .ref (a 5))] := hl
  have lp2 : ∀ (n2 : Nat), ∀ (i : Nat), (i ≤ 55) → (∀ g, g < i → zqB fl9 (J 224, J 225) qq g = false) → (55 - i) < n2 → ∀ (ls : Array Slot), lv_has ls 6 [(0, .ref (a 7)), (1, .ref (a 4)), (2, .ref (a 5)), (3, .int (nI i))] → W p l e (headSpec wsX8_leastToward ({ frames := 3, cells := 0, slots := 0, locals := 67 })).room s m ([.ref (a 7), .ref (a 4), .ref (a 5)] : List Value).toArray below meth c s.heap [] 0 0 (MQ below (vp_Si (fun r => r = zlw (zqB fl9 (J 224, J 225) qq) 55)) ([.ref (a 7), .ref (a 4), .ref (a 5)] : List Value).toArray s 0 0 (fun _ => False)) (F0 m 2 ls []) := by
    intro n2
    induction n2 with
    | zero => intro i hi hnb hn; exact absurd hn (Nat.not_lt_zero _)
    | succ n2 ih2 =>
      intro i hi hnb hn2 ls hl
      refine lv_iload_n hx hb dX8_leastToward_2 rfl (lv_at hl 3 rfl) ?_
      refine lv_bipush (v := 55) hx hb dX8_leastToward_3 (by decide) ?_
      refine lv_icmp_ge (tgt := 61) hx hb dX8_leastToward_5 (by decide) (fun c_1 => ?_) (fun c_1 => ?_)
      · have hie_i := ctr_ge (N := 55) (by decide) hi c_1
        refine lv_iconst (v := (-1)) hx hb dX8_leastToward_61 (by decide) ?_
        exact aret_i hx hb hr hlocks (zlw_n 55 (fun g hg => hnb g (by rw [hie_i]; exact hg))).symm dX8_leastToward_62
      · have hlt_i := ctr_lt (N := 55) (by decide) hi c_1
        refine lv_aload_n hx hb dX8_leastToward_8 rfl (lv_at hl 0 rfl) ?_
        refine lv_iload_n hx hb dX8_leastToward_9 rfl (lv_at hl 3 rfl) ?_
        refine kR_i (As := [.int (nI i)]) (rest := []) (q0 := 7) ⟨hx, hb, hml, hown, hts⟩ (x_X8_lift l D cy a _ J I O R RO LL Y i (Nat.lt_trans hlt_i (by decide)) ) (cwV 1 hts gX8_leastToward_X8_lift rfl rfl rfl (by decide +kernel) ⟨Nat.le_of_ble_eq_true rfl, Nat.le_of_ble_eq_true rfl⟩) hK hN hP hD rfl rfl rfl hl.1 rfl (Nat.le_of_ble_eq_true rfl) dX8_leastToward_10 ⟨Nat.le_of_ble_eq_true rfl, Nat.le_of_ble_eq_true rfl⟩ ?_
        refine lv_istore (lv' := [(4, .int (zlf (J 224) (J 225) i)), (0, .ref (a 7)), (1, .ref (a 4)), (2, .ref (a 5)), (3, .int (nI i))]) hx hb dX8_leastToward_13 hl (by decide) rfl (fun ls hl => ?_)
        refine lv_iload_n hx hb dX8_leastToward_15 rfl (lv_at hl 4 rfl) ?_
        refine kS_i (As := [.int (nI i)]) (rest := []) ⟨hx, hb, hml, hown, hts⟩ (c_X2_pointAmid l (nI i)) (va_cwS 1 hts gX8_leastToward_X2_pointAmid rfl rfl rfl (by decide +kernel) ⟨Nat.le_of_ble_eq_true rfl, Nat.le_of_ble_eq_true rfl⟩) rfl hl.1 rfl (Nat.le_of_ble_eq_true rfl) dX8_leastToward_16 ⟨Nat.le_of_ble_eq_true rfl, Nat.le_of_ble_eq_true rfl⟩ ?_
        refine lv_istore (lv' := [(5, .int (9 * ((nI i) / 8 + 1) + ((nI i) - (nI i) / 8 * 8 + 1))), (4, .int (zlf (J 224) (J 225) i)), (0, .ref (a 7)), (1, .ref (a 4)), (2, .ref (a 5)), (3, .int (nI i))]) hx hb dX8_leastToward_19 hl (by decide) rfl (fun ls hl => ?_)
        refine lv_iload hx hb dX8_leastToward_21 (lv_at hl 1 rfl) ?_
        refine lv_if_le (tgt := 37) hx hb dX8_leastToward_23 (by decide) (fun c_2 => ?_) (fun c_2 => ?_)
        · refine lv_iload hx hb dX8_leastToward_37 (lv_at hl 1 rfl) ?_
          refine lv_if_ge (tgt := 55) hx hb dX8_leastToward_39 (by decide) (fun c_3 => ?_) (fun c_3 => ?_)
          · refine lv_iinc (v := nI (i + 1)) (lv' := [(3, .int (nI (i + 1))), (5, .int (9 * ((nI i) / 8 + 1) + ((nI i) - (nI i) / 8 * 8 + 1))), (4, .int (zlf (J 224) (J 225) i)), (0, .ref (a 7)), (1, .ref (a 4)), (2, .ref (a 5))]) hx hb dX8_leastToward_55 hl (k := 5) rfl (nI_1 _) (by decide) rfl (fun ls hl => ?_)
            refine lv_goto (tgt := 2) hx hb dX8_leastToward_58 (by decide) ?_
            exact ih2 (i + 1) hlt_i (nb_s hnb (lt_n2 c_2 c_3)) (lt_dec hlt_i hn2) ls (lv_sub hl [3, 4, 5, 0] rfl)
          · refine lv_aload_n hx hb dX8_leastToward_42 rfl (lv_at hl 3 rfl) ?_
            refine lv_iload hx hb dX8_leastToward_43 (lv_at hl 0 rfl) ?_
            refine va_iald hx hb hK hP 4 0 rfl rfl (pam_t ⟨i, hlt_i⟩) dX8_leastToward_45 ?_
            refine lv_aload_n hx hb dX8_leastToward_46 rfl (lv_at hl 4 rfl) ?_
            refine lv_iload hx hb dX8_leastToward_47 (lv_at hl 0 rfl) ?_
            refine va_iald hx hb hK hP 5 0 rfl rfl (pam_t ⟨i, hlt_i⟩) dX8_leastToward_49 ?_
            refine lv_icmp_le (tgt := 55) hx hb dX8_leastToward_50 (by decide) (fun c_4 => ?_) (fun c_4 => ?_)
            · refine lv_iinc (v := nI (i + 1)) (lv' := [(3, .int (nI (i + 1))), (5, .int (9 * ((nI i) / 8 + 1) + ((nI i) - (nI i) / 8 * 8 + 1))), (4, .int (zlf (J 224) (J 225) i)), (0, .ref (a 7)), (1, .ref (a 4)), (2, .ref (a 5))]) hx hb dX8_leastToward_55 hl (k := 5) rfl (nI_1 _) (by decide) rfl (fun ls hl => ?_)
              refine lv_goto (tgt := 2) hx hb dX8_leastToward_58 (by decide) ?_
              exact ih2 (i + 1) hlt_i (nb_s hnb (lt_n3 (Nat.lt_trans hlt_i (by decide)) hly hvo hvt c_3 c_4)) (lt_dec hlt_i hn2) ls (lv_sub hl [3, 4, 5, 0] rfl)
            · refine lv_iload_n hx hb dX8_leastToward_53 rfl (lv_at hl 5 rfl) ?_
              exact aret_i hx hb hr hlocks (zlw_y (Nat.lt_trans hlt_i (by decide)) hnb (lt_y2 (Nat.lt_trans hlt_i (by decide)) hly hvo hvt c_3 c_4) 55 hlt_i).symm dX8_leastToward_54
        · refine lv_aload_n hx hb dX8_leastToward_26 rfl (lv_at hl 3 rfl) ?_
          refine lv_iload hx hb dX8_leastToward_27 (lv_at hl 0 rfl) ?_
          refine va_iald hx hb hK hP 4 0 rfl rfl (pam_t ⟨i, hlt_i⟩) dX8_leastToward_29 ?_
          refine lv_aload_n hx hb dX8_leastToward_30 rfl (lv_at hl 4 rfl) ?_
          refine lv_iload hx hb dX8_leastToward_31 (lv_at hl 0 rfl) ?_
          refine va_iald hx hb hK hP 5 0 rfl rfl (pam_t ⟨i, hlt_i⟩) dX8_leastToward_33 ?_
          refine lv_icmp_lt (tgt := 53) hx hb dX8_leastToward_34 (by decide) (fun c_5 => ?_) (fun c_5 => ?_)
          · refine lv_iload_n hx hb dX8_leastToward_53 rfl (lv_at hl 5 rfl) ?_
            exact aret_i hx hb hr hlocks (zlw_y (Nat.lt_trans hlt_i (by decide)) hnb (lt_y1 (Nat.lt_trans hlt_i (by decide)) hly hvo hvt c_2 c_5) 55 hlt_i).symm dX8_leastToward_54
          · refine lv_iload hx hb dX8_leastToward_37 (lv_at hl 1 rfl) ?_
            refine lv_if_ge (tgt := 55) hx hb dX8_leastToward_39 (by decide) (fun c_6 => ?_) (fun c_6 => ?_)
            · refine lv_iinc (v := nI (i + 1)) (lv' := [(3, .int (nI (i + 1))), (5, .int (9 * ((nI i) / 8 + 1) + ((nI i) - (nI i) / 8 * 8 + 1))), (4, .int (zlf (J 224) (J 225) i)), (0, .ref (a 7)), (1, .ref (a 4)), (2, .ref (a 5))]) hx hb dX8_leastToward_55 hl (k := 5) rfl (nI_1 _) (by decide) rfl (fun ls hl => ?_)
              refine lv_goto (tgt := 2) hx hb dX8_leastToward_58 (by decide) ?_
              exact ih2 (i + 1) hlt_i (nb_s hnb (lt_n1 (Nat.lt_trans hlt_i (by decide)) hly hvo hvt c_2 c_5)) (lt_dec hlt_i hn2) ls (lv_sub hl [3, 4, 5, 0] rfl)
            · refine lv_aload_n hx hb dX8_leastToward_42 rfl (lv_at hl 3 rfl) ?_
              refine lv_iload hx hb dX8_leastToward_43 (lv_at hl 0 rfl) ?_
              refine va_iald hx hb hK hP 4 0 rfl rfl (pam_t ⟨i, hlt_i⟩) dX8_leastToward_45 ?_
              refine lv_aload_n hx hb dX8_leastToward_46 rfl (lv_at hl 4 rfl) ?_
              refine lv_iload hx hb dX8_leastToward_47 (lv_at hl 0 rfl) ?_
              refine va_iald hx hb hK hP 5 0 rfl rfl (pam_t ⟨i, hlt_i⟩) dX8_leastToward_49 ?_
              refine lv_icmp_le (tgt := 55) hx hb dX8_leastToward_50 (by decide) (fun c_7 => ?_) (fun c_7 => ?_)
              · refine lv_iinc (v := nI (i + 1)) (lv' := [(3, .int (nI (i + 1))), (5, .int (9 * ((nI i) / 8 + 1) + ((nI i) - (nI i) / 8 * 8 + 1))), (4, .int (zlf (J 224) (J 225) i)), (0, .ref (a 7)), (1, .ref (a 4)), (2, .ref (a 5))]) hx hb dX8_leastToward_55 hl (k := 5) rfl (nI_1 _) (by decide) rfl (fun ls hl => ?_)
                refine lv_goto (tgt := 2) hx hb dX8_leastToward_58 (by decide) ?_
                exact ih2 (i + 1) hlt_i (nb_s hnb (lt_x c_2 c_6).elim) (lt_dec hlt_i hn2) ls (lv_sub hl [3, 4, 5, 0] rfl)
              · refine lv_iload_n hx hb dX8_leastToward_53 rfl (lv_at hl 5 rfl) ?_
                exact aret_i hx hb hr hlocks (lt_x c_2 c_6).elim dX8_leastToward_54
  refine lv_iconst (v := 0) hx hb dX8_leastToward_0 (by decide) ?_
  refine lv_istore_n (lv' := [(3, .int 0), (0, .ref (a 7)), (1, .ref (a 4)), (2, .ref (a 5))]) hx hb dX8_leastToward_1 rfl hl (by decide) rfl (fun ls hl => ?_)
  exact lp2 _ 0 (Nat.zero_le _) (fun j h => absurd h (Nat.not_lt_zero _)) (Nat.lt_succ_self _) ls (lv_sub hl [1, 2, 3, 0] rfl)
set_option maxHeartbeats 4000000 in
set_option maxRecDepth 100000 in
theorem x_X8_flipAlso (l : Launch) (D : va_G) (cy : Nat → ClassId) (a : Nat → Nat) (sz : Nat) (J : Nat → Int64) (I : Nat → Int32) (O : Nat → Option Nat) (R : Nat → Nat → Int32) (RO : Nat → Nat → Option Nat) (LL : va_W) (Y : va_W) (x0 : Nat) (hx0 : x0 < 55) : Met l yX8_flipAlso wsX8_flipAlso ({ frames := 3, cells := 0, slots := 0, locals := 67 }) (va_Pc [.ref (a 7), .int (nI x0), .ref (a 4)] (PW D cy sz (CT cy a J I O R RO (LL ++ Y)))) (va_Qv (fun (u : TS) => ∃ (w0 : Int64), ∃ (w1 : Int64), ∃ (w2 : Nat → Int32), ((w0 = J 224 ^^^ m_alongAt (nI x0)) ∧ (w1 = J 225 ^^^ m_acrossAt (nI x0)) ∧ (w2 = upd (R 4) (hTL x0 + 10) (R 4 (hTL x0 + 10) + zlf (J 224) (J 225) x0))) ∧ u = ((va_up (va_up J 224 w0) 225 w1), I, O, (va_up R 4 w2), RO, LL, Y)) (BW D (va_A (CT cy a J I O R RO (LL ++ Y)) sz) (CTu cy a)) (va_A (CT cy a J I O R RO (LL ++ Y)) sz)) 0 0 (va_A (CT cy a J I O R RO (LL ++ Y)) sz) := by
  refine Met.ofW (cc := cX8_flipAlso) (maxL := 3) (ret := none) (by decide) rfl ?_
  intro p e s m args below meth c s₁ B hml hv
  obtain ⟨rfl, rfl, hP, hK, hN, hD0⟩ := hv
  have hx := B.exec
  have hb := B.bytes
  have hr := B.returns
  have hts := atoms_spec (ws := wsX8_flipAlso) B.pre
  have hown : s.vm.findClass RX8 = some m.cls := findClass_of_methodNamed B.named
  have hlocks := B.notSynchronized
  have hD := hD0.self (sz := s.heap.size)
  generalize hAe : va_A (CT cy a J I O R RO (LL ++ Y)) s.heap.size = A at hD ⊢
  have hA : ∀ q : Nat, s.heap.size ≤ q → A q := fun q h => by rw [← hAe]; exact Or.inr h
  have hS : va_S A s.heap s.heap [] := va_S.rf
  have hl := lv_entry ([.ref (a 7), .int (nI x0), .ref (a 4)]) (n := 3) (Nat.le_of_ble_eq_true rfl)
  rw [lg_entry_eq]
  generalize (lg_sl ([.ref (a 7), .int (nI x0), .ref (a 4)]) ++ List.replicate (3 - (lg_sl ([.ref (a 7), .int (nI x0), .ref (a 4)])).length) Slot.unset).toArray = ls at hl ⊢
  have hl : lv_has ls 3 [(0, .ref (a 7)), (1, .int (nI x0)), (2, .ref (a 4))] := hl
  have hP : va_P D vwCl (CT cy a (va_up (va_up J 224 (J 224)) 225 (J 225)) I O (va_up R 4 (R 4)) RO (LL ++ Y)) s.heap := hP
  have hD : va_D A (CT cy a (va_up (va_up J 224 (J 224)) 225 (J 225)) I O (va_up R 4 (R 4)) RO (LL ++ Y)) := hD
  refine lv_aload_n hx hb dX8_flipAlso_0 rfl (lv_at hl 2 rfl) ?_
  refine lv_iload_n hx hb dX8_flipAlso_1 rfl (lv_at hl 1 rfl) ?_
  refine kS_i (As := [.int (nI x0)]) (rest := [.ref (a 4)]) ⟨hx, hb, hml, hown, hts⟩ (c_X2_pointAmid l (nI x0)) (va_cwS 1 hts gX8_flipAlso_X2_pointAmid rfl rfl rfl (by decide +kernel) ⟨Nat.le_of_ble_eq_true rfl, Nat.le_of_ble_eq_true rfl⟩) rfl hl.1 rfl (Nat.le_of_ble_eq_true rfl) dX8_flipAlso_2 ⟨Nat.le_of_ble_eq_true rfl, Nat.le_of_ble_eq_true rfl⟩ ?_
  refine lv_dup2_11 hx hb dX8_flipAlso_5 rfl rfl ?_
  refine va_iald hx hb hK hP 4 0 rfl rfl (pam_t ⟨x0, hx0⟩) dX8_flipAlso_6 ?_
  refine lv_aload_n hx hb dX8_flipAlso_7 rfl (lv_at hl 0 rfl) ?_
  refine lv_iload_n hx hb dX8_flipAlso_8 rfl (lv_at hl 1 rfl) ?_
  refine kR_i (As := [.int (nI x0)]) (rest := [.int ((R 4) (9 * ((nI x0) / 8 + 1) + ((nI x0) - (nI x0) / 8 * 8 + 1)).toNatClampNeg), .int (9 * ((nI x0) / 8 + 1) + ((nI x0) - (nI x0) / 8 * 8 + 1)), .ref (a 4)]) (q0 := 7) ⟨hx, hb, hml, hown, hts⟩ (x_X8_lift l D cy a _ (va_up (va_up J 224 (J 224)) 225 (J 225)) I O (va_up R 4 (R 4)) RO LL Y x0 (Nat.lt_trans hx0 (by decide)) ) (cwV 1 hts gX8_flipAlso_X8_lift rfl rfl rfl (by decide +kernel) ⟨Nat.le_of_ble_eq_true rfl, Nat.le_of_ble_eq_true rfl⟩) hK hN hP hD rfl rfl rfl hl.1 rfl (Nat.le_of_ble_eq_true rfl) dX8_flipAlso_9 ⟨Nat.le_of_ble_eq_true rfl, Nat.le_of_ble_eq_true rfl⟩ ?_
  refine lv_iadd hx hb dX8_flipAlso_12 ?_
  refine va_iast hx hb hK hP hD hS 4 0 rfl rfl (pam_t ⟨x0, hx0⟩) dX8_flipAlso_13 (fun H locs hP hD hS => ?_)
  have hP : va_P D vwCl (CT cy a (va_up (va_up J 224 (J 224)) 225 (J 225)) I O (va_up R 4 (upd (R 4) (9 * ((nI x0) / 8 + 1) + ((nI x0) - (nI x0) / 8 * 8 + 1)).toNatClampNeg (((R 4) (9 * ((nI x0) / 8 + 1) + ((nI x0) - (nI x0) / 8 * 8 + 1)).toNatClampNeg) + (zlf (J 224) (J 225) x0)))) RO (LL ++ Y)) H := hP
  have hD : va_D A (CT cy a (va_up (va_up J 224 (J 224)) 225 (J 225)) I O (va_up R 4 (upd (R 4) (9 * ((nI x0) / 8 + 1) + ((nI x0) - (nI x0) / 8 * 8 + 1)).toNatClampNeg (((R 4) (9 * ((nI x0) / 8 + 1) + ((nI x0) - (nI x0) / 8 * 8 + 1)).toNatClampNeg) + (zlf (J 224) (J 225) x0)))) RO (LL ++ Y)) := hD
  refine lv_aload_n hx hb dX8_flipAlso_14 rfl (lv_at hl 0 rfl) ?_
  refine lv_iload_n hx hb dX8_flipAlso_15 rfl (lv_at hl 1 rfl) ?_
  refine kM_v (As := [.int (nI x0)]) (rest := []) (q0 := 7) ⟨hx, hb, hml, hown, hts⟩ (x_X8_flip l D cy a _ (va_up (va_up J 224 (J 224)) 225 (J 225)) I O (va_up R 4 (upd (R 4) (9 * ((nI x0) / 8 + 1) + ((nI x0) - (nI x0) / 8 * 8 + 1)).toNatClampNeg (((R 4) (9 * ((nI x0) / 8 + 1) + ((nI x0) - (nI x0) / 8 * 8 + 1)).toNatClampNeg) + (zlf (J 224) (J 225) x0)))) RO LL Y x0 hx0  ) (cwV 1 hts gX8_flipAlso_X8_flip rfl rfl rfl (by decide +kernel) ⟨Nat.le_of_ble_eq_true rfl, Nat.le_of_ble_eq_true rfl⟩) hK hN hP hD hS hA rfl rfl rfl hl.1 rfl (Nat.le_of_ble_eq_true rfl) dX8_flipAlso_16 ⟨Nat.le_of_ble_eq_true rfl, Nat.le_of_ble_eq_true rfl⟩ (fun u H locs hw hP hD hS => ?_)
  obtain ⟨w_2, w_3, ⟨hp_4, hp_5⟩, rfl⟩ := hw
  have hP : va_P D vwCl (CT cy a (va_up (va_up J 224 w_2) 225 w_3) I O (va_up R 4 (upd (R 4) (9 * ((nI x0) / 8 + 1) + ((nI x0) - (nI x0) / 8 * 8 + 1)).toNatClampNeg (((R 4) (9 * ((nI x0) / 8 + 1) + ((nI x0) - (nI x0) / 8 * 8 + 1)).toNatClampNeg) + (zlf (J 224) (J 225) x0)))) RO (LL ++ Y)) H := hP
  have hD : va_D A (CT cy a (va_up (va_up J 224 w_2) 225 w_3) I O (va_up R 4 (upd (R 4) (9 * ((nI x0) / 8 + 1) + ((nI x0) - (nI x0) / 8 * 8 + 1)).toNatClampNeg (((R 4) (9 * ((nI x0) / 8 + 1) + ((nI x0) - (nI x0) / 8 * 8 + 1)).toNatClampNeg) + (zlf (J 224) (J 225) x0)))) RO (LL ++ Y)) := hD
  exact wret_v hx hb hr hlocks ((va_up (va_up J 224 w_2) 225 w_3), I, O, (va_up R 4 (upd (R 4) (9 * ((nI x0) / 8 + 1) + ((nI x0) - (nI x0) / 8 * 8 + 1)).toNatClampNeg (((R 4) (9 * ((nI x0) / 8 + 1) + ((nI x0) - (nI x0) / 8 * 8 + 1)).toNatClampNeg) + (zlf (J 224) (J 225) x0)))), RO, LL, Y) ⟨w_2, w_3, (upd (R 4) (9 * ((nI x0) / 8 + 1) + ((nI x0) - (nI x0) / 8 * 8 + 1)).toNatClampNeg (((R 4) (9 * ((nI x0) / 8 + 1) + ((nI x0) - (nI x0) / 8 * 8 + 1)).toNatClampNeg) + (zlf (J 224) (J 225) x0))), ⟨hp_4, hp_5, (by rw [amd_e ⟨x0, Nat.lt_trans hx0 (by decide)⟩])⟩, rfl⟩ hP hD hS dX8_flipAlso_19
