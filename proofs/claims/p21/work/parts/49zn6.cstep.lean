theorem sp_sC {fl : Int64} {p0 q : Int64 × Int64} {k f : Nat} {o t o2 : Nat → Int32} {c5 c6 w5 w6 : Int64} (hw : cFr (mOut fl) A10 100 = 1 ∧ aPc fl = 1) (h : SPk fl p0 q k (c5, c6) o t) (hf : f < 55) (e : zlw (zqB fl (c5, c6) q) 55 = nI f) (hz : zqP fl (c5, c6) q f) (e5 : w5 = c5 ^^^ m_alongAt (nI f)) (e6 : w6 = c6 ^^^ m_acrossAt (nI f)) (e7 : o2 = upd o (hTL f + 10) (o (hTL f + 10) + zlf c5 c6 f)) : SPk fl p0 q (k + 1) (w5, w6) o2 t := by
  have hv : (zlf c5 c6 f).toInt = zlt (c5, c6) f := zlf_I (p := (c5, c6)) hz.1
  have h9 := sp_s (p := (c5, c6)) (v := zlf c5 c6 f) hw h hf e hz hv
  subst e5 e6 e7
  exact h9
set_option maxHeartbeats 4000000 in
set_option maxRecDepth 100000 in
theorem x_X9_step (l : Launch) (D : va_G) (cy : Nat → ClassId) (a : Nat → Nat) (sz : Nat) (J : Nat → Int64) (I : Nat → Int32) (O : Nat → Option Nat) (R : Nat → Nat → Int32) (RO : Nat → Nat → Option Nat) (LL : va_W) (Y : va_W) (x0 : Int32) (x1 : Int32) (x2 : Int32) (hQ : ∀ i, i < 81 → vp_in (R 6 i) 81) (fl : Int64) (S : List Int32) (P : List PE) (hRA : RCf Y (J 6) (O 7) (I 9) (RO 2) fl S P) (hM : CI a Y I O RO) (hL : LOK cy (O 5) LL) : Met l yX9_step wsX9_step ({ frames := 6, cells := 14, slots := 68630, locals := 145 }) (va_Pc [.ref (a 0), .int x0, .int x1, .int x2] (PW D cy sz (CT cy a J I O R RO (LL ++ Y)))) (va_Qi (fun r (u : TS) => ∃ (w0 : Int64), ∃ (w1 : Int64), ∃ (w2 : Int32), ∃ (w3 : Int32), ∃ (w4 : Option Nat), ∃ (w5 : Option Nat), ∃ (w6 : Nat → Int32), ∃ (w7 : Nat → Int32), ∃ (w8 : Nat → Int32), ∃ (LL9 : va_W), ∃ (Y9 : va_W), (r = (aStp fl S x0 x1 x2) ∧ (∀ c, c ∈ Y → c ∈ Y9) ∧ LOK cy w4 LL9 ∧ (∀ i, i < 81 → vp_in (w8 i) 81)) ∧ u = ((va_up (va_up J 224 w0) 225 w1), (va_up (va_up I 10 w2) 99 w3), (va_up (va_up O 5 w4) 100 w5), (va_up (va_up (va_up R 4 w6) 5 w7) 6 w8), RO, LL9, Y9)) (BW D (va_A (CT cy a J I O R RO (LL ++ Y)) sz) (CTu cy a)) (va_A (CT cy a J I O R RO (LL ++ Y)) sz)) 14 68630 (va_A (CT cy a J I O R RO (LL ++ Y)) sz) := by
  refine Met.ofW (cc := cX9_step) (maxL := 7) (ret := (some .int)) (by decide) rfl ?_
  intro p e s m args below meth c s₁ B hml hv
  obtain ⟨rfl, rfl, hP, hK, hN, hD0⟩ := hv
  have hx := B.exec
  have hb := B.bytes
  have hr := B.returns
  have hts := atoms_spec (ws := wsX9_step) B.pre
  have hown : s.vm.findClass RX9 = some m.cls := findClass_of_methodNamed B.named
  have hlocks := B.notSynchronized
  have hw0 := hts (.fieldLink RX9 31 "ParquetLayer" "turner" "LParquetLayer$Turner;") (by decide +kernel)
  have hw1 := hts (.fieldLink RX9 24 "ParquetLayer" "heights" "LParquetLayer$Heights;") (by decide +kernel)
  have hw2 := hts (.fieldLink RX9 230 "ParquetLayer$Heights" "here" "[I") (by decide +kernel)
  have hw3 := hts (.fieldLink RX9 252 "ParquetLayer$Heights" "there" "[I") (by decide +kernel)
  have hw4 := hts (.constant RX9 43 (-100001)) (by decide +kernel)
  have hw5 := hts (.constant RX9 137 (-100006)) (by decide +kernel)
  have hw6 := hts (.constant RX9 128 (-100004)) (by decide +kernel)
  have hi2 := ihX9_step_2
  have hi9 := ihX9_step_9
  have hD := hD0.self (sz := s.heap.size)
  generalize hAe : va_A (CT cy a J I O R RO (LL ++ Y)) s.heap.size = A at hD ⊢
  have hA : ∀ q : Nat, s.heap.size ≤ q → A q := fun q h => by rw [← hAe]; exact Or.inr h
  have hS : va_S A s.heap s.heap [] := va_S.rf
  have hl := lv_entry ([.ref (a 0), .int x0, .int x1, .int x2]) (n := 7) (Nat.le_of_ble_eq_true rfl)
  rw [lg_entry_eq]
  generalize (lg_sl ([.ref (a 0), .int x0, .int x1, .int x2]) ++ List.replicate (7 - (lg_sl ([.ref (a 0), .int x0, .int x1, .int x2])).length) Slot.unset).toArray = ls at hl ⊢
  have hl : lv_has ls 7 [(0, .ref (a 0)), (1, .int x0), (2, .int x1), (3, .int x2)] := hl
  have hRO0 := hM.2.2.2.2.2.2.2.2.1
  have hRO1 := hM.2.2.2.2.2.2.2.2.2.1
  have hRO2 := hM.2.2.2.2.2.2.2.2.2.2.1
  have hRO3 := hM.2.2.2.2.2.2.2.2.2.2.2
  have lp113 : ∀ (n113 : Nat), ∀ (k : Nat) (nn : Nat) (na : Nat) (nb : Nat) (f9 : Nat) (m0_113 : Int64) (m1_113 : Int64) (m2_113 : Int32) (m3_113 : Int32) (m4_113 : Option Nat) (m5_113 : Option Nat) (m6_113 : Nat → Int32) (m7_113 : Nat → Int32) (m8_113 : Nat → Int32) (LL_113 : va_W) (Y_113 : va_W), (k ≤ nn) → (∀ c, c ∈ Y → c ∈ Y_113) → (LOK cy m4_113 LL_113) → (aWh fl S = true) → (aAg fl S x0 x1 = 0) → (x0 = nI na) → (x1 = nI nb) → (zIn (bfx fl) na) → (zIn (bfx fl) nb) → (nn < 81000) → (x2 = nI nn) → (4 * ((nn : Int) + 1) ≤ suI (dfI fl (zLy fl na) (zLy fl nb)) 81) → (SPk fl (zLy fl na) (zLy fl nb) k (m0_113, m1_113) m6_113 m7_113) → (f9 < 55) → (zlw (zqB fl (m0_113, m1_113) (zLy fl nb)) 55 = nI f9) → (zqP fl (m0_113, m1_113) (zLy fl nb) f9) → (∀ i, i < 81 → vp_in (m8_113 i) 81) → (nn - k) < n113 → ∀ (H : Heap) (locs : List Loc), va_P D vwCl (CT cy a (va_up (va_up J 224 m0_113) 225 m1_113) (va_up (va_up I 10 m2_113) 99 m3_113) (va_up (va_up O 5 m4_113) 100 m5_113) (va_up (va_up (va_up R 4 m6_113) 5 m7_113) 6 m8_113) RO (LL_113 ++ Y_113)) H → va_D A (CT cy a (va_up (va_up J 224 m0_113) 225 m1_113) (va_up (va_up I 10 m2_113) 99 m3_113) (va_up (va_up O 5 m4_113) 100 m5_113) (va_up (va_up (va_up R 4 m6_113) 5 m7_113) 6 m8_113) RO (LL_113 ++ Y_113)) → va_S A s.heap H locs → ∀ (ls : Array Slot), lv_has ls 7 [(0, .ref (a 0)), (3, .int (nI nn)), (5, .int (nI f9)), (6, .int (nI k))] → W p l e (headSpec wsX9_step ({ frames := 6, cells := 14, slots := 68630, locals := 145 })).room s m ([.ref (a 0), .int x0, .int x1, .int x2] : List Value).toArray below meth c H locs 14 68630 (MQ below (va_Qi (fun r (u : TS) => ∃ (w0 : Int64), ∃ (w1 : Int64), ∃ (w2 : Int32), ∃ (w3 : Int32), ∃ (w4 : Option Nat), ∃ (w5 : Option Nat), ∃ (w6 : Nat → Int32), ∃ (w7 : Nat → Int32), ∃ (w8 : Nat → Int32), ∃ (LL9 : va_W), ∃ (Y9 : va_W), (r = (aStp fl S x0 x1 x2) ∧ (∀ c, c ∈ Y → c ∈ Y9) ∧ LOK cy w4 LL9 ∧ (∀ i, i < 81 → vp_in (w8 i) 81)) ∧ u = ((va_up (va_up J 224 w0) 225 w1), (va_up (va_up I 10 w2) 99 w3), (va_up (va_up O 5 w4) 100 w5), (va_up (va_up (va_up R 4 w6) 5 w7) 6 w8), RO, LL9, Y9)) (BW D A (CTu cy a)) A) ([.ref (a 0), .int x0, .int x1, .int x2] : List Value).toArray s 14 68630 A) (F0 m 113 ls []) := by
    intro n113
    induction n113 with
    | zero => intro k nn na nb f9 m0_113 m1_113 m2_113 m3_113 m4_113 m5_113 m6_113 m7_113 m8_113 LL_113 Y_113 hk hy_113 hL_113 hwh h0 ea eb hza hzb hnn ex2 h4n hsp hf9 ef9 hzq9 hQ hn; exact absurd hn (Nat.not_lt_zero _)
    | succ n113 ih113 =>
      intro k nn na nb f9 m0_113 m1_113 m2_113 m3_113 m4_113 m5_113 m6_113 m7_113 m8_113 LL_113 Y_113 hk hy_113 hL_113 hwh h0 ea eb hza hzb hnn ex2 h4n hsp hf9 ef9 hzq9 hQ hn113 H locs hP hD hS ls hl
      refine lv_iload hx hb dX9_step_113 (lv_at hl 3 rfl) ?_
      refine lv_iload_n hx hb dX9_step_115 rfl (lv_at hl 1 rfl) ?_
      refine lv_icmp_ge (tgt := 169) hx hb dX9_step_116 (by decide) (fun c_1 => ?_) (fun c_1 => ?_)
      · refine lv_iload hx hb dX9_step_169 (lv_at hl 2 rfl) ?_
        refine lv_if_ge (tgt := 183) hx hb dX9_step_171 (by decide) (fun c_2 => ?_) (fun c_2 => absurd (Int32.not_lt.mp (nI_nn ⟨f9, Nat.lt_trans hf9 (by decide)⟩)) c_2)
        refine lv_iload hx hb dX9_step_183 (lv_at hl 2 rfl) ?_
        exact wret_i hx hb hr hlocks ((va_up (va_up J 224 m0_113) 225 m1_113), (va_up (va_up I 10 m2_113) 99 m3_113), (va_up (va_up O 5 m4_113) 100 m5_113), (va_up (va_up (va_up R 4 m6_113) 5 m7_113) 6 m8_113), RO, LL_113, Y_113) ⟨m0_113, m1_113, m2_113, m3_113, m4_113, m5_113, m6_113, m7_113, m8_113, LL_113, Y_113, ⟨(as_finC ea eb hza hzb h0 ex2 hnn h4n hk c_1 hsp ef9), hy_113, hL_113, hQ⟩, rfl⟩ hP hD hS dX9_step_185
      · have hlt_k : k < nn := kn_lt hnn hk c_1
        refine lv_iload hx hb dX9_step_119 (lv_at hl 2 rfl) ?_
        refine lv_if_lt (tgt := 169) hx hb dX9_step_121 (by decide) (fun c_3 => absurd c_3 (nI_nn ⟨f9, Nat.lt_trans hf9 (by decide)⟩)) (fun c_3 => ?_)
        refine lv_aload_n hx hb dX9_step_124 rfl (lv_at hl 0 rfl) ?_
        refine va_get (D := D) (ci := 8) (v := .ref (a 7)) (C := RX9) (T := TX9) (N := 11) hx hb hts hi9 hown hK hP 0 rfl rfl 3 (by decide) hw0 (fun _ h9 => h9) rfl dX9_step_125 ?_
        refine lv_iload hx hb dX9_step_128 (lv_at hl 2 rfl) ?_
        refine lv_aload_n hx hb dX9_step_130 rfl (lv_at hl 0 rfl) ?_
        refine va_get (D := D) (ci := 8) (v := .ref (a 3)) (C := RX9) (T := TX9) (N := 11) hx hb hts hi9 hown hK hP 0 rfl rfl 2 (by decide) hw1 (fun _ h9 => h9) rfl dX9_step_131 ?_
        refine va_get (D := D) (ci := 1) (v := .ref (a 4)) (C := RX2) (T := TX2) (N := 5) hx hb hts hi2 hown hK hP 3 rfl rfl 0 (by decide) hw2 (fun _ h9 => h9) rfl dX9_step_134 ?_
        refine kM_v (As := [.int (nI f9), .ref (a 4)]) (rest := []) (q0 := 7) ⟨hx, hb, hml, hown, hts⟩ (x_X8_flipAlso l D cy a _ (va_up (va_up J 224 m0_113) 225 m1_113) (va_up (va_up I 10 m2_113) 99 m3_113) (va_up (va_up O 5 m4_113) 100 m5_113) (va_up (va_up (va_up R 4 m6_113) 5 m7_113) 6 m8_113) RO LL_113 Y_113 f9 hf9  ) (cwV 2 hts gX9_step_X8_flipAlso rfl rfl rfl (by decide +kernel) ⟨Nat.le_of_ble_eq_true rfl, Nat.le_of_ble_eq_true rfl⟩) hK hN hP hD hS hA rfl rfl rfl hl.1 rfl (Nat.le_of_ble_eq_true rfl) dX9_step_137 ⟨Nat.le_of_ble_eq_true rfl, Nat.le_of_ble_eq_true rfl⟩ (fun u H locs hw hP hD hS => ?_)
        obtain ⟨w_5, w_6, w_7, ⟨hp_8, hp_9, hp_10⟩, rfl⟩ := hw
        have hP : va_P D vwCl (CT cy a (va_up (va_up J 224 w_5) 225 w_6) (va_up (va_up I 10 m2_113) 99 m3_113) (va_up (va_up O 5 m4_113) 100 m5_113) (va_up (va_up (va_up R 4 w_7) 5 m7_113) 6 m8_113) RO (LL_113 ++ Y_113)) H := hP
        have hD : va_D A (CT cy a (va_up (va_up J 224 w_5) 225 w_6) (va_up (va_up I 10 m2_113) 99 m3_113) (va_up (va_up O 5 m4_113) 100 m5_113) (va_up (va_up (va_up R 4 w_7) 5 m7_113) 6 m8_113) RO (LL_113 ++ Y_113)) := hD
        have hsp2 : SPk fl (zLy fl na) (zLy fl nb) (k + 1) (w_5, w_6) w_7 m7_113 := sp_sC (c5 := m0_113) (c6 := m1_113) (o := m6_113) (wh_o hwh) hsp hf9 ef9 hzq9 hp_8 hp_9 hp_10
        refine lv_aload_n hx hb dX9_step_140 rfl (lv_at hl 0 rfl) ?_
        refine va_get (D := D) (ci := 8) (v := .ref (a 7)) (C := RX9) (T := TX9) (N := 11) hx hb hts hi9 hown hK hP 0 rfl rfl 3 (by decide) hw0 (fun _ h9 => h9) rfl dX9_step_141 ?_
        refine lv_aload_n hx hb dX9_step_144 rfl (lv_at hl 0 rfl) ?_
        refine va_get (D := D) (ci := 8) (v := .ref (a 3)) (C := RX9) (T := TX9) (N := 11) hx hb hts hi9 hown hK hP 0 rfl rfl 2 (by decide) hw1 (fun _ h9 => h9) rfl dX9_step_145 ?_
        refine va_get (D := D) (ci := 1) (v := .ref (a 4)) (C := RX2) (T := TX2) (N := 5) hx hb hts hi2 hown hK hP 3 rfl rfl 0 (by decide) hw2 (fun _ h9 => h9) rfl dX9_step_148 ?_
        refine lv_aload_n hx hb dX9_step_151 rfl (lv_at hl 0 rfl) ?_
        refine va_get (D := D) (ci := 8) (v := .ref (a 3)) (C := RX9) (T := TX9) (N := 11) hx hb hts hi9 hown hK hP 0 rfl rfl 2 (by decide) hw1 (fun _ h9 => h9) rfl dX9_step_152 ?_
        refine va_get (D := D) (ci := 1) (v := .ref (a 5)) (C := RX2) (T := TX2) (N := 5) hx hb hts hi2 hown hK hP 3 rfl rfl 1 (by decide) hw3 (fun _ h9 => h9) rfl dX9_step_155 ?_
        refine kRa_i (As := [.ref (a 4), .ref (a 5)]) (rest := []) (q0 := 7) ⟨hx, hb, hml, hown, hts⟩ (x_X8_leastToward l D cy a _ (va_up (va_up J 224 w_5) 225 w_6) (va_up (va_up I 10 m2_113) 99 m3_113) (va_up (va_up O 5 m4_113) 100 m5_113) (va_up (va_up (va_up R 4 w_7) 5 m7_113) 6 m8_113) RO LL_113 Y_113  fl (zLy fl nb) hsp2.2.1 hsp2.2.2.2.1 hsp2.2.2.2.2.1 ) (cwV 2 hts gX9_step_X8_leastToward rfl rfl rfl (by decide +kernel) ⟨Nat.le_of_ble_eq_true rfl, Nat.le_of_ble_eq_true rfl⟩) hK hN hP hD rfl rfl rfl hl.1 rfl (Nat.le_of_ble_eq_true rfl) dX9_step_158 ⟨Nat.le_of_ble_eq_true rfl, Nat.le_of_ble_eq_true rfl⟩ (fun r_11 hr_12 => ?_)
        obtain ⟨f9b, hf9b, ef9b, hzq9b⟩ := sp_f (wh_o hwh) hsp2 (k4 hlt_k h4n)
        refine wtop_i (y := nI f9b) (hr_12.trans ef9b) ?_
        refine lv_istore (lv' := [(5, .int (nI f9b)), (0, .ref (a 0)), (3, .int (nI nn)), (6, .int (nI k))]) hx hb dX9_step_161 hl (by decide) rfl (fun ls hl => ?_)
        refine lv_iinc (v := nI (k + 1)) (lv' := [(6, .int (nI (k + 1))), (5, .int (nI f9b)), (0, .ref (a 0)), (3, .int (nI nn))]) hx hb dX9_step_163 hl (k := 3) rfl (nI_1 _) (by decide) rfl (fun ls hl => ?_)
        refine lv_goto (tgt := 113) hx hb dX9_step_166 (by decide) ?_
        exact ih113 (k + 1) nn na nb f9b w_5 w_6 m2_113 m3_113 m4_113 m5_113 w_7 m7_113 m8_113 LL_113 Y_113 hlt_k hy_113 hL_113 hwh h0 ea eb hza hzb hnn ex2 h4n hsp2 hf9b ef9b hzq9b hQ (lt_dec hlt_k hn113) _ _ hP hD hS ls (lv_sub hl [2, 3, 1, 0] rfl)
  have hP : va_P D vwCl (CT cy a (va_up (va_up J 224 (J 224)) 225 (J 225)) (va_up (va_up I 10 (I 10)) 99 (I 99)) (va_up (va_up O 5 (O 5)) 100 (O 100)) (va_up (va_up (va_up R 4 (R 4)) 5 (R 5)) 6 (R 6)) RO (LL ++ Y)) s.heap := hP
  have hD : va_D A (CT cy a (va_up (va_up J 224 (J 224)) 225 (J 225)) (va_up (va_up I 10 (I 10)) 99 (I 99)) (va_up (va_up O 5 (O 5)) 100 (O 100)) (va_up (va_up (va_up R 4 (R 4)) 5 (R 5)) 6 (R 6)) RO (LL ++ Y)) := hD
  refine lv_aload_n hx hb dX9_step_0 rfl (lv_at hl 0 rfl) ?_
  refine kR_i (As := []) (rest := []) (q0 := 0) ⟨hx, hb, hml, hown, hts⟩ (x_X9_isWhole l D cy a _ (va_up (va_up J 224 (J 224)) 225 (J 225)) (va_up (va_up I 10 (I 10)) 99 (I 99)) (va_up (va_up O 5 (O 5)) 100 (O 100)) (va_up (va_up (va_up R 4 (R 4)) 5 (R 5)) 6 (R 6)) RO LL Y  fl S P hRA ⟨hM.1, hM.2.1, hM.2.2.1, hM.2.2.2.1, hM.2.2.2.2.1, hM.2.2.2.2.2.1, hM.2.2.2.2.2.2.1, hM.2.2.2.2.2.2.2.1, hRO0, hRO1, hRO2, hRO3⟩) (cwV 0 hts gX9_step_X9_isWhole rfl rfl rfl (by decide +kernel) ⟨Nat.le_of_ble_eq_true rfl, Nat.le_of_ble_eq_true rfl⟩) hK hN hP hD rfl rfl rfl hl.1 rfl (Nat.le_of_ble_eq_true rfl) dX9_step_1 ⟨Nat.le_of_ble_eq_true rfl, Nat.le_of_ble_eq_true rfl⟩ ?_
  refine lv_if_ne (tgt := 14) hx hb dX9_step_4 (by decide) (fun c_13 => ?_) (fun c_13 => ?_)
  · replace c_13 := bI_t c_13
    refine lv_aload_n hx hb dX9_step_14 rfl (lv_at hl 0 rfl) ?_
    refine lv_iload_n hx hb dX9_step_15 rfl (lv_at hl 1 rfl) ?_
    refine kM_i (As := [.int x0]) (rest := []) (q0 := 0) ⟨hx, hb, hml, hown, hts⟩ (x_X9_isLaying l D cy a _ (va_up (va_up J 224 (J 224)) 225 (J 225)) (va_up (va_up I 10 (I 10)) 99 (I 99)) (va_up (va_up O 5 (O 5)) 100 (O 100)) (va_up (va_up (va_up R 4 (R 4)) 5 (R 5)) 6 (R 6)) RO LL Y x0 fl S P hRA ⟨hM.1, hM.2.1, hM.2.2.1, hM.2.2.2.1, hM.2.2.2.2.1, hM.2.2.2.2.2.1, hM.2.2.2.2.2.2.1, hM.2.2.2.2.2.2.2.1, hRO0, hRO1, hRO2, hRO3⟩ hL) (cwV 1 hts gX9_step_X9_isLaying rfl rfl rfl (by decide +kernel) ⟨Nat.le_of_ble_eq_true rfl, Nat.le_of_ble_eq_true rfl⟩) hK hN hP hD hS hA rfl rfl rfl hl.1 rfl (Nat.le_of_ble_eq_true rfl) dX9_step_16 ⟨Nat.le_of_ble_eq_true rfl, Nat.le_of_ble_eq_true rfl⟩ (fun r_14 u H locs hw hP hD hS => ?_)
    obtain ⟨w_15, LL_16, ⟨rfl, hL_17⟩, rfl⟩ := hw
    have hP : va_P D vwCl (CT cy a (va_up (va_up J 224 (J 224)) 225 (J 225)) (va_up (va_up I 10 (I 10)) 99 (I 99)) (va_up (va_up O 5 w_15) 100 (O 100)) (va_up (va_up (va_up R 4 (R 4)) 5 (R 5)) 6 (R 6)) RO (LL_16 ++ Y)) H := hP
    have hD : va_D A (CT cy a (va_up (va_up J 224 (J 224)) 225 (J 225)) (va_up (va_up I 10 (I 10)) 99 (I 99)) (va_up (va_up O 5 w_15) 100 (O 100)) (va_up (va_up (va_up R 4 (R 4)) 5 (R 5)) 6 (R 6)) RO (LL_16 ++ Y)) := hD
    refine lv_if_eq (tgt := 30) hx hb dX9_step_19 (by decide) (fun c_18 => ?_) (fun c_18 => ?_)
    · replace c_18 := bI_f c_18
      refine lv_aload_n hx hb dX9_step_30 rfl (lv_at hl 0 rfl) ?_
      refine lv_ldc (v := (-100001)) hx hb hown hw4 dX9_step_31 ?_
      refine kM_i (As := [.int (-100001)]) (rest := []) (q0 := 0) ⟨hx, hb, hml, hown, hts⟩ (t_X9_finding l D cy a _ (va_up (va_up J 224 (J 224)) 225 (J 225)) (va_up (va_up I 10 (I 10)) 99 (I 99)) (va_up (va_up O 5 w_15) 100 (O 100)) (va_up (va_up (va_up R 4 (R 4)) 5 (R 5)) 6 (R 6)) RO LL_16 Y ((-100001) : Int32)   ) (cwV 1 hts gX9_step_X9_finding rfl rfl rfl (by decide +kernel) ⟨Nat.le_of_ble_eq_true rfl, Nat.le_of_ble_eq_true rfl⟩) hK hN hP hD hS hA rfl rfl rfl hl.1 rfl (Nat.le_of_ble_eq_true rfl) dX9_step_33 ⟨Nat.le_of_ble_eq_true rfl, Nat.le_of_ble_eq_true rfl⟩ (fun r_19 u H locs hw hP hD hS => ?_)
      obtain ⟨w_20, rfl, rfl⟩ := hw
      have hP : va_P D vwCl (CT cy a (va_up (va_up J 224 (J 224)) 225 (J 225)) (va_up (va_up I 10 w_20) 99 (I 99)) (va_up (va_up O 5 w_15) 100 (O 100)) (va_up (va_up (va_up R 4 (R 4)) 5 (R 5)) 6 (R 6)) RO (LL_16 ++ Y)) H := hP
      have hD : va_D A (CT cy a (va_up (va_up J 224 (J 224)) 225 (J 225)) (va_up (va_up I 10 w_20) 99 (I 99)) (va_up (va_up O 5 w_15) 100 (O 100)) (va_up (va_up (va_up R 4 (R 4)) 5 (R 5)) 6 (R 6)) RO (LL_16 ++ Y)) := hD
      refine W.widen (k := 14) (n := 68630) (Nat.le_of_ble_eq_true rfl) (Nat.le_of_ble_eq_true rfl) ?_
      exact wret_i hx hb hr hlocks ((va_up (va_up J 224 (J 224)) 225 (J 225)), (va_up (va_up I 10 w_20) 99 (I 99)), (va_up (va_up O 5 w_15) 100 (O 100)), (va_up (va_up (va_up R 4 (R 4)) 5 (R 5)) 6 (R 6)), RO, LL_16, Y) ⟨(J 224), (J 225), w_20, (I 99), w_15, (O 100), (R 4), (R 5), (R 6), LL_16, Y, ⟨(as_no (ag_1 c_13 c_18) (by decide)), (fun _ h => h), hL_17, hQ⟩, rfl⟩ hP hD hS dX9_step_36
    · replace c_18 := bI_t c_18
      refine lv_aload_n hx hb dX9_step_22 rfl (lv_at hl 0 rfl) ?_
      refine lv_iload_n hx hb dX9_step_23 rfl (lv_at hl 2 rfl) ?_
      refine kM_i (As := [.int x1]) (rest := []) (q0 := 0) ⟨hx, hb, hml, hown, hts⟩ (x_X9_isLaying l D cy a _ (va_up (va_up J 224 (J 224)) 225 (J 225)) (va_up (va_up I 10 (I 10)) 99 (I 99)) (va_up (va_up O 5 w_15) 100 (O 100)) (va_up (va_up (va_up R 4 (R 4)) 5 (R 5)) 6 (R 6)) RO LL_16 Y x1 fl S P hRA ⟨hM.1, hM.2.1, hM.2.2.1, hM.2.2.2.1, hM.2.2.2.2.1, hM.2.2.2.2.2.1, hM.2.2.2.2.2.2.1, hM.2.2.2.2.2.2.2.1, hRO0, hRO1, hRO2, hRO3⟩ hL_17) (cwV 1 hts gX9_step_X9_isLaying rfl rfl rfl (by decide +kernel) ⟨Nat.le_of_ble_eq_true rfl, Nat.le_of_ble_eq_true rfl⟩) hK hN hP hD hS hA rfl rfl rfl hl.1 rfl (Nat.le_of_ble_eq_true rfl) dX9_step_24 ⟨Nat.le_of_ble_eq_true rfl, Nat.le_of_ble_eq_true rfl⟩ (fun r_21 u H locs hw hP hD hS => ?_)
      obtain ⟨w_22, LL_23, ⟨rfl, hL_24⟩, rfl⟩ := hw
      have hP : va_P D vwCl (CT cy a (va_up (va_up J 224 (J 224)) 225 (J 225)) (va_up (va_up I 10 (I 10)) 99 (I 99)) (va_up (va_up O 5 w_22) 100 (O 100)) (va_up (va_up (va_up R 4 (R 4)) 5 (R 5)) 6 (R 6)) RO (LL_23 ++ Y)) H := hP
      have hD : va_D A (CT cy a (va_up (va_up J 224 (J 224)) 225 (J 225)) (va_up (va_up I 10 (I 10)) 99 (I 99)) (va_up (va_up O 5 w_22) 100 (O 100)) (va_up (va_up (va_up R 4 (R 4)) 5 (R 5)) 6 (R 6)) RO (LL_23 ++ Y)) := hD
      refine lv_if_ne (tgt := 37) hx hb dX9_step_27 (by decide) (fun c_25 => ?_) (fun c_25 => ?_)
      · replace c_25 := bI_t c_25
        obtain ⟨na, ea, hza⟩ := ic_nat (wh_ng c_13) c_18
        obtain ⟨nb, eb, hzb⟩ := ic_nat (wh_ng c_13) c_25
        rw [ea, eb] at hl
        refine lv_aload_n hx hb dX9_step_37 rfl (lv_at hl 0 rfl) ?_
        refine lv_iload_n hx hb dX9_step_38 rfl (lv_at hl 1 rfl) ?_
        refine kM_r (As := [.int (nI na)]) (rest := []) (q0 := 0) ⟨hx, hb, hml, hown, hts⟩ (y_X9_layingOf l D cy a _ (va_up (va_up J 224 (J 224)) 225 (J 225)) (va_up (va_up I 10 (I 10)) 99 (I 99)) (va_up (va_up O 5 w_22) 100 (O 100)) (va_up (va_up (va_up R 4 (R 4)) 5 (R 5)) 6 (R 6)) RO LL_23 Y na fl S P hRA (wh_ng c_13) (show zIn (bfx fl) na from hza) ⟨hM.1, hM.2.1, hM.2.2.1, hM.2.2.2.1, hM.2.2.2.2.1, hM.2.2.2.2.2.1, hM.2.2.2.2.2.2.1, hM.2.2.2.2.2.2.2.1, hRO0, hRO1, hRO2, hRO3⟩ hL_24) (cwV 1 hts gX9_step_X9_layingOf rfl rfl rfl (by decide +kernel) ⟨Nat.le_of_ble_eq_true rfl, Nat.le_of_ble_eq_true rfl⟩) hK hN hP hD hS hA rfl rfl rfl hl.1 rfl (Nat.le_of_ble_eq_true rfl) dX9_step_39 ⟨Nat.le_of_ble_eq_true rfl, Nat.le_of_ble_eq_true rfl⟩ (fun u r_26 H locs hw hP hD hS => ?_)
        obtain ⟨g_27, g_28⟩ := u
        have hL_29 : LOK cy g_27 g_28 := hw
        have hs_30 : ∀ c, c ∈ Y → c ∈ (Y ++ [laC r_26 (nI na) (zLy fl na).1 (zLy fl na).2]) := fun c h => List.mem_append_left _ h
        have hi_31 : chO (Y ++ [laC r_26 (nI na) (zLy fl na).1 (zLy fl na).2]) (O 7) := chO_mono hs_30 hM.2.1
        have hi_32 : layO (Y ++ [laC r_26 (nI na) (zLy fl na).1 (zLy fl na).2]) (O 8) := layO_mono hs_30 hM.2.2.1
        have hi_33 : ∀ i, i < 20 → pasO (Y ++ [laC r_26 (nI na) (zLy fl na).1 (zLy fl na).2]) ((RO 2) i) := pas_mono hs_30 hM.2.2.2.1
        have hmono_34 : ∀ c, c ∈ Y → c ∈ (Y ++ [laC r_26 (nI na) (zLy fl na).1 (zLy fl na).2]) := fun c h => hs_30 c ((fun _ h => h) c h)
        have hP : va_P D vwCl (CT cy a (va_up (va_up J 224 (J 224)) 225 (J 225)) (va_up (va_up I 10 (I 10)) 99 (I 99)) (va_up (va_up O 5 g_27) 100 (O 100)) (va_up (va_up (va_up R 4 (R 4)) 5 (R 5)) 6 (R 6)) RO (g_28 ++ (Y ++ [laC r_26 (nI na) (zLy fl na).1 (zLy fl na).2]))) H := hP
        have hD : va_D A (CT cy a (va_up (va_up J 224 (J 224)) 225 (J 225)) (va_up (va_up I 10 (I 10)) 99 (I 99)) (va_up (va_up O 5 g_27) 100 (O 100)) (va_up (va_up (va_up R 4 (R 4)) 5 (R 5)) 6 (R 6)) RO (g_28 ++ (Y ++ [laC r_26 (nI na) (zLy fl na).1 (zLy fl na).2]))) := hD
        refine lv_astore (lv' := [(4, .ref r_26), (0, .ref (a 0)), (1, .int (nI na)), (2, .int (nI nb)), (3, .int x2)]) hx hb dX9_step_42 hl (by decide) rfl (fun ls hl => ?_)
        refine lv_aload_n hx hb dX9_step_44 rfl (lv_at hl 1 rfl) ?_
        refine lv_aload hx hb dX9_step_45 (lv_at hl 0 rfl) ?_
        refine lv_aload_n hx hb dX9_step_47 rfl (lv_at hl 1 rfl) ?_
        refine lv_iload_n hx hb dX9_step_48 rfl (lv_at hl 3 rfl) ?_
        refine kM_r (As := [.int (nI nb)]) (rest := [.ref r_26, .ref (a 0)]) (q0 := 0) ⟨hx, hb, hml, hown, hts⟩ (y_X9_layingOf l D cy a _ (va_up (va_up J 224 (J 224)) 225 (J 225)) (va_up (va_up I 10 (I 10)) 99 (I 99)) (va_up (va_up O 5 g_27) 100 (O 100)) (va_up (va_up (va_up R 4 (R 4)) 5 (R 5)) 6 (R 6)) RO g_28 (Y ++ [laC r_26 (nI na) (zLy fl na).1 (zLy fl na).2]) nb fl S P (RCf_mono hmono_34 hRA) (wh_ng c_13) (show zIn (bfx fl) nb from hzb) ⟨hM.1, hi_31, hi_32, hi_33, hM.2.2.2.2.1, hM.2.2.2.2.2.1, hM.2.2.2.2.2.2.1, hM.2.2.2.2.2.2.2.1, hRO0, hRO1, hRO2, hRO3⟩ hL_29) (cwV 1 hts gX9_step_X9_layingOf rfl rfl rfl (by decide +kernel) ⟨Nat.le_of_ble_eq_true rfl, Nat.le_of_ble_eq_true rfl⟩) hK hN hP hD hS hA rfl rfl rfl hl.1 rfl (Nat.le_of_ble_eq_true rfl) dX9_step_49 ⟨Nat.le_of_ble_eq_true rfl, Nat.le_of_ble_eq_true rfl⟩ (fun u r_35 H locs hw hP hD hS => ?_)
        obtain ⟨g_36, g_37⟩ := u
        have hL_38 : LOK cy g_36 g_37 := hw
        have hs_39 : ∀ c, c ∈ (Y ++ [laC r_26 (nI na) (zLy fl na).1 (zLy fl na).2]) → c ∈ ((Y ++ [laC r_26 (nI na) (zLy fl na).1 (zLy fl na).2]) ++ [laC r_35 (nI nb) (zLy fl nb).1 (zLy fl nb).2]) := fun c h => List.mem_append_left _ h
        have hi_40 : chO ((Y ++ [laC r_26 (nI na) (zLy fl na).1 (zLy fl na).2]) ++ [laC r_35 (nI nb) (zLy fl nb).1 (zLy fl nb).2]) (O 7) := chO_mono hs_39 hi_31
        have hi_41 : layO ((Y ++ [laC r_26 (nI na) (zLy fl na).1 (zLy fl na).2]) ++ [laC r_35 (nI nb) (zLy fl nb).1 (zLy fl nb).2]) (O 8) := layO_mono hs_39 hi_32
        have hi_42 : ∀ i, i < 20 → pasO ((Y ++ [laC r_26 (nI na) (zLy fl na).1 (zLy fl na).2]) ++ [laC r_35 (nI nb) (zLy fl nb).1 (zLy fl nb).2]) ((RO 2) i) := pas_mono hs_39 hi_33
        have hmono_43 : ∀ c, c ∈ Y → c ∈ ((Y ++ [laC r_26 (nI na) (zLy fl na).1 (zLy fl na).2]) ++ [laC r_35 (nI nb) (zLy fl nb).1 (zLy fl nb).2]) := fun c h => hs_39 c (hmono_34 c h)
        have hP : va_P D vwCl (CT cy a (va_up (va_up J 224 (J 224)) 225 (J 225)) (va_up (va_up I 10 (I 10)) 99 (I 99)) (va_up (va_up O 5 g_36) 100 (O 100)) (va_up (va_up (va_up R 4 (R 4)) 5 (R 5)) 6 (R 6)) RO (g_37 ++ ((Y ++ [laC r_26 (nI na) (zLy fl na).1 (zLy fl na).2]) ++ [laC r_35 (nI nb) (zLy fl nb).1 (zLy fl nb).2]))) H := hP
        have hD : va_D A (CT cy a (va_up (va_up J 224 (J 224)) 225 (J 225)) (va_up (va_up I 10 (I 10)) 99 (I 99)) (va_up (va_up O 5 g_36) 100 (O 100)) (va_up (va_up (va_up R 4 (R 4)) 5 (R 5)) 6 (R 6)) RO (g_37 ++ ((Y ++ [laC r_26 (nI na) (zLy fl na).1 (zLy fl na).2]) ++ [laC r_35 (nI nb) (zLy fl nb).1 (zLy fl nb).2]))) := hD
        refine kM_v (As := [.ref r_26, .ref r_35]) (rest := []) (q0 := 0) ⟨hx, hb, hml, hown, hts⟩ (x_X9_measureBoth l D cy a _ (va_up (va_up J 224 (J 224)) 225 (J 225)) (va_up (va_up I 10 (I 10)) 99 (I 99)) (va_up (va_up O 5 g_36) 100 (O 100)) (va_up (va_up (va_up R 4 (R 4)) 5 (R 5)) 6 (R 6)) RO g_37 ((Y ++ [laC r_26 (nI na) (zLy fl na).1 (zLy fl na).2]) ++ [laC r_35 (nI nb) (zLy fl nb).1 (zLy fl nb).2]) r_26 (nI na) ((zLy fl na).1) ((zLy fl na).2) (hs_39 _ mem_last) r_35 (nI nb) ((zLy fl nb).1) ((zLy fl nb).2) mem_last hQ (show LY (bfx (J 6)) (bfx (zLy fl na).1) (bfx (zLy fl na).2) by rw [hRA.1]; exact zLy_LY hza) (show LY (bfx (J 6)) (bfx (zLy fl nb).1) (bfx (zLy fl nb).2) by rw [hRA.1]; exact zLy_LY hzb) (wh_oJ hRA.1 c_13)  ) (cwV 2 hts gX9_step_X9_measureBoth rfl rfl rfl (by decide +kernel) ⟨Nat.le_of_ble_eq_true rfl, Nat.le_of_ble_eq_true rfl⟩) hK hN hP hD hS hA rfl rfl rfl hl.1 rfl (Nat.le_of_ble_eq_true rfl) dX9_step_52 ⟨Nat.le_of_ble_eq_true rfl, Nat.le_of_ble_eq_true rfl⟩ (fun u H locs hw hP hD hS => ?_)
        obtain ⟨w_45, w_46, w_47, w_48, w_49, ⟨hp_50, hp_51, hp_52, hp_53, hp_54⟩, rfl⟩ := hw
        have hP : va_P D vwCl (CT cy a (va_up (va_up J 224 (J 224)) 225 (J 225)) (va_up (va_up I 10 (I 10)) 99 w_45) (va_up (va_up O 5 g_36) 100 w_46) (va_up (va_up (va_up R 4 w_47) 5 w_48) 6 w_49) RO (g_37 ++ ((Y ++ [laC r_26 (nI na) (zLy fl na).1 (zLy fl na).2]) ++ [laC r_35 (nI nb) (zLy fl nb).1 (zLy fl nb).2]))) H := hP
        have hD : va_D A (CT cy a (va_up (va_up J 224 (J 224)) 225 (J 225)) (va_up (va_up I 10 (I 10)) 99 w_45) (va_up (va_up O 5 g_36) 100 w_46) (va_up (va_up (va_up R 4 w_47) 5 w_48) 6 w_49) RO (g_37 ++ ((Y ++ [laC r_26 (nI na) (zLy fl na).1 (zLy fl na).2]) ++ [laC r_35 (nI nb) (zLy fl nb).1 (zLy fl nb).2]))) := hD
        have hAI := ap_I (p := (zLy fl na)) (q := (zLy fl nb)) (hVal_J hRA.1 hp_51) (hVal_J hRA.1 hp_52) (bd_J hRA.1 hp_53) (bd_J hRA.1 hp_54)
        have hv4i : hVI fl (zLy fl na) w_47 := hVI_of (hVal_J hRA.1 hp_51)
        have hv5i : hVI fl (zLy fl nb) w_48 := hVI_of (hVal_J hRA.1 hp_52)
        refine lv_iload_n hx hb dX9_step_55 rfl (lv_at hl 4 rfl) ?_
        refine lv_if_lt (tgt := 70) hx hb dX9_step_56 (by decide) (fun c_55 => ?_) (fun c_55 => ?_)
        · refine lv_aload_n hx hb dX9_step_70 rfl (lv_at hl 1 rfl) ?_
          refine lv_ldc (v := (-100006)) hx hb hown hw5 dX9_step_71 ?_
          refine kM_i (As := [.int (-100006)]) (rest := []) (q0 := 0) ⟨hx, hb, hml, hown, hts⟩ (t_X9_finding l D cy a _ (va_up (va_up J 224 (J 224)) 225 (J 225)) (va_up (va_up I 10 (I 10)) 99 w_45) (va_up (va_up O 5 g_36) 100 w_46) (va_up (va_up (va_up R 4 w_47) 5 w_48) 6 w_49) RO g_37 ((Y ++ [laC r_26 (nI na) (zLy fl na).1 (zLy fl na).2]) ++ [laC r_35 (nI nb) (zLy fl nb).1 (zLy fl nb).2]) ((-100006) : Int32)   ) (cwV 1 hts gX9_step_X9_finding rfl rfl rfl (by decide +kernel) ⟨Nat.le_of_ble_eq_true rfl, Nat.le_of_ble_eq_true rfl⟩) hK hN hP hD hS hA rfl rfl rfl hl.1 rfl (Nat.le_of_ble_eq_true rfl) dX9_step_73 ⟨Nat.le_of_ble_eq_true rfl, Nat.le_of_ble_eq_true rfl⟩ (fun r_56 u H locs hw hP hD hS => ?_)
          obtain ⟨w_57, rfl, rfl⟩ := hw
          have hP : va_P D vwCl (CT cy a (va_up (va_up J 224 (J 224)) 225 (J 225)) (va_up (va_up I 10 w_57) 99 w_45) (va_up (va_up O 5 g_36) 100 w_46) (va_up (va_up (va_up R 4 w_47) 5 w_48) 6 w_49) RO (g_37 ++ ((Y ++ [laC r_26 (nI na) (zLy fl na).1 (zLy fl na).2]) ++ [laC r_35 (nI nb) (zLy fl nb).1 (zLy fl nb).2]))) H := hP
          have hD : va_D A (CT cy a (va_up (va_up J 224 (J 224)) 225 (J 225)) (va_up (va_up I 10 w_57) 99 w_45) (va_up (va_up O 5 g_36) 100 w_46) (va_up (va_up (va_up R 4 w_47) 5 w_48) 6 w_49) RO (g_37 ++ ((Y ++ [laC r_26 (nI na) (zLy fl na).1 (zLy fl na).2]) ++ [laC r_35 (nI nb) (zLy fl nb).1 (zLy fl nb).2]))) := hD
          exact wret_i hx hb hr hlocks ((va_up (va_up J 224 (J 224)) 225 (J 225)), (va_up (va_up I 10 w_57) 99 w_45), (va_up (va_up O 5 g_36) 100 w_46), (va_up (va_up (va_up R 4 w_47) 5 w_48) 6 w_49), RO, g_37, (Y ++ [laC r_26 (nI na) (zLy fl na).1 (zLy fl na).2]) ++ [laC r_35 (nI nb) (zLy fl nb).1 (zLy fl nb).2]) ⟨(J 224), (J 225), w_57, w_45, g_36, w_46, w_47, w_48, w_49, g_37, ((Y ++ [laC r_26 (nI na) (zLy fl na).1 (zLy fl na).2]) ++ [laC r_35 (nI nb) (zLy fl nb).1 (zLy fl nb).2]), ⟨(as_outC ea eb hza hzb (ag_3 c_13 c_18 c_25).symm (fun z => absurd c_55 ((rg_2 hAI.1 (suI_nn _ _) hAI.2).mpr z).1)), hmono_43, hL_38, hp_50⟩, rfl⟩ hP hD hS dX9_step_76
        · refine lv_iload_n hx hb dX9_step_59 rfl (lv_at hl 4 rfl) ?_
          refine lv_aload_n hx hb dX9_step_60 rfl (lv_at hl 1 rfl) ?_
          refine va_get (D := D) (ci := 8) (v := .ref (a 3)) (C := RX9) (T := TX9) (N := 11) hx hb hts hi9 hown hK hP 0 rfl rfl 2 (by decide) hw1 (fun _ h9 => h9) rfl dX9_step_61 ?_
          refine kR_i (As := []) (rest := [.int x2]) (q0 := 3) ⟨hx, hb, hml, hown, hts⟩ (x_X2_distance l D cy a _ (va_up (va_up J 224 (J 224)) 225 (J 225)) (va_up (va_up I 10 (I 10)) 99 w_45) (va_up (va_up O 5 g_36) 100 w_46) (va_up (va_up (va_up R 4 w_47) 5 w_48) 6 w_49) RO g_37 ((Y ++ [laC r_26 (nI na) (zLy fl na).1 (zLy fl na).2]) ++ [laC r_35 (nI nb) (zLy fl nb).1 (zLy fl nb).2])   ) (cwV 0 hts gX9_step_X2_distance rfl rfl rfl (by decide +kernel) ⟨Nat.le_of_ble_eq_true rfl, Nat.le_of_ble_eq_true rfl⟩) hK hN hP hD rfl rfl rfl hl.1 rfl (Nat.le_of_ble_eq_true rfl) dX9_step_64 ⟨Nat.le_of_ble_eq_true rfl, Nat.le_of_ble_eq_true rfl⟩ ?_
          refine lv_icmp_lt (tgt := 77) hx hb dX9_step_67 (by decide) (fun c_58 => ?_) (fun c_58 => ?_)
          · obtain ⟨nn, hnn, ex2, h4n⟩ := rg_n hAI.2 ((rg_2 hAI.1 (suI_nn _ _) hAI.2).mp ⟨c_55, c_58⟩)
            rw [ex2] at hl
            refine lv_aload_n hx hb dX9_step_77 rfl (lv_at hl 1 rfl) ?_
            refine va_get (D := D) (ci := 8) (v := .ref (a 7)) (C := RX9) (T := TX9) (N := 11) hx hb hts hi9 hown hK hP 0 rfl rfl 3 (by decide) hw0 (fun _ h9 => h9) rfl dX9_step_78 ?_
            refine lv_aload hx hb dX9_step_81 (lv_at hl 0 rfl) ?_
            refine lv_lconst (v := 0) hx hb dX9_step_83 (by decide) ?_
            refine kM_v (As := [.ref r_26, .long 0]) (rest := []) (q0 := 7) ⟨hx, hb, hml, hown, hts⟩ (x_X8_start l D cy a _ (va_up (va_up J 224 (J 224)) 225 (J 225)) (va_up (va_up I 10 (I 10)) 99 w_45) (va_up (va_up O 5 g_36) 100 w_46) (va_up (va_up (va_up R 4 w_47) 5 w_48) 6 w_49) RO g_37 ((Y ++ [laC r_26 (nI na) (zLy fl na).1 (zLy fl na).2]) ++ [laC r_35 (nI nb) (zLy fl nb).1 (zLy fl nb).2]) r_26 (nI na) ((zLy fl na).1) ((zLy fl na).2) (hs_39 _ mem_last) (0 : Int64)   ) (cwV 2 hts gX9_step_X8_start rfl rfl rfl (by decide +kernel) ⟨Nat.le_of_ble_eq_true rfl, Nat.le_of_ble_eq_true rfl⟩) hK hN hP hD hS hA rfl rfl rfl hl.1 rfl (Nat.le_of_ble_eq_true rfl) dX9_step_84 ⟨Nat.le_of_ble_eq_true rfl, Nat.le_of_ble_eq_true rfl⟩ (fun u H locs hw hP hD hS => ?_)
            obtain ⟨w_60, w_61, ⟨hp_62, hp_63⟩, rfl⟩ := hw
            have hP : va_P D vwCl (CT cy a (va_up (va_up J 224 w_60) 225 w_61) (va_up (va_up I 10 (I 10)) 99 w_45) (va_up (va_up O 5 g_36) 100 w_46) (va_up (va_up (va_up R 4 w_47) 5 w_48) 6 w_49) RO (g_37 ++ ((Y ++ [laC r_26 (nI na) (zLy fl na).1 (zLy fl na).2]) ++ [laC r_35 (nI nb) (zLy fl nb).1 (zLy fl nb).2]))) H := hP
            have hD : va_D A (CT cy a (va_up (va_up J 224 w_60) 225 w_61) (va_up (va_up I 10 (I 10)) 99 w_45) (va_up (va_up O 5 g_36) 100 w_46) (va_up (va_up (va_up R 4 w_47) 5 w_48) 6 w_49) RO (g_37 ++ ((Y ++ [laC r_26 (nI na) (zLy fl na).1 (zLy fl na).2]) ++ [laC r_35 (nI nb) (zLy fl nb).1 (zLy fl nb).2]))) := hD
            refine lv_aload_n hx hb dX9_step_87 rfl (lv_at hl 1 rfl) ?_
            refine va_get (D := D) (ci := 8) (v := .ref (a 7)) (C := RX9) (T := TX9) (N := 11) hx hb hts hi9 hown hK hP 0 rfl rfl 3 (by decide) hw0 (fun _ h9 => h9) rfl dX9_step_88 ?_
            refine lv_aload_n hx hb dX9_step_91 rfl (lv_at hl 1 rfl) ?_
            refine va_get (D := D) (ci := 8) (v := .ref (a 3)) (C := RX9) (T := TX9) (N := 11) hx hb hts hi9 hown hK hP 0 rfl rfl 2 (by decide) hw1 (fun _ h9 => h9) rfl dX9_step_92 ?_
            refine va_get (D := D) (ci := 1) (v := .ref (a 4)) (C := RX2) (T := TX2) (N := 5) hx hb hts hi2 hown hK hP 3 rfl rfl 0 (by decide) hw2 (fun _ h9 => h9) rfl dX9_step_95 ?_
            refine lv_aload_n hx hb dX9_step_98 rfl (lv_at hl 1 rfl) ?_
            refine va_get (D := D) (ci := 8) (v := .ref (a 3)) (C := RX9) (T := TX9) (N := 11) hx hb hts hi9 hown hK hP 0 rfl rfl 2 (by decide) hw1 (fun _ h9 => h9) rfl dX9_step_99 ?_
            refine va_get (D := D) (ci := 1) (v := .ref (a 5)) (C := RX2) (T := TX2) (N := 5) hx hb hts hi2 hown hK hP 3 rfl rfl 1 (by decide) hw3 (fun _ h9 => h9) rfl dX9_step_102 ?_
            have hsp0 := sp_0e (fl := fl) (p0 := (zLy fl na)) (q := (zLy fl nb)) (p := (w_60, w_61)) (st_e hp_62 hp_63) (zLy_LY hza) (zLy_LY hzb) hv4i hv5i
            refine kRa_i (As := [.ref (a 4), .ref (a 5)]) (rest := []) (q0 := 7) ⟨hx, hb, hml, hown, hts⟩ (x_X8_leastToward l D cy a _ (va_up (va_up J 224 w_60) 225 w_61) (va_up (va_up I 10 (I 10)) 99 w_45) (va_up (va_up O 5 g_36) 100 w_46) (va_up (va_up (va_up R 4 w_47) 5 w_48) 6 w_49) RO g_37 ((Y ++ [laC r_26 (nI na) (zLy fl na).1 (zLy fl na).2]) ++ [laC r_35 (nI nb) (zLy fl nb).1 (zLy fl nb).2])  fl (zLy fl nb) hsp0.2.1 hsp0.2.2.2.1 hsp0.2.2.2.2.1 ) (cwV 2 hts gX9_step_X8_leastToward rfl rfl rfl (by decide +kernel) ⟨Nat.le_of_ble_eq_true rfl, Nat.le_of_ble_eq_true rfl⟩) hK hN hP hD rfl rfl rfl hl.1 rfl (Nat.le_of_ble_eq_true rfl) dX9_step_105 ⟨Nat.le_of_ble_eq_true rfl, Nat.le_of_ble_eq_true rfl⟩ (fun r_64 hr_65 => ?_)
            obtain ⟨f9, hf9, ef9, hzq9⟩ := sp_f (wh_o c_13) hsp0 (k4 (Nat.zero_le _) h4n)
            refine wtop_i (y := nI f9) (hr_65.trans ef9) ?_
            refine lv_istore (lv' := [(5, .int (nI f9)), (4, .ref r_26), (0, .ref (a 0)), (1, .int (nI na)), (2, .int (nI nb)), (3, .int (nI nn))]) hx hb dX9_step_108 hl (by decide) rfl (fun ls hl => ?_)
            refine lv_iconst (v := 0) hx hb dX9_step_110 (by decide) ?_
            refine lv_istore (lv' := [(6, .int 0), (5, .int (nI f9)), (4, .ref r_26), (0, .ref (a 0)), (1, .int (nI na)), (2, .int (nI nb)), (3, .int (nI nn))]) hx hb dX9_step_111 hl (by decide) rfl (fun ls hl => ?_)
            exact lp113 _ 0 nn na nb f9 w_60 w_61 (I 10) w_45 g_36 w_46 w_47 w_48 w_49 g_37 ((Y ++ [laC r_26 (nI na) (zLy fl na).1 (zLy fl na).2]) ++ [laC r_35 (nI nb) (zLy fl nb).1 (zLy fl nb).2]) (Nat.zero_le _) hmono_43 hL_38 c_13 (ag_3 c_13 c_18 c_25).symm ea eb hza hzb hnn ex2 h4n hsp0 hf9 ef9 hzq9 hp_50 (Nat.lt_succ_self _) _ _ hP hD hS ls (lv_sub hl [3, 6, 1, 0] rfl)
          · refine lv_aload_n hx hb dX9_step_70 rfl (lv_at hl 1 rfl) ?_
            refine lv_ldc (v := (-100006)) hx hb hown hw5 dX9_step_71 ?_
            refine kM_i (As := [.int (-100006)]) (rest := []) (q0 := 0) ⟨hx, hb, hml, hown, hts⟩ (t_X9_finding l D cy a _ (va_up (va_up J 224 (J 224)) 225 (J 225)) (va_up (va_up I 10 (I 10)) 99 w_45) (va_up (va_up O 5 g_36) 100 w_46) (va_up (va_up (va_up R 4 w_47) 5 w_48) 6 w_49) RO g_37 ((Y ++ [laC r_26 (nI na) (zLy fl na).1 (zLy fl na).2]) ++ [laC r_35 (nI nb) (zLy fl nb).1 (zLy fl nb).2]) ((-100006) : Int32)   ) (cwV 1 hts gX9_step_X9_finding rfl rfl rfl (by decide +kernel) ⟨Nat.le_of_ble_eq_true rfl, Nat.le_of_ble_eq_true rfl⟩) hK hN hP hD hS hA rfl rfl rfl hl.1 rfl (Nat.le_of_ble_eq_true rfl) dX9_step_73 ⟨Nat.le_of_ble_eq_true rfl, Nat.le_of_ble_eq_true rfl⟩ (fun r_66 u H locs hw hP hD hS => ?_)
            obtain ⟨w_67, rfl, rfl⟩ := hw
            have hP : va_P D vwCl (CT cy a (va_up (va_up J 224 (J 224)) 225 (J 225)) (va_up (va_up I 10 w_67) 99 w_45) (va_up (va_up O 5 g_36) 100 w_46) (va_up (va_up (va_up R 4 w_47) 5 w_48) 6 w_49) RO (g_37 ++ ((Y ++ [laC r_26 (nI na) (zLy fl na).1 (zLy fl na).2]) ++ [laC r_35 (nI nb) (zLy fl nb).1 (zLy fl nb).2]))) H := hP
            have hD : va_D A (CT cy a (va_up (va_up J 224 (J 224)) 225 (J 225)) (va_up (va_up I 10 w_67) 99 w_45) (va_up (va_up O 5 g_36) 100 w_46) (va_up (va_up (va_up R 4 w_47) 5 w_48) 6 w_49) RO (g_37 ++ ((Y ++ [laC r_26 (nI na) (zLy fl na).1 (zLy fl na).2]) ++ [laC r_35 (nI nb) (zLy fl nb).1 (zLy fl nb).2]))) := hD
            exact wret_i hx hb hr hlocks ((va_up (va_up J 224 (J 224)) 225 (J 225)), (va_up (va_up I 10 w_67) 99 w_45), (va_up (va_up O 5 g_36) 100 w_46), (va_up (va_up (va_up R 4 w_47) 5 w_48) 6 w_49), RO, g_37, (Y ++ [laC r_26 (nI na) (zLy fl na).1 (zLy fl na).2]) ++ [laC r_35 (nI nb) (zLy fl nb).1 (zLy fl nb).2]) ⟨(J 224), (J 225), w_67, w_45, g_36, w_46, w_47, w_48, w_49, g_37, ((Y ++ [laC r_26 (nI na) (zLy fl na).1 (zLy fl na).2]) ++ [laC r_35 (nI nb) (zLy fl nb).1 (zLy fl nb).2]), ⟨(as_outC ea eb hza hzb (ag_3 c_13 c_18 c_25).symm (fun z => absurd ((rg_2 hAI.1 (suI_nn _ _) hAI.2).mpr z).2 c_58)), hmono_43, hL_38, hp_50⟩, rfl⟩ hP hD hS dX9_step_76
      · replace c_25 := bI_f c_25
        refine lv_aload_n hx hb dX9_step_30 rfl (lv_at hl 0 rfl) ?_
        refine lv_ldc (v := (-100001)) hx hb hown hw4 dX9_step_31 ?_
        refine kM_i (As := [.int (-100001)]) (rest := []) (q0 := 0) ⟨hx, hb, hml, hown, hts⟩ (t_X9_finding l D cy a _ (va_up (va_up J 224 (J 224)) 225 (J 225)) (va_up (va_up I 10 (I 10)) 99 (I 99)) (va_up (va_up O 5 w_22) 100 (O 100)) (va_up (va_up (va_up R 4 (R 4)) 5 (R 5)) 6 (R 6)) RO LL_23 Y ((-100001) : Int32)   ) (cwV 1 hts gX9_step_X9_finding rfl rfl rfl (by decide +kernel) ⟨Nat.le_of_ble_eq_true rfl, Nat.le_of_ble_eq_true rfl⟩) hK hN hP hD hS hA rfl rfl rfl hl.1 rfl (Nat.le_of_ble_eq_true rfl) dX9_step_33 ⟨Nat.le_of_ble_eq_true rfl, Nat.le_of_ble_eq_true rfl⟩ (fun r_68 u H locs hw hP hD hS => ?_)
        obtain ⟨w_69, rfl, rfl⟩ := hw
        have hP : va_P D vwCl (CT cy a (va_up (va_up J 224 (J 224)) 225 (J 225)) (va_up (va_up I 10 w_69) 99 (I 99)) (va_up (va_up O 5 w_22) 100 (O 100)) (va_up (va_up (va_up R 4 (R 4)) 5 (R 5)) 6 (R 6)) RO (LL_23 ++ Y)) H := hP
        have hD : va_D A (CT cy a (va_up (va_up J 224 (J 224)) 225 (J 225)) (va_up (va_up I 10 w_69) 99 (I 99)) (va_up (va_up O 5 w_22) 100 (O 100)) (va_up (va_up (va_up R 4 (R 4)) 5 (R 5)) 6 (R 6)) RO (LL_23 ++ Y)) := hD
        refine W.widen (k := 14) (n := 68630) (Nat.le_of_ble_eq_true rfl) (Nat.le_of_ble_eq_true rfl) ?_
        exact wret_i hx hb hr hlocks ((va_up (va_up J 224 (J 224)) 225 (J 225)), (va_up (va_up I 10 w_69) 99 (I 99)), (va_up (va_up O 5 w_22) 100 (O 100)), (va_up (va_up (va_up R 4 (R 4)) 5 (R 5)) 6 (R 6)), RO, LL_23, Y) ⟨(J 224), (J 225), w_69, (I 99), w_22, (O 100), (R 4), (R 5), (R 6), LL_23, Y, ⟨(as_no (ag_2 c_13 c_25) (by decide)), (fun _ h => h), hL_24, hQ⟩, rfl⟩ hP hD hS dX9_step_36
  · replace c_13 := bI_f c_13
    refine lv_aload_n hx hb dX9_step_7 rfl (lv_at hl 0 rfl) ?_
    refine lv_ldc (v := (-100004)) hx hb hown hw6 dX9_step_8 ?_
    refine kM_i (As := [.int (-100004)]) (rest := []) (q0 := 0) ⟨hx, hb, hml, hown, hts⟩ (t_X9_finding l D cy a _ (va_up (va_up J 224 (J 224)) 225 (J 225)) (va_up (va_up I 10 (I 10)) 99 (I 99)) (va_up (va_up O 5 (O 5)) 100 (O 100)) (va_up (va_up (va_up R 4 (R 4)) 5 (R 5)) 6 (R 6)) RO LL Y ((-100004) : Int32)   ) (cwV 1 hts gX9_step_X9_finding rfl rfl rfl (by decide +kernel) ⟨Nat.le_of_ble_eq_true rfl, Nat.le_of_ble_eq_true rfl⟩) hK hN hP hD hS hA rfl rfl rfl hl.1 rfl (Nat.le_of_ble_eq_true rfl) dX9_step_10 ⟨Nat.le_of_ble_eq_true rfl, Nat.le_of_ble_eq_true rfl⟩ (fun r_70 u H locs hw hP hD hS => ?_)
    obtain ⟨w_71, rfl, rfl⟩ := hw
    have hP : va_P D vwCl (CT cy a (va_up (va_up J 224 (J 224)) 225 (J 225)) (va_up (va_up I 10 w_71) 99 (I 99)) (va_up (va_up O 5 (O 5)) 100 (O 100)) (va_up (va_up (va_up R 4 (R 4)) 5 (R 5)) 6 (R 6)) RO (LL ++ Y)) H := hP
    have hD : va_D A (CT cy a (va_up (va_up J 224 (J 224)) 225 (J 225)) (va_up (va_up I 10 w_71) 99 (I 99)) (va_up (va_up O 5 (O 5)) 100 (O 100)) (va_up (va_up (va_up R 4 (R 4)) 5 (R 5)) 6 (R 6)) RO (LL ++ Y)) := hD
    refine W.widen (k := 14) (n := 68630) (Nat.le_of_ble_eq_true rfl) (Nat.le_of_ble_eq_true rfl) ?_
    exact wret_i hx hb hr hlocks ((va_up (va_up J 224 (J 224)) 225 (J 225)), (va_up (va_up I 10 w_71) 99 (I 99)), (va_up (va_up O 5 (O 5)) 100 (O 100)), (va_up (va_up (va_up R 4 (R 4)) 5 (R 5)) 6 (R 6)), RO, LL, Y) ⟨(J 224), (J 225), w_71, (I 99), (O 5), (O 100), (R 4), (R 5), (R 6), LL, Y, ⟨(as_no (ag_0 c_13) (by decide)), (fun _ h => h), hL, hQ⟩, rfl⟩ hP hD hS dX9_step_13
