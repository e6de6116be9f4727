theorem dL_law_164 : decode cL_law 164 = .ok (.aload_n 1, 1) := by decide +kernel
theorem dL_law_165 : decode cL_law 165 = .ok (.aload_n 0, 1) := by decide +kernel
theorem dL_law_166 : decode cL_law 166 = .ok (.iload_n 3, 1) := by decide +kernel
theorem dL_law_167 : decode cL_law 167 = .ok (.iconst 1, 1) := by decide +kernel
theorem dL_law_168 : decode cL_law 168 = .ok (.iadd, 1) := by decide +kernel
theorem dL_law_169 : decode cL_law 169 = .ok (.iaload, 1) := by decide +kernel
theorem dL_law_170 : decode cL_law 170 = .ok (.aload_n 0, 1) := by decide +kernel
theorem dL_law_171 : decode cL_law 171 = .ok (.iload_n 3, 1) := by decide +kernel
theorem dL_law_172 : decode cL_law 172 = .ok (.iconst 2, 1) := by decide +kernel
theorem dL_law_173 : decode cL_law 173 = .ok (.iadd, 1) := by decide +kernel
theorem dL_law_174 : decode cL_law 174 = .ok (.iaload, 1) := by decide +kernel
theorem dL_law_175 : decode cL_law 175 = .ok (.invokevirtual 13, 3) := by decide +kernel
theorem dL_law_178 : decode cL_law 178 = .ok (.pop, 1) := by decide +kernel
theorem dL_law_179 : decode cL_law 179 = .ok (.aload_n 2, 1) := by decide +kernel
theorem dL_law_180 : decode cL_law 180 = .ok (.aload_n 0, 1) := by decide +kernel
theorem dL_law_181 : decode cL_law 181 = .ok (.iload_n 3, 1) := by decide +kernel
theorem dL_law_182 : decode cL_law 182 = .ok (.iconst 1, 1) := by decide +kernel
theorem dL_law_183 : decode cL_law 183 = .ok (.iadd, 1) := by decide +kernel
theorem dL_law_184 : decode cL_law 184 = .ok (.iaload, 1) := by decide +kernel
theorem dL_law_185 : decode cL_law 185 = .ok (.aload_n 0, 1) := by decide +kernel
theorem dL_law_186 : decode cL_law 186 = .ok (.iload_n 3, 1) := by decide +kernel
theorem dL_law_187 : decode cL_law 187 = .ok (.iconst 2, 1) := by decide +kernel
theorem dL_law_188 : decode cL_law 188 = .ok (.iadd, 1) := by decide +kernel
theorem dL_law_189 : decode cL_law 189 = .ok (.iaload, 1) := by decide +kernel
theorem dL_law_190 : decode cL_law 190 = .ok (.invokevirtual 17, 3) := by decide +kernel
theorem dL_law_193 : decode cL_law 193 = .ok (.pop, 1) := by decide +kernel
theorem dL_law_194 : decode cL_law 194 = .ok (.goto 841, 3) := by decide +kernel
set_option maxHeartbeats 4000000 in
set_option maxRecDepth 100000 in
theorem law_0 {p : Program} {e : Env} {s : State} {m : MethodId} {below : List Frame} {meth : Method} {c : Code} (l : Launch) {b L : Nat} {xs : Nat → Int32} {D : va_G} {cy : Nat → ClassId} (C0 : lawCtx p s m meth c b L xs D cy) (ax am : Nat → Nat) (k : Nat) (hk : 6 * k + 6 ≤ L) (hL384 : L ≤ 384) (Jm : Nat → Int64) (Im : Nat → Int32) (Rm : Nat → Nat → Int32) (RJm : Nat → Nat → Int64) (J : Nat → Int64) (I : Nat → Int32) (O : Nat → Option Nat) (R : Nat → Nat → Int32) (RO : Nat → Nat → Option Nat) (LL Y : va_W) (fl : Int64) (S : List Int32) (P : List PE) (Bs Zs : Nat → Int32) (Vs : Nat → Nat → Int32) (hMm : MI Im Rm) (hM : CI ax Y I O RO) (hLk : LOK cy (O 5) LL) (hQ6 : ∀ i, i < 81 → vp_in (R 6 i) 81) (hQ : Q64 (R 11)) (hF : Q64 (R 10)) (hAm : RMf (Jm 0) (Im 1) (Im 12) (Rm 1) (Rm 3) (Rm 4) (RJm 2) fl S P) (hSm : RMs (Rm 8) (Rm 9) (Rm 10) Bs Zs Vs) (hAc : RCf Y (J 6) (O 7) (I 9) (RO 2) fl S P) (hSc : RCs (I 385) (I 386) (R 13) (I 449) (I 450) (R 15) (I 513) (I 514) (R 17) (I 577) (I 578) (R 19) Bs Zs Vs) (hG : gAll fl S P) (kk : LK p l e s m below meth c b D cy ax am k (39 + 17 * (k + 1)) (18292 + 85786 * (k + 1)) 1035) (H : Heap) (locs : List Loc) (hP : va_P D vwCl (MW cy am Jm Im Rm RJm ++ CT cy ax J I O R RO (LL ++ Y)) H) (hD : va_D (fun q : Nat => s.heap.size ≤ q) (MW cy am Jm Im Rm RJm ++ CT cy ax J I O R RO (LL ++ Y))) (hS : va_S (fun q : Nat => s.heap.size ≤ q) s.heap H locs) (ls : Array Slot) (hl : lv_has ls 4 [(0, .ref b), (1, .ref (ax 0)), (2, .ref (am 0)), (3, .int (nI (6 * k)))]) : W p l e room_1 s m #[Value.ref b] below meth c H locs (39 + 17 * k) (18292 + 85786 * k) (lw_Z below #[Value.ref b] s) (F0 m 164 ls []) := by
  obtain ⟨⟨hx, hb, hr, hml, hown, hts, hX, hbl, hlocks, hgv⟩, hK, hN⟩ := C0
  have hown : s.vm.findClass RL = some m.cls := hown
  have hA : ∀ q : Nat, s.heap.size ≤ q → (fun q : Nat => s.heap.size ≤ q) q := fun _ h => h
  have hbA : ¬ (fun q : Nat => s.heap.size ≤ q) b := Nat.not_le.mpr hbl
  have hRO0 := hM.2.2.2.2.2.2.2.2.1
  have hRO1 := hM.2.2.2.2.2.2.2.2.2.1
  have hRO2 := hM.2.2.2.2.2.2.2.2.2.2.1
  have hRO3 := hM.2.2.2.2.2.2.2.2.2.2.2
  refine lv_aload_n hx hb dL_law_164 rfl (lv_at hl 1 rfl) ?_
  refine lv_aload_n hx hb dL_law_165 rfl (lv_at hl 0 rfl) ?_
  refine lv_iload_n hx hb dL_law_166 rfl (lv_at hl 3 rfl) ?_
  refine lv_iconst (v := 1) hx hb dL_law_167 (by decide) ?_
  refine lv_iadd hx hb dL_law_168 ?_
  refine wtop_i (y := nI (6 * k + 1)) (by rw [← nI_add]; rfl) ?_
  refine va_sld hx hb hX hbl hbA hS (vp_in_nI (show 6 * k + 1 < L by omega) (by omega)) dL_law_169 ?_
  refine wtop_i (y := xs (6 * k + 1)) (by rw [nI_clamp (show 6 * k + 1 < 2 ^ 31 by omega)]) ?_
  refine lv_aload_n hx hb dL_law_170 rfl (lv_at hl 0 rfl) ?_
  refine lv_iload_n hx hb dL_law_171 rfl (lv_at hl 3 rfl) ?_
  refine lv_iconst (v := 2) hx hb dL_law_172 (by decide) ?_
  refine lv_iadd hx hb dL_law_173 ?_
  refine wtop_i (y := nI (6 * k + 2)) (by rw [← nI_add]; rfl) ?_
  refine va_sld hx hb hX hbl hbA hS (vp_in_nI (show 6 * k + 2 < L by omega) (by omega)) dL_law_174 ?_
  refine wtop_i (y := xs (6 * k + 2)) (by rw [nI_clamp (show 6 * k + 2 < 2 ^ 31 by omega)]) ?_
  refine kX_i (As := [.int (xs (6 * k + 1)), .int (xs (6 * k + 2))]) (rest := []) (q0 := 0) ⟨hx, hb, hml, hown, hts⟩ (x_X9_row l D cy ax _ J I O R RO LL Y (xs (6 * k + 1)) (xs (6 * k + 2)) fl S P hAc ⟨hM.1, hM.2.1, hM.2.2.1, hM.2.2.2.1, hM.2.2.2.2.1, hM.2.2.2.2.2.1, hM.2.2.2.2.2.2.1, hM.2.2.2.2.2.2.2.1, hRO0, hRO1, hRO2, hRO3⟩ ) (cwV 2 hts gq_X9_row rfl rfl rfl (by decide +kernel) ⟨Nat.le_of_ble_eq_true rfl, Nat.le_of_ble_eq_true rfl⟩) hK hN hP hD hS hA rfl rfl rfl hl.1 rfl (Nat.le_of_ble_eq_true rfl) dL_law_175 ⟨(show 39 + 17 * k + 1 ≤ 600000 by omega), (show 18292 + 85786 * k + 3 ≤ 7302249 by omega)⟩ (fun r_1 u H locs hw hP hD hS => ?_)
  obtain ⟨w_2, w_3, w_4, w_5, w_6, Y_7, ⟨rfl, hi_8, hi_9, hi_10, hs_11, hp_12⟩, rfl⟩ := hw
  have hi_13 : chO Y_7 (O 7) := chO_mono hs_11 hM.2.1
  have hmono_14 : ∀ c, c ∈ Y → c ∈ Y_7 := fun c h => hs_11 c ((fun _ h => h) c h)
  have hP : va_P D vwCl (MW cy am Jm Im Rm RJm ++ CT cy ax (va_up J 6 w_2) (va_up (va_up I 9 w_3) 10 w_4) (va_up O 8 w_5) R (va_up RO 2 w_6) (LL ++ Y_7)) H := hP
  have hD : va_D (fun q : Nat => s.heap.size ≤ q) (MW cy am Jm Im Rm RJm ++ CT cy ax (va_up J 6 w_2) (va_up (va_up I 9 w_3) 10 w_4) (va_up O 8 w_5) R (va_up RO 2 w_6) (LL ++ Y_7)) := hD
  refine lv_pop hx hb dL_law_178 rfl ?_
  refine lv_aload_n hx hb dL_law_179 rfl (lv_at hl 2 rfl) ?_
  refine lv_aload_n hx hb dL_law_180 rfl (lv_at hl 0 rfl) ?_
  refine lv_iload_n hx hb dL_law_181 rfl (lv_at hl 3 rfl) ?_
  refine lv_iconst (v := 1) hx hb dL_law_182 (by decide) ?_
  refine lv_iadd hx hb dL_law_183 ?_
  refine wtop_i (y := nI (6 * k + 1)) (by rw [← nI_add]; rfl) ?_
  refine va_sld hx hb hX hbl hbA hS (vp_in_nI (show 6 * k + 1 < L by omega) (by omega)) dL_law_184 ?_
  refine wtop_i (y := xs (6 * k + 1)) (by rw [nI_clamp (show 6 * k + 1 < 2 ^ 31 by omega)]) ?_
  refine lv_aload_n hx hb dL_law_185 rfl (lv_at hl 0 rfl) ?_
  refine lv_iload_n hx hb dL_law_186 rfl (lv_at hl 3 rfl) ?_
  refine lv_iconst (v := 2) hx hb dL_law_187 (by decide) ?_
  refine lv_iadd hx hb dL_law_188 ?_
  refine wtop_i (y := nI (6 * k + 2)) (by rw [← nI_add]; rfl) ?_
  refine va_sld hx hb hX hbl hbA hS (vp_in_nI (show 6 * k + 2 < L by omega) (by omega)) dL_law_189 ?_
  refine wtop_i (y := xs (6 * k + 2)) (by rw [nI_clamp (show 6 * k + 2 < 2 ^ 31 by omega)]) ?_
  refine kV_i (As := [.int (xs (6 * k + 1)), .int (xs (6 * k + 2))]) (rest := []) (q0 := 0) ⟨hx, hb, hml, hown, hts⟩ (x_X10_row l D cy am _ Jm Im Rm RJm (xs (6 * k + 1)) (xs (6 * k + 2)) fl S P hAm ⟨hMm.1, hMm.2.1, hMm.2.2.1, hMm.2.2.2.1, hMm.2.2.2.2.1, hMm.2.2.2.2.2⟩) (cwV 2 hts gq_X10_row rfl rfl rfl (by decide +kernel) ⟨Nat.le_of_ble_eq_true rfl, Nat.le_of_ble_eq_true rfl⟩) hK hN hP hD hS hA rfl rfl rfl hl.1 rfl (Nat.le_of_ble_eq_true rfl) dL_law_190 ⟨(show 39 + 17 * k + 1 + 0 ≤ 600000 by omega), (show 18292 + 85786 * k + 3 + 0 ≤ 7302249 by omega)⟩ (fun r_15 u H locs hw hP hD hS => ?_)
  obtain ⟨w_16, w_17, w_18, w_19, w_20, w_21, w_22, w_23, w_24, w_25, ⟨rfl, hi_26, hi_27, hi_28, hi_29, hp_30⟩, rfl⟩ := hw
  have hP : va_P D vwCl (MW cy am (va_up Jm 0 w_16) (va_up (va_up (va_up Im 3 w_17) 12 w_18) 13 w_19) (va_up (va_up (va_up Rm 3 w_20) 4 w_21) 5 w_22) (va_up (va_up (va_up RJm 2 w_23) 6 w_24) 7 w_25) ++ CT cy ax (va_up J 6 w_2) (va_up (va_up I 9 w_3) 10 w_4) (va_up O 8 w_5) R (va_up RO 2 w_6) (LL ++ Y_7)) H := hP
  have hD : va_D (fun q : Nat => s.heap.size ≤ q) (MW cy am (va_up Jm 0 w_16) (va_up (va_up (va_up Im 3 w_17) 12 w_18) 13 w_19) (va_up (va_up (va_up Rm 3 w_20) 4 w_21) 5 w_22) (va_up (va_up (va_up RJm 2 w_23) 6 w_24) 7 w_25) ++ CT cy ax (va_up J 6 w_2) (va_up (va_up I 9 w_3) 10 w_4) (va_up O 8 w_5) R (va_up RO 2 w_6) (LL ++ Y_7)) := hD
  refine lv_pop hx hb dL_law_193 rfl ?_
  refine lv_goto (tgt := 1035) hx hb dL_law_194 (by decide) ?_
  refine W.widen (k := 39 + 17 * (k + 1)) (n := 18292 + 85786 * (k + 1)) (show 39 + 17 * k + 1 + 0 ≤ _ by omega) (show 18292 + 85786 * k + 3 + 0 ≤ _ by omega) ?_
  exact kk (va_up Jm 0 w_16) (va_up (va_up (va_up Im 3 w_17) 12 w_18) 13 w_19) (va_up (va_up (va_up Rm 3 w_20) 4 w_21) 5 w_22) (va_up (va_up (va_up RJm 2 w_23) 6 w_24) 7 w_25) (va_up J 6 w_2) (va_up (va_up I 9 w_3) 10 w_4) (va_up O 8 w_5) R (va_up RO 2 w_6) LL Y_7 _ _ _ _ _ _ ⟨hMm.1, hi_26, hi_27, hi_28, hi_29, hMm.2.2.2.2.2⟩ ⟨hi_8, hi_13, hi_9, hi_10, hM.2.2.2.2.1, hM.2.2.2.2.2.1, hM.2.2.2.2.2.2.1, hM.2.2.2.2.2.2.2.1, hRO0, hRO1, hRO2, hRO3⟩ hLk hQ6 hQ hF hp_30 hSm hp_12 hSc (gAll_row hG) _ _ hP hD hS ls (lv_sub hl [0, 1, 2, 3] rfl)
theorem dL_law_197 : decode cL_law 197 = .ok (.aload_n 1, 1) := by decide +kernel
theorem dL_law_198 : decode cL_law 198 = .ok (.aload_n 0, 1) := by decide +kernel
theorem dL_law_199 : decode cL_law 199 = .ok (.iload_n 3, 1) := by decide +kernel
theorem dL_law_200 : decode cL_law 200 = .ok (.iconst 1, 1) := by decide +kernel
theorem dL_law_201 : decode cL_law 201 = .ok (.iadd, 1) := by decide +kernel
theorem dL_law_202 : decode cL_law 202 = .ok (.iaload, 1) := by decide +kernel
theorem dL_law_203 : decode cL_law 203 = .ok (.invokevirtual 18, 3) := by decide +kernel
theorem dL_law_206 : decode cL_law 206 = .ok (.pop, 1) := by decide +kernel
theorem dL_law_207 : decode cL_law 207 = .ok (.aload_n 2, 1) := by decide +kernel
theorem dL_law_208 : decode cL_law 208 = .ok (.aload_n 0, 1) := by decide +kernel
theorem dL_law_209 : decode cL_law 209 = .ok (.iload_n 3, 1) := by decide +kernel
theorem dL_law_210 : decode cL_law 210 = .ok (.iconst 1, 1) := by decide +kernel
theorem dL_law_211 : decode cL_law 211 = .ok (.iadd, 1) := by decide +kernel
theorem dL_law_212 : decode cL_law 212 = .ok (.iaload, 1) := by decide +kernel
theorem dL_law_213 : decode cL_law 213 = .ok (.invokevirtual 22, 3) := by decide +kernel
theorem dL_law_216 : decode cL_law 216 = .ok (.pop, 1) := by decide +kernel
theorem dL_law_217 : decode cL_law 217 = .ok (.goto 818, 3) := by decide +kernel
set_option maxHeartbeats 4000000 in
set_option maxRecDepth 100000 in
theorem law_1 {p : Program} {e : Env} {s : State} {m : MethodId} {below : List Frame} {meth : Method} {c : Code} (l : Launch) {b L : Nat} {xs : Nat → Int32} {D : va_G} {cy : Nat → ClassId} (C0 : lawCtx p s m meth c b L xs D cy) (ax am : Nat → Nat) (k : Nat) (hk : 6 * k + 6 ≤ L) (hL384 : L ≤ 384) (Jm : Nat → Int64) (Im : Nat → Int32) (Rm : Nat → Nat → Int32) (RJm : Nat → Nat → Int64) (J : Nat → Int64) (I : Nat → Int32) (O : Nat → Option Nat) (R : Nat → Nat → Int32) (RO : Nat → Nat → Option Nat) (LL Y : va_W) (fl : Int64) (S : List Int32) (P : List PE) (Bs Zs : Nat → Int32) (Vs : Nat → Nat → Int32) (hMm : MI Im Rm) (hM : CI ax Y I O RO) (hLk : LOK cy (O 5) LL) (hQ6 : ∀ i, i < 81 → vp_in (R 6 i) 81) (hQ : Q64 (R 11)) (hF : Q64 (R 10)) (hAm : RMf (Jm 0) (Im 1) (Im 12) (Rm 1) (Rm 3) (Rm 4) (RJm 2) fl S P) (hSm : RMs (Rm 8) (Rm 9) (Rm 10) Bs Zs Vs) (hAc : RCf Y (J 6) (O 7) (I 9) (RO 2) fl S P) (hSc : RCs (I 385) (I 386) (R 13) (I 449) (I 450) (R 15) (I 513) (I 514) (R 17) (I 577) (I 578) (R 19) Bs Zs Vs) (hG : gAll fl S P) (kk : LK p l e s m below meth c b D cy ax am k (39 + 17 * (k + 1)) (18292 + 85786 * (k + 1)) 1035) (H : Heap) (locs : List Loc) (hP : va_P D vwCl (MW cy am Jm Im Rm RJm ++ CT cy ax J I O R RO (LL ++ Y)) H) (hD : va_D (fun q : Nat => s.heap.size ≤ q) (MW cy am Jm Im Rm RJm ++ CT cy ax J I O R RO (LL ++ Y))) (hS : va_S (fun q : Nat => s.heap.size ≤ q) s.heap H locs) (ls : Array Slot) (hl : lv_has ls 4 [(0, .ref b), (1, .ref (ax 0)), (2, .ref (am 0)), (3, .int (nI (6 * k)))]) : W p l e room_1 s m #[Value.ref b] below meth c H locs (39 + 17 * k) (18292 + 85786 * k) (lw_Z below #[Value.ref b] s) (F0 m 197 ls []) := by
  obtain ⟨⟨hx, hb, hr, hml, hown, hts, hX, hbl, hlocks, hgv⟩, hK, hN⟩ := C0
  have hown : s.vm.findClass RL = some m.cls := hown
  have hA : ∀ q : Nat, s.heap.size ≤ q → (fun q : Nat => s.heap.size ≤ q) q := fun _ h => h
  have hbA : ¬ (fun q : Nat => s.heap.size ≤ q) b := Nat.not_le.mpr hbl
  have hRO0 := hM.2.2.2.2.2.2.2.2.1
  have hRO1 := hM.2.2.2.2.2.2.2.2.2.1
  have hRO2 := hM.2.2.2.2.2.2.2.2.2.2.1
  have hRO3 := hM.2.2.2.2.2.2.2.2.2.2.2
  refine lv_aload_n hx hb dL_law_197 rfl (lv_at hl 1 rfl) ?_
  refine lv_aload_n hx hb dL_law_198 rfl (lv_at hl 0 rfl) ?_
  refine lv_iload_n hx hb dL_law_199 rfl (lv_at hl 3 rfl) ?_
  refine lv_iconst (v := 1) hx hb dL_law_200 (by decide) ?_
  refine lv_iadd hx hb dL_law_201 ?_
  refine wtop_i (y := nI (6 * k + 1)) (by rw [← nI_add]; rfl) ?_
  refine va_sld hx hb hX hbl hbA hS (vp_in_nI (show 6 * k + 1 < L by omega) (by omega)) dL_law_202 ?_
  refine wtop_i (y := xs (6 * k + 1)) (by rw [nI_clamp (show 6 * k + 1 < 2 ^ 31 by omega)]) ?_
  refine kX_i (As := [.int (xs (6 * k + 1))]) (rest := []) (q0 := 0) ⟨hx, hb, hml, hown, hts⟩ (x_X9_has l D cy ax _ J I O R RO LL Y (xs (6 * k + 1)) fl S P hAc  ) (cwV 1 hts gq_X9_has rfl rfl rfl (by decide +kernel) ⟨Nat.le_of_ble_eq_true rfl, Nat.le_of_ble_eq_true rfl⟩) hK hN hP hD hS hA rfl rfl rfl hl.1 rfl (Nat.le_of_ble_eq_true rfl) dL_law_203 ⟨(show 39 + 17 * k + 0 ≤ 600000 by omega), (show 18292 + 85786 * k + 0 ≤ 7302249 by omega)⟩ (fun r_1 u H locs hw hP hD hS => ?_)
  obtain ⟨w_2, ⟨rfl, hp_3⟩, rfl⟩ := hw
  have hP : va_P D vwCl (MW cy am Jm Im Rm RJm ++ CT cy ax J (va_up I 10 w_2) O R RO (LL ++ Y)) H := hP
  have hD : va_D (fun q : Nat => s.heap.size ≤ q) (MW cy am Jm Im Rm RJm ++ CT cy ax J (va_up I 10 w_2) O R RO (LL ++ Y)) := hD
  refine lv_pop hx hb dL_law_206 rfl ?_
  refine lv_aload_n hx hb dL_law_207 rfl (lv_at hl 2 rfl) ?_
  refine lv_aload_n hx hb dL_law_208 rfl (lv_at hl 0 rfl) ?_
  refine lv_iload_n hx hb dL_law_209 rfl (lv_at hl 3 rfl) ?_
  refine lv_iconst (v := 1) hx hb dL_law_210 (by decide) ?_
  refine lv_iadd hx hb dL_law_211 ?_
  refine wtop_i (y := nI (6 * k + 1)) (by rw [← nI_add]; rfl) ?_
  refine va_sld hx hb hX hbl hbA hS (vp_in_nI (show 6 * k + 1 < L by omega) (by omega)) dL_law_212 ?_
  refine wtop_i (y := xs (6 * k + 1)) (by rw [nI_clamp (show 6 * k + 1 < 2 ^ 31 by omega)]) ?_
  refine kV_i (As := [.int (xs (6 * k + 1))]) (rest := []) (q0 := 0) ⟨hx, hb, hml, hown, hts⟩ (x_X10_has l D cy am _ Jm Im Rm RJm (xs (6 * k + 1)) fl S P hAm ⟨hMm.1, hMm.2.1, hMm.2.2.1, hMm.2.2.2.1, hMm.2.2.2.2.1, hMm.2.2.2.2.2⟩) (cwV 1 hts gq_X10_has rfl rfl rfl (by decide +kernel) ⟨Nat.le_of_ble_eq_true rfl, Nat.le_of_ble_eq_true rfl⟩) hK hN hP hD hS hA rfl rfl rfl hl.1 rfl (Nat.le_of_ble_eq_true rfl) dL_law_213 ⟨(show 39 + 17 * k + 0 + 0 ≤ 600000 by omega), (show 18292 + 85786 * k + 0 + 0 ≤ 7302249 by omega)⟩ (fun r_4 u H locs hw hP hD hS => ?_)
  obtain ⟨w_5, ⟨rfl, hp_6⟩, rfl⟩ := hw
  have hP : va_P D vwCl (MW cy am Jm (va_up Im 13 w_5) Rm RJm ++ CT cy ax J (va_up I 10 w_2) O R RO (LL ++ Y)) H := hP
  have hD : va_D (fun q : Nat => s.heap.size ≤ q) (MW cy am Jm (va_up Im 13 w_5) Rm RJm ++ CT cy ax J (va_up I 10 w_2) O R RO (LL ++ Y)) := hD
  refine lv_pop hx hb dL_law_216 rfl ?_
  refine lv_goto (tgt := 1035) hx hb dL_law_217 (by decide) ?_
  refine W.widen (k := 39 + 17 * (k + 1)) (n := 18292 + 85786 * (k + 1)) (show 39 + 17 * k + 0 + 0 ≤ _ by omega) (show 18292 + 85786 * k + 0 + 0 ≤ _ by omega) ?_
  exact kk Jm (va_up Im 13 w_5) Rm RJm J (va_up I 10 w_2) O R RO LL Y _ _ _ _ _ _ ⟨hMm.1, hMm.2.1, hMm.2.2.1, hMm.2.2.2.1, hMm.2.2.2.2.1, hMm.2.2.2.2.2⟩ ⟨hM.1, hM.2.1, hM.2.2.1, hM.2.2.2.1, hM.2.2.2.2.1, hM.2.2.2.2.2.1, hM.2.2.2.2.2.2.1, hM.2.2.2.2.2.2.2.1, hRO0, hRO1, hRO2, hRO3⟩ hLk hQ6 hQ hF hp_6 hSm hp_3 hSc hG _ _ hP hD hS ls (lv_sub hl [0, 1, 2, 3] rfl)
theorem dL_law_220 : decode cL_law 220 = .ok (.aload_n 1, 1) := by decide +kernel
theorem dL_law_221 : decode cL_law 221 = .ok (.aload_n 0, 1) := by decide +kernel
theorem dL_law_222 : decode cL_law 222 = .ok (.iload_n 3, 1) := by decide +kernel
theorem dL_law_223 : decode cL_law 223 = .ok (.iconst 1, 1) := by decide +kernel
theorem dL_law_224 : decode cL_law 224 = .ok (.iadd, 1) := by decide +kernel
theorem dL_law_225 : decode cL_law 225 = .ok (.iaload, 1) := by decide +kernel
theorem dL_law_226 : decode cL_law 226 = .ok (.invokevirtual 23, 3) := by decide +kernel
theorem dL_law_229 : decode cL_law 229 = .ok (.pop, 1) := by decide +kernel
theorem dL_law_230 : decode cL_law 230 = .ok (.aload_n 2, 1) := by decide +kernel
theorem dL_law_231 : decode cL_law 231 = .ok (.aload_n 0, 1) := by decide +kernel
theorem dL_law_232 : decode cL_law 232 = .ok (.iload_n 3, 1) := by decide +kernel
theorem dL_law_233 : decode cL_law 233 = .ok (.iconst 1, 1) := by decide +kernel
theorem dL_law_234 : decode cL_law 234 = .ok (.iadd, 1) := by decide +kernel
theorem dL_law_235 : decode cL_law 235 = .ok (.iaload, 1) := by decide +kernel
theorem dL_law_236 : decode cL_law 236 = .ok (.invokevirtual 26, 3) := by decide +kernel
theorem dL_law_239 : decode cL_law 239 = .ok (.pop, 1) := by decide +kernel
theorem dL_law_240 : decode cL_law 240 = .ok (.goto 795, 3) := by decide +kernel
set_option maxHeartbeats 4000000 in
set_option maxRecDepth 100000 in
theorem law_2 {p : Program} {e : Env} {s : State} {m : MethodId} {below : List Frame} {meth : Method} {c : Code} (l : Launch) {b L : Nat} {xs : Nat → Int32} {D : va_G} {cy : Nat → ClassId} (C0 : lawCtx p s m meth c b L xs D cy) (ax am : Nat → Nat) (k : Nat) (hk : 6 * k + 6 ≤ L) (hL384 : L ≤ 384) (Jm : Nat → Int64) (Im : Nat → Int32) (Rm : Nat → Nat → Int32) (RJm : Nat → Nat → Int64) (J : Nat → Int64) (I : Nat → Int32) (O : Nat → Option Nat) (R : Nat → Nat → Int32) (RO : Nat → Nat → Option Nat) (LL Y : va_W) (fl : Int64) (S : List Int32) (P : List PE) (Bs Zs : Nat → Int32) (Vs : Nat → Nat → Int32) (hMm : MI Im Rm) (hM : CI ax Y I O RO) (hLk : LOK cy (O 5) LL) (hQ6 : ∀ i, i < 81 → vp_in (R 6 i) 81) (hQ : Q64 (R 11)) (hF : Q64 (R 10)) (hAm : RMf (Jm 0) (Im 1) (Im 12) (Rm 1) (Rm 3) (Rm 4) (RJm 2) fl S P) (hSm : RMs (Rm 8) (Rm 9) (Rm 10) Bs Zs Vs) (hAc : RCf Y (J 6) (O 7) (I 9) (RO 2) fl S P) (hSc : RCs (I 385) (I 386) (R 13) (I 449) (I 450) (R 15) (I 513) (I 514) (R 17) (I 577) (I 578) (R 19) Bs Zs Vs) (hG : gAll fl S P) (kk : LK p l e s m below meth c b D cy ax am k (39 + 17 * (k + 1)) (18292 + 85786 * (k + 1)) 1035) (H : Heap) (locs : List Loc) (hP : va_P D vwCl (MW cy am Jm Im Rm RJm ++ CT cy ax J I O R RO (LL ++ Y)) H) (hD : va_D (fun q : Nat => s.heap.size ≤ q) (MW cy am Jm Im Rm RJm ++ CT cy ax J I O R RO (LL ++ Y))) (hS : va_S (fun q : Nat => s.heap.size ≤ q) s.heap H locs) (ls : Array Slot) (hl : lv_has ls 4 [(0, .ref b), (1, .ref (ax 0)), (2, .ref (am 0)), (3, .int (nI (6 * k)))]) : W p l e room_1 s m #[Value.ref b] below meth c H locs (39 + 17 * k) (18292 + 85786 * k) (lw_Z below #[Value.ref b] s) (F0 m 220 ls []) := by
  obtain ⟨⟨hx, hb, hr, hml, hown, hts, hX, hbl, hlocks, hgv⟩, hK, hN⟩ := C0
  have hown : s.vm.findClass RL = some m.cls := hown
  have hA : ∀ q : Nat, s.heap.size ≤ q → (fun q : Nat => s.heap.size ≤ q) q := fun _ h => h
  have hbA : ¬ (fun q : Nat => s.heap.size ≤ q) b := Nat.not_le.mpr hbl
  have hRO0 := hM.2.2.2.2.2.2.2.2.1
  have hRO1 := hM.2.2.2.2.2.2.2.2.2.1
  have hRO2 := hM.2.2.2.2.2.2.2.2.2.2.1
  have hRO3 := hM.2.2.2.2.2.2.2.2.2.2.2
  refine lv_aload_n hx hb dL_law_220 rfl (lv_at hl 1 rfl) ?_
  refine lv_aload_n hx hb dL_law_221 rfl (lv_at hl 0 rfl) ?_
  refine lv_iload_n hx hb dL_law_222 rfl (lv_at hl 3 rfl) ?_
  refine lv_iconst (v := 1) hx hb dL_law_223 (by decide) ?_
  refine lv_iadd hx hb dL_law_224 ?_
  refine wtop_i (y := nI (6 * k + 1)) (by rw [← nI_add]; rfl) ?_
  refine va_sld hx hb hX hbl hbA hS (vp_in_nI (show 6 * k + 1 < L by omega) (by omega)) dL_law_225 ?_
  refine wtop_i (y := xs (6 * k + 1)) (by rw [nI_clamp (show 6 * k + 1 < 2 ^ 31 by omega)]) ?_
  refine kX_i (As := [.int (xs (6 * k + 1))]) (rest := []) (q0 := 0) ⟨hx, hb, hml, hown, hts⟩ (t_X9_floor l D cy ax _ J I O R RO LL Y (xs (6 * k + 1))  ⟨hM.1, hM.2.1, hM.2.2.1, hM.2.2.2.1, hM.2.2.2.2.1, hM.2.2.2.2.2.1, hM.2.2.2.2.2.2.1, hM.2.2.2.2.2.2.2.1, hRO0, hRO1, hRO2, hRO3⟩ ) (cwV 1 hts gq_X9_floor rfl rfl rfl (by decide +kernel) ⟨Nat.le_of_ble_eq_true rfl, Nat.le_of_ble_eq_true rfl⟩) hK hN hP hD hS hA rfl rfl rfl hl.1 rfl (Nat.le_of_ble_eq_true rfl) dL_law_226 ⟨(show 39 + 17 * k + 0 ≤ 600000 by omega), (show 18292 + 85786 * k + 0 ≤ 7302249 by omega)⟩ (fun r_1 u H locs hw hP hD hS => ?_)
  obtain ⟨w_2, -, rfl⟩ := hw
  have hP : va_P D vwCl (MW cy am Jm Im Rm RJm ++ CT cy ax J (va_up I 10 w_2) O R RO (LL ++ Y)) H := hP
  have hD : va_D (fun q : Nat => s.heap.size ≤ q) (MW cy am Jm Im Rm RJm ++ CT cy ax J (va_up I 10 w_2) O R RO (LL ++ Y)) := hD
  refine lv_pop hx hb dL_law_229 rfl ?_
  refine lv_aload_n hx hb dL_law_230 rfl (lv_at hl 2 rfl) ?_
  refine lv_aload_n hx hb dL_law_231 rfl (lv_at hl 0 rfl) ?_
  refine lv_iload_n hx hb dL_law_232 rfl (lv_at hl 3 rfl) ?_
  refine lv_iconst (v := 1) hx hb dL_law_233 (by decide) ?_
  refine lv_iadd hx hb dL_law_234 ?_
  refine wtop_i (y := nI (6 * k + 1)) (by rw [← nI_add]; rfl) ?_
  refine va_sld hx hb hX hbl hbA hS (vp_in_nI (show 6 * k + 1 < L by omega) (by omega)) dL_law_235 ?_
  refine wtop_i (y := xs (6 * k + 1)) (by rw [nI_clamp (show 6 * k + 1 < 2 ^ 31 by omega)]) ?_
  refine kV_i (As := [.int (xs (6 * k + 1))]) (rest := []) (q0 := 0) ⟨hx, hb, hml, hown, hts⟩ (t_X10_floor l D cy am _ Jm Im Rm RJm (xs (6 * k + 1))  ⟨hMm.1, hMm.2.1, hMm.2.2.1, hMm.2.2.2.1, hMm.2.2.2.2.1, hMm.2.2.2.2.2⟩) (cwV 1 hts gq_X10_floor rfl rfl rfl (by decide +kernel) ⟨Nat.le_of_ble_eq_true rfl, Nat.le_of_ble_eq_true rfl⟩) hK hN hP hD hS hA rfl rfl rfl hl.1 rfl (Nat.le_of_ble_eq_true rfl) dL_law_236 ⟨(show 39 + 17 * k + 0 + 0 ≤ 600000 by omega), (show 18292 + 85786 * k + 0 + 0 ≤ 7302249 by omega)⟩ (fun r_3 u H locs hw hP hD hS => ?_)
  obtain ⟨w_4, w_5, -, rfl⟩ := hw
  have hP : va_P D vwCl (MW cy am Jm (va_up Im 13 w_4) (va_up Rm 11 w_5) RJm ++ CT cy ax J (va_up I 10 w_2) O R RO (LL ++ Y)) H := hP
  have hD : va_D (fun q : Nat => s.heap.size ≤ q) (MW cy am Jm (va_up Im 13 w_4) (va_up Rm 11 w_5) RJm ++ CT cy ax J (va_up I 10 w_2) O R RO (LL ++ Y)) := hD
  refine lv_pop hx hb dL_law_239 rfl ?_
  refine lv_goto (tgt := 1035) hx hb dL_law_240 (by decide) ?_
  refine W.widen (k := 39 + 17 * (k + 1)) (n := 18292 + 85786 * (k + 1)) (show 39 + 17 * k + 0 + 0 ≤ _ by omega) (show 18292 + 85786 * k + 0 + 0 ≤ _ by omega) ?_
  exact kk Jm (va_up Im 13 w_4) (va_up Rm 11 w_5) RJm J (va_up I 10 w_2) O R RO LL Y _ _ _ _ _ _ ⟨hMm.1, hMm.2.1, hMm.2.2.1, hMm.2.2.2.1, hMm.2.2.2.2.1, hMm.2.2.2.2.2⟩ ⟨hM.1, hM.2.1, hM.2.2.1, hM.2.2.2.1, hM.2.2.2.2.1, hM.2.2.2.2.2.1, hM.2.2.2.2.2.2.1, hM.2.2.2.2.2.2.2.1, hRO0, hRO1, hRO2, hRO3⟩ hLk hQ6 hQ hF hAm hSm hAc hSc hG _ _ hP hD hS ls (lv_sub hl [0, 1, 2, 3] rfl)
theorem dL_law_243 : decode cL_law 243 = .ok (.aload_n 1, 1) := by decide +kernel
theorem dL_law_244 : decode cL_law 244 = .ok (.aload_n 0, 1) := by decide +kernel
theorem dL_law_245 : decode cL_law 245 = .ok (.iload_n 3, 1) := by decide +kernel
theorem dL_law_246 : decode cL_law 246 = .ok (.iconst 1, 1) := by decide +kernel
theorem dL_law_247 : decode cL_law 247 = .ok (.iadd, 1) := by decide +kernel
theorem dL_law_248 : decode cL_law 248 = .ok (.iaload, 1) := by decide +kernel
theorem dL_law_249 : decode cL_law 249 = .ok (.aload_n 0, 1) := by decide +kernel
theorem dL_law_250 : decode cL_law 250 = .ok (.iload_n 3, 1) := by decide +kernel
theorem dL_law_251 : decode cL_law 251 = .ok (.iconst 2, 1) := by decide +kernel
theorem dL_law_252 : decode cL_law 252 = .ok (.iadd, 1) := by decide +kernel
theorem dL_law_253 : decode cL_law 253 = .ok (.iaload, 1) := by decide +kernel
theorem dL_law_254 : decode cL_law 254 = .ok (.aload_n 0, 1) := by decide +kernel
theorem dL_law_255 : decode cL_law 255 = .ok (.iload_n 3, 1) := by decide +kernel
theorem dL_law_256 : decode cL_law 256 = .ok (.iconst 3, 1) := by decide +kernel
theorem dL_law_257 : decode cL_law 257 = .ok (.iadd, 1) := by decide +kernel
theorem dL_law_258 : decode cL_law 258 = .ok (.iaload, 1) := by decide +kernel
theorem dL_law_259 : decode cL_law 259 = .ok (.ifCond .eq 7, 3) := by decide +kernel
theorem dL_law_266 : decode cL_law 266 = .ok (.iconst 0, 1) := by decide +kernel
theorem dL_law_267 : decode cL_law 267 = .ok (.aload_n 0, 1) := by decide +kernel
theorem dL_law_268 : decode cL_law 268 = .ok (.iload_n 3, 1) := by decide +kernel
theorem dL_law_269 : decode cL_law 269 = .ok (.iconst 4, 1) := by decide +kernel
theorem dL_law_270 : decode cL_law 270 = .ok (.iadd, 1) := by decide +kernel
theorem dL_law_271 : decode cL_law 271 = .ok (.iaload, 1) := by decide +kernel
theorem dL_law_272 : decode cL_law 272 = .ok (.invokevirtual 27, 3) := by decide +kernel
theorem dL_law_275 : decode cL_law 275 = .ok (.pop, 1) := by decide +kernel
theorem dL_law_276 : decode cL_law 276 = .ok (.aload_n 2, 1) := by decide +kernel
theorem dL_law_277 : decode cL_law 277 = .ok (.aload_n 0, 1) := by decide +kernel
theorem dL_law_278 : decode cL_law 278 = .ok (.iload_n 3, 1) := by decide +kernel
theorem dL_law_279 : decode cL_law 279 = .ok (.iconst 1, 1) := by decide +kernel
theorem dL_law_280 : decode cL_law 280 = .ok (.iadd, 1) := by decide +kernel
theorem dL_law_281 : decode cL_law 281 = .ok (.iaload, 1) := by decide +kernel
theorem dL_law_282 : decode cL_law 282 = .ok (.aload_n 0, 1) := by decide +kernel
theorem dL_law_283 : decode cL_law 283 = .ok (.iload_n 3, 1) := by decide +kernel
theorem dL_law_284 : decode cL_law 284 = .ok (.iconst 2, 1) := by decide +kernel
theorem dL_law_285 : decode cL_law 285 = .ok (.iadd, 1) := by decide +kernel
theorem dL_law_286 : decode cL_law 286 = .ok (.iaload, 1) := by decide +kernel
theorem dL_law_287 : decode cL_law 287 = .ok (.aload_n 0, 1) := by decide +kernel
theorem dL_law_288 : decode cL_law 288 = .ok (.iload_n 3, 1) := by decide +kernel
theorem dL_law_289 : decode cL_law 289 = .ok (.iconst 3, 1) := by decide +kernel
theorem dL_law_290 : decode cL_law 290 = .ok (.iadd, 1) := by decide +kernel
theorem dL_law_291 : decode cL_law 291 = .ok (.iaload, 1) := by decide +kernel
theorem dL_law_292 : decode cL_law 292 = .ok (.ifCond .eq 7, 3) := by decide +kernel
theorem dL_law_299 : decode cL_law 299 = .ok (.iconst 0, 1) := by decide +kernel
theorem dL_law_300 : decode cL_law 300 = .ok (.aload_n 0, 1) := by decide +kernel
theorem dL_law_301 : decode cL_law 301 = .ok (.iload_n 3, 1) := by decide +kernel
theorem dL_law_302 : decode cL_law 302 = .ok (.iconst 4, 1) := by decide +kernel
theorem dL_law_303 : decode cL_law 303 = .ok (.iadd, 1) := by decide +kernel
theorem dL_law_304 : decode cL_law 304 = .ok (.iaload, 1) := by decide +kernel
theorem dL_law_305 : decode cL_law 305 = .ok (.invokevirtual 31, 3) := by decide +kernel
theorem dL_law_308 : decode cL_law 308 = .ok (.pop, 1) := by decide +kernel
theorem dL_law_309 : decode cL_law 309 = .ok (.goto 726, 3) := by decide +kernel
theorem dL_law_262 : decode cL_law 262 = .ok (.iconst 1, 1) := by decide +kernel
theorem dL_law_263 : decode cL_law 263 = .ok (.goto 4, 3) := by decide +kernel
theorem dL_law_295 : decode cL_law 295 = .ok (.iconst 1, 1) := by decide +kernel
theorem dL_law_296 : decode cL_law 296 = .ok (.goto 4, 3) := by decide +kernel
set_option maxHeartbeats 4000000 in
set_option maxRecDepth 100000 in
theorem law_3 {p : Program} {e : Env} {s : State} {m : MethodId} {below : List Frame} {meth : Method} {c : Code} (l : Launch) {b L : Nat} {xs : Nat → Int32} {D : va_G} {cy : Nat → ClassId} (C0 : lawCtx p s m meth c b L xs D cy) (ax am : Nat → Nat) (k : Nat) (hk : 6 * k + 6 ≤ L) (hL384 : L ≤ 384) (Jm : Nat → Int64) (Im : Nat → Int32) (Rm : Nat → Nat → Int32) (RJm : Nat → Nat → Int64) (J : Nat → Int64) (I : Nat → Int32) (O : Nat → Option Nat) (R : Nat → Nat → Int32) (RO : Nat → Nat → Option Nat) (LL Y : va_W) (fl : Int64) (S : List Int32) (P : List PE) (Bs Zs : Nat → Int32) (Vs : Nat → Nat → Int32) (hMm : MI Im Rm) (hM : CI ax Y I O RO) (hLk : LOK cy (O 5) LL) (hQ6 : ∀ i, i < 81 → vp_in (R 6 i) 81) (hQ : Q64 (R 11)) (hF : Q64 (R 10)) (hAm : RMf (Jm 0) (Im 1) (Im 12) (Rm 1) (Rm 3) (Rm 4) (RJm 2) fl S P) (hSm : RMs (Rm 8) (Rm 9) (Rm 10) Bs Zs Vs) (hAc : RCf Y (J 6) (O 7) (I 9) (RO 2) fl S P) (hSc : RCs (I 385) (I 386) (R 13) (I 449) (I 450) (R 15) (I 513) (I 514) (R 17) (I 577) (I 578) (R 19) Bs Zs Vs) (hG : gAll fl S P) (kk : LK p l e s m below meth c b D cy ax am k (39 + 17 * (k + 1)) (18292 + 85786 * (k + 1)) 1035) (H : Heap) (locs : List Loc) (hP : va_P D vwCl (MW cy am Jm Im Rm RJm ++ CT cy ax J I O R RO (LL ++ Y)) H) (hD : va_D (fun q : Nat => s.heap.size ≤ q) (MW cy am Jm Im Rm RJm ++ CT cy ax J I O R RO (LL ++ Y))) (hS : va_S (fun q : Nat => s.heap.size ≤ q) s.heap H locs) (ls : Array Slot) (hl : lv_has ls 4 [(0, .ref b), (1, .ref (ax 0)), (2, .ref (am 0)), (3, .int (nI (6 * k)))]) : W p l e room_1 s m #[Value.ref b] below meth c H locs (39 + 17 * k) (18292 + 85786 * k) (lw_Z below #[Value.ref b] s) (F0 m 243 ls []) := by
  obtain ⟨⟨hx, hb, hr, hml, hown, hts, hX, hbl, hlocks, hgv⟩, hK, hN⟩ := C0
  have hown : s.vm.findClass RL = some m.cls := hown
  have hA : ∀ q : Nat, s.heap.size ≤ q → (fun q : Nat => s.heap.size ≤ q) q := fun _ h => h
  have hbA : ¬ (fun q : Nat => s.heap.size ≤ q) b := Nat.not_le.mpr hbl
  have hRO0 := hM.2.2.2.2.2.2.2.2.1
  have hRO1 := hM.2.2.2.2.2.2.2.2.2.1
  have hRO2 := hM.2.2.2.2.2.2.2.2.2.2.1
  have hRO3 := hM.2.2.2.2.2.2.2.2.2.2.2
  refine lv_aload_n hx hb dL_law_243 rfl (lv_at hl 1 rfl) ?_
  refine lv_aload_n hx hb dL_law_244 rfl (lv_at hl 0 rfl) ?_
  refine lv_iload_n hx hb dL_law_245 rfl (lv_at hl 3 rfl) ?_
  refine lv_iconst (v := 1) hx hb dL_law_246 (by decide) ?_
  refine lv_iadd hx hb dL_law_247 ?_
  refine wtop_i (y := nI (6 * k + 1)) (by rw [← nI_add]; rfl) ?_
  refine va_sld hx hb hX hbl hbA hS (vp_in_nI (show 6 * k + 1 < L by omega) (by omega)) dL_law_248 ?_
  refine wtop_i (y := xs (6 * k + 1)) (by rw [nI_clamp (show 6 * k + 1 < 2 ^ 31 by omega)]) ?_
  refine lv_aload_n hx hb dL_law_249 rfl (lv_at hl 0 rfl) ?_
  refine lv_iload_n hx hb dL_law_250 rfl (lv_at hl 3 rfl) ?_
  refine lv_iconst (v := 2) hx hb dL_law_251 (by decide) ?_
  refine lv_iadd hx hb dL_law_252 ?_
  refine wtop_i (y := nI (6 * k + 2)) (by rw [← nI_add]; rfl) ?_
  refine va_sld hx hb hX hbl hbA hS (vp_in_nI (show 6 * k + 2 < L by omega) (by omega)) dL_law_253 ?_
  refine wtop_i (y := xs (6 * k + 2)) (by rw [nI_clamp (show 6 * k + 2 < 2 ^ 31 by omega)]) ?_
  refine lv_aload_n hx hb dL_law_254 rfl (lv_at hl 0 rfl) ?_
  refine lv_iload_n hx hb dL_law_255 rfl (lv_at hl 3 rfl) ?_
  refine lv_iconst (v := 3) hx hb dL_law_256 (by decide) ?_
  refine lv_iadd hx hb dL_law_257 ?_
  refine wtop_i (y := nI (6 * k + 3)) (by rw [← nI_add]; rfl) ?_
  refine va_sld hx hb hX hbl hbA hS (vp_in_nI (show 6 * k + 3 < L by omega) (by omega)) dL_law_258 ?_
  refine wtop_i (y := xs (6 * k + 3)) (by rw [nI_clamp (show 6 * k + 3 < 2 ^ 31 by omega)]) ?_
  refine lv_if_eq (tgt := 266) hx hb dL_law_259 (by decide) (fun c_1 => ?_) (fun c_1 => ?_)
  · refine lv_iconst (v := 0) hx hb dL_law_266 (by decide) ?_
    refine lv_aload_n hx hb dL_law_267 rfl (lv_at hl 0 rfl) ?_
    refine lv_iload_n hx hb dL_law_268 rfl (lv_at hl 3 rfl) ?_
    refine lv_iconst (v := 4) hx hb dL_law_269 (by decide) ?_
    refine lv_iadd hx hb dL_law_270 ?_
    refine wtop_i (y := nI (6 * k + 4)) (by rw [← nI_add]; rfl) ?_
    refine va_sld hx hb hX hbl hbA hS (vp_in_nI (show 6 * k + 4 < L by omega) (by omega)) dL_law_271 ?_
    refine wtop_i (y := xs (6 * k + 4)) (by rw [nI_clamp (show 6 * k + 4 < 2 ^ 31 by omega)]) ?_
    refine kX_i (As := [.int (xs (6 * k + 1)), .int (xs (6 * k + 2)), .int 0, .int (xs (6 * k + 4))]) (rest := []) (q0 := 0) ⟨hx, hb, hml, hown, hts⟩ (x_X9_stone l D cy ax _ J I O R RO LL Y (xs (6 * k + 1)) (xs (6 * k + 2)) false (xs (6 * k + 4)) fl S P hAc ⟨hM.1, hM.2.1, hM.2.2.1, hM.2.2.2.1, hM.2.2.2.2.1, hM.2.2.2.2.2.1, hM.2.2.2.2.2.2.1, hM.2.2.2.2.2.2.2.1, hRO0, hRO1, hRO2, hRO3⟩ ) (cwV 4 hts gq_X9_stone rfl rfl rfl (by decide +kernel) ⟨Nat.le_of_ble_eq_true rfl, Nat.le_of_ble_eq_true rfl⟩) hK hN hP hD hS hA rfl rfl rfl hl.1 rfl (Nat.le_of_ble_eq_true rfl) dL_law_272 ⟨(show 39 + 17 * k + 2 ≤ 600000 by omega), (show 18292 + 85786 * k + 10 ≤ 7302249 by omega)⟩ (fun r_2 u H locs hw hP hD hS => ?_)
    obtain ⟨w_3, w_4, w_5, w_6, w_7, Y_8, ⟨rfl, hi_9, hi_10, hi_11, hi_12, hs_13, hp_14⟩, rfl⟩ := hw
    have hmono_15 : ∀ c, c ∈ Y → c ∈ Y_8 := fun c h => hs_13 c ((fun _ h => h) c h)
    have hP : va_P D vwCl (MW cy am Jm Im Rm RJm ++ CT cy ax J (va_up (va_up I 9 w_3) 10 w_4) (va_up (va_up O 7 w_5) 8 w_6) R (va_up RO 2 w_7) (LL ++ Y_8)) H := hP
    have hD : va_D (fun q : Nat => s.heap.size ≤ q) (MW cy am Jm Im Rm RJm ++ CT cy ax J (va_up (va_up I 9 w_3) 10 w_4) (va_up (va_up O 7 w_5) 8 w_6) R (va_up RO 2 w_7) (LL ++ Y_8)) := hD
    refine lv_pop hx hb dL_law_275 rfl ?_
    refine lv_aload_n hx hb dL_law_276 rfl (lv_at hl 2 rfl) ?_
    refine lv_aload_n hx hb dL_law_277 rfl (lv_at hl 0 rfl) ?_
    refine lv_iload_n hx hb dL_law_278 rfl (lv_at hl 3 rfl) ?_
    refine lv_iconst (v := 1) hx hb dL_law_279 (by decide) ?_
    refine lv_iadd hx hb dL_law_280 ?_
    refine wtop_i (y := nI (6 * k + 1)) (by rw [← nI_add]; rfl) ?_
    refine va_sld hx hb hX hbl hbA hS (vp_in_nI (show 6 * k + 1 < L by omega) (by omega)) dL_law_281 ?_
    refine wtop_i (y := xs (6 * k + 1)) (by rw [nI_clamp (show 6 * k + 1 < 2 ^ 31 by omega)]) ?_
    refine lv_aload_n hx hb dL_law_282 rfl (lv_at hl 0 rfl) ?_
    refine lv_iload_n hx hb dL_law_283 rfl (lv_at hl 3 rfl) ?_
    refine lv_iconst (v := 2) hx hb dL_law_284 (by decide) ?_
    refine lv_iadd hx hb dL_law_285 ?_
    refine wtop_i (y := nI (6 * k + 2)) (by rw [← nI_add]; rfl) ?_
    refine va_sld hx hb hX hbl hbA hS (vp_in_nI (show 6 * k + 2 < L by omega) (by omega)) dL_law_286 ?_
    refine wtop_i (y := xs (6 * k + 2)) (by rw [nI_clamp (show 6 * k + 2 < 2 ^ 31 by omega)]) ?_
    refine lv_aload_n hx hb dL_law_287 rfl (lv_at hl 0 rfl) ?_
    refine lv_iload_n hx hb dL_law_288 rfl (lv_at hl 3 rfl) ?_
    refine lv_iconst (v := 3) hx hb dL_law_289 (by decide) ?_
    refine lv_iadd hx hb dL_law_290 ?_
    refine wtop_i (y := nI (6 * k + 3)) (by rw [← nI_add]; rfl) ?_
    refine va_sld hx hb hX hbl hbA hS (vp_in_nI (show 6 * k + 3 < L by omega) (by omega)) dL_law_291 ?_
    refine wtop_i (y := xs (6 * k + 3)) (by rw [nI_clamp (show 6 * k + 3 < 2 ^ 31 by omega)]) ?_
    refine lv_if_eq (tgt := 299) hx hb dL_law_292 (by decide) (fun c_16 => ?_) (fun c_16 => absurd c_1 c_16)
    refine lv_iconst (v := 0) hx hb dL_law_299 (by decide) ?_
    refine lv_aload_n hx hb dL_law_300 rfl (lv_at hl 0 rfl) ?_
    refine lv_iload_n hx hb dL_law_301 rfl (lv_at hl 3 rfl) ?_
    refine lv_iconst (v := 4) hx hb dL_law_302 (by decide) ?_
    refine lv_iadd hx hb dL_law_303 ?_
    refine wtop_i (y := nI (6 * k + 4)) (by rw [← nI_add]; rfl) ?_
    refine va_sld hx hb hX hbl hbA hS (vp_in_nI (show 6 * k + 4 < L by omega) (by omega)) dL_law_304 ?_
    refine wtop_i (y := xs (6 * k + 4)) (by rw [nI_clamp (show 6 * k + 4 < 2 ^ 31 by omega)]) ?_
    refine kV_i (As := [.int (xs (6 * k + 1)), .int (xs (6 * k + 2)), .int 0, .int (xs (6 * k + 4))]) (rest := []) (q0 := 0) ⟨hx, hb, hml, hown, hts⟩ (x_X10_stone l D cy am _ Jm Im Rm RJm (xs (6 * k + 1)) (xs (6 * k + 2)) false (xs (6 * k + 4)) fl S P hAm ⟨hMm.1, hMm.2.1, hMm.2.2.1, hMm.2.2.2.1, hMm.2.2.2.2.1, hMm.2.2.2.2.2⟩) (cwV 4 hts gq_X10_stone rfl rfl rfl (by decide +kernel) ⟨Nat.le_of_ble_eq_true rfl, Nat.le_of_ble_eq_true rfl⟩) hK hN hP hD hS hA rfl rfl rfl hl.1 rfl (Nat.le_of_ble_eq_true rfl) dL_law_305 ⟨(show 39 + 17 * k + 2 + 0 ≤ 600000 by omega), (show 18292 + 85786 * k + 10 + 0 ≤ 7302249 by omega)⟩ (fun r_17 u H locs hw hP hD hS => ?_)
    obtain ⟨w_18, w_19, w_20, w_21, w_22, w_23, w_24, w_25, w_26, w_27, w_28, ⟨rfl, hi_29, hi_30, hi_31, hi_32, hi_33, hp_34⟩, rfl⟩ := hw
    have hP : va_P D vwCl (MW cy am Jm (va_up (va_up (va_up (va_up Im 1 w_18) 3 w_19) 12 w_20) 13 w_21) (va_up (va_up (va_up (va_up Rm 1 w_22) 3 w_23) 4 w_24) 5 w_25) (va_up (va_up (va_up RJm 2 w_26) 6 w_27) 7 w_28) ++ CT cy ax J (va_up (va_up I 9 w_3) 10 w_4) (va_up (va_up O 7 w_5) 8 w_6) R (va_up RO 2 w_7) (LL ++ Y_8)) H := hP
    have hD : va_D (fun q : Nat => s.heap.size ≤ q) (MW cy am Jm (va_up (va_up (va_up (va_up Im 1 w_18) 3 w_19) 12 w_20) 13 w_21) (va_up (va_up (va_up (va_up Rm 1 w_22) 3 w_23) 4 w_24) 5 w_25) (va_up (va_up (va_up RJm 2 w_26) 6 w_27) 7 w_28) ++ CT cy ax J (va_up (va_up I 9 w_3) 10 w_4) (va_up (va_up O 7 w_5) 8 w_6) R (va_up RO 2 w_7) (LL ++ Y_8)) := hD
    refine lv_pop hx hb dL_law_308 rfl ?_
    refine lv_goto (tgt := 1035) hx hb dL_law_309 (by decide) ?_
    refine W.widen (k := 39 + 17 * (k + 1)) (n := 18292 + 85786 * (k + 1)) (show 39 + 17 * k + 2 + 0 ≤ _ by omega) (show 18292 + 85786 * k + 10 + 0 ≤ _ by omega) ?_
    exact kk Jm (va_up (va_up (va_up (va_up Im 1 w_18) 3 w_19) 12 w_20) 13 w_21) (va_up (va_up (va_up (va_up Rm 1 w_22) 3 w_23) 4 w_24) 5 w_25) (va_up (va_up (va_up RJm 2 w_26) 6 w_27) 7 w_28) J (va_up (va_up I 9 w_3) 10 w_4) (va_up (va_up O 7 w_5) 8 w_6) R (va_up RO 2 w_7) LL Y_8 _ _ _ _ _ _ ⟨hi_29, hi_30, hi_31, hi_32, hi_33, hMm.2.2.2.2.2⟩ ⟨hi_9, hi_10, hi_11, hi_12, hM.2.2.2.2.1, hM.2.2.2.2.2.1, hM.2.2.2.2.2.2.1, hM.2.2.2.2.2.2.2.1, hRO0, hRO1, hRO2, hRO3⟩ hLk hQ6 hQ hF hp_34 hSm hp_14 hSc (gAll_sto hG) _ _ hP hD hS ls (lv_sub hl [0, 1, 2, 3] rfl)
  · refine lv_iconst (v := 1) hx hb dL_law_262 (by decide) ?_
    refine lv_goto (tgt := 267) hx hb dL_law_263 (by decide) ?_
    refine lv_aload_n hx hb dL_law_267 rfl (lv_at hl 0 rfl) ?_
    refine lv_iload_n hx hb dL_law_268 rfl (lv_at hl 3 rfl) ?_
    refine lv_iconst (v := 4) hx hb dL_law_269 (by decide) ?_
    refine lv_iadd hx hb dL_law_270 ?_
    refine wtop_i (y := nI (6 * k + 4)) (by rw [← nI_add]; rfl) ?_
    refine va_sld hx hb hX hbl hbA hS (vp_in_nI (show 6 * k + 4 < L by omega) (by omega)) dL_law_271 ?_
    refine wtop_i (y := xs (6 * k + 4)) (by rw [nI_clamp (show 6 * k + 4 < 2 ^ 31 by omega)]) ?_
    refine kX_i (As := [.int (xs (6 * k + 1)), .int (xs (6 * k + 2)), .int 1, .int (xs (6 * k + 4))]) (rest := []) (q0 := 0) ⟨hx, hb, hml, hown, hts⟩ (x_X9_stone l D cy ax _ J I O R RO LL Y (xs (6 * k + 1)) (xs (6 * k + 2)) true (xs (6 * k + 4)) fl S P hAc ⟨hM.1, hM.2.1, hM.2.2.1, hM.2.2.2.1, hM.2.2.2.2.1, hM.2.2.2.2.2.1, hM.2.2.2.2.2.2.1, hM.2.2.2.2.2.2.2.1, hRO0, hRO1, hRO2, hRO3⟩ ) (cwV 4 hts gq_X9_stone rfl rfl rfl (by decide +kernel) ⟨Nat.le_of_ble_eq_true rfl, Nat.le_of_ble_eq_true rfl⟩) hK hN hP hD hS hA rfl rfl rfl hl.1 rfl (Nat.le_of_ble_eq_true rfl) dL_law_272 ⟨(show 39 + 17 * k + 2 ≤ 600000 by omega), (show 18292 + 85786 * k + 10 ≤ 7302249 by omega)⟩ (fun r_35 u H locs hw hP hD hS => ?_)
    obtain ⟨w_36, w_37, w_38, w_39, w_40, Y_41, ⟨rfl, hi_42, hi_43, hi_44, hi_45, hs_46, hp_47⟩, rfl⟩ := hw
    have hmono_48 : ∀ c, c ∈ Y → c ∈ Y_41 := fun c h => hs_46 c ((fun _ h => h) c h)
    have hP : va_P D vwCl (MW cy am Jm Im Rm RJm ++ CT cy ax J (va_up (va_up I 9 w_36) 10 w_37) (va_up (va_up O 7 w_38) 8 w_39) R (va_up RO 2 w_40) (LL ++ Y_41)) H := hP
    have hD : va_D (fun q : Nat => s.heap.size ≤ q) (MW cy am Jm Im Rm RJm ++ CT cy ax J (va_up (va_up I 9 w_36) 10 w_37) (va_up (va_up O 7 w_38) 8 w_39) R (va_up RO 2 w_40) (LL ++ Y_41)) := hD
    refine lv_pop hx hb dL_law_275 rfl ?_
    refine lv_aload_n hx hb dL_law_276 rfl (lv_at hl 2 rfl) ?_
    refine lv_aload_n hx hb dL_law_277 rfl (lv_at hl 0 rfl) ?_
    refine lv_iload_n hx hb dL_law_278 rfl (lv_at hl 3 rfl) ?_
    refine lv_iconst (v := 1) hx hb dL_law_279 (by decide) ?_
    refine lv_iadd hx hb dL_law_280 ?_
    refine wtop_i (y := nI (6 * k + 1)) (by rw [← nI_add]; rfl) ?_
    refine va_sld hx hb hX hbl hbA hS (vp_in_nI (show 6 * k + 1 < L by omega) (by omega)) dL_law_281 ?_
    refine wtop_i (y := xs (6 * k + 1)) (by rw [nI_clamp (show 6 * k + 1 < 2 ^ 31 by omega)]) ?_
    refine lv_aload_n hx hb dL_law_282 rfl (lv_at hl 0 rfl) ?_
    refine lv_iload_n hx hb dL_law_283 rfl (lv_at hl 3 rfl) ?_
    refine lv_iconst (v := 2) hx hb dL_law_284 (by decide) ?_
    refine lv_iadd hx hb dL_law_285 ?_
    refine wtop_i (y := nI (6 * k + 2)) (by rw [← nI_add]; rfl) ?_
    refine va_sld hx hb hX hbl hbA hS (vp_in_nI (show 6 * k + 2 < L by omega) (by omega)) dL_law_286 ?_
    refine wtop_i (y := xs (6 * k + 2)) (by rw [nI_clamp (show 6 * k + 2 < 2 ^ 31 by omega)]) ?_
    refine lv_aload_n hx hb dL_law_287 rfl (lv_at hl 0 rfl) ?_
    refine lv_iload_n hx hb dL_law_288 rfl (lv_at hl 3 rfl) ?_
    refine lv_iconst (v := 3) hx hb dL_law_289 (by decide) ?_
    refine lv_iadd hx hb dL_law_290 ?_
    refine wtop_i (y := nI (6 * k + 3)) (by rw [← nI_add]; rfl) ?_
    refine va_sld hx hb hX hbl hbA hS (vp_in_nI (show 6 * k + 3 < L by omega) (by omega)) dL_law_291 ?_
    refine wtop_i (y := xs (6 * k + 3)) (by rw [nI_clamp (show 6 * k + 3 < 2 ^ 31 by omega)]) ?_
    refine lv_if_eq (tgt := 299) hx hb dL_law_292 (by decide) (fun c_49 => absurd c_49 c_1) (fun c_49 => ?_)
    refine lv_iconst (v := 1) hx hb dL_law_295 (by decide) ?_
    refine lv_goto (tgt := 300) hx hb dL_law_296 (by decide) ?_
    refine lv_aload_n hx hb dL_law_300 rfl (lv_at hl 0 rfl) ?_
    refine lv_iload_n hx hb dL_law_301 rfl (lv_at hl 3 rfl) ?_
    refine lv_iconst (v := 4) hx hb dL_law_302 (by decide) ?_
    refine lv_iadd hx hb dL_law_303 ?_
    refine wtop_i (y := nI (6 * k + 4)) (by rw [← nI_add]; rfl) ?_
    refine va_sld hx hb hX hbl hbA hS (vp_in_nI (show 6 * k + 4 < L by omega) (by omega)) dL_law_304 ?_
    refine wtop_i (y := xs (6 * k + 4)) (by rw [nI_clamp (show 6 * k + 4 < 2 ^ 31 by omega)]) ?_
    refine kV_i (As := [.int (xs (6 * k + 1)), .int (xs (6 * k + 2)), .int 1, .int (xs (6 * k + 4))]) (rest := []) (q0 := 0) ⟨hx, hb, hml, hown, hts⟩ (x_X10_stone l D cy am _ Jm Im Rm RJm (xs (6 * k + 1)) (xs (6 * k + 2)) true (xs (6 * k + 4)) fl S P hAm ⟨hMm.1, hMm.2.1, hMm.2.2.1, hMm.2.2.2.1, hMm.2.2.2.2.1, hMm.2.2.2.2.2⟩) (cwV 4 hts gq_X10_stone rfl rfl rfl (by decide +kernel) ⟨Nat.le_of_ble_eq_true rfl, Nat.le_of_ble_eq_true rfl⟩) hK hN hP hD hS hA rfl rfl rfl hl.1 rfl (Nat.le_of_ble_eq_true rfl) dL_law_305 ⟨(show 39 + 17 * k + 2 + 0 ≤ 600000 by omega), (show 18292 + 85786 * k + 10 + 0 ≤ 7302249 by omega)⟩ (fun r_50 u H locs hw hP hD hS => ?_)
    obtain ⟨w_51, w_52, w_53, w_54, w_55, w_56, w_57, w_58, w_59, w_60, w_61, ⟨rfl, hi_62, hi_63, hi_64, hi_65, hi_66, hp_67⟩, rfl⟩ := hw
    have hP : va_P D vwCl (MW cy am Jm (va_up (va_up (va_up (va_up Im 1 w_51) 3 w_52) 12 w_53) 13 w_54) (va_up (va_up (va_up (va_up Rm 1 w_55) 3 w_56) 4 w_57) 5 w_58) (va_up (va_up (va_up RJm 2 w_59) 6 w_60) 7 w_61) ++ CT cy ax J (va_up (va_up I 9 w_36) 10 w_37) (va_up (va_up O 7 w_38) 8 w_39) R (va_up RO 2 w_40) (LL ++ Y_41)) H := hP
    have hD : va_D (fun q : Nat => s.heap.size ≤ q) (MW cy am Jm (va_up (va_up (va_up (va_up Im 1 w_51) 3 w_52) 12 w_53) 13 w_54) (va_up (va_up (va_up (va_up Rm 1 w_55) 3 w_56) 4 w_57) 5 w_58) (va_up (va_up (va_up RJm 2 w_59) 6 w_60) 7 w_61) ++ CT cy ax J (va_up (va_up I 9 w_36) 10 w_37) (va_up (va_up O 7 w_38) 8 w_39) R (va_up RO 2 w_40) (LL ++ Y_41)) := hD
    refine lv_pop hx hb dL_law_308 rfl ?_
    refine lv_goto (tgt := 1035) hx hb dL_law_309 (by decide) ?_
    refine W.widen (k := 39 + 17 * (k + 1)) (n := 18292 + 85786 * (k + 1)) (show 39 + 17 * k + 2 + 0 ≤ _ by omega) (show 18292 + 85786 * k + 10 + 0 ≤ _ by omega) ?_
    exact kk Jm (va_up (va_up (va_up (va_up Im 1 w_51) 3 w_52) 12 w_53) 13 w_54) (va_up (va_up (va_up (va_up Rm 1 w_55) 3 w_56) 4 w_57) 5 w_58) (va_up (va_up (va_up RJm 2 w_59) 6 w_60) 7 w_61) J (va_up (va_up I 9 w_36) 10 w_37) (va_up (va_up O 7 w_38) 8 w_39) R (va_up RO 2 w_40) LL Y_41 _ _ _ _ _ _ ⟨hi_62, hi_63, hi_64, hi_65, hi_66, hMm.2.2.2.2.2⟩ ⟨hi_42, hi_43, hi_44, hi_45, hM.2.2.2.2.1, hM.2.2.2.2.2.1, hM.2.2.2.2.2.2.1, hM.2.2.2.2.2.2.2.1, hRO0, hRO1, hRO2, hRO3⟩ hLk hQ6 hQ hF hp_67 hSm hp_47 hSc (gAll_sto hG) _ _ hP hD hS ls (lv_sub hl [0, 1, 2, 3] rfl)
theorem dL_law_312 : decode cL_law 312 = .ok (.aload_n 1, 1) := by decide +kernel
theorem dL_law_313 : decode cL_law 313 = .ok (.invokevirtual 32, 3) := by decide +kernel
theorem dL_law_316 : decode cL_law 316 = .ok (.pop, 1) := by decide +kernel
theorem dL_law_317 : decode cL_law 317 = .ok (.aload_n 2, 1) := by decide +kernel
theorem dL_law_318 : decode cL_law 318 = .ok (.invokevirtual 36, 3) := by decide +kernel
theorem dL_law_321 : decode cL_law 321 = .ok (.pop, 1) := by decide +kernel
theorem dL_law_322 : decode cL_law 322 = .ok (.goto 713, 3) := by decide +kernel
set_option maxHeartbeats 4000000 in
set_option maxRecDepth 100000 in
theorem law_4 {p : Program} {e : Env} {s : State} {m : MethodId} {below : List Frame} {meth : Method} {c : Code} (l : Launch) {b L : Nat} {xs : Nat → Int32} {D : va_G} {cy : Nat → ClassId} (C0 : lawCtx p s m meth c b L xs D cy) (ax am : Nat → Nat) (k : Nat) (hk : 6 * k + 6 ≤ L) (hL384 : L ≤ 384) (Jm : Nat → Int64) (Im : Nat → Int32) (Rm : Nat → Nat → Int32) (RJm : Nat → Nat → Int64) (J : Nat → Int64) (I : Nat → Int32) (O : Nat → Option Nat) (R : Nat → Nat → Int32) (RO : Nat → Nat → Option Nat) (LL Y : va_W) (fl : Int64) (S : List Int32) (P : List PE) (Bs Zs : Nat → Int32) (Vs : Nat → Nat → Int32) (hMm : MI Im Rm) (hM : CI ax Y I O RO) (hLk : LOK cy (O 5) LL) (hQ6 : ∀ i, i < 81 → vp_in (R 6 i) 81) (hQ : Q64 (R 11)) (hF : Q64 (R 10)) (hAm : RMf (Jm 0) (Im 1) (Im 12) (Rm 1) (Rm 3) (Rm 4) (RJm 2) fl S P) (hSm : RMs (Rm 8) (Rm 9) (Rm 10) Bs Zs Vs) (hAc : RCf Y (J 6) (O 7) (I 9) (RO 2) fl S P) (hSc : RCs (I 385) (I 386) (R 13) (I 449) (I 450) (R 15) (I 513) (I 514) (R 17) (I 577) (I 578) (R 19) Bs Zs Vs) (hG : gAll fl S P) (kk : LK p l e s m below meth c b D cy ax am k (39 + 17 * (k + 1)) (18292 + 85786 * (k + 1)) 1035) (H : Heap) (locs : List Loc) (hP : va_P D vwCl (MW cy am Jm Im Rm RJm ++ CT cy ax J I O R RO (LL ++ Y)) H) (hD : va_D (fun q : Nat => s.heap.size ≤ q) (MW cy am Jm Im Rm RJm ++ CT cy ax J I O R RO (LL ++ Y))) (hS : va_S (fun q : Nat => s.heap.size ≤ q) s.heap H locs) (ls : Array Slot) (hl : lv_has ls 4 [(0, .ref b), (1, .ref (ax 0)), (2, .ref (am 0)), (3, .int (nI (6 * k)))]) : W p l e room_1 s m #[Value.ref b] below meth c H locs (39 + 17 * k) (18292 + 85786 * k) (lw_Z below #[Value.ref b] s) (F0 m 312 ls []) := by
  obtain ⟨⟨hx, hb, hr, hml, hown, hts, hX, hbl, hlocks, hgv⟩, hK, hN⟩ := C0
  have hown : s.vm.findClass RL = some m.cls := hown
  have hA : ∀ q : Nat, s.heap.size ≤ q → (fun q : Nat => s.heap.size ≤ q) q := fun _ h => h
  have hbA : ¬ (fun q : Nat => s.heap.size ≤ q) b := Nat.not_le.mpr hbl
  have hRO0 := hM.2.2.2.2.2.2.2.2.1
  have hRO1 := hM.2.2.2.2.2.2.2.2.2.1
  have hRO2 := hM.2.2.2.2.2.2.2.2.2.2.1
  have hRO3 := hM.2.2.2.2.2.2.2.2.2.2.2
  refine lv_aload_n hx hb dL_law_312 rfl (lv_at hl 1 rfl) ?_
  refine kX_i (As := []) (rest := []) (q0 := 0) ⟨hx, hb, hml, hown, hts⟩ (x_X9_loose l D cy ax _ J I O R RO LL Y  fl S P hAc ⟨hM.1, hM.2.1, hM.2.2.1, hM.2.2.2.1, hM.2.2.2.2.1, hM.2.2.2.2.2.1, hM.2.2.2.2.2.2.1, hM.2.2.2.2.2.2.2.1, hRO0, hRO1, hRO2, hRO3⟩ ) (cwV 0 hts gq_X9_loose rfl rfl rfl (by decide +kernel) ⟨Nat.le_of_ble_eq_true rfl, Nat.le_of_ble_eq_true rfl⟩) hK hN hP hD hS hA rfl rfl rfl hl.1 rfl (Nat.le_of_ble_eq_true rfl) dL_law_313 ⟨(show 39 + 17 * k + 1 ≤ 600000 by omega), (show 18292 + 85786 * k + 3 ≤ 7302249 by omega)⟩ (fun r_1 u H locs hw hP hD hS => ?_)
  obtain ⟨w_2, w_3, w_4, w_5, w_6, Y_7, ⟨rfl, hi_8, hi_9, hi_10, hi_11, hs_12, hp_13⟩, rfl⟩ := hw
  have hmono_14 : ∀ c, c ∈ Y → c ∈ Y_7 := fun c h => hs_12 c ((fun _ h => h) c h)
  have hP : va_P D vwCl (MW cy am Jm Im Rm RJm ++ CT cy ax J (va_up (va_up I 9 w_2) 10 w_3) (va_up (va_up O 7 w_4) 8 w_5) R (va_up RO 2 w_6) (LL ++ Y_7)) H := hP
  have hD : va_D (fun q : Nat => s.heap.size ≤ q) (MW cy am Jm Im Rm RJm ++ CT cy ax J (va_up (va_up I 9 w_2) 10 w_3) (va_up (va_up O 7 w_4) 8 w_5) R (va_up RO 2 w_6) (LL ++ Y_7)) := hD
  refine lv_pop hx hb dL_law_316 rfl ?_
  refine lv_aload_n hx hb dL_law_317 rfl (lv_at hl 2 rfl) ?_
  refine kV_i (As := []) (rest := []) (q0 := 0) ⟨hx, hb, hml, hown, hts⟩ (x_X10_loose l D cy am _ Jm Im Rm RJm  fl S P hAm ⟨hMm.1, hMm.2.1, hMm.2.2.1, hMm.2.2.2.1, hMm.2.2.2.2.1, hMm.2.2.2.2.2⟩) (cwV 0 hts gq_X10_loose rfl rfl rfl (by decide +kernel) ⟨Nat.le_of_ble_eq_true rfl, Nat.le_of_ble_eq_true rfl⟩) hK hN hP hD hS hA rfl rfl rfl hl.1 rfl (Nat.le_of_ble_eq_true rfl) dL_law_318 ⟨(show 39 + 17 * k + 1 + 0 ≤ 600000 by omega), (show 18292 + 85786 * k + 3 + 0 ≤ 7302249 by omega)⟩ (fun r_15 u H locs hw hP hD hS => ?_)
  obtain ⟨w_16, w_17, w_18, w_19, w_20, w_21, w_22, w_23, w_24, w_25, ⟨rfl, hi_26, hi_27, hi_28, hi_29, hi_30, hp_31⟩, rfl⟩ := hw
  have hP : va_P D vwCl (MW cy am Jm (va_up (va_up (va_up (va_up Im 1 w_16) 3 w_17) 12 w_18) 13 w_19) (va_up (va_up (va_up Rm 3 w_20) 4 w_21) 5 w_22) (va_up (va_up (va_up RJm 2 w_23) 6 w_24) 7 w_25) ++ CT cy ax J (va_up (va_up I 9 w_2) 10 w_3) (va_up (va_up O 7 w_4) 8 w_5) R (va_up RO 2 w_6) (LL ++ Y_7)) H := hP
  have hD : va_D (fun q : Nat => s.heap.size ≤ q) (MW cy am Jm (va_up (va_up (va_up (va_up Im 1 w_16) 3 w_17) 12 w_18) 13 w_19) (va_up (va_up (va_up Rm 3 w_20) 4 w_21) 5 w_22) (va_up (va_up (va_up RJm 2 w_23) 6 w_24) 7 w_25) ++ CT cy ax J (va_up (va_up I 9 w_2) 10 w_3) (va_up (va_up O 7 w_4) 8 w_5) R (va_up RO 2 w_6) (LL ++ Y_7)) := hD
  refine lv_pop hx hb dL_law_321 rfl ?_
  refine lv_goto (tgt := 1035) hx hb dL_law_322 (by decide) ?_
  refine W.widen (k := 39 + 17 * (k + 1)) (n := 18292 + 85786 * (k + 1)) (show 39 + 17 * k + 1 + 0 ≤ _ by omega) (show 18292 + 85786 * k + 3 + 0 ≤ _ by omega) ?_
  exact kk Jm (va_up (va_up (va_up (va_up Im 1 w_16) 3 w_17) 12 w_18) 13 w_19) (va_up (va_up (va_up Rm 3 w_20) 4 w_21) 5 w_22) (va_up (va_up (va_up RJm 2 w_23) 6 w_24) 7 w_25) J (va_up (va_up I 9 w_2) 10 w_3) (va_up (va_up O 7 w_4) 8 w_5) R (va_up RO 2 w_6) LL Y_7 _ _ _ _ _ _ ⟨hi_26, hi_27, hi_28, hi_29, hi_30, hMm.2.2.2.2.2⟩ ⟨hi_8, hi_9, hi_10, hi_11, hM.2.2.2.2.1, hM.2.2.2.2.2.1, hM.2.2.2.2.2.2.1, hM.2.2.2.2.2.2.2.1, hRO0, hRO1, hRO2, hRO3⟩ hLk hQ6 hQ hF hp_31 hSm hp_13 hSc (gAll_loo hG) _ _ hP hD hS ls (lv_sub hl [0, 1, 2, 3] rfl)
