theorem pam_t : ∀ f : Fin 55, ¬ ((9 : Int32) * (nI f.val / 8 + 1) + (nI f.val - nI f.val / 8 * 8 + 1) < 0 ∨ 81 ≤ ((9 : Int32) * (nI f.val / 8 + 1) + (nI f.val - nI f.val / 8 * 8 + 1)).toNatClampNeg) := by decide +kernel
theorem pam {x : Int32} (h : vp_in x 55) : vp_in (9 * (x / 8 + 1) + (x - x / 8 * 8 + 1)) 81 := by
  obtain ⟨j, hj, rfl⟩ := vp_in_of h (by decide)
  exact pam_t ⟨j, hj⟩
def lt55 (r : Int32) : Prop := r = -1 ∨ vp_in r 55
theorem lt55_p {r : Int32} (h : lt55 r) (q : ¬ r < 0) : vp_in r 55 := by
  rcases h with rfl | h
  · exact absurd (by decide) q
  · exact h
theorem dX8_start_0 : decode cX8_start 0 = .ok (.aload_n 0, 1) := by decide +kernel
theorem dX8_start_1 : decode cX8_start 1 = .ok (.aload_n 1, 1) := by decide +kernel
theorem dX8_start_2 : decode cX8_start 2 = .ok (.getfield 9, 3) := by decide +kernel
theorem dX8_start_5 : decode cX8_start 5 = .ok (.lload_n 2, 1) := by decide +kernel
theorem dX8_start_6 : decode cX8_start 6 = .ok (.ldc2_w 15, 3) := by decide +kernel
theorem dX8_start_9 : decode cX8_start 9 = .ok (.lxor, 1) := by decide +kernel
theorem dX8_start_10 : decode cX8_start 10 = .ok (.land, 1) := by decide +kernel
theorem dX8_start_11 : decode cX8_start 11 = .ok (.putfield 17, 3) := by decide +kernel
theorem dX8_start_14 : decode cX8_start 14 = .ok (.aload_n 0, 1) := by decide +kernel
theorem dX8_start_15 : decode cX8_start 15 = .ok (.aload_n 1, 1) := by decide +kernel
theorem dX8_start_16 : decode cX8_start 16 = .ok (.getfield 18, 3) := by decide +kernel
theorem dX8_start_19 : decode cX8_start 19 = .ok (.lload_n 2, 1) := by decide +kernel
theorem dX8_start_20 : decode cX8_start 20 = .ok (.ldc2_w 15, 3) := by decide +kernel
theorem dX8_start_23 : decode cX8_start 23 = .ok (.lxor, 1) := by decide +kernel
theorem dX8_start_24 : decode cX8_start 24 = .ok (.land, 1) := by decide +kernel
theorem dX8_start_25 : decode cX8_start 25 = .ok (.putfield 21, 3) := by decide +kernel
theorem dX8_start_28 : decode cX8_start 28 = .ok (.return_, 1) := by decide +kernel
set_option maxRecDepth 20000 in
theorem ihX8_start_3 : ∀ w ∈ u_ws RX3 TX3 3, w ∈ wsX8_start := fun _ h => List.mem_cons_of_mem _ (List.mem_append_left _ (List.mem_append_right _ h))
set_option maxRecDepth 20000 in
theorem ihX8_start_8 : ∀ w ∈ u_ws RX8 TX8 2, w ∈ wsX8_start := fun _ h => List.mem_cons_of_mem _ (List.mem_append_right _ h)
set_option maxHeartbeats 4000000 in
set_option maxRecDepth 100000 in
theorem t_X8_start (l : Launch) (D : va_G) (cy : Nat → ClassId) (a : Nat → Nat) (sz : Nat) (J : Nat → Int64) (I : Nat → Int32) (O : Nat → Option Nat) (R : Nat → Nat → Int32) (RO : Nat → Nat → Option Nat) (LL : va_W) (Y : va_W) (x0 : Nat) (y0 : Int32) (al0 ac0 : Int64) (hm0 : laC x0 y0 al0 ac0 ∈ Y) (x1 : Int64) : Met l yX8_start wsX8_start ({ frames := 0, cells := 0, slots := 0, locals := 0 }) (va_Pc [.ref (a 7), .ref x0, .long x1] (PW D cy sz (CT cy a J I O R RO (LL ++ Y)))) (va_Qv (fun (u : TS) => ∃ (w0 : Int64), ∃ (w1 : Int64), (True) ∧ u = ((va_up (va_up J 224 w0) 225 w1), I, O, R, RO, LL, Y)) (BW D (va_A (CT cy a J I O R RO (LL ++ Y)) sz) (CTu cy a)) (va_A (CT cy a J I O R RO (LL ++ Y)) sz)) 0 0 (va_A (CT cy a J I O R RO (LL ++ Y)) sz) := by
  refine Met.ofW (cc := cX8_start) (maxL := 4) (ret := none) (by decide) rfl ?_
  intro p e s m args below meth c s₁ B hml hv
  obtain ⟨rfl, rfl, hP, hK, hN, hD0⟩ := hv
  have hx := B.exec
  have hb := B.bytes
  have hr := B.returns
  have hts := atoms_spec (ws := wsX8_start) B.pre
  have hown : s.vm.findClass RX8 = some m.cls := findClass_of_methodNamed B.named
  have hlocks := B.notSynchronized
  have hw0 := hts (.fieldLink RX8 9 "ParquetLayer$Laying" "along" "J") (by decide +kernel)
  have hw1 := hts (.constantLong RX8 15 (-1)) (by decide +kernel)
  have hw2 := hts (.fieldLink RX8 17 "ParquetLayer$Turner" "along" "J") (by decide +kernel)
  have hw3 := hts (.fieldLink RX8 18 "ParquetLayer$Laying" "across" "J") (by decide +kernel)
  have hw4 := hts (.fieldLink RX8 21 "ParquetLayer$Turner" "across" "J") (by decide +kernel)
  have hi3 := ihX8_start_3
  have hi8 := ihX8_start_8
  have hD := hD0.self (sz := s.heap.size)
  generalize hAe : va_A (CT cy a J I O R RO (LL ++ Y)) s.heap.size = A at hD ⊢
  have hA : ∀ q : Nat, s.heap.size ≤ q → A q := fun q h => by rw [← hAe]; exact Or.inr h
  have hS : va_S A s.heap s.heap [] := va_S.rf
  have hl := lv_entry ([.ref (a 7), .ref x0, .long x1]) (n := 4) (Nat.le_of_ble_eq_true rfl)
  rw [lg_entry_eq]
  generalize (lg_sl ([.ref (a 7), .ref x0, .long x1]) ++ List.replicate (4 - (lg_sl ([.ref (a 7), .ref x0, .long x1])).length) Slot.unset).toArray = ls at hl ⊢
  have hl : lv_has ls 4 [(0, .ref (a 7)), (1, .ref x0), (2, .long x1)] := hl
  have hP : va_P D vwCl (CT cy a (va_up (va_up J 224 (J 224)) 225 (J 225)) I O R RO (LL ++ Y)) s.heap := hP
  have hD : va_D A (CT cy a (va_up (va_up J 224 (J 224)) 225 (J 225)) I O R RO (LL ++ Y)) := hD
  refine lv_aload_n hx hb dX8_start_0 rfl (lv_at hl 0 rfl) ?_
  refine lv_aload_n hx hb dX8_start_1 rfl (lv_at hl 1 rfl) ?_
  obtain ⟨k_1, hk_2⟩ : ∃ k : Nat, (CT cy a (va_up (va_up J 224 (J 224)) 225 (J 225)) I O R RO (LL ++ Y))[k]? = some (x0, .inr (2, [.int y0, .long al0, .long ac0])) := pixT hm0
  refine va_get (D := D) (ci := 2) (v := .long al0) (C := RX3) (T := TX3) (N := 3) hx hb hts hi3 hown hK hP k_1 hk_2 rfl 1 (by decide) hw0 (fun _ h9 => h9) rfl dX8_start_2 ?_
  refine lv_lload_n hx hb dX8_start_5 rfl (lv_at hl 2 rfl) ?_
  refine lv_ldc2 (v := (-1)) hx hb hown hw1 dX8_start_6 ?_
  refine lv_lxor hx hb dX8_start_9 ?_
  refine lv_land hx hb dX8_start_10 ?_
  refine va_put (D := D) (ci := 7) (v := .long (al0 &&& (x1 ^^^ (-1)))) (ty := .long) (C := RX8) (T := TX8) (N := 2) hx hb hts hi8 tyX8 tyX8_ok nmX8 hown hK hP hD hS 7 rfl rfl 0 (by decide) hw2 (fun _ h9 => h9) rfl (by decide +kernel) rfl rfl (Nat.le_of_ble_eq_true rfl) dX8_start_11 (fun H locs hP hD hS => ?_)
  have hP : va_P D vwCl (CT cy a (va_up (va_up J 224 (al0 &&& (x1 ^^^ (-1)))) 225 (J 225)) I O R RO (LL ++ Y)) H := hP
  have hD : va_D A (CT cy a (va_up (va_up J 224 (al0 &&& (x1 ^^^ (-1)))) 225 (J 225)) I O R RO (LL ++ Y)) := hD
  refine lv_aload_n hx hb dX8_start_14 rfl (lv_at hl 0 rfl) ?_
  refine lv_aload_n hx hb dX8_start_15 rfl (lv_at hl 1 rfl) ?_
  obtain ⟨k_3, hk_4⟩ : ∃ k : Nat, (CT cy a (va_up (va_up J 224 (al0 &&& (x1 ^^^ (-1)))) 225 (J 225)) I O R RO (LL ++ Y))[k]? = some (x0, .inr (2, [.int y0, .long al0, .long ac0])) := pixT hm0
  refine va_get (D := D) (ci := 2) (v := .long ac0) (C := RX3) (T := TX3) (N := 3) hx hb hts hi3 hown hK hP k_3 hk_4 rfl 2 (by decide) hw3 (fun _ h9 => h9) rfl dX8_start_16 ?_
  refine lv_lload_n hx hb dX8_start_19 rfl (lv_at hl 2 rfl) ?_
  refine lv_ldc2 (v := (-1)) hx hb hown hw1 dX8_start_20 ?_
  refine lv_lxor hx hb dX8_start_23 ?_
  refine lv_land hx hb dX8_start_24 ?_
  refine va_put (D := D) (ci := 7) (v := .long (ac0 &&& (x1 ^^^ (-1)))) (ty := .long) (C := RX8) (T := TX8) (N := 2) hx hb hts hi8 tyX8 tyX8_ok nmX8 hown hK hP hD hS 7 rfl rfl 1 (by decide) hw4 (fun _ h9 => h9) rfl (by decide +kernel) rfl rfl (Nat.le_of_ble_eq_true rfl) dX8_start_25 (fun H locs hP hD hS => ?_)
  have hP : va_P D vwCl (CT cy a (va_up (va_up J 224 (al0 &&& (x1 ^^^ (-1)))) 225 (ac0 &&& (x1 ^^^ (-1)))) I O R RO (LL ++ Y)) H := hP
  have hD : va_D A (CT cy a (va_up (va_up J 224 (al0 &&& (x1 ^^^ (-1)))) 225 (ac0 &&& (x1 ^^^ (-1)))) I O R RO (LL ++ Y)) := hD
  exact wret_v hx hb hr hlocks ((va_up (va_up J 224 (al0 &&& (x1 ^^^ (-1)))) 225 (ac0 &&& (x1 ^^^ (-1)))), I, O, R, RO, LL, Y) ⟨(al0 &&& (x1 ^^^ (-1))), (ac0 &&& (x1 ^^^ (-1))), trivial, rfl⟩ hP hD hS dX8_start_28
theorem dX8_lying_0 : decode cX8_lying 0 = .ok (.iload_n 1, 1) := by decide +kernel
set_option maxRecDepth 20000 in
theorem ggX8_lying_X8_isCorner : GoodIn wsX8_lying wsX8_isCorner := goodIn_r _ [6] rfl (by decide +kernel)
set_option maxRecDepth 20000 in
theorem gX8_lying_X8_isCorner : GoodIn wsX8_lying (va_wsS RX8 22 yX8_isCorner wsX8_isCorner) := goodIn_app (goodIn_r _ [3, 4, 5] rfl (by decide +kernel)) ggX8_lying_X8_isCorner
theorem dX8_lying_1 : decode cX8_lying 1 = .ok (.invokestatic 22, 3) := by decide +kernel
theorem dX8_lying_4 : decode cX8_lying 4 = .ok (.ifCond .ne 5, 3) := by decide +kernel
theorem dX8_lying_9 : decode cX8_lying 9 = .ok (.lconst 1, 1) := by decide +kernel
theorem dX8_lying_10 : decode cX8_lying 10 = .ok (.iload_n 1, 1) := by decide +kernel
theorem dX8_lying_11 : decode cX8_lying 11 = .ok (.lshl, 1) := by decide +kernel
theorem dX8_lying_12 : decode cX8_lying 12 = .ok (.lconst 1, 1) := by decide +kernel
theorem dX8_lying_13 : decode cX8_lying 13 = .ok (.iload_n 1, 1) := by decide +kernel
theorem dX8_lying_14 : decode cX8_lying 14 = .ok (.bipush 8, 2) := by decide +kernel
theorem dX8_lying_16 : decode cX8_lying 16 = .ok (.iadd, 1) := by decide +kernel
theorem dX8_lying_17 : decode cX8_lying 17 = .ok (.lshl, 1) := by decide +kernel
theorem dX8_lying_18 : decode cX8_lying 18 = .ok (.lor, 1) := by decide +kernel
theorem dX8_lying_19 : decode cX8_lying 19 = .ok (.lstore_n 2, 1) := by decide +kernel
theorem dX8_lying_20 : decode cX8_lying 20 = .ok (.aload_n 0, 1) := by decide +kernel
theorem dX8_lying_21 : decode cX8_lying 21 = .ok (.getfield 17, 3) := by decide +kernel
theorem dX8_lying_24 : decode cX8_lying 24 = .ok (.lload_n 2, 1) := by decide +kernel
theorem dX8_lying_25 : decode cX8_lying 25 = .ok (.land, 1) := by decide +kernel
theorem dX8_lying_26 : decode cX8_lying 26 = .ok (.lload_n 2, 1) := by decide +kernel
theorem dX8_lying_27 : decode cX8_lying 27 = .ok (.lcmp, 1) := by decide +kernel
theorem dX8_lying_28 : decode cX8_lying 28 = .ok (.ifCond .ne 5, 3) := by decide +kernel
theorem dX8_lying_33 : decode cX8_lying 33 = .ok (.lconst 1, 1) := by decide +kernel
theorem dX8_lying_34 : decode cX8_lying 34 = .ok (.iload_n 1, 1) := by decide +kernel
theorem dX8_lying_35 : decode cX8_lying 35 = .ok (.lshl, 1) := by decide +kernel
theorem dX8_lying_36 : decode cX8_lying 36 = .ok (.lconst 1, 1) := by decide +kernel
theorem dX8_lying_37 : decode cX8_lying 37 = .ok (.iload_n 1, 1) := by decide +kernel
theorem dX8_lying_38 : decode cX8_lying 38 = .ok (.iconst 1, 1) := by decide +kernel
theorem dX8_lying_39 : decode cX8_lying 39 = .ok (.iadd, 1) := by decide +kernel
theorem dX8_lying_40 : decode cX8_lying 40 = .ok (.lshl, 1) := by decide +kernel
theorem dX8_lying_41 : decode cX8_lying 41 = .ok (.lor, 1) := by decide +kernel
theorem dX8_lying_42 : decode cX8_lying 42 = .ok (.lstore 4, 2) := by decide +kernel
theorem dX8_lying_44 : decode cX8_lying 44 = .ok (.aload_n 0, 1) := by decide +kernel
theorem dX8_lying_45 : decode cX8_lying 45 = .ok (.getfield 21, 3) := by decide +kernel
theorem dX8_lying_48 : decode cX8_lying 48 = .ok (.lload 4, 2) := by decide +kernel
theorem dX8_lying_50 : decode cX8_lying 50 = .ok (.land, 1) := by decide +kernel
theorem dX8_lying_51 : decode cX8_lying 51 = .ok (.lload 4, 2) := by decide +kernel
theorem dX8_lying_53 : decode cX8_lying 53 = .ok (.lcmp, 1) := by decide +kernel
theorem dX8_lying_54 : decode cX8_lying 54 = .ok (.ifCond .ne 7, 3) := by decide +kernel
theorem dX8_lying_61 : decode cX8_lying 61 = .ok (.iconst 0, 1) := by decide +kernel
theorem dX8_lying_62 : decode cX8_lying 62 = .ok (.ireturn, 1) := by decide +kernel
theorem dX8_lying_57 : decode cX8_lying 57 = .ok (.iconst 2, 1) := by decide +kernel
theorem dX8_lying_58 : decode cX8_lying 58 = .ok (.goto 4, 3) := by decide +kernel
theorem dX8_lying_31 : decode cX8_lying 31 = .ok (.iconst 1, 1) := by decide +kernel
theorem dX8_lying_32 : decode cX8_lying 32 = .ok (.ireturn, 1) := by decide +kernel
theorem dX8_lying_7 : decode cX8_lying 7 = .ok (.iconst 0, 1) := by decide +kernel
theorem dX8_lying_8 : decode cX8_lying 8 = .ok (.ireturn, 1) := by decide +kernel
set_option maxRecDepth 20000 in
theorem ihX8_lying_8 : ∀ w ∈ u_ws RX8 TX8 2, w ∈ wsX8_lying := fun _ h => List.mem_cons_of_mem _ (List.mem_append_right _ h)
set_option maxHeartbeats 4000000 in
set_option maxRecDepth 100000 in
theorem t_X8_lying (l : Launch) (D : va_G) (cy : Nat → ClassId) (a : Nat → Nat) (sz : Nat) (J : Nat → Int64) (I : Nat → Int32) (O : Nat → Option Nat) (R : Nat → Nat → Int32) (RO : Nat → Nat → Option Nat) (LL : va_W) (Y : va_W) (x0 : Int32) : Met l yX8_lying wsX8_lying ({ frames := 1, cells := 0, slots := 0, locals := 20 }) (va_Pc [.ref (a 7), .int x0] (PW D cy sz (CT cy a J I O R RO (LL ++ Y)))) (vp_Si (fun r => True)) 0 0 (fun _ => False) := by
  refine Met.ofW (cc := cX8_lying) (maxL := 6) (ret := (some .int)) (by decide) rfl ?_
  intro p e s m args below meth c s₁ B hml hv
  obtain ⟨rfl, rfl, hP, hK, hN, hD0⟩ := hv
  have hx := B.exec
  have hb := B.bytes
  have hr := B.returns
  have hts := atoms_spec (ws := wsX8_lying) B.pre
  have hown : s.vm.findClass RX8 = some m.cls := findClass_of_methodNamed B.named
  have hlocks := B.notSynchronized
  have hw0 := hts (.fieldLink RX8 17 "ParquetLayer$Turner" "along" "J") (by decide +kernel)
  have hw1 := hts (.fieldLink RX8 21 "ParquetLayer$Turner" "across" "J") (by decide +kernel)
  have hi8 := ihX8_lying_8
  have hD := hD0
  have hl := lv_entry ([.ref (a 7), .int x0]) (n := 6) (Nat.le_of_ble_eq_true rfl)
  rw [lg_entry_eq]
  generalize (lg_sl ([.ref (a 7), .int x0]) ++ List.replicate (6 - (lg_sl ([.ref (a 7), .int x0])).length) Slot.unset).toArray = ls at hl ⊢
  have hl : lv_has ls 6 [(0, .ref (a 7)), (1, .int x0)] := hl
  refine lv_iload_n hx hb dX8_lying_0 rfl (lv_at hl 1 rfl) ?_
  refine kS_i (As := [.int x0]) (rest := []) ⟨hx, hb, hml, hown, hts⟩ (c_X8_isCorner l x0) (va_cwS 1 hts gX8_lying_X8_isCorner rfl rfl rfl (by decide +kernel) ⟨Nat.le_of_ble_eq_true rfl, Nat.le_of_ble_eq_true rfl⟩) rfl hl.1 rfl (Nat.le_of_ble_eq_true rfl) dX8_lying_1 ⟨Nat.le_of_ble_eq_true rfl, Nat.le_of_ble_eq_true rfl⟩ ?_
  refine lv_if_ne (tgt := 9) hx hb dX8_lying_4 (by decide) (fun c_1 => ?_) (fun c_1 => ?_)
  · replace c_1 := bI_t c_1
    refine lv_lconst (v := 1) hx hb dX8_lying_9 (by decide) ?_
    refine lv_iload_n hx hb dX8_lying_10 rfl (lv_at hl 1 rfl) ?_
    refine lv_lshl (v := (1 : Int64) <<< ((x0 : Int32).toInt64 &&& 63)) hx hb dX8_lying_11 rfl ?_
    refine lv_lconst (v := 1) hx hb dX8_lying_12 (by decide) ?_
    refine lv_iload_n hx hb dX8_lying_13 rfl (lv_at hl 1 rfl) ?_
    refine lv_bipush (v := 8) hx hb dX8_lying_14 (by decide) ?_
    refine lv_iadd hx hb dX8_lying_16 ?_
    refine lv_lshl (v := (1 : Int64) <<< ((x0 + 8 : Int32).toInt64 &&& 63)) hx hb dX8_lying_17 rfl ?_
    refine lv_lor hx hb dX8_lying_18 ?_
    refine lv_lstore_n (lv' := [(2, .long (((1 : Int64) <<< ((x0 : Int32).toInt64 &&& 63)) ||| ((1 : Int64) <<< ((x0 + 8 : Int32).toInt64 &&& 63)))), (0, .ref (a 7)), (1, .int x0)]) hx hb dX8_lying_19 rfl hl (by decide) rfl (fun ls hl => ?_)
    refine lv_aload_n hx hb dX8_lying_20 rfl (lv_at hl 1 rfl) ?_
    refine va_get (D := D) (ci := 7) (v := .long (J 224)) (C := RX8) (T := TX8) (N := 2) hx hb hts hi8 hown hK hP 7 rfl rfl 0 (by decide) hw0 (fun _ h9 => h9) rfl dX8_lying_21 ?_
    refine lv_lload_n hx hb dX8_lying_24 rfl (lv_at hl 0 rfl) ?_
    refine lv_land hx hb dX8_lying_25 ?_
    refine lv_lload_n hx hb dX8_lying_26 rfl (lv_at hl 0 rfl) ?_
    refine W.lcmp hx hb dX8_lying_27 ?_
    refine lv_if_ne (tgt := 33) hx hb dX8_lying_28 (by decide) (fun c_2 => ?_) (fun c_2 => ?_)
    · replace c_2 := fun z => c_2 ((lg_cmp_eq _ _).mpr z)
      refine lv_lconst (v := 1) hx hb dX8_lying_33 (by decide) ?_
      refine lv_iload_n hx hb dX8_lying_34 rfl (lv_at hl 2 rfl) ?_
      refine lv_lshl (v := (1 : Int64) <<< ((x0 : Int32).toInt64 &&& 63)) hx hb dX8_lying_35 rfl ?_
      refine lv_lconst (v := 1) hx hb dX8_lying_36 (by decide) ?_
      refine lv_iload_n hx hb dX8_lying_37 rfl (lv_at hl 2 rfl) ?_
      refine lv_iconst (v := 1) hx hb dX8_lying_38 (by decide) ?_
      refine lv_iadd hx hb dX8_lying_39 ?_
      refine lv_lshl (v := (1 : Int64) <<< ((x0 + 1 : Int32).toInt64 &&& 63)) hx hb dX8_lying_40 rfl ?_
      refine lv_lor hx hb dX8_lying_41 ?_
      refine lv_lstore (lv' := [(4, .long (((1 : Int64) <<< ((x0 : Int32).toInt64 &&& 63)) ||| ((1 : Int64) <<< ((x0 + 1 : Int32).toInt64 &&& 63)))), (2, .long (((1 : Int64) <<< ((x0 : Int32).toInt64 &&& 63)) ||| ((1 : Int64) <<< ((x0 + 8 : Int32).toInt64 &&& 63)))), (0, .ref (a 7)), (1, .int x0)]) hx hb dX8_lying_42 hl (by decide) rfl (fun ls hl => ?_)
      refine lv_aload_n hx hb dX8_lying_44 rfl (lv_at hl 2 rfl) ?_
      refine va_get (D := D) (ci := 7) (v := .long (J 225)) (C := RX8) (T := TX8) (N := 2) hx hb hts hi8 hown hK hP 7 rfl rfl 1 (by decide) hw1 (fun _ h9 => h9) rfl dX8_lying_45 ?_
      refine lv_lload hx hb dX8_lying_48 (lv_at hl 0 rfl) ?_
      refine lv_land hx hb dX8_lying_50 ?_
      refine lv_lload hx hb dX8_lying_51 (lv_at hl 0 rfl) ?_
      refine W.lcmp hx hb dX8_lying_53 ?_
      refine lv_if_ne (tgt := 61) hx hb dX8_lying_54 (by decide) (fun c_3 => ?_) (fun c_3 => ?_)
      · replace c_3 := fun z => c_3 ((lg_cmp_eq _ _).mpr z)
        refine lv_iconst (v := 0) hx hb dX8_lying_61 (by decide) ?_
        exact aret_i hx hb hr hlocks trivial dX8_lying_62
      · replace c_3 := (lg_cmp_eq _ _).mp c_3
        refine lv_iconst (v := 2) hx hb dX8_lying_57 (by decide) ?_
        refine lv_goto (tgt := 62) hx hb dX8_lying_58 (by decide) ?_
        exact aret_i hx hb hr hlocks trivial dX8_lying_62
    · replace c_2 := (lg_cmp_eq _ _).mp c_2
      refine lv_iconst (v := 1) hx hb dX8_lying_31 (by decide) ?_
      exact aret_i hx hb hr hlocks trivial dX8_lying_32
  · replace c_1 := bI_f c_1
    refine lv_iconst (v := 0) hx hb dX8_lying_7 (by decide) ?_
    exact aret_i hx hb hr hlocks trivial dX8_lying_8
theorem dX8_possible_4 : decode cX8_possible 4 = .ok (.iload_n 2, 1) := by decide +kernel
theorem dX8_possible_5 : decode cX8_possible 5 = .ok (.bipush 55, 2) := by decide +kernel
theorem dX8_possible_7 : decode cX8_possible 7 = .ok (.if_icmp .ge 20, 3) := by decide +kernel
theorem dX8_possible_27 : decode cX8_possible 27 = .ok (.iload_n 1, 1) := by decide +kernel
theorem dX8_possible_28 : decode cX8_possible 28 = .ok (.ireturn, 1) := by decide +kernel
theorem dX8_possible_10 : decode cX8_possible 10 = .ok (.aload_n 0, 1) := by decide +kernel
theorem dX8_possible_11 : decode cX8_possible 11 = .ok (.iload_n 2, 1) := by decide +kernel
set_option maxRecDepth 20000 in
theorem ggX8_possible_X8_lying : GoodIn wsX8_possible wsX8_lying := goodIn_r _ [5, 6, 7, 8, 9, 4, 10, 11, 12] rfl (by decide +kernel)
set_option maxRecDepth 20000 in
theorem gX8_possible_X8_lying : GoodIn wsX8_possible (wsV RX8 26 RX8 yX8_lying wsX8_lying) := goodIn_app (goodIn_r _ [1, 2, 3, 4] rfl (by decide +kernel)) ggX8_possible_X8_lying
theorem dX8_possible_12 : decode cX8_possible 12 = .ok (.invokevirtual 26, 3) := by decide +kernel
theorem dX8_possible_15 : decode cX8_possible 15 = .ok (.ifCond .eq 6, 3) := by decide +kernel
theorem dX8_possible_21 : decode cX8_possible 21 = .ok (.iinc 2 1, 3) := by decide +kernel
theorem dX8_possible_24 : decode cX8_possible 24 = .ok (.goto (-20), 3) := by decide +kernel
theorem dX8_possible_18 : decode cX8_possible 18 = .ok (.iinc 1 1, 3) := by decide +kernel
theorem dX8_possible_0 : decode cX8_possible 0 = .ok (.iconst 0, 1) := by decide +kernel
theorem dX8_possible_1 : decode cX8_possible 1 = .ok (.istore_n 1, 1) := by decide +kernel
theorem dX8_possible_2 : decode cX8_possible 2 = .ok (.iconst 0, 1) := by decide +kernel
theorem dX8_possible_3 : decode cX8_possible 3 = .ok (.istore_n 2, 1) := by decide +kernel
set_option maxHeartbeats 4000000 in
set_option maxRecDepth 100000 in
theorem t_X8_possible (l : Launch) (D : va_G) (cy : Nat → ClassId) (a : Nat → Nat) (sz : Nat) (J : Nat → Int64) (I : Nat → Int32) (O : Nat → Option Nat) (R : Nat → Nat → Int32) (RO : Nat → Nat → Option Nat) (LL : va_W) (Y : va_W)  : Met l yX8_possible wsX8_possible ({ frames := 2, cells := 0, slots := 0, locals := 45 }) (va_Pc [.ref (a 7)] (PW D cy sz (CT cy a J I O R RO (LL ++ Y)))) (vp_Si (fun r => True)) 0 0 (fun _ => False) := by
  refine Met.ofW (cc := cX8_possible) (maxL := 3) (ret := (some .int)) (by decide) rfl ?_
  intro p e s m args below meth c s₁ B hml hv
  obtain ⟨rfl, rfl, hP, hK, hN, hD0⟩ := hv
  have hx := B.exec
  have hb := B.bytes
  have hr := B.returns
  have hts := atoms_spec (ws := wsX8_possible) B.pre
  have hown : s.vm.findClass RX8 = some m.cls := findClass_of_methodNamed B.named
  have hlocks := B.notSynchronized
  have hD := hD0
  have hl := lv_entry ([.ref (a 7)]) (n := 3) (Nat.le_of_ble_eq_true rfl)
  rw [lg_entry_eq]
  generalize (lg_sl ([.ref (a 7)]) ++ List.replicate (3 - (lg_sl ([.ref (a 7)])).length) Slot.unset).toArray = ls at hl ⊢
  have hl : lv_has ls 3 [(0, .ref (a 7))] := hl
  have lp4 : ∀ (n4 : Nat), ∀ (i : Nat) (v1_4 : Int32), (i ≤ 55) → (55 - i) < n4 → ∀ (ls : Array Slot), lv_has ls 3 [(0, .ref (a 7)), (1, .int v1_4), (2, .int (nI i))] → W p l e (headSpec wsX8_possible ({ frames := 2, cells := 0, slots := 0, locals := 45 })).room s m ([.ref (a 7)] : List Value).toArray below meth c s.heap [] 0 0 (MQ below (vp_Si (fun r => True)) ([.ref (a 7)] : List Value).toArray s 0 0 (fun _ => False)) (F0 m 4 ls []) := by
    intro n4
    induction n4 with
    | zero => intro i v1_4 hi hn; exact absurd hn (Nat.not_lt_zero _)
    | succ n4 ih4 =>
      intro i v1_4 hi hn4 ls hl
      refine lv_iload_n hx hb dX8_possible_4 rfl (lv_at hl 2 rfl) ?_
      refine lv_bipush (v := 55) hx hb dX8_possible_5 (by decide) ?_
      refine lv_icmp_ge (tgt := 27) hx hb dX8_possible_7 (by decide) (fun c_1 => ?_) (fun c_1 => ?_)
      · refine lv_iload_n hx hb dX8_possible_27 rfl (lv_at hl 1 rfl) ?_
        exact aret_i hx hb hr hlocks trivial dX8_possible_28
      · have hlt_i := ctr_lt (N := 55) (by decide) hi c_1
        refine lv_aload_n hx hb dX8_possible_10 rfl (lv_at hl 0 rfl) ?_
        refine lv_iload_n hx hb dX8_possible_11 rfl (lv_at hl 2 rfl) ?_
        refine kRa_i (As := [.int (nI i)]) (rest := []) (q0 := 7) ⟨hx, hb, hml, hown, hts⟩ (t_X8_lying l D cy a _ J I O R RO LL Y (nI i)  ) (cwV 1 hts gX8_possible_X8_lying rfl rfl rfl (by decide +kernel) ⟨Nat.le_of_ble_eq_true rfl, Nat.le_of_ble_eq_true rfl⟩) hK hN hP hD rfl rfl rfl hl.1 rfl (Nat.le_of_ble_eq_true rfl) dX8_possible_12 ⟨Nat.le_of_ble_eq_true rfl, Nat.le_of_ble_eq_true rfl⟩ (fun r_2 hr_3 => ?_)
        refine lv_if_eq (tgt := 21) hx hb dX8_possible_15 (by decide) (fun c_4 => ?_) (fun c_4 => ?_)
        · refine lv_iinc (v := nI (i + 1)) (lv' := [(2, .int (nI (i + 1))), (0, .ref (a 7)), (1, .int v1_4)]) hx hb dX8_possible_21 hl (k := 2) rfl (nI_1 _) (by decide) rfl (fun ls hl => ?_)
          refine lv_goto (tgt := 4) hx hb dX8_possible_24 (by decide) ?_
          exact ih4 (i + 1) v1_4 (by omega) (by omega) ls (lv_sub hl [1, 2, 0] rfl)
        · refine lv_iinc (v := v1_4 + 1) (lv' := [(1, .int (v1_4 + 1)), (0, .ref (a 7)), (2, .int (nI i))]) hx hb dX8_possible_18 hl (k := 1) rfl rfl (by decide) rfl (fun ls hl => ?_)
          refine lv_iinc (v := nI (i + 1)) (lv' := [(2, .int (nI (i + 1))), (1, .int (v1_4 + 1)), (0, .ref (a 7))]) hx hb dX8_possible_21 hl (k := 2) rfl (nI_1 _) (by decide) rfl (fun ls hl => ?_)
          refine lv_goto (tgt := 4) hx hb dX8_possible_24 (by decide) ?_
          exact ih4 (i + 1) (v1_4 + 1) (by omega) (by omega) ls (lv_sub hl [2, 1, 0] rfl)
  refine lv_iconst (v := 0) hx hb dX8_possible_0 (by decide) ?_
  refine lv_istore_n (lv' := [(1, .int 0), (0, .ref (a 7))]) hx hb dX8_possible_1 rfl hl (by decide) rfl (fun ls hl => ?_)
  refine lv_iconst (v := 0) hx hb dX8_possible_2 (by decide) ?_
  refine lv_istore_n (lv' := [(2, .int 0), (1, .int 0), (0, .ref (a 7))]) hx hb dX8_possible_3 rfl hl (by decide) rfl (fun ls hl => ?_)
  exact lp4 _ 0 (0 : Int32) (by omega) (Nat.lt_succ_self _) ls (lv_sub hl [2, 1, 0] rfl)
theorem dX8_flip_0 : decode cX8_flip 0 = .ok (.aload_n 0, 1) := by decide +kernel
theorem dX8_flip_1 : decode cX8_flip 1 = .ok (.dup, 1) := by decide +kernel
theorem dX8_flip_2 : decode cX8_flip 2 = .ok (.getfield 17, 3) := by decide +kernel
theorem dX8_flip_5 : decode cX8_flip 5 = .ok (.lconst 1, 1) := by decide +kernel
theorem dX8_flip_6 : decode cX8_flip 6 = .ok (.iload_n 1, 1) := by decide +kernel
theorem dX8_flip_7 : decode cX8_flip 7 = .ok (.lshl, 1) := by decide +kernel
theorem dX8_flip_8 : decode cX8_flip 8 = .ok (.lconst 1, 1) := by decide +kernel
theorem dX8_flip_9 : decode cX8_flip 9 = .ok (.iload_n 1, 1) := by decide +kernel
theorem dX8_flip_10 : decode cX8_flip 10 = .ok (.bipush 8, 2) := by decide +kernel
theorem dX8_flip_12 : decode cX8_flip 12 = .ok (.iadd, 1) := by decide +kernel
theorem dX8_flip_13 : decode cX8_flip 13 = .ok (.lshl, 1) := by decide +kernel
theorem dX8_flip_14 : decode cX8_flip 14 = .ok (.lor, 1) := by decide +kernel
theorem dX8_flip_15 : decode cX8_flip 15 = .ok (.lxor, 1) := by decide +kernel
theorem dX8_flip_16 : decode cX8_flip 16 = .ok (.putfield 17, 3) := by decide +kernel
theorem dX8_flip_19 : decode cX8_flip 19 = .ok (.aload_n 0, 1) := by decide +kernel
theorem dX8_flip_20 : decode cX8_flip 20 = .ok (.dup, 1) := by decide +kernel
theorem dX8_flip_21 : decode cX8_flip 21 = .ok (.getfield 21, 3) := by decide +kernel
theorem dX8_flip_24 : decode cX8_flip 24 = .ok (.lconst 1, 1) := by decide +kernel
theorem dX8_flip_25 : decode cX8_flip 25 = .ok (.iload_n 1, 1) := by decide +kernel
theorem dX8_flip_26 : decode cX8_flip 26 = .ok (.lshl, 1) := by decide +kernel
theorem dX8_flip_27 : decode cX8_flip 27 = .ok (.lconst 1, 1) := by decide +kernel
theorem dX8_flip_28 : decode cX8_flip 28 = .ok (.iload_n 1, 1) := by decide +kernel
theorem dX8_flip_29 : decode cX8_flip 29 = .ok (.iconst 1, 1) := by decide +kernel
theorem dX8_flip_30 : decode cX8_flip 30 = .ok (.iadd, 1) := by decide +kernel
theorem dX8_flip_31 : decode cX8_flip 31 = .ok (.lshl, 1) := by decide +kernel
theorem dX8_flip_32 : decode cX8_flip 32 = .ok (.lor, 1) := by decide +kernel
theorem dX8_flip_33 : decode cX8_flip 33 = .ok (.lxor, 1) := by decide +kernel
theorem dX8_flip_34 : decode cX8_flip 34 = .ok (.putfield 21, 3) := by decide +kernel
theorem dX8_flip_37 : decode cX8_flip 37 = .ok (.return_, 1) := by decide +kernel
set_option maxRecDepth 20000 in
theorem ihX8_flip_8 : ∀ w ∈ u_ws RX8 TX8 2, w ∈ wsX8_flip := fun _ h => List.mem_cons_of_mem _ (List.mem_append_right _ h)
set_option maxHeartbeats 4000000 in
set_option maxRecDepth 100000 in
theorem t_X8_flip (l : Launch) (D : va_G) (cy : Nat → ClassId) (a : Nat → Nat) (sz : Nat) (J : Nat → Int64) (I : Nat → Int32) (O : Nat → Option Nat) (R : Nat → Nat → Int32) (RO : Nat → Nat → Option Nat) (LL : va_W) (Y : va_W) (x0 : Int32) : Met l yX8_flip wsX8_flip ({ frames := 0, cells := 0, slots := 0, locals := 0 }) (va_Pc [.ref (a 7), .int x0] (PW D cy sz (CT cy a J I O R RO (LL ++ Y)))) (va_Qv (fun (u : TS) => ∃ (w0 : Int64), ∃ (w1 : Int64), (True) ∧ u = ((va_up (va_up J 224 w0) 225 w1), I, O, R, RO, LL, Y)) (BW D (va_A (CT cy a J I O R RO (LL ++ Y)) sz) (CTu cy a)) (va_A (CT cy a J I O R RO (LL ++ Y)) sz)) 0 0 (va_A (CT cy a J I O R RO (LL ++ Y)) sz) := by
  refine Met.ofW (cc := cX8_flip) (maxL := 2) (ret := none) (by decide) rfl ?_
  intro p e s m args below meth c s₁ B hml hv
  obtain ⟨rfl, rfl, hP, hK, hN, hD0⟩ := hv
  have hx := B.exec
  have hb := B.bytes
  have hr := B.returns
  have hts := atoms_spec (ws := wsX8_flip) B.pre
  have hown : s.vm.findClass RX8 = some m.cls := findClass_of_methodNamed B.named
  have hlocks := B.notSynchronized
  have hw0 := hts (.fieldLink RX8 17 "ParquetLayer$Turner" "along" "J") (by decide +kernel)
  have hw1 := hts (.fieldLink RX8 21 "ParquetLayer$Turner" "across" "J") (by decide +kernel)
  have hi8 := ihX8_flip_8
  have hD := hD0.self (sz := s.heap.size)
  generalize hAe : va_A (CT cy a J I O R RO (LL ++ Y)) s.heap.size = A at hD ⊢
  have hA : ∀ q : Nat, s.heap.size ≤ q → A q := fun q h => by rw [← hAe]; exact Or.inr h
  have hS : va_S A s.heap s.heap [] := va_S.rf
  have hl := lv_entry ([.ref (a 7), .int x0]) (n := 2) (Nat.le_of_ble_eq_true rfl)
  rw [lg_entry_eq]
  generalize (lg_sl ([.ref (a 7), .int x0]) ++ List.replicate (2 - (lg_sl ([.ref (a 7), .int x0])).length) Slot.unset).toArray = ls at hl ⊢
  have hl : lv_has ls 2 [(0, .ref (a 7)), (1, .int x0)] := hl
  have hP : va_P D vwCl (CT cy a (va_up (va_up J 224 (J 224)) 225 (J 225)) I O R RO (LL ++ Y)) s.heap := hP
  have hD : va_D A (CT cy a (va_up (va_up J 224 (J 224)) 225 (J 225)) I O R RO (LL ++ Y)) := hD
  refine lv_aload_n hx hb dX8_flip_0 rfl (lv_at hl 0 rfl) ?_
  refine lv_dup hx hb dX8_flip_1 rfl ?_
  refine va_get (D := D) (ci := 7) (v := .long (J 224)) (C := RX8) (T := TX8) (N := 2) hx hb hts hi8 hown hK hP 7 rfl rfl 0 (by decide) hw0 (fun _ h9 => h9) rfl dX8_flip_2 ?_
  refine lv_lconst (v := 1) hx hb dX8_flip_5 (by decide) ?_
  refine lv_iload_n hx hb dX8_flip_6 rfl (lv_at hl 1 rfl) ?_
  refine lv_lshl (v := (1 : Int64) <<< ((x0 : Int32).toInt64 &&& 63)) hx hb dX8_flip_7 rfl ?_
  refine lv_lconst (v := 1) hx hb dX8_flip_8 (by decide) ?_
  refine lv_iload_n hx hb dX8_flip_9 rfl (lv_at hl 1 rfl) ?_
  refine lv_bipush (v := 8) hx hb dX8_flip_10 (by decide) ?_
  refine lv_iadd hx hb dX8_flip_12 ?_
  refine lv_lshl (v := (1 : Int64) <<< ((x0 + 8 : Int32).toInt64 &&& 63)) hx hb dX8_flip_13 rfl ?_
  refine lv_lor hx hb dX8_flip_14 ?_
  refine lv_lxor hx hb dX8_flip_15 ?_
  refine va_put (D := D) (ci := 7) (v := .long ((J 224) ^^^ (((1 : Int64) <<< ((x0 : Int32).toInt64 &&& 63)) ||| ((1 : Int64) <<< ((x0 + 8 : Int32).toInt64 &&& 63))))) (ty := .long) (C := RX8) (T := TX8) (N := 2) hx hb hts hi8 tyX8 tyX8_ok nmX8 hown hK hP hD hS 7 rfl rfl 0 (by decide) hw0 (fun _ h9 => h9) rfl (by decide +kernel) rfl rfl (Nat.le_of_ble_eq_true rfl) dX8_flip_16 (fun H locs hP hD hS => ?_)
  have hP : va_P D vwCl (CT cy a (va_up (va_up J 224 ((J 224) ^^^ (((1 : Int64) <<< ((x0 : Int32).toInt64 &&& 63)) ||| ((1 : Int64) <<< ((x0 + 8 : Int32).toInt64 &&& 63))))) 225 (J 225)) I O R RO (LL ++ Y)) H := hP
  have hD : va_D A (CT cy a (va_up (va_up J 224 ((J 224) ^^^ (((1 : Int64) <<< ((x0 : Int32).toInt64 &&& 63)) ||| ((1 : Int64) <<< ((x0 + 8 : Int32).toInt64 &&& 63))))) 225 (J 225)) I O R RO (LL ++ Y)) := hD
  refine lv_aload_n hx hb dX8_flip_19 rfl (lv_at hl 0 rfl) ?_
  refine lv_dup hx hb dX8_flip_20 rfl ?_
  refine va_get (D := D) (ci := 7) (v := .long (J 225)) (C := RX8) (T := TX8) (N := 2) hx hb hts hi8 hown hK hP 7 rfl rfl 1 (by decide) hw1 (fun _ h9 => h9) rfl dX8_flip_21 ?_
  refine lv_lconst (v := 1) hx hb dX8_flip_24 (by decide) ?_
  refine lv_iload_n hx hb dX8_flip_25 rfl (lv_at hl 1 rfl) ?_
  refine lv_lshl (v := (1 : Int64) <<< ((x0 : Int32).toInt64 &&& 63)) hx hb dX8_flip_26 rfl ?_
  refine lv_lconst (v := 1) hx hb dX8_flip_27 (by decide) ?_
  refine lv_iload_n hx hb dX8_flip_28 rfl (lv_at hl 1 rfl) ?_
  refine lv_iconst (v := 1) hx hb dX8_flip_29 (by decide) ?_
  refine lv_iadd hx hb dX8_flip_30 ?_
  refine lv_lshl (v := (1 : Int64) <<< ((x0 + 1 : Int32).toInt64 &&& 63)) hx hb dX8_flip_31 rfl ?_
  refine lv_lor hx hb dX8_flip_32 ?_
  refine lv_lxor hx hb dX8_flip_33 ?_
  refine va_put (D := D) (ci := 7) (v := .long ((J 225) ^^^ (((1 : Int64) <<< ((x0 : Int32).toInt64 &&& 63)) ||| ((1 : Int64) <<< ((x0 + 1 : Int32).toInt64 &&& 63))))) (ty := .long) (C := RX8) (T := TX8) (N := 2) hx hb hts hi8 tyX8 tyX8_ok nmX8 hown hK hP hD hS 7 rfl rfl 1 (by decide) hw1 (fun _ h9 => h9) rfl (by decide +kernel) rfl rfl (Nat.le_of_ble_eq_true rfl) dX8_flip_34 (fun H locs hP hD hS => ?_)
  have hP : va_P D vwCl (CT cy a (va_up (va_up J 224 ((J 224) ^^^ (((1 : Int64) <<< ((x0 : Int32).toInt64 &&& 63)) ||| ((1 : Int64) <<< ((x0 + 8 : Int32).toInt64 &&& 63))))) 225 ((J 225) ^^^ (((1 : Int64) <<< ((x0 : Int32).toInt64 &&& 63)) ||| ((1 : Int64) <<< ((x0 + 1 : Int32).toInt64 &&& 63))))) I O R RO (LL ++ Y)) H := hP
  have hD : va_D A (CT cy a (va_up (va_up J 224 ((J 224) ^^^ (((1 : Int64) <<< ((x0 : Int32).toInt64 &&& 63)) ||| ((1 : Int64) <<< ((x0 + 8 : Int32).toInt64 &&& 63))))) 225 ((J 225) ^^^ (((1 : Int64) <<< ((x0 : Int32).toInt64 &&& 63)) ||| ((1 : Int64) <<< ((x0 + 1 : Int32).toInt64 &&& 63))))) I O R RO (LL ++ Y)) := hD
  exact wret_v hx hb hr hlocks ((va_up (va_up J 224 ((J 224) ^^^ (((1 : Int64) <<< ((x0 : Int32).toInt64 &&& 63)) ||| ((1 : Int64) <<< ((x0 + 8 : Int32).toInt64 &&& 63))))) 225 ((J 225) ^^^ (((1 : Int64) <<< ((x0 : Int32).toInt64 &&& 63)) ||| ((1 : Int64) <<< ((x0 + 1 : Int32).toInt64 &&& 63))))), I, O, R, RO, LL, Y) ⟨((J 224) ^^^ (((1 : Int64) <<< ((x0 : Int32).toInt64 &&& 63)) ||| ((1 : Int64) <<< ((x0 + 8 : Int32).toInt64 &&& 63)))), ((J 225) ^^^ (((1 : Int64) <<< ((x0 : Int32).toInt64 &&& 63)) ||| ((1 : Int64) <<< ((x0 + 1 : Int32).toInt64 &&& 63)))), trivial, rfl⟩ hP hD hS dX8_flip_37
theorem dX8_lift_0 : decode cX8_lift 0 = .ok (.aload_n 0, 1) := by decide +kernel
theorem dX8_lift_1 : decode cX8_lift 1 = .ok (.iload_n 1, 1) := by decide +kernel
set_option maxRecDepth 20000 in
theorem ggX8_lift_X8_lying : GoodIn wsX8_lift wsX8_lying := goodIn_r _ [6, 7, 8, 9, 10, 5, 11, 16, 17] rfl (by decide +kernel)
set_option maxRecDepth 20000 in
theorem gX8_lift_X8_lying : GoodIn wsX8_lift (wsV RX8 26 RX8 yX8_lying wsX8_lying) := goodIn_app (goodIn_r _ [2, 3, 4, 5] rfl (by decide +kernel)) ggX8_lift_X8_lying
theorem dX8_lift_2 : decode cX8_lift 2 = .ok (.invokevirtual 26, 3) := by decide +kernel
theorem dX8_lift_5 : decode cX8_lift 5 = .ok (.istore_n 2, 1) := by decide +kernel
theorem dX8_lift_6 : decode cX8_lift 6 = .ok (.iload_n 2, 1) := by decide +kernel
theorem dX8_lift_7 : decode cX8_lift 7 = .ok (.ifCond .ne 5, 3) := by decide +kernel
theorem dX8_lift_12 : decode cX8_lift 12 = .ok (.iload_n 2, 1) := by decide +kernel
theorem dX8_lift_13 : decode cX8_lift 13 = .ok (.iconst 1, 1) := by decide +kernel
theorem dX8_lift_14 : decode cX8_lift 14 = .ok (.if_icmp .ne 7, 3) := by decide +kernel
theorem dX8_lift_21 : decode cX8_lift 21 = .ok (.iconst 0, 1) := by decide +kernel
theorem dX8_lift_22 : decode cX8_lift 22 = .ok (.ldc2_w 32, 3) := by decide +kernel
theorem dX8_lift_25 : decode cX8_lift 25 = .ok (.iload_n 1, 1) := by decide +kernel
set_option maxRecDepth 20000 in
theorem ggX8_lift_X1_holds : GoodIn wsX8_lift wsX1_holds := goodIn_r _ [15] rfl (by decide +kernel)
set_option maxRecDepth 20000 in
theorem gX8_lift_X1_holds : GoodIn wsX8_lift (va_wsS RX8 34 yX1_holds wsX1_holds) := goodIn_app (goodIn_r _ [12, 13, 14] rfl (by decide +kernel)) ggX8_lift_X1_holds
theorem dX8_lift_26 : decode cX8_lift 26 = .ok (.invokestatic 34, 3) := by decide +kernel
theorem dX8_lift_29 : decode cX8_lift 29 = .ok (.if_icmp .ne 8, 3) := by decide +kernel
theorem dX8_lift_37 : decode cX8_lift 37 = .ok (.iconst 4, 1) := by decide +kernel
theorem dX8_lift_38 : decode cX8_lift 38 = .ok (.ireturn, 1) := by decide +kernel
theorem dX8_lift_32 : decode cX8_lift 32 = .ok (.bipush (-4), 2) := by decide +kernel
theorem dX8_lift_34 : decode cX8_lift 34 = .ok (.goto 4, 3) := by decide +kernel
theorem dX8_lift_17 : decode cX8_lift 17 = .ok (.iconst 1, 1) := by decide +kernel
theorem dX8_lift_18 : decode cX8_lift 18 = .ok (.goto 4, 3) := by decide +kernel
theorem dX8_lift_10 : decode cX8_lift 10 = .ok (.iconst 0, 1) := by decide +kernel
theorem dX8_lift_11 : decode cX8_lift 11 = .ok (.ireturn, 1) := by decide +kernel
set_option maxHeartbeats 4000000 in
set_option maxRecDepth 100000 in
theorem t_X8_lift (l : Launch) (D : va_G) (cy : Nat → ClassId) (a : Nat → Nat) (sz : Nat) (J : Nat → Int64) (I : Nat → Int32) (O : Nat → Option Nat) (R : Nat → Nat → Int32) (RO : Nat → Nat → Option Nat) (LL : va_W) (Y : va_W) (x0 : Int32) : Met l yX8_lift wsX8_lift ({ frames := 2, cells := 0, slots := 0, locals := 45 }) (va_Pc [.ref (a 7), .int x0] (PW D cy sz (CT cy a J I O R RO (LL ++ Y)))) (vp_Si (fun r => True)) 0 0 (fun _ => False) := by
  refine Met.ofW (cc := cX8_lift) (maxL := 3) (ret := (some .int)) (by decide) rfl ?_
  intro p e s m args below meth c s₁ B hml hv
  obtain ⟨rfl, rfl, hP, hK, hN, hD0⟩ := hv
  have hx := B.exec
  have hb := B.bytes
  have hr := B.returns
  have hts := atoms_spec (ws := wsX8_lift) B.pre
  have hown : s.vm.findClass RX8 = some m.cls := findClass_of_methodNamed B.named
  have hlocks := B.notSynchronized
  have hw0 := hts (.constantLong RX8 32 (-6172840429334713771)) (by decide +kernel)
  have hD := hD0
  have hl := lv_entry ([.ref (a 7), .int x0]) (n := 3) (Nat.le_of_ble_eq_true rfl)
  rw [lg_entry_eq]
  generalize (lg_sl ([.ref (a 7), .int x0]) ++ List.replicate (3 - (lg_sl ([.ref (a 7), .int x0])).length) Slot.unset).toArray = ls at hl ⊢
  have hl : lv_has ls 3 [(0, .ref (a 7)), (1, .int x0)] := hl
  refine lv_aload_n hx hb dX8_lift_0 rfl (lv_at hl 0 rfl) ?_
  refine lv_iload_n hx hb dX8_lift_1 rfl (lv_at hl 1 rfl) ?_
  refine kRa_i (As := [.int x0]) (rest := []) (q0 := 7) ⟨hx, hb, hml, hown, hts⟩ (t_X8_lying l D cy a _ J I O R RO LL Y x0  ) (cwV 1 hts gX8_lift_X8_lying rfl rfl rfl (by decide +kernel) ⟨Nat.le_of_ble_eq_true rfl, Nat.le_of_ble_eq_true rfl⟩) hK hN hP hD rfl rfl rfl hl.1 rfl (Nat.le_of_ble_eq_true rfl) dX8_lift_2 ⟨Nat.le_of_ble_eq_true rfl, Nat.le_of_ble_eq_true rfl⟩ (fun r_1 hr_2 => ?_)
  refine lv_istore_n (lv' := [(2, .int r_1), (0, .ref (a 7)), (1, .int x0)]) hx hb dX8_lift_5 rfl hl (by decide) rfl (fun ls hl => ?_)
  refine lv_iload_n hx hb dX8_lift_6 rfl (lv_at hl 0 rfl) ?_
  refine lv_if_ne (tgt := 12) hx hb dX8_lift_7 (by decide) (fun c_3 => ?_) (fun c_3 => ?_)
  · refine lv_iload_n hx hb dX8_lift_12 rfl (lv_at hl 0 rfl) ?_
    refine lv_iconst (v := 1) hx hb dX8_lift_13 (by decide) ?_
    refine lv_icmp_ne (tgt := 21) hx hb dX8_lift_14 (by decide) (fun c_4 => ?_) (fun c_4 => ?_)
    · refine lv_iconst (v := 0) hx hb dX8_lift_21 (by decide) ?_
      refine lv_ldc2 (v := (-6172840429334713771)) hx hb hown hw0 dX8_lift_22 ?_
      refine lv_iload_n hx hb dX8_lift_25 rfl (lv_at hl 2 rfl) ?_
      refine kS_i (As := [.long (-6172840429334713771), .int x0]) (rest := [.int 0]) ⟨hx, hb, hml, hown, hts⟩ (c_X1_holds l (-6172840429334713771) x0) (va_cwS 2 hts gX8_lift_X1_holds rfl rfl rfl (by decide +kernel) ⟨Nat.le_of_ble_eq_true rfl, Nat.le_of_ble_eq_true rfl⟩) rfl hl.1 rfl (Nat.le_of_ble_eq_true rfl) dX8_lift_26 ⟨Nat.le_of_ble_eq_true rfl, Nat.le_of_ble_eq_true rfl⟩ ?_
      refine lv_icmp_ne (tgt := 37) hx hb dX8_lift_29 (by decide) (fun c_5 => ?_) (fun c_5 => ?_)
      · refine lv_iconst (v := 4) hx hb dX8_lift_37 (by decide) ?_
        exact aret_i hx hb hr hlocks trivial dX8_lift_38
      · refine lv_bipush (v := (-4)) hx hb dX8_lift_32 (by decide) ?_
        refine lv_goto (tgt := 38) hx hb dX8_lift_34 (by decide) ?_
        exact aret_i hx hb hr hlocks trivial dX8_lift_38
    · refine lv_iconst (v := 1) hx hb dX8_lift_17 (by decide) ?_
      refine lv_goto (tgt := 22) hx hb dX8_lift_18 (by decide) ?_
      refine lv_ldc2 (v := (-6172840429334713771)) hx hb hown hw0 dX8_lift_22 ?_
      refine lv_iload_n hx hb dX8_lift_25 rfl (lv_at hl 2 rfl) ?_
      refine kS_i (As := [.long (-6172840429334713771), .int x0]) (rest := [.int 1]) ⟨hx, hb, hml, hown, hts⟩ (c_X1_holds l (-6172840429334713771) x0) (va_cwS 2 hts gX8_lift_X1_holds rfl rfl rfl (by decide +kernel) ⟨Nat.le_of_ble_eq_true rfl, Nat.le_of_ble_eq_true rfl⟩) rfl hl.1 rfl (Nat.le_of_ble_eq_true rfl) dX8_lift_26 ⟨Nat.le_of_ble_eq_true rfl, Nat.le_of_ble_eq_true rfl⟩ ?_
      refine lv_icmp_ne (tgt := 37) hx hb dX8_lift_29 (by decide) (fun c_6 => ?_) (fun c_6 => ?_)
      · refine lv_iconst (v := 4) hx hb dX8_lift_37 (by decide) ?_
        exact aret_i hx hb hr hlocks trivial dX8_lift_38
      · refine lv_bipush (v := (-4)) hx hb dX8_lift_32 (by decide) ?_
        refine lv_goto (tgt := 38) hx hb dX8_lift_34 (by decide) ?_
        exact aret_i hx hb hr hlocks trivial dX8_lift_38
  · refine lv_iconst (v := 0) hx hb dX8_lift_10 (by decide) ?_
    exact aret_i hx hb hr hlocks trivial dX8_lift_11
theorem dX8_goOn_20 : decode cX8_goOn 20 = .ok (.iload 4, 2) := by decide +kernel
theorem dX8_goOn_22 : decode cX8_goOn 22 = .ok (.bipush 55, 2) := by decide +kernel
theorem dX8_goOn_24 : decode cX8_goOn 24 = .ok (.if_icmp .ge 42, 3) := by decide +kernel
theorem dX8_goOn_66 : decode cX8_goOn 66 = .ok (.iinc 3 1, 3) := by decide +kernel
theorem dX8_goOn_69 : decode cX8_goOn 69 = .ok (.goto (-65), 3) := by decide +kernel
theorem dX8_goOn_27 : decode cX8_goOn 27 = .ok (.aload_n 0, 1) := by decide +kernel
theorem dX8_goOn_28 : decode cX8_goOn 28 = .ok (.iload 4, 2) := by decide +kernel
set_option maxRecDepth 20000 in
theorem ggX8_goOn_X8_lift : GoodIn wsX8_goOn wsX8_lift := goodIn_r _ [5, 6, 7, 8, 9, 4, 10, 11, 12, 13, 14, 15, 16, 17, 18, 19, 24, 25] rfl (by decide +kernel)
set_option maxRecDepth 20000 in
theorem gX8_goOn_X8_lift : GoodIn wsX8_goOn (wsV RX8 38 RX8 yX8_lift wsX8_lift) := goodIn_app (goodIn_r _ [1, 2, 3, 4] rfl (by decide +kernel)) ggX8_goOn_X8_lift
theorem dX8_goOn_30 : decode cX8_goOn 30 = .ok (.invokevirtual 38, 3) := by decide +kernel
theorem dX8_goOn_33 : decode cX8_goOn 33 = .ok (.istore 5, 2) := by decide +kernel
theorem dX8_goOn_35 : decode cX8_goOn 35 = .ok (.iload_n 1, 1) := by decide +kernel
theorem dX8_goOn_36 : decode cX8_goOn 36 = .ok (.ifCond .eq 11, 3) := by decide +kernel
theorem dX8_goOn_47 : decode cX8_goOn 47 = .ok (.iload 5, 2) := by decide +kernel
theorem dX8_goOn_49 : decode cX8_goOn 49 = .ok (.ifCond .ge 11, 3) := by decide +kernel
theorem dX8_goOn_60 : decode cX8_goOn 60 = .ok (.iinc 4 1, 3) := by decide +kernel
theorem dX8_goOn_63 : decode cX8_goOn 63 = .ok (.goto (-43), 3) := by decide +kernel
theorem dX8_goOn_52 : decode cX8_goOn 52 = .ok (.aload_n 0, 1) := by decide +kernel
theorem dX8_goOn_53 : decode cX8_goOn 53 = .ok (.iload 4, 2) := by decide +kernel
set_option maxRecDepth 20000 in
theorem ggX8_goOn_X8_flip : GoodIn wsX8_goOn wsX8_flip := goodIn_r _ [23, 11, 12, 24, 25] rfl (by decide +kernel)
set_option maxRecDepth 20000 in
theorem gX8_goOn_X8_flip : GoodIn wsX8_goOn (wsV RX8 41 RX8 yX8_flip wsX8_flip) := goodIn_app (goodIn_r _ [20, 21, 22, 4] rfl (by decide +kernel)) ggX8_goOn_X8_flip
theorem dX8_goOn_55 : decode cX8_goOn 55 = .ok (.invokevirtual 41, 3) := by decide +kernel
theorem dX8_goOn_58 : decode cX8_goOn 58 = .ok (.iconst 1, 1) := by decide +kernel
theorem dX8_goOn_59 : decode cX8_goOn 59 = .ok (.istore_n 2, 1) := by decide +kernel
theorem dX8_goOn_39 : decode cX8_goOn 39 = .ok (.iload 5, 2) := by decide +kernel
theorem dX8_goOn_41 : decode cX8_goOn 41 = .ok (.ifCond .le 19, 3) := by decide +kernel
theorem dX8_goOn_44 : decode cX8_goOn 44 = .ok (.goto 8, 3) := by decide +kernel
theorem dX8_goOn_4 : decode cX8_goOn 4 = .ok (.iload_n 2, 1) := by decide +kernel
theorem dX8_goOn_5 : decode cX8_goOn 5 = .ok (.ifCond .eq 67, 3) := by decide +kernel
theorem dX8_goOn_72 : decode cX8_goOn 72 = .ok (.return_, 1) := by decide +kernel
theorem dX8_goOn_8 : decode cX8_goOn 8 = .ok (.iload_n 3, 1) := by decide +kernel
theorem dX8_goOn_9 : decode cX8_goOn 9 = .ok (.sipush 1000, 3) := by decide +kernel
theorem dX8_goOn_12 : decode cX8_goOn 12 = .ok (.if_icmp .ge 60, 3) := by decide +kernel
theorem dX8_goOn_15 : decode cX8_goOn 15 = .ok (.iconst 0, 1) := by decide +kernel
theorem dX8_goOn_16 : decode cX8_goOn 16 = .ok (.istore_n 2, 1) := by decide +kernel
theorem dX8_goOn_17 : decode cX8_goOn 17 = .ok (.iconst 0, 1) := by decide +kernel
theorem dX8_goOn_18 : decode cX8_goOn 18 = .ok (.istore 4, 2) := by decide +kernel
theorem dX8_goOn_0 : decode cX8_goOn 0 = .ok (.iconst 1, 1) := by decide +kernel
theorem dX8_goOn_1 : decode cX8_goOn 1 = .ok (.istore_n 2, 1) := by decide +kernel
theorem dX8_goOn_2 : decode cX8_goOn 2 = .ok (.iconst 0, 1) := by decide +kernel
theorem dX8_goOn_3 : decode cX8_goOn 3 = .ok (.istore_n 3, 1) := by decide +kernel
set_option maxHeartbeats 4000000 in
set_option maxRecDepth 100000 in
theorem t_X8_goOn (l : Launch) (D : va_G) (cy : Nat → ClassId) (a : Nat → Nat) (sz : Nat) (J : Nat → Int64) (I : Nat → Int32) (O : Nat → Option Nat) (R : Nat → Nat → Int32) (RO : Nat → Nat → Option Nat) (LL : va_W) (Y : va_W) (x0 : Bool) : Met l yX8_goOn wsX8_goOn ({ frames := 3, cells := 0, slots := 0, locals := 67 }) (va_Pc [.ref (a 7), .int (bI x0)] (PW D cy sz (CT cy a J I O R RO (LL ++ Y)))) (va_Qv (fun (u : TS) => ∃ (w0 : Int64), ∃ (w1 : Int64), (True) ∧ u = ((va_up (va_up J 224 w0) 225 w1), I, O, R, RO, LL, Y)) (BW D (va_A (CT cy a J I O R RO (LL ++ Y)) sz) (CTu cy a)) (va_A (CT cy a J I O R RO (LL ++ Y)) sz)) 0 0 (va_A (CT cy a J I O R RO (LL ++ Y)) sz) := by
  refine Met.ofW (cc := cX8_goOn) (maxL := 6) (ret := none) (by decide) rfl ?_
  intro p e s m args below meth c s₁ B hml hv
  obtain ⟨rfl, rfl, hP, hK, hN, hD0⟩ := hv
  have hx := B.exec
  have hb := B.bytes
  have hr := B.returns
  have hts := atoms_spec (ws := wsX8_goOn) B.pre
  have hown : s.vm.findClass RX8 = some m.cls := findClass_of_methodNamed B.named
  have hlocks := B.notSynchronized
  have hD := hD0.self (sz := s.heap.size)
  generalize hAe : va_A (CT cy a J I O R RO (LL ++ Y)) s.heap.size = A at hD ⊢
  have hA : ∀ q : Nat, s.heap.size ≤ q → A q := fun q h => by rw [← hAe]; exact Or.inr h
  have hS : va_S A s.heap s.heap [] := va_S.rf
  have hl := lv_entry ([.ref (a 7), .int (bI x0)]) (n := 6) (Nat.le_of_ble_eq_true rfl)
  rw [lg_entry_eq]
  generalize (lg_sl ([.ref (a 7), .int (bI x0)]) ++ List.replicate (6 - (lg_sl ([.ref (a 7), .int (bI x0)])).length) Slot.unset).toArray = ls at hl ⊢
  have hl : lv_has ls 6 [(0, .ref (a 7)), (1, .int (bI x0))] := hl
  have lp4 : ∀ (n4 : Nat), ∀ (r9 : Nat) (v2_4 : Bool) (m0_4 : Int64) (m1_4 : Int64), (r9 ≤ 1000) → (1000 - r9) < n4 → ∀ (H : Heap) (locs : List Loc), va_P D vwCl (CT cy a (va_up (va_up J 224 m0_4) 225 m1_4) I O R RO (LL ++ Y)) H → va_D A (CT cy a (va_up (va_up J 224 m0_4) 225 m1_4) I O R RO (LL ++ Y)) → va_S A s.heap H locs → ∀ (ls : Array Slot), lv_has ls 6 [(0, .ref (a 7)), (1, .int (bI x0)), (2, .int (bI v2_4)), (3, .int (nI r9))] → W p l e (headSpec wsX8_goOn ({ frames := 3, cells := 0, slots := 0, locals := 67 })).room s m ([.ref (a 7), .int (bI x0)] : List Value).toArray below meth c H locs 0 0 (MQ below (va_Qv (fun (u : TS) => ∃ (w0 : Int64), ∃ (w1 : Int64), (True) ∧ u = ((va_up (va_up J 224 w0) 225 w1), I, O, R, RO, LL, Y)) (BW D A (CTu cy a)) A) ([.ref (a 7), .int (bI x0)] : List Value).toArray s 0 0 A) (F0 m 4 ls []) := by
    intro n4
    induction n4 with
    | zero => intro r9 v2_4 m0_4 m1_4 hr9 hn; exact absurd hn (Nat.not_lt_zero _)
    | succ n4 ih4 =>
      intro r9 v2_4 m0_4 m1_4 hr9 hn4 H locs hP hD hS ls hl
      have lp20 : ∀ (n20 : Nat), ∀ (f9 : Nat) (v2_20 : Bool) (m0_20 : Int64) (m1_20 : Int64), (f9 ≤ 55) → (r9 < 1000) → (55 - f9) < n20 → ∀ (H : Heap) (locs : List Loc), va_P D vwCl (CT cy a (va_up (va_up J 224 m0_20) 225 m1_20) I O R RO (LL ++ Y)) H → va_D A (CT cy a (va_up (va_up J 224 m0_20) 225 m1_20) I O R RO (LL ++ Y)) → va_S A s.heap H locs → ∀ (ls : Array Slot), lv_has ls 6 [(0, .ref (a 7)), (1, .int (bI x0)), (2, .int (bI v2_20)), (3, .int (nI r9)), (4, .int (nI f9))] → W p l e (headSpec wsX8_goOn ({ frames := 3, cells := 0, slots := 0, locals := 67 })).room s m ([.ref (a 7), .int (bI x0)] : List Value).toArray below meth c H locs 0 0 (MQ below (va_Qv (fun (u : TS) => ∃ (w0 : Int64), ∃ (w1 : Int64), (True) ∧ u = ((va_up (va_up J 224 w0) 225 w1), I, O, R, RO, LL, Y)) (BW D A (CTu cy a)) A) ([.ref (a 7), .int (bI x0)] : List Value).toArray s 0 0 A) (F0 m 20 ls []) := by
        intro n20
        induction n20 with
        | zero => intro f9 v2_20 m0_20 m1_20 hf9 hlt_r9 hn; exact absurd hn (Nat.not_lt_zero _)
        | succ n20 ih20 =>
          intro f9 v2_20 m0_20 m1_20 hf9 hlt_r9 hn20 H locs hP hD hS ls hl
          refine lv_iload hx hb dX8_goOn_20 (lv_at hl 4 rfl) ?_
          refine lv_bipush (v := 55) hx hb dX8_goOn_22 (by decide) ?_
          refine lv_icmp_ge (tgt := 66) hx hb dX8_goOn_24 (by decide) (fun c_1 => ?_) (fun c_1 => ?_)
          · refine lv_iinc (v := nI (r9 + 1)) (lv' := [(3, .int (nI (r9 + 1))), (0, .ref (a 7)), (1, .int (bI x0)), (2, .int (bI v2_20)), (4, .int (nI f9))]) hx hb dX8_goOn_66 hl (k := 3) rfl (nI_1 _) (by decide) rfl (fun ls hl => ?_)
            refine lv_goto (tgt := 4) hx hb dX8_goOn_69 (by decide) ?_
            exact ih4 (r9 + 1) v2_20 m0_20 m1_20 hlt_r9 (lt_dec hlt_r9 hn4) _ _ hP hD hS ls (lv_sub hl [1, 2, 3, 0] rfl)
          · have hlt_f9 := ctr_lt (N := 55) (by decide) hf9 c_1
            refine lv_aload_n hx hb dX8_goOn_27 rfl (lv_at hl 0 rfl) ?_
            refine lv_iload hx hb dX8_goOn_28 (lv_at hl 4 rfl) ?_
            refine kRa_i (As := [.int (nI f9)]) (rest := []) (q0 := 7) ⟨hx, hb, hml, hown, hts⟩ (t_X8_lift l D cy a _ (va_up (va_up J 224 m0_20) 225 m1_20) I O R RO LL Y (nI f9)  ) (cwV 1 hts gX8_goOn_X8_lift rfl rfl rfl (by decide +kernel) ⟨Nat.le_of_ble_eq_true rfl, Nat.le_of_ble_eq_true rfl⟩) hK hN hP hD rfl rfl rfl hl.1 rfl (Nat.le_of_ble_eq_true rfl) dX8_goOn_30 ⟨Nat.le_of_ble_eq_true rfl, Nat.le_of_ble_eq_true rfl⟩ (fun r_2 hr_3 => ?_)
            refine lv_istore (lv' := [(5, .int r_2), (0, .ref (a 7)), (1, .int (bI x0)), (2, .int (bI v2_20)), (3, .int (nI r9)), (4, .int (nI f9))]) hx hb dX8_goOn_33 hl (by decide) rfl (fun ls hl => ?_)
            refine lv_iload_n hx hb dX8_goOn_35 rfl (lv_at hl 2 rfl) ?_
            refine lv_if_eq (tgt := 47) hx hb dX8_goOn_36 (by decide) (fun c_4 => ?_) (fun c_4 => ?_)
            · replace c_4 := bI_f c_4
              refine lv_iload hx hb dX8_goOn_47 (lv_at hl 0 rfl) ?_
              refine lv_if_ge (tgt := 60) hx hb dX8_goOn_49 (by decide) (fun c_5 => ?_) (fun c_5 => ?_)
              · refine lv_iinc (v := nI (f9 + 1)) (lv' := [(4, .int (nI (f9 + 1))), (5, .int r_2), (0, .ref (a 7)), (1, .int (bI x0)), (2, .int (bI v2_20)), (3, .int (nI r9))]) hx hb dX8_goOn_60 hl (k := 5) rfl (nI_1 _) (by decide) rfl (fun ls hl => ?_)
                refine lv_goto (tgt := 20) hx hb dX8_goOn_63 (by decide) ?_
                exact ih20 (f9 + 1) v2_20 m0_20 m1_20 hlt_f9 hlt_r9 (lt_dec hlt_f9 hn20) _ _ hP hD hS ls (lv_sub hl [2, 3, 4, 5, 0] rfl)
              · refine lv_aload_n hx hb dX8_goOn_52 rfl (lv_at hl 1 rfl) ?_
                refine lv_iload hx hb dX8_goOn_53 (lv_at hl 5 rfl) ?_
                refine kM_v (As := [.int (nI f9)]) (rest := []) (q0 := 7) ⟨hx, hb, hml, hown, hts⟩ (t_X8_flip l D cy a _ (va_up (va_up J 224 m0_20) 225 m1_20) I O R RO LL Y (nI f9)   ) (cwV 1 hts gX8_goOn_X8_flip rfl rfl rfl (by decide +kernel) ⟨Nat.le_of_ble_eq_true rfl, Nat.le_of_ble_eq_true rfl⟩) hK hN hP hD hS hA rfl rfl rfl hl.1 rfl (Nat.le_of_ble_eq_true rfl) dX8_goOn_55 ⟨Nat.le_of_ble_eq_true rfl, Nat.le_of_ble_eq_true rfl⟩ (fun u H locs hw hP hD hS => ?_)
                obtain ⟨w_7, w_8, -, rfl⟩ := hw
                have hP : va_P D vwCl (CT cy a (va_up (va_up J 224 w_7) 225 w_8) I O R RO (LL ++ Y)) H := hP
                have hD : va_D A (CT cy a (va_up (va_up J 224 w_7) 225 w_8) I O R RO (LL ++ Y)) := hD
                refine lv_iconst (v := 1) hx hb dX8_goOn_58 (by decide) ?_
                refine lv_istore_n (lv' := [(2, .int 1), (5, .int r_2), (0, .ref (a 7)), (1, .int (bI x0)), (3, .int (nI r9)), (4, .int (nI f9))]) hx hb dX8_goOn_59 rfl hl (by decide) rfl (fun ls hl => ?_)
                refine lv_iinc (v := nI (f9 + 1)) (lv' := [(4, .int (nI (f9 + 1))), (2, .int 1), (5, .int r_2), (0, .ref (a 7)), (1, .int (bI x0)), (3, .int (nI r9))]) hx hb dX8_goOn_60 hl (k := 5) rfl (nI_1 _) (by decide) rfl (fun ls hl => ?_)
                refine lv_goto (tgt := 20) hx hb dX8_goOn_63 (by decide) ?_
                exact ih20 (f9 + 1) true w_7 w_8 hlt_f9 hlt_r9 (lt_dec hlt_f9 hn20) _ _ hP hD hS ls (lv_sub hl [3, 4, 1, 5, 0] rfl)
            · replace c_4 := bI_t c_4
              refine lv_iload hx hb dX8_goOn_39 (lv_at hl 0 rfl) ?_
              refine lv_if_le (tgt := 60) hx hb dX8_goOn_41 (by decide) (fun c_9 => ?_) (fun c_9 => ?_)
              · refine lv_iinc (v := nI (f9 + 1)) (lv' := [(4, .int (nI (f9 + 1))), (5, .int r_2), (0, .ref (a 7)), (1, .int (bI x0)), (2, .int (bI v2_20)), (3, .int (nI r9))]) hx hb dX8_goOn_60 hl (k := 5) rfl (nI_1 _) (by decide) rfl (fun ls hl => ?_)
                refine lv_goto (tgt := 20) hx hb dX8_goOn_63 (by decide) ?_
                exact ih20 (f9 + 1) v2_20 m0_20 m1_20 hlt_f9 hlt_r9 (lt_dec hlt_f9 hn20) _ _ hP hD hS ls (lv_sub hl [2, 3, 4, 5, 0] rfl)
              · refine lv_goto (tgt := 52) hx hb dX8_goOn_44 (by decide) ?_
                refine lv_aload_n hx hb dX8_goOn_52 rfl (lv_at hl 1 rfl) ?_
                refine lv_iload hx hb dX8_goOn_53 (lv_at hl 5 rfl) ?_
                refine kM_v (As := [.int (nI f9)]) (rest := []) (q0 := 7) ⟨hx, hb, hml, hown, hts⟩ (t_X8_flip l D cy a _ (va_up (va_up J 224 m0_20) 225 m1_20) I O R RO LL Y (nI f9)   ) (cwV 1 hts gX8_goOn_X8_flip rfl rfl rfl (by decide +kernel) ⟨Nat.le_of_ble_eq_true rfl, Nat.le_of_ble_eq_true rfl⟩) hK hN hP hD hS hA rfl rfl rfl hl.1 rfl (Nat.le_of_ble_eq_true rfl) dX8_goOn_55 ⟨Nat.le_of_ble_eq_true rfl, Nat.le_of_ble_eq_true rfl⟩ (fun u H locs hw hP hD hS => ?_)
                obtain ⟨w_11, w_12, -, rfl⟩ := hw
                have hP : va_P D vwCl (CT cy a (va_up (va_up J 224 w_11) 225 w_12) I O R RO (LL ++ Y)) H := hP
                have hD : va_D A (CT cy a (va_up (va_up J 224 w_11) 225 w_12) I O R RO (LL ++ Y)) := hD
                refine lv_iconst (v := 1) hx hb dX8_goOn_58 (by decide) ?_
                refine lv_istore_n (lv' := [(2, .int 1), (5, .int r_2), (0, .ref (a 7)), (1, .int (bI x0)), (3, .int (nI r9)), (4, .int (nI f9))]) hx hb dX8_goOn_59 rfl hl (by decide) rfl (fun ls hl => ?_)
                refine lv_iinc (v := nI (f9 + 1)) (lv' := [(4, .int (nI (f9 + 1))), (2, .int 1), (5, .int r_2), (0, .ref (a 7)), (1, .int (bI x0)), (3, .int (nI r9))]) hx hb dX8_goOn_60 hl (k := 5) rfl (nI_1 _) (by decide) rfl (fun ls hl => ?_)
                refine lv_goto (tgt := 20) hx hb dX8_goOn_63 (by decide) ?_
                exact ih20 (f9 + 1) true w_11 w_12 hlt_f9 hlt_r9 (lt_dec hlt_f9 hn20) _ _ hP hD hS ls (lv_sub hl [3, 4, 1, 5, 0] rfl)
      refine lv_iload_n hx hb dX8_goOn_4 rfl (lv_at hl 2 rfl) ?_
      refine lv_if_eq (tgt := 72) hx hb dX8_goOn_5 (by decide) (fun c_13 => ?_) (fun c_13 => ?_)
      · replace c_13 := bI_f c_13
        exact wret_v hx hb hr hlocks ((va_up (va_up J 224 m0_4) 225 m1_4), I, O, R, RO, LL, Y) ⟨m0_4, m1_4, trivial, rfl⟩ hP hD hS dX8_goOn_72
      · replace c_13 := bI_t c_13
        refine lv_iload_n hx hb dX8_goOn_8 rfl (lv_at hl 3 rfl) ?_
        refine lv_sipush (v := 1000) hx hb dX8_goOn_9 (by decide) ?_
        refine lv_icmp_ge (tgt := 72) hx hb dX8_goOn_12 (by decide) (fun c_14 => ?_) (fun c_14 => ?_)
        · exact wret_v hx hb hr hlocks ((va_up (va_up J 224 m0_4) 225 m1_4), I, O, R, RO, LL, Y) ⟨m0_4, m1_4, trivial, rfl⟩ hP hD hS dX8_goOn_72
        · have hlt_r9 := ctr_lt (N := 1000) (by decide) hr9 c_14
          refine lv_iconst (v := 0) hx hb dX8_goOn_15 (by decide) ?_
          refine lv_istore_n (lv' := [(2, .int 0), (0, .ref (a 7)), (1, .int (bI x0)), (3, .int (nI r9))]) hx hb dX8_goOn_16 rfl hl (by decide) rfl (fun ls hl => ?_)
          refine lv_iconst (v := 0) hx hb dX8_goOn_17 (by decide) ?_
          refine lv_istore (lv' := [(4, .int 0), (2, .int 0), (0, .ref (a 7)), (1, .int (bI x0)), (3, .int (nI r9))]) hx hb dX8_goOn_18 hl (by decide) rfl (fun ls hl => ?_)
          exact lp20 _ 0 false m0_4 m1_4 (Nat.zero_le _) hlt_r9 (Nat.lt_succ_self _) _ _ hP hD hS ls (lv_sub hl [2, 3, 1, 4, 0] rfl)
  have hP : va_P D vwCl (CT cy a (va_up (va_up J 224 (J 224)) 225 (J 225)) I O R RO (LL ++ Y)) s.heap := hP
  have hD : va_D A (CT cy a (va_up (va_up J 224 (J 224)) 225 (J 225)) I O R RO (LL ++ Y)) := hD
  refine lv_iconst (v := 1) hx hb dX8_goOn_0 (by decide) ?_
  refine lv_istore_n (lv' := [(2, .int 1), (0, .ref (a 7)), (1, .int (bI x0))]) hx hb dX8_goOn_1 rfl hl (by decide) rfl (fun ls hl => ?_)
  refine lv_iconst (v := 0) hx hb dX8_goOn_2 (by decide) ?_
  refine lv_istore_n (lv' := [(3, .int 0), (2, .int 1), (0, .ref (a 7)), (1, .int (bI x0))]) hx hb dX8_goOn_3 rfl hl (by decide) rfl (fun ls hl => ?_)
  exact lp4 _ 0 true (J 224) (J 225) (by omega) (Nat.lt_succ_self _) _ _ hP hD hS ls (lv_sub hl [2, 3, 1, 0] rfl)
theorem dX8_leastToward_2 : decode cX8_leastToward 2 = .ok (.iload_n 3, 1) := by decide +kernel
theorem dX8_leastToward_3 : decode cX8_leastToward 3 = .ok (.bipush 55, 2) := by decide +kernel
theorem dX8_leastToward_5 : decode cX8_leastToward 5 = .ok (.if_icmp .ge 56, 3) := by decide +kernel
theorem dX8_leastToward_61 : decode cX8_leastToward 61 = .ok (.iconst (-1), 1) := by decide +kernel
theorem dX8_leastToward_62 : decode cX8_leastToward 62 = .ok (.ireturn, 1) := by decide +kernel
theorem dX8_leastToward_8 : decode cX8_leastToward 8 = .ok (.aload_n 0, 1) := by decide +kernel
theorem dX8_leastToward_9 : decode cX8_leastToward 9 = .ok (.iload_n 3, 1) := by decide +kernel
set_option maxRecDepth 20000 in
theorem ggX8_leastToward_X8_lift : GoodIn wsX8_leastToward wsX8_lift := goodIn_r _ [5, 6, 7, 8, 9, 4, 10, 11, 12, 13, 14, 15, 16, 17, 18, 19, 27, 28] rfl (by decide +kernel)
set_option maxRecDepth 20000 in
theorem gX8_leastToward_X8_lift : GoodIn wsX8_leastToward (wsV RX8 38 RX8 yX8_lift wsX8_lift) := goodIn_app (goodIn_r _ [1, 2, 3, 4] rfl (by decide +kernel)) ggX8_leastToward_X8_lift
theorem dX8_leastToward_10 : decode cX8_leastToward 10 = .ok (.invokevirtual 38, 3) := by decide +kernel
theorem dX8_leastToward_13 : decode cX8_leastToward 13 = .ok (.istore 4, 2) := by decide +kernel
theorem dX8_leastToward_15 : decode cX8_leastToward 15 = .ok (.iload_n 3, 1) := by decide +kernel
set_option maxRecDepth 20000 in
theorem ggX8_leastToward_X2_pointAmid : GoodIn wsX8_leastToward wsX2_pointAmid := goodIn_r _ [23, 24, 25, 22, 26] rfl (by decide +kernel)
set_option maxRecDepth 20000 in
theorem gX8_leastToward_X2_pointAmid : GoodIn wsX8_leastToward (va_wsS RX8 45 yX2_pointAmid wsX2_pointAmid) := goodIn_app (goodIn_r _ [20, 21, 22] rfl (by decide +kernel)) ggX8_leastToward_X2_pointAmid
theorem dX8_leastToward_16 : decode cX8_leastToward 16 = .ok (.invokestatic 45, 3) := by decide +kernel
theorem dX8_leastToward_19 : decode cX8_leastToward 19 = .ok (.istore 5, 2) := by decide +kernel
theorem dX8_leastToward_21 : decode cX8_leastToward 21 = .ok (.iload 4, 2) := by decide +kernel
theorem dX8_leastToward_23 : decode cX8_leastToward 23 = .ok (.ifCond .le 14, 3) := by decide +kernel
theorem dX8_leastToward_37 : decode cX8_leastToward 37 = .ok (.iload 4, 2) := by decide +kernel
theorem dX8_leastToward_39 : decode cX8_leastToward 39 = .ok (.ifCond .ge 16, 3) := by decide +kernel
theorem dX8_leastToward_55 : decode cX8_leastToward 55 = .ok (.iinc 3 1, 3) := by decide +kernel
theorem dX8_leastToward_58 : decode cX8_leastToward 58 = .ok (.goto (-56), 3) := by decide +kernel
theorem dX8_leastToward_42 : decode cX8_leastToward 42 = .ok (.aload_n 1, 1) := by decide +kernel
theorem dX8_leastToward_43 : decode cX8_leastToward 43 = .ok (.iload 5, 2) := by decide +kernel
theorem dX8_leastToward_45 : decode cX8_leastToward 45 = .ok (.iaload, 1) := by decide +kernel
theorem dX8_leastToward_46 : decode cX8_leastToward 46 = .ok (.aload_n 2, 1) := by decide +kernel
theorem dX8_leastToward_47 : decode cX8_leastToward 47 = .ok (.iload 5, 2) := by decide +kernel
theorem dX8_leastToward_49 : decode cX8_leastToward 49 = .ok (.iaload, 1) := by decide +kernel
theorem dX8_leastToward_50 : decode cX8_leastToward 50 = .ok (.if_icmp .le 5, 3) := by decide +kernel
theorem dX8_leastToward_53 : decode cX8_leastToward 53 = .ok (.iload_n 3, 1) := by decide +kernel
theorem dX8_leastToward_54 : decode cX8_leastToward 54 = .ok (.ireturn, 1) := by decide +kernel
theorem dX8_leastToward_26 : decode cX8_leastToward 26 = .ok (.aload_n 1, 1) := by decide +kernel
theorem dX8_leastToward_27 : decode cX8_leastToward 27 = .ok (.iload 5, 2) := by decide +kernel
theorem dX8_leastToward_29 : decode cX8_leastToward 29 = .ok (.iaload, 1) := by decide +kernel
theorem dX8_leastToward_30 : decode cX8_leastToward 30 = .ok (.aload_n 2, 1) := by decide +kernel
theorem dX8_leastToward_31 : decode cX8_leastToward 31 = .ok (.iload 5, 2) := by decide +kernel
theorem dX8_leastToward_33 : decode cX8_leastToward 33 = .ok (.iaload, 1) := by decide +kernel
theorem dX8_leastToward_34 : decode cX8_leastToward 34 = .ok (.if_icmp .lt 19, 3) := by decide +kernel
theorem dX8_leastToward_0 : decode cX8_leastToward 0 = .ok (.iconst 0, 1) := by decide +kernel
theorem dX8_leastToward_1 : decode cX8_leastToward 1 = .ok (.istore_n 3, 1) := by decide +kernel
set_option maxHeartbeats 4000000 in
set_option maxRecDepth 100000 in
theorem t_X8_leastToward (l : Launch) (D : va_G) (cy : Nat → ClassId) (a : Nat → Nat) (sz : Nat) (J : Nat → Int64) (I : Nat → Int32) (O : Nat → Option Nat) (R : Nat → Nat → Int32) (RO : Nat → Nat → Option Nat) (LL : va_W) (Y : va_W)  : Met l yX8_leastToward wsX8_leastToward ({ frames := 3, cells := 0, slots := 0, locals := 67 }) (va_Pc [.ref (a 7), .ref (a 4), .ref (a 5)] (PW D cy sz (CT cy a J I O R RO (LL ++ Y)))) (vp_Si (fun r => lt55 r)) 0 0 (fun _ => False) := by
  refine Met.ofW (cc := cX8_leastToward) (maxL := 6) (ret := (some .int)) (by decide) rfl ?_
  intro p e s m args below meth c s₁ B hml hv
  obtain ⟨rfl, rfl, hP, hK, hN, hD0⟩ := hv
  have hx := B.exec
  have hb := B.bytes
  have hr := B.returns
  have hts := atoms_spec (ws := wsX8_leastToward) B.pre
  have hown : s.vm.findClass RX8 = some m.cls := findClass_of_methodNamed B.named
  have hlocks := B.notSynchronized
  have hD := hD0
  have hl := lv_entry ([.ref (a 7), .ref (a 4), .ref (a 5)]) (n := 6) (Nat.le_of_ble_eq_true rfl)
  rw [lg_entry_eq]
  generalize (lg_sl ([.ref (a 7), .ref (a 4), .ref (a 5)]) ++ List.replicate (6 - (lg_sl ([.ref (a 7), .ref (a 4), .ref (a 5)])).length) Slot.unset).toArray = ls at hl ⊢
  have hl : lv_has ls 6 [(0, .ref (a 7)), (1, .ref (a 4)), (2, .ref (a 5))] := hl
  have lp2 : ∀ (n2 : Nat), ∀ (i : Nat), (i ≤ 55) → (55 - i) < n2 → ∀ (ls : Array Slot), lv_has ls 6 [(0, .ref (a 7)), (1, .ref (a 4)), (2, .ref (a 5)), (3, .int (nI i))] → W p l e (headSpec wsX8_leastToward ({ frames := 3, cells := 0, slots := 0, locals := 67 })).room s m ([.ref (a 7), .ref (a 4), .ref (a 5)] : List Value).toArray below meth c s.heap [] 0 0 (MQ below (vp_Si (fun r => lt55 r)) ([.ref (a 7), .ref (a 4), .ref (a 5)] : List Value).toArray s 0 0 (fun _ => False)) (F0 m 2 ls []) := by
    intro n2
    induction n2 with
    | zero => intro i hi hn; exact absurd hn (Nat.not_lt_zero _)
    | succ n2 ih2 =>
      intro i hi hn2 ls hl
      refine lv_iload_n hx hb dX8_leastToward_2 rfl (lv_at hl 3 rfl) ?_
      refine lv_bipush (v := 55) hx hb dX8_leastToward_3 (by decide) ?_
      refine lv_icmp_ge (tgt := 61) hx hb dX8_leastToward_5 (by decide) (fun c_1 => ?_) (fun c_1 => ?_)
      · refine lv_iconst (v := (-1)) hx hb dX8_leastToward_61 (by decide) ?_
        exact aret_i hx hb hr hlocks (Or.inl rfl) dX8_leastToward_62
      · have hlt_i := ctr_lt (N := 55) (by decide) hi c_1
        refine lv_aload_n hx hb dX8_leastToward_8 rfl (lv_at hl 0 rfl) ?_
        refine lv_iload_n hx hb dX8_leastToward_9 rfl (lv_at hl 3 rfl) ?_
        refine kRa_i (As := [.int (nI i)]) (rest := []) (q0 := 7) ⟨hx, hb, hml, hown, hts⟩ (t_X8_lift l D cy a _ J I O R RO LL Y (nI i)  ) (cwV 1 hts gX8_leastToward_X8_lift rfl rfl rfl (by decide +kernel) ⟨Nat.le_of_ble_eq_true rfl, Nat.le_of_ble_eq_true rfl⟩) hK hN hP hD rfl rfl rfl hl.1 rfl (Nat.le_of_ble_eq_true rfl) dX8_leastToward_10 ⟨Nat.le_of_ble_eq_true rfl, Nat.le_of_ble_eq_true rfl⟩ (fun r_2 hr_3 => ?_)
        refine lv_istore (lv' := [(4, .int r_2), (0, .ref (a 7)), (1, .ref (a 4)), (2, .ref (a 5)), (3, .int (nI i))]) hx hb dX8_leastToward_13 hl (by decide) rfl (fun ls hl => ?_)
        refine lv_iload_n hx hb dX8_leastToward_15 rfl (lv_at hl 4 rfl) ?_
        refine kS_i (As := [.int (nI i)]) (rest := []) ⟨hx, hb, hml, hown, hts⟩ (c_X2_pointAmid l (nI i)) (va_cwS 1 hts gX8_leastToward_X2_pointAmid rfl rfl rfl (by decide +kernel) ⟨Nat.le_of_ble_eq_true rfl, Nat.le_of_ble_eq_true rfl⟩) rfl hl.1 rfl (Nat.le_of_ble_eq_true rfl) dX8_leastToward_16 ⟨Nat.le_of_ble_eq_true rfl, Nat.le_of_ble_eq_true rfl⟩ ?_
        refine lv_istore (lv' := [(5, .int (9 * ((nI i) / 8 + 1) + ((nI i) - (nI i) / 8 * 8 + 1))), (4, .int r_2), (0, .ref (a 7)), (1, .ref (a 4)), (2, .ref (a 5)), (3, .int (nI i))]) hx hb dX8_leastToward_19 hl (by decide) rfl (fun ls hl => ?_)
        refine lv_iload hx hb dX8_leastToward_21 (lv_at hl 1 rfl) ?_
        refine lv_if_le (tgt := 37) hx hb dX8_leastToward_23 (by decide) (fun c_4 => ?_) (fun c_4 => ?_)
        · refine lv_iload hx hb dX8_leastToward_37 (lv_at hl 1 rfl) ?_
          refine lv_if_ge (tgt := 55) hx hb dX8_leastToward_39 (by decide) (fun c_5 => ?_) (fun c_5 => ?_)
          · refine lv_iinc (v := nI (i + 1)) (lv' := [(3, .int (nI (i + 1))), (5, .int (9 * ((nI i) / 8 + 1) + ((nI i) - (nI i) / 8 * 8 + 1))), (4, .int r_2), (0, .ref (a 7)), (1, .ref (a 4)), (2, .ref (a 5))]) hx hb dX8_leastToward_55 hl (k := 5) rfl (nI_1 _) (by decide) rfl (fun ls hl => ?_)
            refine lv_goto (tgt := 2) hx hb dX8_leastToward_58 (by decide) ?_
            exact ih2 (i + 1) (by omega) (by omega) ls (lv_sub hl [3, 4, 5, 0] rfl)
          · refine lv_aload_n hx hb dX8_leastToward_42 rfl (lv_at hl 3 rfl) ?_
            refine lv_iload hx hb dX8_leastToward_43 (lv_at hl 0 rfl) ?_
            refine va_iald hx hb hK hP 4 0 rfl rfl (pam_t ⟨i, hlt_i⟩) dX8_leastToward_45 ?_
            refine lv_aload_n hx hb dX8_leastToward_46 rfl (lv_at hl 4 rfl) ?_
            refine lv_iload hx hb dX8_leastToward_47 (lv_at hl 0 rfl) ?_
            refine va_iald hx hb hK hP 5 0 rfl rfl (pam_t ⟨i, hlt_i⟩) dX8_leastToward_49 ?_
            refine lv_icmp_le (tgt := 55) hx hb dX8_leastToward_50 (by decide) (fun c_6 => ?_) (fun c_6 => ?_)
            · refine lv_iinc (v := nI (i + 1)) (lv' := [(3, .int (nI (i + 1))), (5, .int (9 * ((nI i) / 8 + 1) + ((nI i) - (nI i) / 8 * 8 + 1))), (4, .int r_2), (0, .ref (a 7)), (1, .ref (a 4)), (2, .ref (a 5))]) hx hb dX8_leastToward_55 hl (k := 5) rfl (nI_1 _) (by decide) rfl (fun ls hl => ?_)
              refine lv_goto (tgt := 2) hx hb dX8_leastToward_58 (by decide) ?_
              exact ih2 (i + 1) (by omega) (by omega) ls (lv_sub hl [3, 4, 5, 0] rfl)
            · refine lv_iload_n hx hb dX8_leastToward_53 rfl (lv_at hl 5 rfl) ?_
              exact aret_i hx hb hr hlocks (Or.inr (vp_in_nI hlt_i (by decide))) dX8_leastToward_54
        · refine lv_aload_n hx hb dX8_leastToward_26 rfl (lv_at hl 3 rfl) ?_
          refine lv_iload hx hb dX8_leastToward_27 (lv_at hl 0 rfl) ?_
          refine va_iald hx hb hK hP 4 0 rfl rfl (pam_t ⟨i, hlt_i⟩) dX8_leastToward_29 ?_
          refine lv_aload_n hx hb dX8_leastToward_30 rfl (lv_at hl 4 rfl) ?_
          refine lv_iload hx hb dX8_leastToward_31 (lv_at hl 0 rfl) ?_
          refine va_iald hx hb hK hP 5 0 rfl rfl (pam_t ⟨i, hlt_i⟩) dX8_leastToward_33 ?_
          refine lv_icmp_lt (tgt := 53) hx hb dX8_leastToward_34 (by decide) (fun c_7 => ?_) (fun c_7 => ?_)
          · refine lv_iload_n hx hb dX8_leastToward_53 rfl (lv_at hl 5 rfl) ?_
            exact aret_i hx hb hr hlocks (Or.inr (vp_in_nI hlt_i (by decide))) dX8_leastToward_54
          · refine lv_iload hx hb dX8_leastToward_37 (lv_at hl 1 rfl) ?_
            refine lv_if_ge (tgt := 55) hx hb dX8_leastToward_39 (by decide) (fun c_8 => ?_) (fun c_8 => ?_)
            · refine lv_iinc (v := nI (i + 1)) (lv' := [(3, .int (nI (i + 1))), (5, .int (9 * ((nI i) / 8 + 1) + ((nI i) - (nI i) / 8 * 8 + 1))), (4, .int r_2), (0, .ref (a 7)), (1, .ref (a 4)), (2, .ref (a 5))]) hx hb dX8_leastToward_55 hl (k := 5) rfl (nI_1 _) (by decide) rfl (fun ls hl => ?_)
              refine lv_goto (tgt := 2) hx hb dX8_leastToward_58 (by decide) ?_
              exact ih2 (i + 1) (by omega) (by omega) ls (lv_sub hl [3, 4, 5, 0] rfl)
            · refine lv_aload_n hx hb dX8_leastToward_42 rfl (lv_at hl 3 rfl) ?_
              refine lv_iload hx hb dX8_leastToward_43 (lv_at hl 0 rfl) ?_
              refine va_iald hx hb hK hP 4 0 rfl rfl (pam_t ⟨i, hlt_i⟩) dX8_leastToward_45 ?_
              refine lv_aload_n hx hb dX8_leastToward_46 rfl (lv_at hl 4 rfl) ?_
              refine lv_iload hx hb dX8_leastToward_47 (lv_at hl 0 rfl) ?_
              refine va_iald hx hb hK hP 5 0 rfl rfl (pam_t ⟨i, hlt_i⟩) dX8_leastToward_49 ?_
              refine lv_icmp_le (tgt := 55) hx hb dX8_leastToward_50 (by decide) (fun c_9 => ?_) (fun c_9 => ?_)
              · refine lv_iinc (v := nI (i + 1)) (lv' := [(3, .int (nI (i + 1))), (5, .int (9 * ((nI i) / 8 + 1) + ((nI i) - (nI i) / 8 * 8 + 1))), (4, .int r_2), (0, .ref (a 7)), (1, .ref (a 4)), (2, .ref (a 5))]) hx hb dX8_leastToward_55 hl (k := 5) rfl (nI_1 _) (by decide) rfl (fun ls hl => ?_)
                refine lv_goto (tgt := 2) hx hb dX8_leastToward_58 (by decide) ?_
                exact ih2 (i + 1) (by omega) (by omega) ls (lv_sub hl [3, 4, 5, 0] rfl)
              · refine lv_iload_n hx hb dX8_leastToward_53 rfl (lv_at hl 5 rfl) ?_
                exact aret_i hx hb hr hlocks (Or.inr (vp_in_nI hlt_i (by decide))) dX8_leastToward_54
  refine lv_iconst (v := 0) hx hb dX8_leastToward_0 (by decide) ?_
  refine lv_istore_n (lv' := [(3, .int 0), (0, .ref (a 7)), (1, .ref (a 4)), (2, .ref (a 5))]) hx hb dX8_leastToward_1 rfl hl (by decide) rfl (fun ls hl => ?_)
  exact lp2 _ 0 (by omega) (Nat.lt_succ_self _) ls (lv_sub hl [1, 2, 3, 0] rfl)
theorem dX8_flipAlso_0 : decode cX8_flipAlso 0 = .ok (.aload_n 2, 1) := by decide +kernel
theorem dX8_flipAlso_1 : decode cX8_flipAlso 1 = .ok (.iload_n 1, 1) := by decide +kernel
set_option maxRecDepth 20000 in
theorem ggX8_flipAlso_X2_pointAmid : GoodIn wsX8_flipAlso wsX2_pointAmid := goodIn_r _ [4, 5, 6, 3, 7] rfl (by decide +kernel)
set_option maxRecDepth 20000 in
theorem gX8_flipAlso_X2_pointAmid : GoodIn wsX8_flipAlso (va_wsS RX8 45 yX2_pointAmid wsX2_pointAmid) := goodIn_app (goodIn_r _ [1, 2, 3] rfl (by decide +kernel)) ggX8_flipAlso_X2_pointAmid
theorem dX8_flipAlso_2 : decode cX8_flipAlso 2 = .ok (.invokestatic 45, 3) := by decide +kernel
theorem dX8_flipAlso_5 : decode cX8_flipAlso 5 = .ok (.dup2, 1) := by decide +kernel
theorem dX8_flipAlso_6 : decode cX8_flipAlso 6 = .ok (.iaload, 1) := by decide +kernel
theorem dX8_flipAlso_7 : decode cX8_flipAlso 7 = .ok (.aload_n 0, 1) := by decide +kernel
theorem dX8_flipAlso_8 : decode cX8_flipAlso 8 = .ok (.iload_n 1, 1) := by decide +kernel
set_option maxRecDepth 20000 in
theorem ggX8_flipAlso_X8_lift : GoodIn wsX8_flipAlso wsX8_lift := goodIn_r _ [12, 13, 14, 15, 16, 11, 17, 18, 19, 20, 21, 22, 23, 24, 25, 26, 31, 32] rfl (by decide +kernel)
set_option maxRecDepth 20000 in
theorem gX8_flipAlso_X8_lift : GoodIn wsX8_flipAlso (wsV RX8 38 RX8 yX8_lift wsX8_lift) := goodIn_app (goodIn_r _ [8, 9, 10, 11] rfl (by decide +kernel)) ggX8_flipAlso_X8_lift
theorem dX8_flipAlso_9 : decode cX8_flipAlso 9 = .ok (.invokevirtual 38, 3) := by decide +kernel
theorem dX8_flipAlso_12 : decode cX8_flipAlso 12 = .ok (.iadd, 1) := by decide +kernel
theorem dX8_flipAlso_13 : decode cX8_flipAlso 13 = .ok (.iastore, 1) := by decide +kernel
theorem dX8_flipAlso_14 : decode cX8_flipAlso 14 = .ok (.aload_n 0, 1) := by decide +kernel
theorem dX8_flipAlso_15 : decode cX8_flipAlso 15 = .ok (.iload_n 1, 1) := by decide +kernel
set_option maxRecDepth 20000 in
theorem ggX8_flipAlso_X8_flip : GoodIn wsX8_flipAlso wsX8_flip := goodIn_r _ [30, 18, 19, 31, 32] rfl (by decide +kernel)
set_option maxRecDepth 20000 in
theorem gX8_flipAlso_X8_flip : GoodIn wsX8_flipAlso (wsV RX8 41 RX8 yX8_flip wsX8_flip) := goodIn_app (goodIn_r _ [27, 28, 29, 11] rfl (by decide +kernel)) ggX8_flipAlso_X8_flip
theorem dX8_flipAlso_16 : decode cX8_flipAlso 16 = .ok (.invokevirtual 41, 3) := by decide +kernel
theorem dX8_flipAlso_19 : decode cX8_flipAlso 19 = .ok (.return_, 1) := by decide +kernel
set_option maxHeartbeats 4000000 in
set_option maxRecDepth 100000 in
theorem t_X8_flipAlso (l : Launch) (D : va_G) (cy : Nat → ClassId) (a : Nat → Nat) (sz : Nat) (J : Nat → Int64) (I : Nat → Int32) (O : Nat → Option Nat) (R : Nat → Nat → Int32) (RO : Nat → Nat → Option Nat) (LL : va_W) (Y : va_W) (x0 : Int32) (hx0 : vp_in x0 55) : Met l yX8_flipAlso wsX8_flipAlso ({ frames := 3, cells := 0, slots := 0, locals := 67 }) (va_Pc [.ref (a 7), .int x0, .ref (a 4)] (PW D cy sz (CT cy a J I O R RO (LL ++ Y)))) (va_Qv (fun (u : TS) => ∃ (w0 : Int64), ∃ (w1 : Int64), ∃ (w2 : Nat → Int32), (True) ∧ u = ((va_up (va_up J 224 w0) 225 w1), I, O, (va_up R 4 w2), RO, LL, Y)) (BW D (va_A (CT cy a J I O R RO (LL ++ Y)) sz) (CTu cy a)) (va_A (CT cy a J I O R RO (LL ++ Y)) sz)) 0 0 (va_A (CT cy a J I O R RO (LL ++ Y)) sz) := by
  refine Met.ofW (cc := cX8_flipAlso) (maxL := 3) (ret := none) (by decide) rfl ?_
  intro p e s m args below meth c s₁ B hml hv
  obtain ⟨rfl, rfl, hP, hK, hN, hD0⟩ := hv
  have hx := B.exec
  have hb := B.bytes
  have hr := B.returns
  have hts := atoms_spec (ws := wsX8_flipAlso) B.pre
  have hown : s.vm.findClass RX8 = some m.cls := findClass_of_methodNamed B.named
  have hlocks := B.notSynchronized
  have hD := hD0.self (sz := s.heap.size)
  generalize hAe : va_A (CT cy a J I O R RO (LL ++ Y)) s.heap.size = A at hD ⊢
  have hA : ∀ q : Nat, s.heap.size ≤ q → A q := fun q h => by rw [← hAe]; exact Or.inr h
  have hS : va_S A s.heap s.heap [] := va_S.rf
  have hl := lv_entry ([.ref (a 7), .int x0, .ref (a 4)]) (n := 3) (Nat.le_of_ble_eq_true rfl)
  rw [lg_entry_eq]
  generalize (lg_sl ([.ref (a 7), .int x0, .ref (a 4)]) ++ List.replicate (3 - (lg_sl ([.ref (a 7), .int x0, .ref (a 4)])).length) Slot.unset).toArray = ls at hl ⊢
  have hl : lv_has ls 3 [(0, .ref (a 7)), (1, .int x0), (2, .ref (a 4))] := hl
  have hP : va_P D vwCl (CT cy a (va_up (va_up J 224 (J 224)) 225 (J 225)) I O (va_up R 4 (R 4)) RO (LL ++ Y)) s.heap := hP
  have hD : va_D A (CT cy a (va_up (va_up J 224 (J 224)) 225 (J 225)) I O (va_up R 4 (R 4)) RO (LL ++ Y)) := hD
  refine lv_aload_n hx hb dX8_flipAlso_0 rfl (lv_at hl 2 rfl) ?_
  refine lv_iload_n hx hb dX8_flipAlso_1 rfl (lv_at hl 1 rfl) ?_
  refine kS_i (As := [.int x0]) (rest := [.ref (a 4)]) ⟨hx, hb, hml, hown, hts⟩ (c_X2_pointAmid l x0) (va_cwS 1 hts gX8_flipAlso_X2_pointAmid rfl rfl rfl (by decide +kernel) ⟨Nat.le_of_ble_eq_true rfl, Nat.le_of_ble_eq_true rfl⟩) rfl hl.1 rfl (Nat.le_of_ble_eq_true rfl) dX8_flipAlso_2 ⟨Nat.le_of_ble_eq_true rfl, Nat.le_of_ble_eq_true rfl⟩ ?_
  refine lv_dup2_11 hx hb dX8_flipAlso_5 rfl rfl ?_
  refine va_iald hx hb hK hP 4 0 rfl rfl (pam hx0) dX8_flipAlso_6 ?_
  refine lv_aload_n hx hb dX8_flipAlso_7 rfl (lv_at hl 0 rfl) ?_
  refine lv_iload_n hx hb dX8_flipAlso_8 rfl (lv_at hl 1 rfl) ?_
  refine kRa_i (As := [.int x0]) (rest := [.int ((R 4) (9 * (x0 / 8 + 1) + (x0 - x0 / 8 * 8 + 1)).toNatClampNeg), .int (9 * (x0 / 8 + 1) + (x0 - x0 / 8 * 8 + 1)), .ref (a 4)]) (q0 := 7) ⟨hx, hb, hml, hown, hts⟩ (t_X8_lift l D cy a _ (va_up (va_up J 224 (J 224)) 225 (J 225)) I O (va_up R 4 (R 4)) RO LL Y x0  ) (cwV 1 hts gX8_flipAlso_X8_lift rfl rfl rfl (by decide +kernel) ⟨Nat.le_of_ble_eq_true rfl, Nat.le_of_ble_eq_true rfl⟩) hK hN hP hD rfl rfl rfl hl.1 rfl (Nat.le_of_ble_eq_true rfl) dX8_flipAlso_9 ⟨Nat.le_of_ble_eq_true rfl, Nat.le_of_ble_eq_true rfl⟩ (fun r_1 hr_2 => ?_)
  refine lv_iadd hx hb dX8_flipAlso_12 ?_
  refine va_iast hx hb hK hP hD hS 4 0 rfl rfl (pam hx0) dX8_flipAlso_13 (fun H locs hP hD hS => ?_)
  have hP : va_P D vwCl (CT cy a (va_up (va_up J 224 (J 224)) 225 (J 225)) I O (va_up R 4 (upd (R 4) (9 * (x0 / 8 + 1) + (x0 - x0 / 8 * 8 + 1)).toNatClampNeg (((R 4) (9 * (x0 / 8 + 1) + (x0 - x0 / 8 * 8 + 1)).toNatClampNeg) + r_1))) RO (LL ++ Y)) H := hP
  have hD : va_D A (CT cy a (va_up (va_up J 224 (J 224)) 225 (J 225)) I O (va_up R 4 (upd (R 4) (9 * (x0 / 8 + 1) + (x0 - x0 / 8 * 8 + 1)).toNatClampNeg (((R 4) (9 * (x0 / 8 + 1) + (x0 - x0 / 8 * 8 + 1)).toNatClampNeg) + r_1))) RO (LL ++ Y)) := hD
  refine lv_aload_n hx hb dX8_flipAlso_14 rfl (lv_at hl 0 rfl) ?_
  refine lv_iload_n hx hb dX8_flipAlso_15 rfl (lv_at hl 1 rfl) ?_
  refine kM_v (As := [.int x0]) (rest := []) (q0 := 7) ⟨hx, hb, hml, hown, hts⟩ (t_X8_flip l D cy a _ (va_up (va_up J 224 (J 224)) 225 (J 225)) I O (va_up R 4 (upd (R 4) (9 * (x0 / 8 + 1) + (x0 - x0 / 8 * 8 + 1)).toNatClampNeg (((R 4) (9 * (x0 / 8 + 1) + (x0 - x0 / 8 * 8 + 1)).toNatClampNeg) + r_1))) RO LL Y x0   ) (cwV 1 hts gX8_flipAlso_X8_flip rfl rfl rfl (by decide +kernel) ⟨Nat.le_of_ble_eq_true rfl, Nat.le_of_ble_eq_true rfl⟩) hK hN hP hD hS hA rfl rfl rfl hl.1 rfl (Nat.le_of_ble_eq_true rfl) dX8_flipAlso_16 ⟨Nat.le_of_ble_eq_true rfl, Nat.le_of_ble_eq_true rfl⟩ (fun u H locs hw hP hD hS => ?_)
  obtain ⟨w_4, w_5, -, rfl⟩ := hw
  have hP : va_P D vwCl (CT cy a (va_up (va_up J 224 w_4) 225 w_5) I O (va_up R 4 (upd (R 4) (9 * (x0 / 8 + 1) + (x0 - x0 / 8 * 8 + 1)).toNatClampNeg (((R 4) (9 * (x0 / 8 + 1) + (x0 - x0 / 8 * 8 + 1)).toNatClampNeg) + r_1))) RO (LL ++ Y)) H := hP
  have hD : va_D A (CT cy a (va_up (va_up J 224 w_4) 225 w_5) I O (va_up R 4 (upd (R 4) (9 * (x0 / 8 + 1) + (x0 - x0 / 8 * 8 + 1)).toNatClampNeg (((R 4) (9 * (x0 / 8 + 1) + (x0 - x0 / 8 * 8 + 1)).toNatClampNeg) + r_1))) RO (LL ++ Y)) := hD
  exact wret_v hx hb hr hlocks ((va_up (va_up J 224 w_4) 225 w_5), I, O, (va_up R 4 (upd (R 4) (9 * (x0 / 8 + 1) + (x0 - x0 / 8 * 8 + 1)).toNatClampNeg (((R 4) (9 * (x0 / 8 + 1) + (x0 - x0 / 8 * 8 + 1)).toNatClampNeg) + r_1))), RO, LL, Y) ⟨w_4, w_5, (upd (R 4) (9 * (x0 / 8 + 1) + (x0 - x0 / 8 * 8 + 1)).toNatClampNeg (((R 4) (9 * (x0 / 8 + 1) + (x0 - x0 / 8 * 8 + 1)).toNatClampNeg) + r_1)), trivial, rfl⟩ hP hD hS dX8_flipAlso_19
