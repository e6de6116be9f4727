theorem dX7_isGlued_0 : decode cX7_isGlued 0 = .ok (.aload_n 0, 1) := by decide +kernel
theorem dX7_isGlued_1 : decode cX7_isGlued 1 = .ok (.getfield 19, 3) := by decide +kernel
theorem dX7_isGlued_4 : decode cX7_isGlued 4 = .ok (.iconst 1, 1) := by decide +kernel
set_option maxRecDepth 20000 in
theorem ggX7_isGlued_X9_isUnder : GoodIn wsX7_isGlued wsX9_isUnder := goodIn_r _ [4] rfl (by decide +kernel)
set_option maxRecDepth 20000 in
theorem gX7_isGlued_X9_isUnder_n42 : GoodIn wsX7_isGlued (wsX9_isUnder) := ggX7_isGlued_X9_isUnder
theorem dX7_isGlued_5 : decode cX7_isGlued 5 = .ok (.invokestatic 42, 3) := by decide +kernel
theorem dX7_isGlued_8 : decode cX7_isGlued 8 = .ok (.ireturn, 1) := by decide +kernel
set_option maxRecDepth 20000 in
theorem ihX7_isGlued_7 : ∀ w ∈ u_ws RX7 TX7 7, w ∈ wsX7_isGlued := fun _ h => List.mem_cons_of_mem _ (List.mem_append_right _ h)
set_option maxHeartbeats 4000000 in
set_option maxRecDepth 100000 in
theorem t_X7_isGlued (l : Launch) (D : va_G) (cy : Nat → ClassId) (sz : Nat) (ws : va_W) (k0 b : Nat) (be : Option Nat) (fn fk ff : Int32) (fx : Bool) (fc : Int32) (fv : Int64) (he0 : ws[k0]? = some (b, .inr (6, [va_rf be, .int fn, .int fk, .int ff, .int (bI fx), .int fc, .long fv])))  : Met l yX7_isGlued wsX7_isGlued ({ frames := 1, cells := 0, slots := 0, locals := 21 }) (va_Pc [.ref b] (PW D cy sz ws)) (vp_Si (fun r => ∃ b, r = bI b)) 0 0 (fun _ => False) := by
  refine Met.ofW (cc := cX7_isGlued) (maxL := 1) (ret := (some .boolean)) (by decide) rfl ?_
  intro p e s m args below meth c s₁ B hml hv
  obtain ⟨rfl, rfl, hP, hK, hN, hD0⟩ := hv
  have hx := B.exec
  have hb := B.bytes
  have hr := B.returns
  have hts := atoms_spec (ws := wsX7_isGlued) B.pre
  have hown : s.vm.findClass RX7 = some m.cls := findClass_of_methodNamed B.named
  have hlocks := B.notSynchronized
  have hw0 := hts (.fieldLink RX7 19 "ParquetLayer$Stone" "kind" "I") (by decide +kernel)
  have hw1 := hts (.initialized RX9) (by decide +kernel)
  have hw2 := hts (.static yX9_isUnder) (by decide +kernel)
  have hi7 := ihX7_isGlued_7
  have hD := hD0
  have hl := lv_entry ([.ref b]) (n := 1) (Nat.le_of_ble_eq_true rfl)
  rw [lg_entry_eq]
  generalize (lg_sl ([.ref b]) ++ List.replicate (1 - (lg_sl ([.ref b])).length) Slot.unset).toArray = ls at hl ⊢
  have hl : lv_has ls 1 [(0, .ref b)] := hl
  refine lv_aload_n hx hb dX7_isGlued_0 rfl (lv_at hl 0 rfl) ?_
  refine va_get (D := D) (ci := 6) (v := .int fk) (C := RX7) (T := TX7) (N := 7) hx hb hts hi7 hown hK hP k0 he0 rfl 2 (by decide) hw0 (fun _ h9 => h9) rfl dX7_isGlued_1 ?_
  refine lv_iconst (v := 1) hx hb dX7_isGlued_4 (by decide) ?_
  refine kSN_i (As := [.int fk, .int 1]) (rest := []) ⟨hx, hb, hml, hown, hts⟩ (c_X9_isUnder l fk 1) ⟨va_cnB 2 hts gX7_isGlued_X9_isUnder_n42 rfl rfl rfl hN.2.2.2.2.1 hw1 (by decide +kernel) ⟨Nat.le_of_ble_eq_true rfl, Nat.le_of_ble_eq_true rfl⟩, hw2, trivial⟩ rfl hl.1 rfl (Nat.le_of_ble_eq_true rfl) dX7_isGlued_5 ⟨Nat.le_of_ble_eq_true rfl, Nat.le_of_ble_eq_true rfl⟩ ?_
  exact aret_z hx hb hr hlocks (bI_nar (g_under fk (1 : Int32))) ⟨(g_under fk (1 : Int32)), rfl⟩ dX7_isGlued_8
theorem dX3_hasStone_0 : decode cX3_hasStone 0 = .ok (.iload_n 2, 1) := by decide +kernel
theorem dX3_hasStone_1 : decode cX3_hasStone 1 = .ok (.ifCond .eq 10, 3) := by decide +kernel
theorem dX3_hasStone_11 : decode cX3_hasStone 11 = .ok (.aload_n 0, 1) := by decide +kernel
theorem dX3_hasStone_12 : decode cX3_hasStone 12 = .ok (.getfield 13, 3) := by decide +kernel
theorem dX3_hasStone_15 : decode cX3_hasStone 15 = .ok (.iload_n 1, 1) := by decide +kernel
set_option maxRecDepth 20000 in
theorem ggX3_hasStone_X1_holds : GoodIn wsX3_hasStone wsX1_holds := goodIn_r _ [6] rfl (by decide +kernel)
set_option maxRecDepth 20000 in
theorem gX3_hasStone_X1_holds : GoodIn wsX3_hasStone (va_wsS RX3 20 yX1_holds wsX1_holds) := goodIn_app (goodIn_r _ [3, 4, 5] rfl (by decide +kernel)) ggX3_hasStone_X1_holds
theorem dX3_hasStone_16 : decode cX3_hasStone 16 = .ok (.invokestatic 20, 3) := by decide +kernel
theorem dX3_hasStone_19 : decode cX3_hasStone 19 = .ok (.ireturn, 1) := by decide +kernel
theorem dX3_hasStone_4 : decode cX3_hasStone 4 = .ok (.aload_n 0, 1) := by decide +kernel
theorem dX3_hasStone_5 : decode cX3_hasStone 5 = .ok (.getfield 17, 3) := by decide +kernel
theorem dX3_hasStone_8 : decode cX3_hasStone 8 = .ok (.goto 7, 3) := by decide +kernel
set_option maxRecDepth 20000 in
theorem ihX3_hasStone_3 : ∀ w ∈ u_ws RX3 TX3 3, w ∈ wsX3_hasStone := fun _ h => List.mem_cons_of_mem _ (List.mem_append_right _ h)
set_option maxHeartbeats 4000000 in
set_option maxRecDepth 100000 in
theorem t_X3_hasStone (l : Launch) (D : va_G) (cy : Nat → ClassId) (sz : Nat) (ws : va_W) (k0 b : Nat) (fn : Int32) (fa fb : Int64) (he0 : ws[k0]? = some (b, .inr (2, [.int fn, .long fa, .long fb]))) (x0 : Int32) (x1 : Bool) : Met l yX3_hasStone wsX3_hasStone ({ frames := 1, cells := 0, slots := 0, locals := 22 }) (va_Pc [.ref b, .int x0, .int (bI x1)] (PW D cy sz ws)) (vp_Si (fun r => ∃ b, r = bI b)) 0 0 (fun _ => False) := by
  refine Met.ofW (cc := cX3_hasStone) (maxL := 3) (ret := (some .boolean)) (by decide) rfl ?_
  intro p e s m args below meth c s₁ B hml hv
  obtain ⟨rfl, rfl, hP, hK, hN, hD0⟩ := hv
  have hx := B.exec
  have hb := B.bytes
  have hr := B.returns
  have hts := atoms_spec (ws := wsX3_hasStone) B.pre
  have hown : s.vm.findClass RX3 = some m.cls := findClass_of_methodNamed B.named
  have hlocks := B.notSynchronized
  have hw0 := hts (.fieldLink RX3 13 "ParquetLayer$Laying" "along" "J") (by decide +kernel)
  have hw1 := hts (.fieldLink RX3 17 "ParquetLayer$Laying" "across" "J") (by decide +kernel)
  have hi3 := ihX3_hasStone_3
  have hD := hD0
  have hl := lv_entry ([.ref b, .int x0, .int (bI x1)]) (n := 3) (Nat.le_of_ble_eq_true rfl)
  rw [lg_entry_eq]
  generalize (lg_sl ([.ref b, .int x0, .int (bI x1)]) ++ List.replicate (3 - (lg_sl ([.ref b, .int x0, .int (bI x1)])).length) Slot.unset).toArray = ls at hl ⊢
  have hl : lv_has ls 3 [(0, .ref b), (1, .int x0), (2, .int (bI x1))] := hl
  refine lv_iload_n hx hb dX3_hasStone_0 rfl (lv_at hl 2 rfl) ?_
  refine lv_if_eq (tgt := 11) hx hb dX3_hasStone_1 (by decide) (fun c_1 => ?_) (fun c_1 => ?_)
  · replace c_1 := bI_f c_1
    refine lv_aload_n hx hb dX3_hasStone_11 rfl (lv_at hl 0 rfl) ?_
    refine va_get (D := D) (ci := 2) (v := .long fa) (C := RX3) (T := TX3) (N := 3) hx hb hts hi3 hown hK hP k0 he0 rfl 1 (by decide) hw0 (fun _ h9 => h9) rfl dX3_hasStone_12 ?_
    refine lv_iload_n hx hb dX3_hasStone_15 rfl (lv_at hl 1 rfl) ?_
    refine kS_i (As := [.long fa, .int x0]) (rest := []) ⟨hx, hb, hml, hown, hts⟩ (c_X1_holds l fa x0) (va_cwS 2 hts gX3_hasStone_X1_holds rfl rfl rfl (by decide +kernel) ⟨Nat.le_of_ble_eq_true rfl, Nat.le_of_ble_eq_true rfl⟩) rfl hl.1 rfl (Nat.le_of_ble_eq_true rfl) dX3_hasStone_16 ⟨Nat.le_of_ble_eq_true rfl, Nat.le_of_ble_eq_true rfl⟩ ?_
    exact aret_z hx hb hr hlocks (bI_nar (g_holds fa x0)) ⟨(g_holds fa x0), rfl⟩ dX3_hasStone_19
  · replace c_1 := bI_t c_1
    refine lv_aload_n hx hb dX3_hasStone_4 rfl (lv_at hl 0 rfl) ?_
    refine va_get (D := D) (ci := 2) (v := .long fb) (C := RX3) (T := TX3) (N := 3) hx hb hts hi3 hown hK hP k0 he0 rfl 2 (by decide) hw1 (fun _ h9 => h9) rfl dX3_hasStone_5 ?_
    refine lv_goto (tgt := 15) hx hb dX3_hasStone_8 (by decide) ?_
    refine lv_iload_n hx hb dX3_hasStone_15 rfl (lv_at hl 1 rfl) ?_
    refine kS_i (As := [.long fb, .int x0]) (rest := []) ⟨hx, hb, hml, hown, hts⟩ (c_X1_holds l fb x0) (va_cwS 2 hts gX3_hasStone_X1_holds rfl rfl rfl (by decide +kernel) ⟨Nat.le_of_ble_eq_true rfl, Nat.le_of_ble_eq_true rfl⟩) rfl hl.1 rfl (Nat.le_of_ble_eq_true rfl) dX3_hasStone_16 ⟨Nat.le_of_ble_eq_true rfl, Nat.le_of_ble_eq_true rfl⟩ ?_
    exact aret_z hx hb hr hlocks (bI_nar (g_holds fb x0)) ⟨(g_holds fb x0), rfl⟩ dX3_hasStone_19
theorem dX3_otherField_0 : decode cX3_otherField 0 = .ok (.aload_n 0, 1) := by decide +kernel
theorem dX3_otherField_1 : decode cX3_otherField 1 = .ok (.getfield 13, 3) := by decide +kernel
theorem dX3_otherField_4 : decode cX3_otherField 4 = .ok (.iload_n 1, 1) := by decide +kernel
set_option maxRecDepth 20000 in
theorem ggX3_otherField_X1_holds : GoodIn wsX3_otherField wsX1_holds := goodIn_r _ [6] rfl (by decide +kernel)
set_option maxRecDepth 20000 in
theorem gX3_otherField_X1_holds : GoodIn wsX3_otherField (va_wsS RX3 20 yX1_holds wsX1_holds) := goodIn_app (goodIn_r _ [3, 4, 5] rfl (by decide +kernel)) ggX3_otherField_X1_holds
theorem dX3_otherField_5 : decode cX3_otherField 5 = .ok (.invokestatic 20, 3) := by decide +kernel
theorem dX3_otherField_8 : decode cX3_otherField 8 = .ok (.ifCond .eq 7, 3) := by decide +kernel
theorem dX3_otherField_15 : decode cX3_otherField 15 = .ok (.aload_n 0, 1) := by decide +kernel
theorem dX3_otherField_16 : decode cX3_otherField 16 = .ok (.getfield 17, 3) := by decide +kernel
theorem dX3_otherField_19 : decode cX3_otherField 19 = .ok (.iload_n 1, 1) := by decide +kernel
theorem dX3_otherField_20 : decode cX3_otherField 20 = .ok (.invokestatic 20, 3) := by decide +kernel
theorem dX3_otherField_23 : decode cX3_otherField 23 = .ok (.ifCond .eq 8, 3) := by decide +kernel
theorem dX3_otherField_31 : decode cX3_otherField 31 = .ok (.aload_n 0, 1) := by decide +kernel
theorem dX3_otherField_32 : decode cX3_otherField 32 = .ok (.getfield 13, 3) := by decide +kernel
theorem dX3_otherField_35 : decode cX3_otherField 35 = .ok (.iconst 1, 1) := by decide +kernel
theorem dX3_otherField_36 : decode cX3_otherField 36 = .ok (.lshl, 1) := by decide +kernel
theorem dX3_otherField_37 : decode cX3_otherField 37 = .ok (.iload_n 1, 1) := by decide +kernel
theorem dX3_otherField_38 : decode cX3_otherField 38 = .ok (.invokestatic 20, 3) := by decide +kernel
theorem dX3_otherField_41 : decode cX3_otherField 41 = .ok (.ifCond .eq 9, 3) := by decide +kernel
theorem dX3_otherField_50 : decode cX3_otherField 50 = .ok (.iload_n 1, 1) := by decide +kernel
theorem dX3_otherField_51 : decode cX3_otherField 51 = .ok (.bipush 8, 2) := by decide +kernel
theorem dX3_otherField_53 : decode cX3_otherField 53 = .ok (.isub, 1) := by decide +kernel
theorem dX3_otherField_54 : decode cX3_otherField 54 = .ok (.ireturn, 1) := by decide +kernel
theorem dX3_otherField_44 : decode cX3_otherField 44 = .ok (.iload_n 1, 1) := by decide +kernel
theorem dX3_otherField_45 : decode cX3_otherField 45 = .ok (.iconst 1, 1) := by decide +kernel
theorem dX3_otherField_46 : decode cX3_otherField 46 = .ok (.isub, 1) := by decide +kernel
theorem dX3_otherField_47 : decode cX3_otherField 47 = .ok (.goto 7, 3) := by decide +kernel
theorem dX3_otherField_26 : decode cX3_otherField 26 = .ok (.iload_n 1, 1) := by decide +kernel
theorem dX3_otherField_27 : decode cX3_otherField 27 = .ok (.bipush 8, 2) := by decide +kernel
theorem dX3_otherField_29 : decode cX3_otherField 29 = .ok (.iadd, 1) := by decide +kernel
theorem dX3_otherField_30 : decode cX3_otherField 30 = .ok (.ireturn, 1) := by decide +kernel
theorem dX3_otherField_11 : decode cX3_otherField 11 = .ok (.iload_n 1, 1) := by decide +kernel
theorem dX3_otherField_12 : decode cX3_otherField 12 = .ok (.iconst 1, 1) := by decide +kernel
theorem dX3_otherField_13 : decode cX3_otherField 13 = .ok (.iadd, 1) := by decide +kernel
theorem dX3_otherField_14 : decode cX3_otherField 14 = .ok (.ireturn, 1) := by decide +kernel
set_option maxRecDepth 20000 in
theorem ihX3_otherField_3 : ∀ w ∈ u_ws RX3 TX3 3, w ∈ wsX3_otherField := fun _ h => List.mem_cons_of_mem _ (List.mem_append_right _ h)
set_option maxHeartbeats 4000000 in
set_option maxRecDepth 100000 in
theorem t_X3_otherField (l : Launch) (D : va_G) (cy : Nat → ClassId) (sz : Nat) (ws : va_W) (k0 b : Nat) (fn : Int32) (fa fb : Int64) (he0 : ws[k0]? = some (b, .inr (2, [.int fn, .long fa, .long fb]))) (x0 : Int32) : Met l yX3_otherField wsX3_otherField ({ frames := 1, cells := 0, slots := 0, locals := 22 }) (va_Pc [.ref b, .int x0] (PW D cy sz ws)) (vp_Si (fun r => True)) 0 0 (fun _ => False) := by
  refine Met.ofW (cc := cX3_otherField) (maxL := 2) (ret := (some .int)) (by decide) rfl ?_
  intro p e s m args below meth c s₁ B hml hv
  obtain ⟨rfl, rfl, hP, hK, hN, hD0⟩ := hv
  have hx := B.exec
  have hb := B.bytes
  have hr := B.returns
  have hts := atoms_spec (ws := wsX3_otherField) B.pre
  have hown : s.vm.findClass RX3 = some m.cls := findClass_of_methodNamed B.named
  have hlocks := B.notSynchronized
  have hw0 := hts (.fieldLink RX3 13 "ParquetLayer$Laying" "along" "J") (by decide +kernel)
  have hw1 := hts (.fieldLink RX3 17 "ParquetLayer$Laying" "across" "J") (by decide +kernel)
  have hi3 := ihX3_otherField_3
  have hD := hD0
  have hl := lv_entry ([.ref b, .int x0]) (n := 2) (Nat.le_of_ble_eq_true rfl)
  rw [lg_entry_eq]
  generalize (lg_sl ([.ref b, .int x0]) ++ List.replicate (2 - (lg_sl ([.ref b, .int x0])).length) Slot.unset).toArray = ls at hl ⊢
  have hl : lv_has ls 2 [(0, .ref b), (1, .int x0)] := hl
  refine lv_aload_n hx hb dX3_otherField_0 rfl (lv_at hl 0 rfl) ?_
  refine va_get (D := D) (ci := 2) (v := .long fa) (C := RX3) (T := TX3) (N := 3) hx hb hts hi3 hown hK hP k0 he0 rfl 1 (by decide) hw0 (fun _ h9 => h9) rfl dX3_otherField_1 ?_
  refine lv_iload_n hx hb dX3_otherField_4 rfl (lv_at hl 1 rfl) ?_
  refine kS_i (As := [.long fa, .int x0]) (rest := []) ⟨hx, hb, hml, hown, hts⟩ (c_X1_holds l fa x0) (va_cwS 2 hts gX3_otherField_X1_holds rfl rfl rfl (by decide +kernel) ⟨Nat.le_of_ble_eq_true rfl, Nat.le_of_ble_eq_true rfl⟩) rfl hl.1 rfl (Nat.le_of_ble_eq_true rfl) dX3_otherField_5 ⟨Nat.le_of_ble_eq_true rfl, Nat.le_of_ble_eq_true rfl⟩ ?_
  refine lv_if_eq (tgt := 15) hx hb dX3_otherField_8 (by decide) (fun c_1 => ?_) (fun c_1 => ?_)
  · replace c_1 := bI_f c_1
    refine lv_aload_n hx hb dX3_otherField_15 rfl (lv_at hl 0 rfl) ?_
    refine va_get (D := D) (ci := 2) (v := .long fb) (C := RX3) (T := TX3) (N := 3) hx hb hts hi3 hown hK hP k0 he0 rfl 2 (by decide) hw1 (fun _ h9 => h9) rfl dX3_otherField_16 ?_
    refine lv_iload_n hx hb dX3_otherField_19 rfl (lv_at hl 1 rfl) ?_
    refine kS_i (As := [.long fb, .int x0]) (rest := []) ⟨hx, hb, hml, hown, hts⟩ (c_X1_holds l fb x0) (va_cwS 2 hts gX3_otherField_X1_holds rfl rfl rfl (by decide +kernel) ⟨Nat.le_of_ble_eq_true rfl, Nat.le_of_ble_eq_true rfl⟩) rfl hl.1 rfl (Nat.le_of_ble_eq_true rfl) dX3_otherField_20 ⟨Nat.le_of_ble_eq_true rfl, Nat.le_of_ble_eq_true rfl⟩ ?_
    refine lv_if_eq (tgt := 31) hx hb dX3_otherField_23 (by decide) (fun c_2 => ?_) (fun c_2 => ?_)
    · replace c_2 := bI_f c_2
      refine lv_aload_n hx hb dX3_otherField_31 rfl (lv_at hl 0 rfl) ?_
      refine va_get (D := D) (ci := 2) (v := .long fa) (C := RX3) (T := TX3) (N := 3) hx hb hts hi3 hown hK hP k0 he0 rfl 1 (by decide) hw0 (fun _ h9 => h9) rfl dX3_otherField_32 ?_
      refine lv_iconst (v := 1) hx hb dX3_otherField_35 (by decide) ?_
      refine lv_lshl (v := fa <<< ((1 : Int32).toInt64 &&& 63)) hx hb dX3_otherField_36 rfl ?_
      refine lv_iload_n hx hb dX3_otherField_37 rfl (lv_at hl 1 rfl) ?_
      refine kS_i (As := [.long (fa <<< ((1 : Int32).toInt64 &&& 63)), .int x0]) (rest := []) ⟨hx, hb, hml, hown, hts⟩ (c_X1_holds l (fa <<< ((1 : Int32).toInt64 &&& 63)) x0) (va_cwS 2 hts gX3_otherField_X1_holds rfl rfl rfl (by decide +kernel) ⟨Nat.le_of_ble_eq_true rfl, Nat.le_of_ble_eq_true rfl⟩) rfl hl.1 rfl (Nat.le_of_ble_eq_true rfl) dX3_otherField_38 ⟨Nat.le_of_ble_eq_true rfl, Nat.le_of_ble_eq_true rfl⟩ ?_
      refine lv_if_eq (tgt := 50) hx hb dX3_otherField_41 (by decide) (fun c_3 => ?_) (fun c_3 => ?_)
      · replace c_3 := bI_f c_3
        refine lv_iload_n hx hb dX3_otherField_50 rfl (lv_at hl 1 rfl) ?_
        refine lv_bipush (v := 8) hx hb dX3_otherField_51 (by decide) ?_
        refine lv_isub hx hb dX3_otherField_53 ?_
        exact aret_i hx hb hr hlocks trivial dX3_otherField_54
      · replace c_3 := bI_t c_3
        refine lv_iload_n hx hb dX3_otherField_44 rfl (lv_at hl 1 rfl) ?_
        refine lv_iconst (v := 1) hx hb dX3_otherField_45 (by decide) ?_
        refine lv_isub hx hb dX3_otherField_46 ?_
        refine lv_goto (tgt := 54) hx hb dX3_otherField_47 (by decide) ?_
        exact aret_i hx hb hr hlocks trivial dX3_otherField_54
    · replace c_2 := bI_t c_2
      refine lv_iload_n hx hb dX3_otherField_26 rfl (lv_at hl 1 rfl) ?_
      refine lv_bipush (v := 8) hx hb dX3_otherField_27 (by decide) ?_
      refine lv_iadd hx hb dX3_otherField_29 ?_
      exact aret_i hx hb hr hlocks trivial dX3_otherField_30
  · replace c_1 := bI_t c_1
    refine lv_iload_n hx hb dX3_otherField_11 rfl (lv_at hl 1 rfl) ?_
    refine lv_iconst (v := 1) hx hb dX3_otherField_12 (by decide) ?_
    refine lv_iadd hx hb dX3_otherField_13 ?_
    exact aret_i hx hb hr hlocks trivial dX3_otherField_14
theorem dX2_isOpenFlat_0 : decode cX2_isOpenFlat 0 = .ok (.lload_n 0, 1) := by decide +kernel
theorem dX2_isOpenFlat_1 : decode cX2_isOpenFlat 1 = .ok (.iload_n 3, 1) := by decide +kernel
theorem dX2_isOpenFlat_2 : decode cX2_isOpenFlat 2 = .ok (.iload 4, 2) := by decide +kernel
set_option maxRecDepth 20000 in
theorem ggX2_isOpenFlat_X1_holdsAt : GoodIn wsX2_isOpenFlat wsX1_holdsAt := goodIn_r _ [5, 6, 7, 4, 8] rfl (by decide +kernel)
set_option maxRecDepth 20000 in
theorem gX2_isOpenFlat_X1_holdsAt : GoodIn wsX2_isOpenFlat (va_wsS RX2 26 yX1_holdsAt wsX1_holdsAt) := goodIn_app (goodIn_r _ [2, 3, 4] rfl (by decide +kernel)) ggX2_isOpenFlat_X1_holdsAt
theorem dX2_isOpenFlat_4 : decode cX2_isOpenFlat 4 = .ok (.invokestatic 26, 3) := by decide +kernel
theorem dX2_isOpenFlat_7 : decode cX2_isOpenFlat 7 = .ok (.ifCond .ne 15, 3) := by decide +kernel
theorem dX2_isOpenFlat_22 : decode cX2_isOpenFlat 22 = .ok (.aload_n 2, 1) := by decide +kernel
theorem dX2_isOpenFlat_23 : decode cX2_isOpenFlat 23 = .ok (.getfield 64, 3) := by decide +kernel
theorem dX2_isOpenFlat_26 : decode cX2_isOpenFlat 26 = .ok (.iload_n 3, 1) := by decide +kernel
theorem dX2_isOpenFlat_27 : decode cX2_isOpenFlat 27 = .ok (.iload 4, 2) := by decide +kernel
theorem dX2_isOpenFlat_29 : decode cX2_isOpenFlat 29 = .ok (.iconst 1, 1) := by decide +kernel
theorem dX2_isOpenFlat_30 : decode cX2_isOpenFlat 30 = .ok (.isub, 1) := by decide +kernel
theorem dX2_isOpenFlat_31 : decode cX2_isOpenFlat 31 = .ok (.invokestatic 26, 3) := by decide +kernel
theorem dX2_isOpenFlat_34 : decode cX2_isOpenFlat 34 = .ok (.ifCond .ne 7, 3) := by decide +kernel
theorem dX2_isOpenFlat_41 : decode cX2_isOpenFlat 41 = .ok (.iconst 0, 1) := by decide +kernel
theorem dX2_isOpenFlat_42 : decode cX2_isOpenFlat 42 = .ok (.ireturn, 1) := by decide +kernel
theorem dX2_isOpenFlat_37 : decode cX2_isOpenFlat 37 = .ok (.iconst 1, 1) := by decide +kernel
theorem dX2_isOpenFlat_38 : decode cX2_isOpenFlat 38 = .ok (.goto 4, 3) := by decide +kernel
theorem dX2_isOpenFlat_10 : decode cX2_isOpenFlat 10 = .ok (.lload_n 0, 1) := by decide +kernel
theorem dX2_isOpenFlat_11 : decode cX2_isOpenFlat 11 = .ok (.iload_n 3, 1) := by decide +kernel
theorem dX2_isOpenFlat_12 : decode cX2_isOpenFlat 12 = .ok (.iload 4, 2) := by decide +kernel
theorem dX2_isOpenFlat_14 : decode cX2_isOpenFlat 14 = .ok (.iconst 1, 1) := by decide +kernel
theorem dX2_isOpenFlat_15 : decode cX2_isOpenFlat 15 = .ok (.isub, 1) := by decide +kernel
theorem dX2_isOpenFlat_16 : decode cX2_isOpenFlat 16 = .ok (.invokestatic 26, 3) := by decide +kernel
theorem dX2_isOpenFlat_19 : decode cX2_isOpenFlat 19 = .ok (.ifCond .eq 22, 3) := by decide +kernel
set_option maxRecDepth 20000 in
theorem ihX2_isOpenFlat_3 : ∀ w ∈ u_ws RX3 TX3 3, w ∈ wsX2_isOpenFlat := fun _ h => List.mem_cons_of_mem _ (List.mem_append_right _ h)
set_option maxHeartbeats 4000000 in
set_option maxRecDepth 100000 in
theorem t_X2_isOpenFlat (l : Launch) (D : va_G) (cy : Nat → ClassId) (sz : Nat) (ws : va_W) (k0 b : Nat) (fn : Int32) (fa fb : Int64) (he0 : ws[k0]? = some (b, .inr (2, [.int fn, .long fa, .long fb]))) (x0 : Int64) (x2 : Int32) (x3 : Int32) : Met l yX2_isOpenFlat wsX2_isOpenFlat ({ frames := 2, cells := 0, slots := 0, locals := 45 }) (va_Pc [.long x0, .ref b, .int x2, .int x3] (PW D cy sz ws)) (vp_Si (fun r => ∃ b, r = bI b)) 0 0 (fun _ => False) := by
  refine Met.ofW (cc := cX2_isOpenFlat) (maxL := 5) (ret := (some .boolean)) (by decide) rfl ?_
  intro p e s m args below meth c s₁ B hml hv
  obtain ⟨rfl, rfl, hP, hK, hN, hD0⟩ := hv
  have hx := B.exec
  have hb := B.bytes
  have hr := B.returns
  have hts := atoms_spec (ws := wsX2_isOpenFlat) B.pre
  have hown : s.vm.findClass RX2 = some m.cls := findClass_of_methodNamed B.named
  have hlocks := B.notSynchronized
  have hw0 := hts (.fieldLink RX2 64 "ParquetLayer$Laying" "across" "J") (by decide +kernel)
  have hi3 := ihX2_isOpenFlat_3
  have hD := hD0
  have hl := lv_entry ([.long x0, .ref b, .int x2, .int x3]) (n := 5) (Nat.le_of_ble_eq_true rfl)
  rw [lg_entry_eq]
  generalize (lg_sl ([.long x0, .ref b, .int x2, .int x3]) ++ List.replicate (5 - (lg_sl ([.long x0, .ref b, .int x2, .int x3])).length) Slot.unset).toArray = ls at hl ⊢
  have hl : lv_has ls 5 [(0, .long x0), (2, .ref b), (3, .int x2), (4, .int x3)] := hl
  refine lv_lload_n hx hb dX2_isOpenFlat_0 rfl (lv_at hl 0 rfl) ?_
  refine lv_iload_n hx hb dX2_isOpenFlat_1 rfl (lv_at hl 2 rfl) ?_
  refine lv_iload hx hb dX2_isOpenFlat_2 (lv_at hl 3 rfl) ?_
  refine kS_i (As := [.long x0, .int x2, .int x3]) (rest := []) ⟨hx, hb, hml, hown, hts⟩ (c_X1_holdsAt l x0 x2 x3) (va_cwS 3 hts gX2_isOpenFlat_X1_holdsAt rfl rfl rfl (by decide +kernel) ⟨Nat.le_of_ble_eq_true rfl, Nat.le_of_ble_eq_true rfl⟩) rfl hl.1 rfl (Nat.le_of_ble_eq_true rfl) dX2_isOpenFlat_4 ⟨Nat.le_of_ble_eq_true rfl, Nat.le_of_ble_eq_true rfl⟩ ?_
  refine lv_if_ne (tgt := 22) hx hb dX2_isOpenFlat_7 (by decide) (fun c_1 => ?_) (fun c_1 => ?_)
  · replace c_1 := bI_t c_1
    refine lv_aload_n hx hb dX2_isOpenFlat_22 rfl (lv_at hl 1 rfl) ?_
    refine va_get (D := D) (ci := 2) (v := .long fb) (C := RX3) (T := TX3) (N := 3) hx hb hts hi3 hown hK hP k0 he0 rfl 2 (by decide) hw0 (fun _ h9 => h9) rfl dX2_isOpenFlat_23 ?_
    refine lv_iload_n hx hb dX2_isOpenFlat_26 rfl (lv_at hl 2 rfl) ?_
    refine lv_iload hx hb dX2_isOpenFlat_27 (lv_at hl 3 rfl) ?_
    refine lv_iconst (v := 1) hx hb dX2_isOpenFlat_29 (by decide) ?_
    refine lv_isub hx hb dX2_isOpenFlat_30 ?_
    refine kS_i (As := [.long fb, .int x2, .int (x3 - 1)]) (rest := []) ⟨hx, hb, hml, hown, hts⟩ (c_X1_holdsAt l fb x2 (x3 - 1)) (va_cwS 3 hts gX2_isOpenFlat_X1_holdsAt rfl rfl rfl (by decide +kernel) ⟨Nat.le_of_ble_eq_true rfl, Nat.le_of_ble_eq_true rfl⟩) rfl hl.1 rfl (Nat.le_of_ble_eq_true rfl) dX2_isOpenFlat_31 ⟨Nat.le_of_ble_eq_true rfl, Nat.le_of_ble_eq_true rfl⟩ ?_
    refine lv_if_ne (tgt := 41) hx hb dX2_isOpenFlat_34 (by decide) (fun c_2 => ?_) (fun c_2 => ?_)
    · replace c_2 := bI_t c_2
      refine lv_iconst (v := 0) hx hb dX2_isOpenFlat_41 (by decide) ?_
      exact aret_z hx hb hr hlocks rfl ⟨false, rfl⟩ dX2_isOpenFlat_42
    · replace c_2 := bI_f c_2
      refine lv_iconst (v := 1) hx hb dX2_isOpenFlat_37 (by decide) ?_
      refine lv_goto (tgt := 42) hx hb dX2_isOpenFlat_38 (by decide) ?_
      exact aret_z hx hb hr hlocks rfl ⟨true, rfl⟩ dX2_isOpenFlat_42
  · replace c_1 := bI_f c_1
    refine lv_lload_n hx hb dX2_isOpenFlat_10 rfl (lv_at hl 0 rfl) ?_
    refine lv_iload_n hx hb dX2_isOpenFlat_11 rfl (lv_at hl 2 rfl) ?_
    refine lv_iload hx hb dX2_isOpenFlat_12 (lv_at hl 3 rfl) ?_
    refine lv_iconst (v := 1) hx hb dX2_isOpenFlat_14 (by decide) ?_
    refine lv_isub hx hb dX2_isOpenFlat_15 ?_
    refine kS_i (As := [.long x0, .int x2, .int (x3 - 1)]) (rest := []) ⟨hx, hb, hml, hown, hts⟩ (c_X1_holdsAt l x0 x2 (x3 - 1)) (va_cwS 3 hts gX2_isOpenFlat_X1_holdsAt rfl rfl rfl (by decide +kernel) ⟨Nat.le_of_ble_eq_true rfl, Nat.le_of_ble_eq_true rfl⟩) rfl hl.1 rfl (Nat.le_of_ble_eq_true rfl) dX2_isOpenFlat_16 ⟨Nat.le_of_ble_eq_true rfl, Nat.le_of_ble_eq_true rfl⟩ ?_
    refine lv_if_eq (tgt := 41) hx hb dX2_isOpenFlat_19 (by decide) (fun c_3 => ?_) (fun c_3 => ?_)
    · replace c_3 := bI_f c_3
      refine lv_iconst (v := 0) hx hb dX2_isOpenFlat_41 (by decide) ?_
      exact aret_z hx hb hr hlocks rfl ⟨false, rfl⟩ dX2_isOpenFlat_42
    · replace c_3 := bI_t c_3
      refine lv_aload_n hx hb dX2_isOpenFlat_22 rfl (lv_at hl 1 rfl) ?_
      refine va_get (D := D) (ci := 2) (v := .long fb) (C := RX3) (T := TX3) (N := 3) hx hb hts hi3 hown hK hP k0 he0 rfl 2 (by decide) hw0 (fun _ h9 => h9) rfl dX2_isOpenFlat_23 ?_
      refine lv_iload_n hx hb dX2_isOpenFlat_26 rfl (lv_at hl 2 rfl) ?_
      refine lv_iload hx hb dX2_isOpenFlat_27 (lv_at hl 3 rfl) ?_
      refine lv_iconst (v := 1) hx hb dX2_isOpenFlat_29 (by decide) ?_
      refine lv_isub hx hb dX2_isOpenFlat_30 ?_
      refine kS_i (As := [.long fb, .int x2, .int (x3 - 1)]) (rest := []) ⟨hx, hb, hml, hown, hts⟩ (c_X1_holdsAt l fb x2 (x3 - 1)) (va_cwS 3 hts gX2_isOpenFlat_X1_holdsAt rfl rfl rfl (by decide +kernel) ⟨Nat.le_of_ble_eq_true rfl, Nat.le_of_ble_eq_true rfl⟩) rfl hl.1 rfl (Nat.le_of_ble_eq_true rfl) dX2_isOpenFlat_31 ⟨Nat.le_of_ble_eq_true rfl, Nat.le_of_ble_eq_true rfl⟩ ?_
      refine lv_if_ne (tgt := 41) hx hb dX2_isOpenFlat_34 (by decide) (fun c_4 => ?_) (fun c_4 => ?_)
      · replace c_4 := bI_t c_4
        refine lv_iconst (v := 0) hx hb dX2_isOpenFlat_41 (by decide) ?_
        exact aret_z hx hb hr hlocks rfl ⟨false, rfl⟩ dX2_isOpenFlat_42
      · replace c_4 := bI_f c_4
        refine lv_iconst (v := 1) hx hb dX2_isOpenFlat_37 (by decide) ?_
        refine lv_goto (tgt := 42) hx hb dX2_isOpenFlat_38 (by decide) ?_
        exact aret_z hx hb hr hlocks rfl ⟨true, rfl⟩ dX2_isOpenFlat_42
theorem dX2_isOpenSteep_0 : decode cX2_isOpenSteep 0 = .ok (.lload_n 0, 1) := by decide +kernel
theorem dX2_isOpenSteep_1 : decode cX2_isOpenSteep 1 = .ok (.iload_n 3, 1) := by decide +kernel
theorem dX2_isOpenSteep_2 : decode cX2_isOpenSteep 2 = .ok (.iload 4, 2) := by decide +kernel
set_option maxRecDepth 20000 in
theorem ggX2_isOpenSteep_X1_holdsAt : GoodIn wsX2_isOpenSteep wsX1_holdsAt := goodIn_r _ [5, 6, 7, 4, 8] rfl (by decide +kernel)
set_option maxRecDepth 20000 in
theorem gX2_isOpenSteep_X1_holdsAt : GoodIn wsX2_isOpenSteep (va_wsS RX2 26 yX1_holdsAt wsX1_holdsAt) := goodIn_app (goodIn_r _ [2, 3, 4] rfl (by decide +kernel)) ggX2_isOpenSteep_X1_holdsAt
theorem dX2_isOpenSteep_4 : decode cX2_isOpenSteep 4 = .ok (.invokestatic 26, 3) := by decide +kernel
theorem dX2_isOpenSteep_7 : decode cX2_isOpenSteep 7 = .ok (.ifCond .ne 15, 3) := by decide +kernel
theorem dX2_isOpenSteep_22 : decode cX2_isOpenSteep 22 = .ok (.aload_n 2, 1) := by decide +kernel
theorem dX2_isOpenSteep_23 : decode cX2_isOpenSteep 23 = .ok (.getfield 70, 3) := by decide +kernel
theorem dX2_isOpenSteep_26 : decode cX2_isOpenSteep 26 = .ok (.iload_n 3, 1) := by decide +kernel
theorem dX2_isOpenSteep_27 : decode cX2_isOpenSteep 27 = .ok (.iconst 1, 1) := by decide +kernel
theorem dX2_isOpenSteep_28 : decode cX2_isOpenSteep 28 = .ok (.isub, 1) := by decide +kernel
theorem dX2_isOpenSteep_29 : decode cX2_isOpenSteep 29 = .ok (.iload 4, 2) := by decide +kernel
theorem dX2_isOpenSteep_31 : decode cX2_isOpenSteep 31 = .ok (.invokestatic 26, 3) := by decide +kernel
theorem dX2_isOpenSteep_34 : decode cX2_isOpenSteep 34 = .ok (.ifCond .ne 7, 3) := by decide +kernel
theorem dX2_isOpenSteep_41 : decode cX2_isOpenSteep 41 = .ok (.iconst 0, 1) := by decide +kernel
theorem dX2_isOpenSteep_42 : decode cX2_isOpenSteep 42 = .ok (.ireturn, 1) := by decide +kernel
theorem dX2_isOpenSteep_37 : decode cX2_isOpenSteep 37 = .ok (.iconst 1, 1) := by decide +kernel
theorem dX2_isOpenSteep_38 : decode cX2_isOpenSteep 38 = .ok (.goto 4, 3) := by decide +kernel
theorem dX2_isOpenSteep_10 : decode cX2_isOpenSteep 10 = .ok (.lload_n 0, 1) := by decide +kernel
theorem dX2_isOpenSteep_11 : decode cX2_isOpenSteep 11 = .ok (.iload_n 3, 1) := by decide +kernel
theorem dX2_isOpenSteep_12 : decode cX2_isOpenSteep 12 = .ok (.iconst 1, 1) := by decide +kernel
theorem dX2_isOpenSteep_13 : decode cX2_isOpenSteep 13 = .ok (.isub, 1) := by decide +kernel
theorem dX2_isOpenSteep_14 : decode cX2_isOpenSteep 14 = .ok (.iload 4, 2) := by decide +kernel
theorem dX2_isOpenSteep_16 : decode cX2_isOpenSteep 16 = .ok (.invokestatic 26, 3) := by decide +kernel
theorem dX2_isOpenSteep_19 : decode cX2_isOpenSteep 19 = .ok (.ifCond .eq 22, 3) := by decide +kernel
set_option maxRecDepth 20000 in
theorem ihX2_isOpenSteep_3 : ∀ w ∈ u_ws RX3 TX3 3, w ∈ wsX2_isOpenSteep := fun _ h => List.mem_cons_of_mem _ (List.mem_append_right _ h)
set_option maxHeartbeats 4000000 in
set_option maxRecDepth 100000 in
theorem t_X2_isOpenSteep (l : Launch) (D : va_G) (cy : Nat → ClassId) (sz : Nat) (ws : va_W) (k0 b : Nat) (fn : Int32) (fa fb : Int64) (he0 : ws[k0]? = some (b, .inr (2, [.int fn, .long fa, .long fb]))) (x0 : Int64) (x2 : Int32) (x3 : Int32) : Met l yX2_isOpenSteep wsX2_isOpenSteep ({ frames := 2, cells := 0, slots := 0, locals := 45 }) (va_Pc [.long x0, .ref b, .int x2, .int x3] (PW D cy sz ws)) (vp_Si (fun r => ∃ b, r = bI b)) 0 0 (fun _ => False) := by
  refine Met.ofW (cc := cX2_isOpenSteep) (maxL := 5) (ret := (some .boolean)) (by decide) rfl ?_
  intro p e s m args below meth c s₁ B hml hv
  obtain ⟨rfl, rfl, hP, hK, hN, hD0⟩ := hv
  have hx := B.exec
  have hb := B.bytes
  have hr := B.returns
  have hts := atoms_spec (ws := wsX2_isOpenSteep) B.pre
  have hown : s.vm.findClass RX2 = some m.cls := findClass_of_methodNamed B.named
  have hlocks := B.notSynchronized
  have hw0 := hts (.fieldLink RX2 70 "ParquetLayer$Laying" "along" "J") (by decide +kernel)
  have hi3 := ihX2_isOpenSteep_3
  have hD := hD0
  have hl := lv_entry ([.long x0, .ref b, .int x2, .int x3]) (n := 5) (Nat.le_of_ble_eq_true rfl)
  rw [lg_entry_eq]
  generalize (lg_sl ([.long x0, .ref b, .int x2, .int x3]) ++ List.replicate (5 - (lg_sl ([.long x0, .ref b, .int x2, .int x3])).length) Slot.unset).toArray = ls at hl ⊢
  have hl : lv_has ls 5 [(0, .long x0), (2, .ref b), (3, .int x2), (4, .int x3)] := hl
  refine lv_lload_n hx hb dX2_isOpenSteep_0 rfl (lv_at hl 0 rfl) ?_
  refine lv_iload_n hx hb dX2_isOpenSteep_1 rfl (lv_at hl 2 rfl) ?_
  refine lv_iload hx hb dX2_isOpenSteep_2 (lv_at hl 3 rfl) ?_
  refine kS_i (As := [.long x0, .int x2, .int x3]) (rest := []) ⟨hx, hb, hml, hown, hts⟩ (c_X1_holdsAt l x0 x2 x3) (va_cwS 3 hts gX2_isOpenSteep_X1_holdsAt rfl rfl rfl (by decide +kernel) ⟨Nat.le_of_ble_eq_true rfl, Nat.le_of_ble_eq_true rfl⟩) rfl hl.1 rfl (Nat.le_of_ble_eq_true rfl) dX2_isOpenSteep_4 ⟨Nat.le_of_ble_eq_true rfl, Nat.le_of_ble_eq_true rfl⟩ ?_
  refine lv_if_ne (tgt := 22) hx hb dX2_isOpenSteep_7 (by decide) (fun c_1 => ?_) (fun c_1 => ?_)
  · replace c_1 := bI_t c_1
    refine lv_aload_n hx hb dX2_isOpenSteep_22 rfl (lv_at hl 1 rfl) ?_
    refine va_get (D := D) (ci := 2) (v := .long fa) (C := RX3) (T := TX3) (N := 3) hx hb hts hi3 hown hK hP k0 he0 rfl 1 (by decide) hw0 (fun _ h9 => h9) rfl dX2_isOpenSteep_23 ?_
    refine lv_iload_n hx hb dX2_isOpenSteep_26 rfl (lv_at hl 2 rfl) ?_
    refine lv_iconst (v := 1) hx hb dX2_isOpenSteep_27 (by decide) ?_
    refine lv_isub hx hb dX2_isOpenSteep_28 ?_
    refine lv_iload hx hb dX2_isOpenSteep_29 (lv_at hl 3 rfl) ?_
    refine kS_i (As := [.long fa, .int (x2 - 1), .int x3]) (rest := []) ⟨hx, hb, hml, hown, hts⟩ (c_X1_holdsAt l fa (x2 - 1) x3) (va_cwS 3 hts gX2_isOpenSteep_X1_holdsAt rfl rfl rfl (by decide +kernel) ⟨Nat.le_of_ble_eq_true rfl, Nat.le_of_ble_eq_true rfl⟩) rfl hl.1 rfl (Nat.le_of_ble_eq_true rfl) dX2_isOpenSteep_31 ⟨Nat.le_of_ble_eq_true rfl, Nat.le_of_ble_eq_true rfl⟩ ?_
    refine lv_if_ne (tgt := 41) hx hb dX2_isOpenSteep_34 (by decide) (fun c_2 => ?_) (fun c_2 => ?_)
    · replace c_2 := bI_t c_2
      refine lv_iconst (v := 0) hx hb dX2_isOpenSteep_41 (by decide) ?_
      exact aret_z hx hb hr hlocks rfl ⟨false, rfl⟩ dX2_isOpenSteep_42
    · replace c_2 := bI_f c_2
      refine lv_iconst (v := 1) hx hb dX2_isOpenSteep_37 (by decide) ?_
      refine lv_goto (tgt := 42) hx hb dX2_isOpenSteep_38 (by decide) ?_
      exact aret_z hx hb hr hlocks rfl ⟨true, rfl⟩ dX2_isOpenSteep_42
  · replace c_1 := bI_f c_1
    refine lv_lload_n hx hb dX2_isOpenSteep_10 rfl (lv_at hl 0 rfl) ?_
    refine lv_iload_n hx hb dX2_isOpenSteep_11 rfl (lv_at hl 2 rfl) ?_
    refine lv_iconst (v := 1) hx hb dX2_isOpenSteep_12 (by decide) ?_
    refine lv_isub hx hb dX2_isOpenSteep_13 ?_
    refine lv_iload hx hb dX2_isOpenSteep_14 (lv_at hl 3 rfl) ?_
    refine kS_i (As := [.long x0, .int (x2 - 1), .int x3]) (rest := []) ⟨hx, hb, hml, hown, hts⟩ (c_X1_holdsAt l x0 (x2 - 1) x3) (va_cwS 3 hts gX2_isOpenSteep_X1_holdsAt rfl rfl rfl (by decide +kernel) ⟨Nat.le_of_ble_eq_true rfl, Nat.le_of_ble_eq_true rfl⟩) rfl hl.1 rfl (Nat.le_of_ble_eq_true rfl) dX2_isOpenSteep_16 ⟨Nat.le_of_ble_eq_true rfl, Nat.le_of_ble_eq_true rfl⟩ ?_
    refine lv_if_eq (tgt := 41) hx hb dX2_isOpenSteep_19 (by decide) (fun c_3 => ?_) (fun c_3 => ?_)
    · replace c_3 := bI_f c_3
      refine lv_iconst (v := 0) hx hb dX2_isOpenSteep_41 (by decide) ?_
      exact aret_z hx hb hr hlocks rfl ⟨false, rfl⟩ dX2_isOpenSteep_42
    · replace c_3 := bI_t c_3
      refine lv_aload_n hx hb dX2_isOpenSteep_22 rfl (lv_at hl 1 rfl) ?_
      refine va_get (D := D) (ci := 2) (v := .long fa) (C := RX3) (T := TX3) (N := 3) hx hb hts hi3 hown hK hP k0 he0 rfl 1 (by decide) hw0 (fun _ h9 => h9) rfl dX2_isOpenSteep_23 ?_
      refine lv_iload_n hx hb dX2_isOpenSteep_26 rfl (lv_at hl 2 rfl) ?_
      refine lv_iconst (v := 1) hx hb dX2_isOpenSteep_27 (by decide) ?_
      refine lv_isub hx hb dX2_isOpenSteep_28 ?_
      refine lv_iload hx hb dX2_isOpenSteep_29 (lv_at hl 3 rfl) ?_
      refine kS_i (As := [.long fa, .int (x2 - 1), .int x3]) (rest := []) ⟨hx, hb, hml, hown, hts⟩ (c_X1_holdsAt l fa (x2 - 1) x3) (va_cwS 3 hts gX2_isOpenSteep_X1_holdsAt rfl rfl rfl (by decide +kernel) ⟨Nat.le_of_ble_eq_true rfl, Nat.le_of_ble_eq_true rfl⟩) rfl hl.1 rfl (Nat.le_of_ble_eq_true rfl) dX2_isOpenSteep_31 ⟨Nat.le_of_ble_eq_true rfl, Nat.le_of_ble_eq_true rfl⟩ ?_
      refine lv_if_ne (tgt := 41) hx hb dX2_isOpenSteep_34 (by decide) (fun c_4 => ?_) (fun c_4 => ?_)
      · replace c_4 := bI_t c_4
        refine lv_iconst (v := 0) hx hb dX2_isOpenSteep_41 (by decide) ?_
        exact aret_z hx hb hr hlocks rfl ⟨false, rfl⟩ dX2_isOpenSteep_42
      · replace c_4 := bI_f c_4
        refine lv_iconst (v := 1) hx hb dX2_isOpenSteep_37 (by decide) ?_
        refine lv_goto (tgt := 42) hx hb dX2_isOpenSteep_38 (by decide) ?_
        exact aret_z hx hb hr hlocks rfl ⟨true, rfl⟩ dX2_isOpenSteep_42
