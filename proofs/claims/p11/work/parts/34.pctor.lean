theorem dX7_init_0 : decode cX7_init 0 = .ok (.aload_n 0, 1) := by decide +kernel
theorem dX7_init_1 : decode cX7_init 1 = .ok (.invokespecial 3, 3) := by decide +kernel
theorem dX7_init_4 : decode cX7_init 4 = .ok (.aload_n 0, 1) := by decide +kernel
theorem dX7_init_5 : decode cX7_init 5 = .ok (.aload_n 1, 1) := by decide +kernel
theorem dX7_init_6 : decode cX7_init 6 = .ok (.putfield 9, 3) := by decide +kernel
theorem dX7_init_9 : decode cX7_init 9 = .ok (.aload_n 0, 1) := by decide +kernel
theorem dX7_init_10 : decode cX7_init 10 = .ok (.iload_n 2, 1) := by decide +kernel
theorem dX7_init_11 : decode cX7_init 11 = .ok (.putfield 15, 3) := by decide +kernel
theorem dX7_init_14 : decode cX7_init 14 = .ok (.aload_n 0, 1) := by decide +kernel
theorem dX7_init_15 : decode cX7_init 15 = .ok (.iload_n 3, 1) := by decide +kernel
theorem dX7_init_16 : decode cX7_init 16 = .ok (.putfield 19, 3) := by decide +kernel
theorem dX7_init_19 : decode cX7_init 19 = .ok (.aload_n 0, 1) := by decide +kernel
theorem dX7_init_20 : decode cX7_init 20 = .ok (.iload 4, 2) := by decide +kernel
theorem dX7_init_22 : decode cX7_init 22 = .ok (.putfield 22, 3) := by decide +kernel
theorem dX7_init_25 : decode cX7_init 25 = .ok (.aload_n 0, 1) := by decide +kernel
theorem dX7_init_26 : decode cX7_init 26 = .ok (.iload 5, 2) := by decide +kernel
theorem dX7_init_28 : decode cX7_init 28 = .ok (.putfield 25, 3) := by decide +kernel
theorem dX7_init_31 : decode cX7_init 31 = .ok (.aload_n 0, 1) := by decide +kernel
theorem dX7_init_32 : decode cX7_init 32 = .ok (.iload 6, 2) := by decide +kernel
theorem dX7_init_34 : decode cX7_init 34 = .ok (.putfield 29, 3) := by decide +kernel
theorem dX7_init_37 : decode cX7_init 37 = .ok (.aload_n 0, 1) := by decide +kernel
theorem dX7_init_38 : decode cX7_init 38 = .ok (.iload 4, 2) := by decide +kernel
theorem dX7_init_40 : decode cX7_init 40 = .ok (.iload 5, 2) := by decide +kernel
set_option maxRecDepth 20000 in
theorem ggX7_init_X1_place : GoodIn wsX7_init wsX1_place := goodIn_r _ [14] rfl (by decide +kernel)
set_option maxRecDepth 20000 in
theorem gX7_init_X1_place : GoodIn wsX7_init (va_wsS RX7 32 yX1_place wsX1_place) := goodIn_app (goodIn_r _ [11, 12, 13] rfl (by decide +kernel)) ggX7_init_X1_place
theorem dX7_init_42 : decode cX7_init 42 = .ok (.invokestatic 32, 3) := by decide +kernel
theorem dX7_init_45 : decode cX7_init 45 = .ok (.putfield 38, 3) := by decide +kernel
theorem dX7_init_48 : decode cX7_init 48 = .ok (.return_, 1) := by decide +kernel
set_option maxRecDepth 20000 in
theorem ihX7_init_7 : ∀ w ∈ u_ws RX7 TX7 7, w ∈ wsX7_init := fun _ h => List.mem_cons_of_mem _ (List.mem_append_right _ h)
set_option maxHeartbeats 4000000 in
set_option maxRecDepth 100000 in
theorem ct_X7_init_n (l : Launch) (D : va_G) (cy : Nat → ClassId) (b sz : Nat) (x1 : Int32) (x2 : Int32) (x3 : Int32) (x4 : Bool) (x5 : Int32) : Met l yX7_init wsX7_init ({ frames := 1, cells := 0, slots := 0, locals := 21 }) (va_Pc [.ref b, .null, .int x1, .int x2, .int x3, .int (bI x4), .int x5] (PW D cy sz ([(b, .inr (6, [.null, .int 0, .int 0, .int 0, .int 0, .int 0, .long 0]))]))) (va_Qv (fun _ : Unit => True) (BW D (va_A ([(b, .inr (6, [.null, .int 0, .int 0, .int 0, .int 0, .int 0, .long 0]))]) sz) (fun _ : Unit => [(b, .inr (6, [.null, .int x1, .int x2, .int x3, .int (bI x4), .int x5, .long (g_place x3 x4)]))])) (va_A ([(b, .inr (6, [.null, .int 0, .int 0, .int 0, .int 0, .int 0, .long 0]))]) sz)) 0 0 (va_A ([(b, .inr (6, [.null, .int 0, .int 0, .int 0, .int 0, .int 0, .long 0]))]) sz) := by
  refine Met.ofW (cc := cX7_init) (maxL := 7) (ret := none) (by decide) rfl ?_
  intro p e s m args below meth c s₁ B hml hv
  obtain ⟨rfl, rfl, hP, hK, hN, hD0⟩ := hv
  have hx := B.exec
  have hb := B.bytes
  have hr := B.returns
  have hts := atoms_spec (ws := wsX7_init) B.pre
  have hown : s.vm.findClass RX7 = some m.cls := findClass_of_methodNamed B.named
  have hlocks := B.notSynchronized
  have hin : meth.name = "<init>" := (name_of_methodNamed B.named B.method).1
  have hw0 := hts (.methodLink RX7 3 objectInit) (by decide +kernel)
  have hw1 := hts (.instanceMethod objectInit) (by decide +kernel)
  have hw2 := hts (.code objectInit ⟨#[0xb1]⟩ 1 none) (by decide +kernel)
  have hw3 := hts (.fieldLink RX7 9 "ParquetLayer$Stone" "below" "LParquetLayer$Stone;") (by decide +kernel)
  have hw4 := hts (.fieldLink RX7 15 "ParquetLayer$Stone" "number" "I") (by decide +kernel)
  have hw5 := hts (.fieldLink RX7 19 "ParquetLayer$Stone" "kind" "I") (by decide +kernel)
  have hw6 := hts (.fieldLink RX7 22 "ParquetLayer$Stone" "field" "I") (by decide +kernel)
  have hw7 := hts (.fieldLink RX7 25 "ParquetLayer$Stone" "across" "Z") (by decide +kernel)
  have hw8 := hts (.fieldLink RX7 29 "ParquetLayer$Stone" "colour" "I") (by decide +kernel)
  have hw9 := hts (.fieldLink RX7 38 "ParquetLayer$Stone" "cover" "J") (by decide +kernel)
  have hi7 := ihX7_init_7
  have hD := hD0.self (sz := s.heap.size)
  generalize hAe : va_A ([(b, .inr (6, [.null, .int 0, .int 0, .int 0, .int 0, .int 0, .long 0]))]) s.heap.size = A at hD ⊢
  have hA : ∀ q : Nat, s.heap.size ≤ q → A q := fun q h => by rw [← hAe]; exact Or.inr h
  have hS : va_S A s.heap s.heap [] := va_S.rf
  have hl := lv_entry ([.ref b, .null, .int x1, .int x2, .int x3, .int (bI x4), .int x5]) (n := 7) (Nat.le_of_ble_eq_true rfl)
  rw [lg_entry_eq]
  generalize (lg_sl ([.ref b, .null, .int x1, .int x2, .int x3, .int (bI x4), .int x5]) ++ List.replicate (7 - (lg_sl ([.ref b, .null, .int x1, .int x2, .int x3, .int (bI x4), .int x5])).length) Slot.unset).toArray = ls at hl ⊢
  have hl : lv_has ls 7 [(0, .ref b), (1, .null), (2, .int x1), (3, .int x2), (4, .int x3), (5, .int (bI x4)), (6, .int x5)] := hl
  refine lv_aload_n hx hb dX7_init_0 rfl (lv_at hl 0 rfl) ?_
  refine W.objInit hx hb hown hw0 hw1 hw2 rfl (by rw [hml]; exact hl.1) rfl dX7_init_1 (Nat.le_of_ble_eq_true rfl) (Nat.le_of_ble_eq_true rfl) ?_
  refine W.eq (g2 := F0 m 4 ls []) rfl ?_
  refine lv_aload_n hx hb dX7_init_4 rfl (lv_at hl 0 rfl) ?_
  refine lv_aload_nN hx hb dX7_init_5 rfl (lv_at hl 1 rfl) ?_
  refine va_putF (D := D) (ci := 6) (v := .null) (ty := .object "ParquetLayer$Stone") (C := RX7) (T := TX7) (N := 7) hx hb hts hi7 tyX7 tyX7_ok nmX7 hown hK hP hD hS 0 rfl rfl 0 (by decide) hw3 (fun _ h9 => h9) rfl hin rfl (by decide +kernel) rfl rfl (Nat.le_of_ble_eq_true rfl) dX7_init_6 (fun H locs hP hD hS => ?_)
  have hP : va_P D vwCl ([(b, .inr (6, [.null, .int 0, .int 0, .int 0, .int 0, .int 0, .long 0]))]) H := hP
  have hD : va_D A ([(b, .inr (6, [.null, .int 0, .int 0, .int 0, .int 0, .int 0, .long 0]))]) := hD
  refine lv_aload_n hx hb dX7_init_9 rfl (lv_at hl 0 rfl) ?_
  refine lv_iload_n hx hb dX7_init_10 rfl (lv_at hl 2 rfl) ?_
  refine va_putF (D := D) (ci := 6) (v := .int x1) (ty := .int) (C := RX7) (T := TX7) (N := 7) hx hb hts hi7 tyX7 tyX7_ok nmX7 hown hK hP hD hS 0 rfl rfl 1 (by decide) hw4 (fun _ h9 => h9) rfl hin rfl (by decide +kernel) rfl rfl (Nat.le_of_ble_eq_true rfl) dX7_init_11 (fun H locs hP hD hS => ?_)
  have hP : va_P D vwCl ([(b, .inr (6, [.null, .int x1, .int 0, .int 0, .int 0, .int 0, .long 0]))]) H := hP
  have hD : va_D A ([(b, .inr (6, [.null, .int x1, .int 0, .int 0, .int 0, .int 0, .long 0]))]) := hD
  refine lv_aload_n hx hb dX7_init_14 rfl (lv_at hl 0 rfl) ?_
  refine lv_iload_n hx hb dX7_init_15 rfl (lv_at hl 3 rfl) ?_
  refine va_putF (D := D) (ci := 6) (v := .int x2) (ty := .int) (C := RX7) (T := TX7) (N := 7) hx hb hts hi7 tyX7 tyX7_ok nmX7 hown hK hP hD hS 0 rfl rfl 2 (by decide) hw5 (fun _ h9 => h9) rfl hin rfl (by decide +kernel) rfl rfl (Nat.le_of_ble_eq_true rfl) dX7_init_16 (fun H locs hP hD hS => ?_)
  have hP : va_P D vwCl ([(b, .inr (6, [.null, .int x1, .int x2, .int 0, .int 0, .int 0, .long 0]))]) H := hP
  have hD : va_D A ([(b, .inr (6, [.null, .int x1, .int x2, .int 0, .int 0, .int 0, .long 0]))]) := hD
  refine lv_aload_n hx hb dX7_init_19 rfl (lv_at hl 0 rfl) ?_
  refine lv_iload hx hb dX7_init_20 (lv_at hl 4 rfl) ?_
  refine va_putF (D := D) (ci := 6) (v := .int x3) (ty := .int) (C := RX7) (T := TX7) (N := 7) hx hb hts hi7 tyX7 tyX7_ok nmX7 hown hK hP hD hS 0 rfl rfl 3 (by decide) hw6 (fun _ h9 => h9) rfl hin rfl (by decide +kernel) rfl rfl (Nat.le_of_ble_eq_true rfl) dX7_init_22 (fun H locs hP hD hS => ?_)
  have hP : va_P D vwCl ([(b, .inr (6, [.null, .int x1, .int x2, .int x3, .int 0, .int 0, .long 0]))]) H := hP
  have hD : va_D A ([(b, .inr (6, [.null, .int x1, .int x2, .int x3, .int 0, .int 0, .long 0]))]) := hD
  refine lv_aload_n hx hb dX7_init_25 rfl (lv_at hl 0 rfl) ?_
  refine lv_iload hx hb dX7_init_26 (lv_at hl 5 rfl) ?_
  refine va_putF (D := D) (ci := 6) (v := .int (bI x4)) (ty := .boolean) (C := RX7) (T := TX7) (N := 7) hx hb hts hi7 tyX7 tyX7_ok nmX7 hown hK hP hD hS 0 rfl rfl 4 (by decide) hw7 (fun _ h9 => h9) rfl hin rfl (by decide +kernel) (bI_nar x4) (bI_fit x4) (Nat.le_of_ble_eq_true rfl) dX7_init_28 (fun H locs hP hD hS => ?_)
  have hP : va_P D vwCl ([(b, .inr (6, [.null, .int x1, .int x2, .int x3, .int (bI x4), .int 0, .long 0]))]) H := hP
  have hD : va_D A ([(b, .inr (6, [.null, .int x1, .int x2, .int x3, .int (bI x4), .int 0, .long 0]))]) := hD
  refine lv_aload_n hx hb dX7_init_31 rfl (lv_at hl 0 rfl) ?_
  refine lv_iload hx hb dX7_init_32 (lv_at hl 6 rfl) ?_
  refine va_putF (D := D) (ci := 6) (v := .int x5) (ty := .int) (C := RX7) (T := TX7) (N := 7) hx hb hts hi7 tyX7 tyX7_ok nmX7 hown hK hP hD hS 0 rfl rfl 5 (by decide) hw8 (fun _ h9 => h9) rfl hin rfl (by decide +kernel) rfl rfl (Nat.le_of_ble_eq_true rfl) dX7_init_34 (fun H locs hP hD hS => ?_)
  have hP : va_P D vwCl ([(b, .inr (6, [.null, .int x1, .int x2, .int x3, .int (bI x4), .int x5, .long 0]))]) H := hP
  have hD : va_D A ([(b, .inr (6, [.null, .int x1, .int x2, .int x3, .int (bI x4), .int x5, .long 0]))]) := hD
  refine lv_aload_n hx hb dX7_init_37 rfl (lv_at hl 0 rfl) ?_
  refine lv_iload hx hb dX7_init_38 (lv_at hl 4 rfl) ?_
  refine lv_iload hx hb dX7_init_40 (lv_at hl 5 rfl) ?_
  refine kS_l (As := [.int x3, .int (bI x4)]) (rest := [.ref b]) ⟨hx, hb, hml, hown, hts⟩ (c_X1_place l x3 x4) (va_cwS 2 hts gX7_init_X1_place rfl rfl rfl (by decide +kernel) ⟨Nat.le_of_ble_eq_true rfl, Nat.le_of_ble_eq_true rfl⟩) rfl hl.1 rfl (Nat.le_of_ble_eq_true rfl) dX7_init_42 ⟨Nat.le_of_ble_eq_true rfl, Nat.le_of_ble_eq_true rfl⟩ ?_
  refine va_putF (D := D) (ci := 6) (v := .long (g_place x3 x4)) (ty := .long) (C := RX7) (T := TX7) (N := 7) hx hb hts hi7 tyX7 tyX7_ok nmX7 hown hK hP hD hS 0 rfl rfl 6 (by decide) hw9 (fun _ h9 => h9) rfl hin rfl (by decide +kernel) rfl rfl (Nat.le_of_ble_eq_true rfl) dX7_init_45 (fun H locs hP hD hS => ?_)
  have hP : va_P D vwCl ([(b, .inr (6, [.null, .int x1, .int x2, .int x3, .int (bI x4), .int x5, .long (g_place x3 x4)]))]) H := hP
  have hD : va_D A ([(b, .inr (6, [.null, .int x1, .int x2, .int x3, .int (bI x4), .int x5, .long (g_place x3 x4)]))]) := hD
  exact wret_v hx hb hr hlocks () trivial hP hD hS dX7_init_48
set_option maxHeartbeats 4000000 in
set_option maxRecDepth 100000 in
theorem ct_X7_init_r (l : Launch) (D : va_G) (cy : Nat → ClassId) (b sz : Nat) (x0 : Nat) (x1 : Int32) (x2 : Int32) (x3 : Int32) (x4 : Bool) (x5 : Int32) : Met l yX7_init wsX7_init ({ frames := 1, cells := 0, slots := 0, locals := 21 }) (va_Pc [.ref b, .ref x0, .int x1, .int x2, .int x3, .int (bI x4), .int x5] (PW D cy sz ([(b, .inr (6, [.null, .int 0, .int 0, .int 0, .int 0, .int 0, .long 0]))]))) (va_Qv (fun _ : Unit => True) (BW D (va_A ([(b, .inr (6, [.null, .int 0, .int 0, .int 0, .int 0, .int 0, .long 0]))]) sz) (fun _ : Unit => [(b, .inr (6, [.ref x0, .int x1, .int x2, .int x3, .int (bI x4), .int x5, .long (g_place x3 x4)]))])) (va_A ([(b, .inr (6, [.null, .int 0, .int 0, .int 0, .int 0, .int 0, .long 0]))]) sz)) 0 0 (va_A ([(b, .inr (6, [.null, .int 0, .int 0, .int 0, .int 0, .int 0, .long 0]))]) sz) := by
  refine Met.ofW (cc := cX7_init) (maxL := 7) (ret := none) (by decide) rfl ?_
  intro p e s m args below meth c s₁ B hml hv
  obtain ⟨rfl, rfl, hP, hK, hN, hD0⟩ := hv
  have hx := B.exec
  have hb := B.bytes
  have hr := B.returns
  have hts := atoms_spec (ws := wsX7_init) B.pre
  have hown : s.vm.findClass RX7 = some m.cls := findClass_of_methodNamed B.named
  have hlocks := B.notSynchronized
  have hin : meth.name = "<init>" := (name_of_methodNamed B.named B.method).1
  have hw0 := hts (.methodLink RX7 3 objectInit) (by decide +kernel)
  have hw1 := hts (.instanceMethod objectInit) (by decide +kernel)
  have hw2 := hts (.code objectInit ⟨#[0xb1]⟩ 1 none) (by decide +kernel)
  have hw3 := hts (.fieldLink RX7 9 "ParquetLayer$Stone" "below" "LParquetLayer$Stone;") (by decide +kernel)
  have hw4 := hts (.fieldLink RX7 15 "ParquetLayer$Stone" "number" "I") (by decide +kernel)
  have hw5 := hts (.fieldLink RX7 19 "ParquetLayer$Stone" "kind" "I") (by decide +kernel)
  have hw6 := hts (.fieldLink RX7 22 "ParquetLayer$Stone" "field" "I") (by decide +kernel)
  have hw7 := hts (.fieldLink RX7 25 "ParquetLayer$Stone" "across" "Z") (by decide +kernel)
  have hw8 := hts (.fieldLink RX7 29 "ParquetLayer$Stone" "colour" "I") (by decide +kernel)
  have hw9 := hts (.fieldLink RX7 38 "ParquetLayer$Stone" "cover" "J") (by decide +kernel)
  have hi7 := ihX7_init_7
  have hD := hD0.self (sz := s.heap.size)
  generalize hAe : va_A ([(b, .inr (6, [.null, .int 0, .int 0, .int 0, .int 0, .int 0, .long 0]))]) s.heap.size = A at hD ⊢
  have hA : ∀ q : Nat, s.heap.size ≤ q → A q := fun q h => by rw [← hAe]; exact Or.inr h
  have hS : va_S A s.heap s.heap [] := va_S.rf
  have hl := lv_entry ([.ref b, .ref x0, .int x1, .int x2, .int x3, .int (bI x4), .int x5]) (n := 7) (Nat.le_of_ble_eq_true rfl)
  rw [lg_entry_eq]
  generalize (lg_sl ([.ref b, .ref x0, .int x1, .int x2, .int x3, .int (bI x4), .int x5]) ++ List.replicate (7 - (lg_sl ([.ref b, .ref x0, .int x1, .int x2, .int x3, .int (bI x4), .int x5])).length) Slot.unset).toArray = ls at hl ⊢
  have hl : lv_has ls 7 [(0, .ref b), (1, .ref x0), (2, .int x1), (3, .int x2), (4, .int x3), (5, .int (bI x4)), (6, .int x5)] := hl
  refine lv_aload_n hx hb dX7_init_0 rfl (lv_at hl 0 rfl) ?_
  refine W.objInit hx hb hown hw0 hw1 hw2 rfl (by rw [hml]; exact hl.1) rfl dX7_init_1 (Nat.le_of_ble_eq_true rfl) (Nat.le_of_ble_eq_true rfl) ?_
  refine W.eq (g2 := F0 m 4 ls []) rfl ?_
  refine lv_aload_n hx hb dX7_init_4 rfl (lv_at hl 0 rfl) ?_
  refine lv_aload_n hx hb dX7_init_5 rfl (lv_at hl 1 rfl) ?_
  refine va_putF (D := D) (ci := 6) (v := .ref x0) (ty := .object "ParquetLayer$Stone") (C := RX7) (T := TX7) (N := 7) hx hb hts hi7 tyX7 tyX7_ok nmX7 hown hK hP hD hS 0 rfl rfl 0 (by decide) hw3 (fun _ h9 => h9) rfl hin rfl (by decide +kernel) rfl rfl (Nat.le_of_ble_eq_true rfl) dX7_init_6 (fun H locs hP hD hS => ?_)
  have hP : va_P D vwCl ([(b, .inr (6, [.ref x0, .int 0, .int 0, .int 0, .int 0, .int 0, .long 0]))]) H := hP
  have hD : va_D A ([(b, .inr (6, [.ref x0, .int 0, .int 0, .int 0, .int 0, .int 0, .long 0]))]) := hD
  refine lv_aload_n hx hb dX7_init_9 rfl (lv_at hl 0 rfl) ?_
  refine lv_iload_n hx hb dX7_init_10 rfl (lv_at hl 2 rfl) ?_
  refine va_putF (D := D) (ci := 6) (v := .int x1) (ty := .int) (C := RX7) (T := TX7) (N := 7) hx hb hts hi7 tyX7 tyX7_ok nmX7 hown hK hP hD hS 0 rfl rfl 1 (by decide) hw4 (fun _ h9 => h9) rfl hin rfl (by decide +kernel) rfl rfl (Nat.le_of_ble_eq_true rfl) dX7_init_11 (fun H locs hP hD hS => ?_)
  have hP : va_P D vwCl ([(b, .inr (6, [.ref x0, .int x1, .int 0, .int 0, .int 0, .int 0, .long 0]))]) H := hP
  have hD : va_D A ([(b, .inr (6, [.ref x0, .int x1, .int 0, .int 0, .int 0, .int 0, .long 0]))]) := hD
  refine lv_aload_n hx hb dX7_init_14 rfl (lv_at hl 0 rfl) ?_
  refine lv_iload_n hx hb dX7_init_15 rfl (lv_at hl 3 rfl) ?_
  refine va_putF (D := D) (ci := 6) (v := .int x2) (ty := .int) (C := RX7) (T := TX7) (N := 7) hx hb hts hi7 tyX7 tyX7_ok nmX7 hown hK hP hD hS 0 rfl rfl 2 (by decide) hw5 (fun _ h9 => h9) rfl hin rfl (by decide +kernel) rfl rfl (Nat.le_of_ble_eq_true rfl) dX7_init_16 (fun H locs hP hD hS => ?_)
  have hP : va_P D vwCl ([(b, .inr (6, [.ref x0, .int x1, .int x2, .int 0, .int 0, .int 0, .long 0]))]) H := hP
  have hD : va_D A ([(b, .inr (6, [.ref x0, .int x1, .int x2, .int 0, .int 0, .int 0, .long 0]))]) := hD
  refine lv_aload_n hx hb dX7_init_19 rfl (lv_at hl 0 rfl) ?_
  refine lv_iload hx hb dX7_init_20 (lv_at hl 4 rfl) ?_
  refine va_putF (D := D) (ci := 6) (v := .int x3) (ty := .int) (C := RX7) (T := TX7) (N := 7) hx hb hts hi7 tyX7 tyX7_ok nmX7 hown hK hP hD hS 0 rfl rfl 3 (by decide) hw6 (fun _ h9 => h9) rfl hin rfl (by decide +kernel) rfl rfl (Nat.le_of_ble_eq_true rfl) dX7_init_22 (fun H locs hP hD hS => ?_)
  have hP : va_P D vwCl ([(b, .inr (6, [.ref x0, .int x1, .int x2, .int x3, .int 0, .int 0, .long 0]))]) H := hP
  have hD : va_D A ([(b, .inr (6, [.ref x0, .int x1, .int x2, .int x3, .int 0, .int 0, .long 0]))]) := hD
  refine lv_aload_n hx hb dX7_init_25 rfl (lv_at hl 0 rfl) ?_
  refine lv_iload hx hb dX7_init_26 (lv_at hl 5 rfl) ?_
  refine va_putF (D := D) (ci := 6) (v := .int (bI x4)) (ty := .boolean) (C := RX7) (T := TX7) (N := 7) hx hb hts hi7 tyX7 tyX7_ok nmX7 hown hK hP hD hS 0 rfl rfl 4 (by decide) hw7 (fun _ h9 => h9) rfl hin rfl (by decide +kernel) (bI_nar x4) (bI_fit x4) (Nat.le_of_ble_eq_true rfl) dX7_init_28 (fun H locs hP hD hS => ?_)
  have hP : va_P D vwCl ([(b, .inr (6, [.ref x0, .int x1, .int x2, .int x3, .int (bI x4), .int 0, .long 0]))]) H := hP
  have hD : va_D A ([(b, .inr (6, [.ref x0, .int x1, .int x2, .int x3, .int (bI x4), .int 0, .long 0]))]) := hD
  refine lv_aload_n hx hb dX7_init_31 rfl (lv_at hl 0 rfl) ?_
  refine lv_iload hx hb dX7_init_32 (lv_at hl 6 rfl) ?_
  refine va_putF (D := D) (ci := 6) (v := .int x5) (ty := .int) (C := RX7) (T := TX7) (N := 7) hx hb hts hi7 tyX7 tyX7_ok nmX7 hown hK hP hD hS 0 rfl rfl 5 (by decide) hw8 (fun _ h9 => h9) rfl hin rfl (by decide +kernel) rfl rfl (Nat.le_of_ble_eq_true rfl) dX7_init_34 (fun H locs hP hD hS => ?_)
  have hP : va_P D vwCl ([(b, .inr (6, [.ref x0, .int x1, .int x2, .int x3, .int (bI x4), .int x5, .long 0]))]) H := hP
  have hD : va_D A ([(b, .inr (6, [.ref x0, .int x1, .int x2, .int x3, .int (bI x4), .int x5, .long 0]))]) := hD
  refine lv_aload_n hx hb dX7_init_37 rfl (lv_at hl 0 rfl) ?_
  refine lv_iload hx hb dX7_init_38 (lv_at hl 4 rfl) ?_
  refine lv_iload hx hb dX7_init_40 (lv_at hl 5 rfl) ?_
  refine kS_l (As := [.int x3, .int (bI x4)]) (rest := [.ref b]) ⟨hx, hb, hml, hown, hts⟩ (c_X1_place l x3 x4) (va_cwS 2 hts gX7_init_X1_place rfl rfl rfl (by decide +kernel) ⟨Nat.le_of_ble_eq_true rfl, Nat.le_of_ble_eq_true rfl⟩) rfl hl.1 rfl (Nat.le_of_ble_eq_true rfl) dX7_init_42 ⟨Nat.le_of_ble_eq_true rfl, Nat.le_of_ble_eq_true rfl⟩ ?_
  refine va_putF (D := D) (ci := 6) (v := .long (g_place x3 x4)) (ty := .long) (C := RX7) (T := TX7) (N := 7) hx hb hts hi7 tyX7 tyX7_ok nmX7 hown hK hP hD hS 0 rfl rfl 6 (by decide) hw9 (fun _ h9 => h9) rfl hin rfl (by decide +kernel) rfl rfl (Nat.le_of_ble_eq_true rfl) dX7_init_45 (fun H locs hP hD hS => ?_)
  have hP : va_P D vwCl ([(b, .inr (6, [.ref x0, .int x1, .int x2, .int x3, .int (bI x4), .int x5, .long (g_place x3 x4)]))]) H := hP
  have hD : va_D A ([(b, .inr (6, [.ref x0, .int x1, .int x2, .int x3, .int (bI x4), .int x5, .long (g_place x3 x4)]))]) := hD
  exact wret_v hx hb hr hlocks () trivial hP hD hS dX7_init_48
theorem ct_X7_init (l : Launch) (D : va_G) (cy : Nat → ClassId) (b sz : Nat) (x0 : Option Nat) (x1 : Int32) (x2 : Int32) (x3 : Int32) (x4 : Bool) (x5 : Int32) : Met l yX7_init wsX7_init ({ frames := 1, cells := 0, slots := 0, locals := 21 }) (va_Pc [.ref b, va_rf x0, .int x1, .int x2, .int x3, .int (bI x4), .int x5] (PW D cy sz ([(b, .inr (6, [.null, .int 0, .int 0, .int 0, .int 0, .int 0, .long 0]))]))) (va_Qv (fun _ : Unit => True) (BW D (va_A ([(b, .inr (6, [.null, .int 0, .int 0, .int 0, .int 0, .int 0, .long 0]))]) sz) (fun _ : Unit => [(b, .inr (6, [va_rf x0, .int x1, .int x2, .int x3, .int (bI x4), .int x5, .long (g_place x3 x4)]))])) (va_A ([(b, .inr (6, [.null, .int 0, .int 0, .int 0, .int 0, .int 0, .long 0]))]) sz)) 0 0 (va_A ([(b, .inr (6, [.null, .int 0, .int 0, .int 0, .int 0, .int 0, .long 0]))]) sz) := by
  cases x0 with
  | none =>
    exact ct_X7_init_n l D cy b sz x1 x2 x3 x4 x5
  | some y0 =>
    exact ct_X7_init_r l D cy b sz y0 x1 x2 x3 x4 x5
theorem dX5_init_0 : decode cX5_init 0 = .ok (.aload_n 0, 1) := by decide +kernel
theorem dX5_init_1 : decode cX5_init 1 = .ok (.invokespecial 1, 3) := by decide +kernel
theorem dX5_init_4 : decode cX5_init 4 = .ok (.aload_n 0, 1) := by decide +kernel
theorem dX5_init_5 : decode cX5_init 5 = .ok (.lload_n 1, 1) := by decide +kernel
theorem dX5_init_6 : decode cX5_init 6 = .ok (.putfield 7, 3) := by decide +kernel
theorem dX5_init_9 : decode cX5_init 9 = .ok (.aload_n 0, 1) := by decide +kernel
theorem dX5_init_10 : decode cX5_init 10 = .ok (.aload_n 3, 1) := by decide +kernel
theorem dX5_init_11 : decode cX5_init 11 = .ok (.putfield 13, 3) := by decide +kernel
theorem dX5_init_14 : decode cX5_init 14 = .ok (.aload_n 0, 1) := by decide +kernel
theorem dX5_init_15 : decode cX5_init 15 = .ok (.aload 4, 2) := by decide +kernel
theorem dX5_init_17 : decode cX5_init 17 = .ok (.putfield 17, 3) := by decide +kernel
theorem dX5_init_20 : decode cX5_init 20 = .ok (.return_, 1) := by decide +kernel
set_option maxRecDepth 20000 in
theorem ihX5_init_5 : ∀ w ∈ u_ws RX5 TX5 3, w ∈ wsX5_init := fun _ h => List.mem_cons_of_mem _ (List.mem_append_right _ h)
set_option maxHeartbeats 4000000 in
set_option maxRecDepth 100000 in
theorem ct_X5_init_nn (l : Launch) (D : va_G) (cy : Nat → ClassId) (b sz : Nat) (x0 : Int64) : Met l yX5_init wsX5_init ({ frames := 1, cells := 0, slots := 0, locals := 20 }) (va_Pc [.ref b, .long x0, .null, .null] (PW D cy sz ([(b, .inr (4, [.long 0, .null, .null]))]))) (va_Qv (fun _ : Unit => True) (BW D (va_A ([(b, .inr (4, [.long 0, .null, .null]))]) sz) (fun _ : Unit => [(b, .inr (4, [.long x0, .null, .null]))])) (va_A ([(b, .inr (4, [.long 0, .null, .null]))]) sz)) 0 0 (va_A ([(b, .inr (4, [.long 0, .null, .null]))]) sz) := by
  refine Met.ofW (cc := cX5_init) (maxL := 5) (ret := none) (by decide) rfl ?_
  intro p e s m args below meth c s₁ B hml hv
  obtain ⟨rfl, rfl, hP, hK, hN, hD0⟩ := hv
  have hx := B.exec
  have hb := B.bytes
  have hr := B.returns
  have hts := atoms_spec (ws := wsX5_init) B.pre
  have hown : s.vm.findClass RX5 = some m.cls := findClass_of_methodNamed B.named
  have hlocks := B.notSynchronized
  have hin : meth.name = "<init>" := (name_of_methodNamed B.named B.method).1
  have hw0 := hts (.methodLink RX5 1 objectInit) (by decide +kernel)
  have hw1 := hts (.instanceMethod objectInit) (by decide +kernel)
  have hw2 := hts (.code objectInit ⟨#[0xb1]⟩ 1 none) (by decide +kernel)
  have hw3 := hts (.fieldLink RX5 7 "ParquetLayer$Past" "fields" "J") (by decide +kernel)
  have hw4 := hts (.fieldLink RX5 13 "ParquetLayer$Past" "latest" "LParquetLayer$Stone;") (by decide +kernel)
  have hw5 := hts (.fieldLink RX5 17 "ParquetLayer$Past" "hand" "LParquetLayer$Laying;") (by decide +kernel)
  have hi5 := ihX5_init_5
  have hD := hD0.self (sz := s.heap.size)
  generalize hAe : va_A ([(b, .inr (4, [.long 0, .null, .null]))]) s.heap.size = A at hD ⊢
  have hA : ∀ q : Nat, s.heap.size ≤ q → A q := fun q h => by rw [← hAe]; exact Or.inr h
  have hS : va_S A s.heap s.heap [] := va_S.rf
  have hl := lv_entry ([.ref b, .long x0, .null, .null]) (n := 5) (Nat.le_of_ble_eq_true rfl)
  rw [lg_entry_eq]
  generalize (lg_sl ([.ref b, .long x0, .null, .null]) ++ List.replicate (5 - (lg_sl ([.ref b, .long x0, .null, .null])).length) Slot.unset).toArray = ls at hl ⊢
  have hl : lv_has ls 5 [(0, .ref b), (1, .long x0), (3, .null), (4, .null)] := hl
  refine lv_aload_n hx hb dX5_init_0 rfl (lv_at hl 0 rfl) ?_
  refine W.objInit hx hb hown hw0 hw1 hw2 rfl (by rw [hml]; exact hl.1) rfl dX5_init_1 (Nat.le_of_ble_eq_true rfl) (Nat.le_of_ble_eq_true rfl) ?_
  refine W.eq (g2 := F0 m 4 ls []) rfl ?_
  refine lv_aload_n hx hb dX5_init_4 rfl (lv_at hl 0 rfl) ?_
  refine lv_lload_n hx hb dX5_init_5 rfl (lv_at hl 1 rfl) ?_
  refine va_putF (D := D) (ci := 4) (v := .long x0) (ty := .long) (C := RX5) (T := TX5) (N := 3) hx hb hts hi5 tyX5 tyX5_ok nmX5 hown hK hP hD hS 0 rfl rfl 0 (by decide) hw3 (fun _ h9 => h9) rfl hin rfl (by decide +kernel) rfl rfl (Nat.le_of_ble_eq_true rfl) dX5_init_6 (fun H locs hP hD hS => ?_)
  have hP : va_P D vwCl ([(b, .inr (4, [.long x0, .null, .null]))]) H := hP
  have hD : va_D A ([(b, .inr (4, [.long x0, .null, .null]))]) := hD
  refine lv_aload_n hx hb dX5_init_9 rfl (lv_at hl 0 rfl) ?_
  refine lv_aload_nN hx hb dX5_init_10 rfl (lv_at hl 2 rfl) ?_
  refine va_putF (D := D) (ci := 4) (v := .null) (ty := .object "ParquetLayer$Stone") (C := RX5) (T := TX5) (N := 3) hx hb hts hi5 tyX5 tyX5_ok nmX5 hown hK hP hD hS 0 rfl rfl 1 (by decide) hw4 (fun _ h9 => h9) rfl hin rfl (by decide +kernel) rfl rfl (Nat.le_of_ble_eq_true rfl) dX5_init_11 (fun H locs hP hD hS => ?_)
  have hP : va_P D vwCl ([(b, .inr (4, [.long x0, .null, .null]))]) H := hP
  have hD : va_D A ([(b, .inr (4, [.long x0, .null, .null]))]) := hD
  refine lv_aload_n hx hb dX5_init_14 rfl (lv_at hl 0 rfl) ?_
  refine lv_aloadN hx hb dX5_init_15 (lv_at hl 3 rfl) ?_
  refine va_putF (D := D) (ci := 4) (v := .null) (ty := .object "ParquetLayer$Laying") (C := RX5) (T := TX5) (N := 3) hx hb hts hi5 tyX5 tyX5_ok nmX5 hown hK hP hD hS 0 rfl rfl 2 (by decide) hw5 (fun _ h9 => h9) rfl hin rfl (by decide +kernel) rfl rfl (Nat.le_of_ble_eq_true rfl) dX5_init_17 (fun H locs hP hD hS => ?_)
  have hP : va_P D vwCl ([(b, .inr (4, [.long x0, .null, .null]))]) H := hP
  have hD : va_D A ([(b, .inr (4, [.long x0, .null, .null]))]) := hD
  exact wret_v hx hb hr hlocks () trivial hP hD hS dX5_init_20
set_option maxHeartbeats 4000000 in
set_option maxRecDepth 100000 in
theorem ct_X5_init_nr (l : Launch) (D : va_G) (cy : Nat → ClassId) (b sz : Nat) (x0 : Int64) (x2 : Nat) : Met l yX5_init wsX5_init ({ frames := 1, cells := 0, slots := 0, locals := 20 }) (va_Pc [.ref b, .long x0, .null, .ref x2] (PW D cy sz ([(b, .inr (4, [.long 0, .null, .null]))]))) (va_Qv (fun _ : Unit => True) (BW D (va_A ([(b, .inr (4, [.long 0, .null, .null]))]) sz) (fun _ : Unit => [(b, .inr (4, [.long x0, .null, .ref x2]))])) (va_A ([(b, .inr (4, [.long 0, .null, .null]))]) sz)) 0 0 (va_A ([(b, .inr (4, [.long 0, .null, .null]))]) sz) := by
  refine Met.ofW (cc := cX5_init) (maxL := 5) (ret := none) (by decide) rfl ?_
  intro p e s m args below meth c s₁ B hml hv
  obtain ⟨rfl, rfl, hP, hK, hN, hD0⟩ := hv
  have hx := B.exec
  have hb := B.bytes
  have hr := B.returns
  have hts := atoms_spec (ws := wsX5_init) B.pre
  have hown : s.vm.findClass RX5 = some m.cls := findClass_of_methodNamed B.named
  have hlocks := B.notSynchronized
  have hin : meth.name = "<init>" := (name_of_methodNamed B.named B.method).1
  have hw0 := hts (.methodLink RX5 1 objectInit) (by decide +kernel)
  have hw1 := hts (.instanceMethod objectInit) (by decide +kernel)
  have hw2 := hts (.code objectInit ⟨#[0xb1]⟩ 1 none) (by decide +kernel)
  have hw3 := hts (.fieldLink RX5 7 "ParquetLayer$Past" "fields" "J") (by decide +kernel)
  have hw4 := hts (.fieldLink RX5 13 "ParquetLayer$Past" "latest" "LParquetLayer$Stone;") (by decide +kernel)
  have hw5 := hts (.fieldLink RX5 17 "ParquetLayer$Past" "hand" "LParquetLayer$Laying;") (by decide +kernel)
  have hi5 := ihX5_init_5
  have hD := hD0.self (sz := s.heap.size)
  generalize hAe : va_A ([(b, .inr (4, [.long 0, .null, .null]))]) s.heap.size = A at hD ⊢
  have hA : ∀ q : Nat, s.heap.size ≤ q → A q := fun q h => by rw [← hAe]; exact Or.inr h
  have hS : va_S A s.heap s.heap [] := va_S.rf
  have hl := lv_entry ([.ref b, .long x0, .null, .ref x2]) (n := 5) (Nat.le_of_ble_eq_true rfl)
  rw [lg_entry_eq]
  generalize (lg_sl ([.ref b, .long x0, .null, .ref x2]) ++ List.replicate (5 - (lg_sl ([.ref b, .long x0, .null, .ref x2])).length) Slot.unset).toArray = ls at hl ⊢
  have hl : lv_has ls 5 [(0, .ref b), (1, .long x0), (3, .null), (4, .ref x2)] := hl
  refine lv_aload_n hx hb dX5_init_0 rfl (lv_at hl 0 rfl) ?_
  refine W.objInit hx hb hown hw0 hw1 hw2 rfl (by rw [hml]; exact hl.1) rfl dX5_init_1 (Nat.le_of_ble_eq_true rfl) (Nat.le_of_ble_eq_true rfl) ?_
  refine W.eq (g2 := F0 m 4 ls []) rfl ?_
  refine lv_aload_n hx hb dX5_init_4 rfl (lv_at hl 0 rfl) ?_
  refine lv_lload_n hx hb dX5_init_5 rfl (lv_at hl 1 rfl) ?_
  refine va_putF (D := D) (ci := 4) (v := .long x0) (ty := .long) (C := RX5) (T := TX5) (N := 3) hx hb hts hi5 tyX5 tyX5_ok nmX5 hown hK hP hD hS 0 rfl rfl 0 (by decide) hw3 (fun _ h9 => h9) rfl hin rfl (by decide +kernel) rfl rfl (Nat.le_of_ble_eq_true rfl) dX5_init_6 (fun H locs hP hD hS => ?_)
  have hP : va_P D vwCl ([(b, .inr (4, [.long x0, .null, .null]))]) H := hP
  have hD : va_D A ([(b, .inr (4, [.long x0, .null, .null]))]) := hD
  refine lv_aload_n hx hb dX5_init_9 rfl (lv_at hl 0 rfl) ?_
  refine lv_aload_nN hx hb dX5_init_10 rfl (lv_at hl 2 rfl) ?_
  refine va_putF (D := D) (ci := 4) (v := .null) (ty := .object "ParquetLayer$Stone") (C := RX5) (T := TX5) (N := 3) hx hb hts hi5 tyX5 tyX5_ok nmX5 hown hK hP hD hS 0 rfl rfl 1 (by decide) hw4 (fun _ h9 => h9) rfl hin rfl (by decide +kernel) rfl rfl (Nat.le_of_ble_eq_true rfl) dX5_init_11 (fun H locs hP hD hS => ?_)
  have hP : va_P D vwCl ([(b, .inr (4, [.long x0, .null, .null]))]) H := hP
  have hD : va_D A ([(b, .inr (4, [.long x0, .null, .null]))]) := hD
  refine lv_aload_n hx hb dX5_init_14 rfl (lv_at hl 0 rfl) ?_
  refine lv_aload hx hb dX5_init_15 (lv_at hl 3 rfl) ?_
  refine va_putF (D := D) (ci := 4) (v := .ref x2) (ty := .object "ParquetLayer$Laying") (C := RX5) (T := TX5) (N := 3) hx hb hts hi5 tyX5 tyX5_ok nmX5 hown hK hP hD hS 0 rfl rfl 2 (by decide) hw5 (fun _ h9 => h9) rfl hin rfl (by decide +kernel) rfl rfl (Nat.le_of_ble_eq_true rfl) dX5_init_17 (fun H locs hP hD hS => ?_)
  have hP : va_P D vwCl ([(b, .inr (4, [.long x0, .null, .ref x2]))]) H := hP
  have hD : va_D A ([(b, .inr (4, [.long x0, .null, .ref x2]))]) := hD
  exact wret_v hx hb hr hlocks () trivial hP hD hS dX5_init_20
set_option maxHeartbeats 4000000 in
set_option maxRecDepth 100000 in
theorem ct_X5_init_rn (l : Launch) (D : va_G) (cy : Nat → ClassId) (b sz : Nat) (x0 : Int64) (x1 : Nat) : Met l yX5_init wsX5_init ({ frames := 1, cells := 0, slots := 0, locals := 20 }) (va_Pc [.ref b, .long x0, .ref x1, .null] (PW D cy sz ([(b, .inr (4, [.long 0, .null, .null]))]))) (va_Qv (fun _ : Unit => True) (BW D (va_A ([(b, .inr (4, [.long 0, .null, .null]))]) sz) (fun _ : Unit => [(b, .inr (4, [.long x0, .ref x1, .null]))])) (va_A ([(b, .inr (4, [.long 0, .null, .null]))]) sz)) 0 0 (va_A ([(b, .inr (4, [.long 0, .null, .null]))]) sz) := by
  refine Met.ofW (cc := cX5_init) (maxL := 5) (ret := none) (by decide) rfl ?_
  intro p e s m args below meth c s₁ B hml hv
  obtain ⟨rfl, rfl, hP, hK, hN, hD0⟩ := hv
  have hx := B.exec
  have hb := B.bytes
  have hr := B.returns
  have hts := atoms_spec (ws := wsX5_init) B.pre
  have hown : s.vm.findClass RX5 = some m.cls := findClass_of_methodNamed B.named
  have hlocks := B.notSynchronized
  have hin : meth.name = "<init>" := (name_of_methodNamed B.named B.method).1
  have hw0 := hts (.methodLink RX5 1 objectInit) (by decide +kernel)
  have hw1 := hts (.instanceMethod objectInit) (by decide +kernel)
  have hw2 := hts (.code objectInit ⟨#[0xb1]⟩ 1 none) (by decide +kernel)
  have hw3 := hts (.fieldLink RX5 7 "ParquetLayer$Past" "fields" "J") (by decide +kernel)
  have hw4 := hts (.fieldLink RX5 13 "ParquetLayer$Past" "latest" "LParquetLayer$Stone;") (by decide +kernel)
  have hw5 := hts (.fieldLink RX5 17 "ParquetLayer$Past" "hand" "LParquetLayer$Laying;") (by decide +kernel)
  have hi5 := ihX5_init_5
  have hD := hD0.self (sz := s.heap.size)
  generalize hAe : va_A ([(b, .inr (4, [.long 0, .null, .null]))]) s.heap.size = A at hD ⊢
  have hA : ∀ q : Nat, s.heap.size ≤ q → A q := fun q h => by rw [← hAe]; exact Or.inr h
  have hS : va_S A s.heap s.heap [] := va_S.rf
  have hl := lv_entry ([.ref b, .long x0, .ref x1, .null]) (n := 5) (Nat.le_of_ble_eq_true rfl)
  rw [lg_entry_eq]
  generalize (lg_sl ([.ref b, .long x0, .ref x1, .null]) ++ List.replicate (5 - (lg_sl ([.ref b, .long x0, .ref x1, .null])).length) Slot.unset).toArray = ls at hl ⊢
  have hl : lv_has ls 5 [(0, .ref b), (1, .long x0), (3, .ref x1), (4, .null)] := hl
  refine lv_aload_n hx hb dX5_init_0 rfl (lv_at hl 0 rfl) ?_
  refine W.objInit hx hb hown hw0 hw1 hw2 rfl (by rw [hml]; exact hl.1) rfl dX5_init_1 (Nat.le_of_ble_eq_true rfl) (Nat.le_of_ble_eq_true rfl) ?_
  refine W.eq (g2 := F0 m 4 ls []) rfl ?_
  refine lv_aload_n hx hb dX5_init_4 rfl (lv_at hl 0 rfl) ?_
  refine lv_lload_n hx hb dX5_init_5 rfl (lv_at hl 1 rfl) ?_
  refine va_putF (D := D) (ci := 4) (v := .long x0) (ty := .long) (C := RX5) (T := TX5) (N := 3) hx hb hts hi5 tyX5 tyX5_ok nmX5 hown hK hP hD hS 0 rfl rfl 0 (by decide) hw3 (fun _ h9 => h9) rfl hin rfl (by decide +kernel) rfl rfl (Nat.le_of_ble_eq_true rfl) dX5_init_6 (fun H locs hP hD hS => ?_)
  have hP : va_P D vwCl ([(b, .inr (4, [.long x0, .null, .null]))]) H := hP
  have hD : va_D A ([(b, .inr (4, [.long x0, .null, .null]))]) := hD
  refine lv_aload_n hx hb dX5_init_9 rfl (lv_at hl 0 rfl) ?_
  refine lv_aload_n hx hb dX5_init_10 rfl (lv_at hl 2 rfl) ?_
  refine va_putF (D := D) (ci := 4) (v := .ref x1) (ty := .object "ParquetLayer$Stone") (C := RX5) (T := TX5) (N := 3) hx hb hts hi5 tyX5 tyX5_ok nmX5 hown hK hP hD hS 0 rfl rfl 1 (by decide) hw4 (fun _ h9 => h9) rfl hin rfl (by decide +kernel) rfl rfl (Nat.le_of_ble_eq_true rfl) dX5_init_11 (fun H locs hP hD hS => ?_)
  have hP : va_P D vwCl ([(b, .inr (4, [.long x0, .ref x1, .null]))]) H := hP
  have hD : va_D A ([(b, .inr (4, [.long x0, .ref x1, .null]))]) := hD
  refine lv_aload_n hx hb dX5_init_14 rfl (lv_at hl 0 rfl) ?_
  refine lv_aloadN hx hb dX5_init_15 (lv_at hl 3 rfl) ?_
  refine va_putF (D := D) (ci := 4) (v := .null) (ty := .object "ParquetLayer$Laying") (C := RX5) (T := TX5) (N := 3) hx hb hts hi5 tyX5 tyX5_ok nmX5 hown hK hP hD hS 0 rfl rfl 2 (by decide) hw5 (fun _ h9 => h9) rfl hin rfl (by decide +kernel) rfl rfl (Nat.le_of_ble_eq_true rfl) dX5_init_17 (fun H locs hP hD hS => ?_)
  have hP : va_P D vwCl ([(b, .inr (4, [.long x0, .ref x1, .null]))]) H := hP
  have hD : va_D A ([(b, .inr (4, [.long x0, .ref x1, .null]))]) := hD
  exact wret_v hx hb hr hlocks () trivial hP hD hS dX5_init_20
set_option maxHeartbeats 4000000 in
set_option maxRecDepth 100000 in
theorem ct_X5_init_rr (l : Launch) (D : va_G) (cy : Nat → ClassId) (b sz : Nat) (x0 : Int64) (x1 : Nat) (x2 : Nat) : Met l yX5_init wsX5_init ({ frames := 1, cells := 0, slots := 0, locals := 20 }) (va_Pc [.ref b, .long x0, .ref x1, .ref x2] (PW D cy sz ([(b, .inr (4, [.long 0, .null, .null]))]))) (va_Qv (fun _ : Unit => True) (BW D (va_A ([(b, .inr (4, [.long 0, .null, .null]))]) sz) (fun _ : Unit => [(b, .inr (4, [.long x0, .ref x1, .ref x2]))])) (va_A ([(b, .inr (4, [.long 0, .null, .null]))]) sz)) 0 0 (va_A ([(b, .inr (4, [.long 0, .null, .null]))]) sz) := by
  refine Met.ofW (cc := cX5_init) (maxL := 5) (ret := none) (by decide) rfl ?_
  intro p e s m args below meth c s₁ B hml hv
  obtain ⟨rfl, rfl, hP, hK, hN, hD0⟩ := hv
  have hx := B.exec
  have hb := B.bytes
  have hr := B.returns
  have hts := atoms_spec (ws := wsX5_init) B.pre
  have hown : s.vm.findClass RX5 = some m.cls := findClass_of_methodNamed B.named
  have hlocks := B.notSynchronized
  have hin : meth.name = "<init>" := (name_of_methodNamed B.named B.method).1
  have hw0 := hts (.methodLink RX5 1 objectInit) (by decide +kernel)
  have hw1 := hts (.instanceMethod objectInit) (by decide +kernel)
  have hw2 := hts (.code objectInit ⟨#[0xb1]⟩ 1 none) (by decide +kernel)
  have hw3 := hts (.fieldLink RX5 7 "ParquetLayer$Past" "fields" "J") (by decide +kernel)
  have hw4 := hts (.fieldLink RX5 13 "ParquetLayer$Past" "latest" "LParquetLayer$Stone;") (by decide +kernel)
  have hw5 := hts (.fieldLink RX5 17 "ParquetLayer$Past" "hand" "LParquetLayer$Laying;") (by decide +kernel)
  have hi5 := ihX5_init_5
  have hD := hD0.self (sz := s.heap.size)
  generalize hAe : va_A ([(b, .inr (4, [.long 0, .null, .null]))]) s.heap.size = A at hD ⊢
  have hA : ∀ q : Nat, s.heap.size ≤ q → A q := fun q h => by rw [← hAe]; exact Or.inr h
  have hS : va_S A s.heap s.heap [] := va_S.rf
  have hl := lv_entry ([.ref b, .long x0, .ref x1, .ref x2]) (n := 5) (Nat.le_of_ble_eq_true rfl)
  rw [lg_entry_eq]
  generalize (lg_sl ([.ref b, .long x0, .ref x1, .ref x2]) ++ List.replicate (5 - (lg_sl ([.ref b, .long x0, .ref x1, .ref x2])).length) Slot.unset).toArray = ls at hl ⊢
  have hl : lv_has ls 5 [(0, .ref b), (1, .long x0), (3, .ref x1), (4, .ref x2)] := hl
  refine lv_aload_n hx hb dX5_init_0 rfl (lv_at hl 0 rfl) ?_
  refine W.objInit hx hb hown hw0 hw1 hw2 rfl (by rw [hml]; exact hl.1) rfl dX5_init_1 (Nat.le_of_ble_eq_true rfl) (Nat.le_of_ble_eq_true rfl) ?_
  refine W.eq (g2 := F0 m 4 ls []) rfl ?_
  refine lv_aload_n hx hb dX5_init_4 rfl (lv_at hl 0 rfl) ?_
  refine lv_lload_n hx hb dX5_init_5 rfl (lv_at hl 1 rfl) ?_
  refine va_putF (D := D) (ci := 4) (v := .long x0) (ty := .long) (C := RX5) (T := TX5) (N := 3) hx hb hts hi5 tyX5 tyX5_ok nmX5 hown hK hP hD hS 0 rfl rfl 0 (by decide) hw3 (fun _ h9 => h9) rfl hin rfl (by decide +kernel) rfl rfl (Nat.le_of_ble_eq_true rfl) dX5_init_6 (fun H locs hP hD hS => ?_)
  have hP : va_P D vwCl ([(b, .inr (4, [.long x0, .null, .null]))]) H := hP
  have hD : va_D A ([(b, .inr (4, [.long x0, .null, .null]))]) := hD
  refine lv_aload_n hx hb dX5_init_9 rfl (lv_at hl 0 rfl) ?_
  refine lv_aload_n hx hb dX5_init_10 rfl (lv_at hl 2 rfl) ?_
  refine va_putF (D := D) (ci := 4) (v := .ref x1) (ty := .object "ParquetLayer$Stone") (C := RX5) (T := TX5) (N := 3) hx hb hts hi5 tyX5 tyX5_ok nmX5 hown hK hP hD hS 0 rfl rfl 1 (by decide) hw4 (fun _ h9 => h9) rfl hin rfl (by decide +kernel) rfl rfl (Nat.le_of_ble_eq_true rfl) dX5_init_11 (fun H locs hP hD hS => ?_)
  have hP : va_P D vwCl ([(b, .inr (4, [.long x0, .ref x1, .null]))]) H := hP
  have hD : va_D A ([(b, .inr (4, [.long x0, .ref x1, .null]))]) := hD
  refine lv_aload_n hx hb dX5_init_14 rfl (lv_at hl 0 rfl) ?_
  refine lv_aload hx hb dX5_init_15 (lv_at hl 3 rfl) ?_
  refine va_putF (D := D) (ci := 4) (v := .ref x2) (ty := .object "ParquetLayer$Laying") (C := RX5) (T := TX5) (N := 3) hx hb hts hi5 tyX5 tyX5_ok nmX5 hown hK hP hD hS 0 rfl rfl 2 (by decide) hw5 (fun _ h9 => h9) rfl hin rfl (by decide +kernel) rfl rfl (Nat.le_of_ble_eq_true rfl) dX5_init_17 (fun H locs hP hD hS => ?_)
  have hP : va_P D vwCl ([(b, .inr (4, [.long x0, .ref x1, .ref x2]))]) H := hP
  have hD : va_D A ([(b, .inr (4, [.long x0, .ref x1, .ref x2]))]) := hD
  exact wret_v hx hb hr hlocks () trivial hP hD hS dX5_init_20
theorem ct_X5_init (l : Launch) (D : va_G) (cy : Nat → ClassId) (b sz : Nat) (x0 : Int64) (x1 : Option Nat) (x2 : Option Nat) : Met l yX5_init wsX5_init ({ frames := 1, cells := 0, slots := 0, locals := 20 }) (va_Pc [.ref b, .long x0, va_rf x1, va_rf x2] (PW D cy sz ([(b, .inr (4, [.long 0, .null, .null]))]))) (va_Qv (fun _ : Unit => True) (BW D (va_A ([(b, .inr (4, [.long 0, .null, .null]))]) sz) (fun _ : Unit => [(b, .inr (4, [.long x0, va_rf x1, va_rf x2]))])) (va_A ([(b, .inr (4, [.long 0, .null, .null]))]) sz)) 0 0 (va_A ([(b, .inr (4, [.long 0, .null, .null]))]) sz) := by
  cases x1 with
  | none =>
    cases x2 with
    | none =>
      exact ct_X5_init_nn l D cy b sz x0
    | some y2 =>
      exact ct_X5_init_nr l D cy b sz x0 y2
  | some y1 =>
    cases x2 with
    | none =>
      exact ct_X5_init_rn l D cy b sz x0 y1
    | some y2 =>
      exact ct_X5_init_rr l D cy b sz x0 y1 y2
theorem dX3_init_0 : decode cX3_init 0 = .ok (.aload_n 0, 1) := by decide +kernel
theorem dX3_init_1 : decode cX3_init 1 = .ok (.invokespecial 1, 3) := by decide +kernel
theorem dX3_init_4 : decode cX3_init 4 = .ok (.aload_n 0, 1) := by decide +kernel
theorem dX3_init_5 : decode cX3_init 5 = .ok (.iload_n 1, 1) := by decide +kernel
theorem dX3_init_6 : decode cX3_init 6 = .ok (.putfield 7, 3) := by decide +kernel
theorem dX3_init_9 : decode cX3_init 9 = .ok (.aload_n 0, 1) := by decide +kernel
theorem dX3_init_10 : decode cX3_init 10 = .ok (.lload_n 2, 1) := by decide +kernel
theorem dX3_init_11 : decode cX3_init 11 = .ok (.putfield 13, 3) := by decide +kernel
theorem dX3_init_14 : decode cX3_init 14 = .ok (.aload_n 0, 1) := by decide +kernel
theorem dX3_init_15 : decode cX3_init 15 = .ok (.lload 4, 2) := by decide +kernel
theorem dX3_init_17 : decode cX3_init 17 = .ok (.putfield 17, 3) := by decide +kernel
theorem dX3_init_20 : decode cX3_init 20 = .ok (.return_, 1) := by decide +kernel
set_option maxRecDepth 20000 in
theorem ihX3_init_3 : ∀ w ∈ u_ws RX3 TX3 3, w ∈ wsX3_init := fun _ h => List.mem_cons_of_mem _ (List.mem_append_right _ h)
set_option maxHeartbeats 4000000 in
set_option maxRecDepth 100000 in
theorem ct_X3_init (l : Launch) (D : va_G) (cy : Nat → ClassId) (b sz : Nat) (x0 : Int32) (x1 : Int64) (x2 : Int64) : Met l yX3_init wsX3_init ({ frames := 1, cells := 0, slots := 0, locals := 20 }) (va_Pc [.ref b, .int x0, .long x1, .long x2] (PW D cy sz ([(b, .inr (2, [.int 0, .long 0, .long 0]))]))) (va_Qv (fun _ : Unit => True) (BW D (va_A ([(b, .inr (2, [.int 0, .long 0, .long 0]))]) sz) (fun _ : Unit => [(b, .inr (2, [.int x0, .long x1, .long x2]))])) (va_A ([(b, .inr (2, [.int 0, .long 0, .long 0]))]) sz)) 0 0 (va_A ([(b, .inr (2, [.int 0, .long 0, .long 0]))]) sz) := by
  refine Met.ofW (cc := cX3_init) (maxL := 6) (ret := none) (by decide) rfl ?_
  intro p e s m args below meth c s₁ B hml hv
  obtain ⟨rfl, rfl, hP, hK, hN, hD0⟩ := hv
  have hx := B.exec
  have hb := B.bytes
  have hr := B.returns
  have hts := atoms_spec (ws := wsX3_init) B.pre
  have hown : s.vm.findClass RX3 = some m.cls := findClass_of_methodNamed B.named
  have hlocks := B.notSynchronized
  have hin : meth.name = "<init>" := (name_of_methodNamed B.named B.method).1
  have hw0 := hts (.methodLink RX3 1 objectInit) (by decide +kernel)
  have hw1 := hts (.instanceMethod objectInit) (by decide +kernel)
  have hw2 := hts (.code objectInit ⟨#[0xb1]⟩ 1 none) (by decide +kernel)
  have hw3 := hts (.fieldLink RX3 7 "ParquetLayer$Laying" "number" "I") (by decide +kernel)
  have hw4 := hts (.fieldLink RX3 13 "ParquetLayer$Laying" "along" "J") (by decide +kernel)
  have hw5 := hts (.fieldLink RX3 17 "ParquetLayer$Laying" "across" "J") (by decide +kernel)
  have hi3 := ihX3_init_3
  have hD := hD0.self (sz := s.heap.size)
  generalize hAe : va_A ([(b, .inr (2, [.int 0, .long 0, .long 0]))]) s.heap.size = A at hD ⊢
  have hA : ∀ q : Nat, s.heap.size ≤ q → A q := fun q h => by rw [← hAe]; exact Or.inr h
  have hS : va_S A s.heap s.heap [] := va_S.rf
  have hl := lv_entry ([.ref b, .int x0, .long x1, .long x2]) (n := 6) (Nat.le_of_ble_eq_true rfl)
  rw [lg_entry_eq]
  generalize (lg_sl ([.ref b, .int x0, .long x1, .long x2]) ++ List.replicate (6 - (lg_sl ([.ref b, .int x0, .long x1, .long x2])).length) Slot.unset).toArray = ls at hl ⊢
  have hl : lv_has ls 6 [(0, .ref b), (1, .int x0), (2, .long x1), (4, .long x2)] := hl
  refine lv_aload_n hx hb dX3_init_0 rfl (lv_at hl 0 rfl) ?_
  refine W.objInit hx hb hown hw0 hw1 hw2 rfl (by rw [hml]; exact hl.1) rfl dX3_init_1 (Nat.le_of_ble_eq_true rfl) (Nat.le_of_ble_eq_true rfl) ?_
  refine W.eq (g2 := F0 m 4 ls []) rfl ?_
  refine lv_aload_n hx hb dX3_init_4 rfl (lv_at hl 0 rfl) ?_
  refine lv_iload_n hx hb dX3_init_5 rfl (lv_at hl 1 rfl) ?_
  refine va_putF (D := D) (ci := 2) (v := .int x0) (ty := .int) (C := RX3) (T := TX3) (N := 3) hx hb hts hi3 tyX3 tyX3_ok nmX3 hown hK hP hD hS 0 rfl rfl 0 (by decide) hw3 (fun _ h9 => h9) rfl hin rfl (by decide +kernel) rfl rfl (Nat.le_of_ble_eq_true rfl) dX3_init_6 (fun H locs hP hD hS => ?_)
  have hP : va_P D vwCl ([(b, .inr (2, [.int x0, .long 0, .long 0]))]) H := hP
  have hD : va_D A ([(b, .inr (2, [.int x0, .long 0, .long 0]))]) := hD
  refine lv_aload_n hx hb dX3_init_9 rfl (lv_at hl 0 rfl) ?_
  refine lv_lload_n hx hb dX3_init_10 rfl (lv_at hl 2 rfl) ?_
  refine va_putF (D := D) (ci := 2) (v := .long x1) (ty := .long) (C := RX3) (T := TX3) (N := 3) hx hb hts hi3 tyX3 tyX3_ok nmX3 hown hK hP hD hS 0 rfl rfl 1 (by decide) hw4 (fun _ h9 => h9) rfl hin rfl (by decide +kernel) rfl rfl (Nat.le_of_ble_eq_true rfl) dX3_init_11 (fun H locs hP hD hS => ?_)
  have hP : va_P D vwCl ([(b, .inr (2, [.int x0, .long x1, .long 0]))]) H := hP
  have hD : va_D A ([(b, .inr (2, [.int x0, .long x1, .long 0]))]) := hD
  refine lv_aload_n hx hb dX3_init_14 rfl (lv_at hl 0 rfl) ?_
  refine lv_lload hx hb dX3_init_15 (lv_at hl 3 rfl) ?_
  refine va_putF (D := D) (ci := 2) (v := .long x2) (ty := .long) (C := RX3) (T := TX3) (N := 3) hx hb hts hi3 tyX3 tyX3_ok nmX3 hown hK hP hD hS 0 rfl rfl 2 (by decide) hw5 (fun _ h9 => h9) rfl hin rfl (by decide +kernel) rfl rfl (Nat.le_of_ble_eq_true rfl) dX3_init_17 (fun H locs hP hD hS => ?_)
  have hP : va_P D vwCl ([(b, .inr (2, [.int x0, .long x1, .long x2]))]) H := hP
  have hD : va_D A ([(b, .inr (2, [.int x0, .long x1, .long x2]))]) := hD
  exact wret_v hx hb hr hlocks () trivial hP hD hS dX3_init_20
