theorem dX5_init_0 : decode cX5_init 0 = .ok (.aload_n 0, 1) := by decide +kernel
theorem dX5_init_1 : decode cX5_init 1 = .ok (.invokespecial 1, 3) := by decide +kernel
theorem dX5_init_4 : decode cX5_init 4 = .ok (.aload_n 0, 1) := by decide +kernel
theorem dX5_init_5 : decode cX5_init 5 = .ok (.lload_n 1, 1) := by decide +kernel
theorem dX5_init_6 : decode cX5_init 6 = .ok (.putfield 7, 3) := by decide +kernel
theorem dX5_init_9 : decode cX5_init 9 = .ok (.aload_n 0, 1) := by decide +kernel
theorem dX5_init_10 : decode cX5_init 10 = .ok (.aload_n 3, 1) := by decide +kernel
theorem dX5_init_11 : decode cX5_init 11 = .ok (.putfield 13, 3) := by decide +kernel
theorem dX5_init_14 : decode cX5_init 14 = .ok (.aload_n 0, 1) := by decide +kernel
theorem dX5_init_15 : decode cX5_init 15 = .ok (.aload 4, 2) := by decide +kernel
theorem dX5_init_17 : decode cX5_init 17 = .ok (.putfield 17, 3) := by decide +kernel
theorem dX5_init_20 : decode cX5_init 20 = .ok (.return_, 1) := by decide +kernel
set_option maxRecDepth 20000 in
theorem ihX5_init_5 : ∀ w ∈ u_ws RX5 TX5 3, w ∈ wsX5_init := by decide +kernel
set_option maxHeartbeats 4000000 in
set_option maxRecDepth 100000 in
theorem ct_X5_init (l : Launch) (D : va_G) (cy : Nat → ClassId) (b sz : Nat) (x0 : Int64) : Met l yX5_init wsX5_init ({ frames := 1, cells := 0, slots := 0, locals := 20 }) (va_Pc [.ref b, .long x0, .null, .null] (PW D cy sz ([(b, .inr (4, [.long 0, .null, .null]))]))) (va_Qv (fun _ : Unit => True) (BW D (va_A ([(b, .inr (4, [.long 0, .null, .null]))]) sz) (fun u : Unit => [(b, .inr (4, [.long x0, .null, .null]))])) (va_A ([(b, .inr (4, [.long 0, .null, .null]))]) sz)) 0 0 (va_A ([(b, .inr (4, [.long 0, .null, .null]))]) sz) := by
  refine Met.ofW (cc := cX5_init) (maxL := 5) (ret := none) (by decide) rfl ?_
  intro p e s m args below meth c s₁ B hml hv
  obtain ⟨rfl, rfl, hP, hK, hN, hD0⟩ := hv
  have hx := B.exec
  have hb := B.bytes
  have hr := B.returns
  have hts := atoms_spec (ws := wsX5_init) B.pre
  have hown : s.vm.findClass RX5 = some m.cls := findClass_of_methodNamed B.named
  have hlocks := B.notSynchronized
  have hin : meth.name = "<init>" := (name_of_methodNamed B.named B.method).1
  have hw0 := hts (.methodLink RX5 1 objectInit) (by decide +kernel)
  have hw1 := hts (.instanceMethod objectInit) (by decide +kernel)
  have hw2 := hts (.code objectInit ⟨#[0xb1]⟩ 1 none) (by decide +kernel)
  have hw3 := hts (.fieldLink RX5 7 "ParquetLayer$Past" "fields" "J") (by decide +kernel)
  have hw4 := hts (.fieldLink RX5 13 "ParquetLayer$Past" "latest" "LParquetLayer$Stone;") (by decide +kernel)
  have hw5 := hts (.fieldLink RX5 17 "ParquetLayer$Past" "hand" "LParquetLayer$Laying;") (by decide +kernel)
  have hi5 := ihX5_init_5
  have hD := hD0.self (sz := s.heap.size)
  generalize hAe : va_A ([(b, .inr (4, [.long 0, .null, .null]))]) s.heap.size = A at hD ⊢
  have hA : ∀ q : Nat, s.heap.size ≤ q → A q := fun q h => by rw [← hAe]; exact Or.inr h
  have hS : va_S A s.heap s.heap [] := va_S.rf
  have hl := lv_entry ([.ref b, .long x0, .null, .null]) (n := 5) (Nat.le_of_ble_eq_true rfl)
  rw [lg_entry_eq]
  generalize (lg_sl ([.ref b, .long x0, .null, .null]) ++ List.replicate (5 - (lg_sl ([.ref b, .long x0, .null, .null])).length) Slot.unset).toArray = ls at hl ⊢
  have hl : lv_has ls 5 [(0, .ref b), (1, .long x0), (3, .null), (4, .null)] := hl
  refine lv_aload_n hx hb dX5_init_0 rfl (lv_at hl 0 rfl) ?_
  refine W.objInit hx hb hown hw0 hw1 hw2 rfl (by rw [hml]; exact hl.1) rfl dX5_init_1 (Nat.le_of_ble_eq_true rfl) (Nat.le_of_ble_eq_true rfl) ?_
  refine W.eq (g2 := F0 m 4 ls []) rfl ?_
  refine lv_aload_n hx hb dX5_init_4 rfl (lv_at hl 0 rfl) ?_
  refine lv_lload_n hx hb dX5_init_5 rfl (lv_at hl 1 rfl) ?_
  refine va_putF (D := D) (ci := 4) (v := .long x0) (ty := .long) (C := RX5) (T := TX5) (N := 3) hx hb hts hi5 tyX5 tyX5_ok nmX5 hown hK hP hD hS 0 rfl rfl 0 (by decide) hw3 (fun _ h9 => h9) rfl hin rfl (by decide +kernel) rfl rfl (Nat.le_of_ble_eq_true rfl) dX5_init_6 (fun H locs hP hD hS => ?_)
  have hP : va_P D vwCl ([(b, .inr (4, [.long x0, .null, .null]))]) H := hP
  have hD : va_D A ([(b, .inr (4, [.long x0, .null, .null]))]) := hD
  refine lv_aload_n hx hb dX5_init_9 rfl (lv_at hl 0 rfl) ?_
  refine lv_aload_nN hx hb dX5_init_10 rfl (lv_at hl 2 rfl) ?_
  refine va_putF (D := D) (ci := 4) (v := .null) (ty := .object "ParquetLayer$Stone") (C := RX5) (T := TX5) (N := 3) hx hb hts hi5 tyX5 tyX5_ok nmX5 hown hK hP hD hS 0 rfl rfl 1 (by decide) hw4 (fun _ h9 => h9) rfl hin rfl (by decide +kernel) rfl rfl (Nat.le_of_ble_eq_true rfl) dX5_init_11 (fun H locs hP hD hS => ?_)
  have hP : va_P D vwCl ([(b, .inr (4, [.long x0, .null, .null]))]) H := hP
  have hD : va_D A ([(b, .inr (4, [.long x0, .null, .null]))]) := hD
  refine lv_aload_n hx hb dX5_init_14 rfl (lv_at hl 0 rfl) ?_
  refine lv_aloadN hx hb dX5_init_15 (lv_at hl 3 rfl) ?_
  refine va_putF (D := D) (ci := 4) (v := .null) (ty := .object "ParquetLayer$Laying") (C := RX5) (T := TX5) (N := 3) hx hb hts hi5 tyX5 tyX5_ok nmX5 hown hK hP hD hS 0 rfl rfl 2 (by decide) hw5 (fun _ h9 => h9) rfl hin rfl (by decide +kernel) rfl rfl (Nat.le_of_ble_eq_true rfl) dX5_init_17 (fun H locs hP hD hS => ?_)
  have hP : va_P D vwCl ([(b, .inr (4, [.long x0, .null, .null]))]) H := hP
  have hD : va_D A ([(b, .inr (4, [.long x0, .null, .null]))]) := hD
  exact wret_v hx hb hr hlocks () trivial hP hD hS dX5_init_20
theorem dX3_init_0 : decode cX3_init 0 = .ok (.aload_n 0, 1) := by decide +kernel
theorem dX3_init_1 : decode cX3_init 1 = .ok (.invokespecial 1, 3) := by decide +kernel
theorem dX3_init_4 : decode cX3_init 4 = .ok (.aload_n 0, 1) := by decide +kernel
theorem dX3_init_5 : decode cX3_init 5 = .ok (.iload_n 1, 1) := by decide +kernel
theorem dX3_init_6 : decode cX3_init 6 = .ok (.putfield 7, 3) := by decide +kernel
theorem dX3_init_9 : decode cX3_init 9 = .ok (.aload_n 0, 1) := by decide +kernel
theorem dX3_init_10 : decode cX3_init 10 = .ok (.lload_n 2, 1) := by decide +kernel
theorem dX3_init_11 : decode cX3_init 11 = .ok (.putfield 13, 3) := by decide +kernel
theorem dX3_init_14 : decode cX3_init 14 = .ok (.aload_n 0, 1) := by decide +kernel
theorem dX3_init_15 : decode cX3_init 15 = .ok (.lload 4, 2) := by decide +kernel
theorem dX3_init_17 : decode cX3_init 17 = .ok (.putfield 17, 3) := by decide +kernel
theorem dX3_init_20 : decode cX3_init 20 = .ok (.return_, 1) := by decide +kernel
set_option maxRecDepth 20000 in
theorem ihX3_init_3 : ∀ w ∈ u_ws RX3 TX3 3, w ∈ wsX3_init := by decide +kernel
set_option maxHeartbeats 4000000 in
set_option maxRecDepth 100000 in
theorem ct_X3_init (l : Launch) (D : va_G) (cy : Nat → ClassId) (b sz : Nat) (x0 : Int32) (x1 : Int64) (x2 : Int64) : Met l yX3_init wsX3_init ({ frames := 1, cells := 0, slots := 0, locals := 20 }) (va_Pc [.ref b, .int x0, .long x1, .long x2] (PW D cy sz ([(b, .inr (2, [.int 0, .long 0, .long 0]))]))) (va_Qv (fun _ : Unit => True) (BW D (va_A ([(b, .inr (2, [.int 0, .long 0, .long 0]))]) sz) (fun u : Unit => [(b, .inr (2, [.int x0, .long x1, .long x2]))])) (va_A ([(b, .inr (2, [.int 0, .long 0, .long 0]))]) sz)) 0 0 (va_A ([(b, .inr (2, [.int 0, .long 0, .long 0]))]) sz) := by
  refine Met.ofW (cc := cX3_init) (maxL := 6) (ret := none) (by decide) rfl ?_
  intro p e s m args below meth c s₁ B hml hv
  obtain ⟨rfl, rfl, hP, hK, hN, hD0⟩ := hv
  have hx := B.exec
  have hb := B.bytes
  have hr := B.returns
  have hts := atoms_spec (ws := wsX3_init) B.pre
  have hown : s.vm.findClass RX3 = some m.cls := findClass_of_methodNamed B.named
  have hlocks := B.notSynchronized
  have hin : meth.name = "<init>" := (name_of_methodNamed B.named B.method).1
  have hw0 := hts (.methodLink RX3 1 objectInit) (by decide +kernel)
  have hw1 := hts (.instanceMethod objectInit) (by decide +kernel)
  have hw2 := hts (.code objectInit ⟨#[0xb1]⟩ 1 none) (by decide +kernel)
  have hw3 := hts (.fieldLink RX3 7 "ParquetLayer$Laying" "number" "I") (by decide +kernel)
  have hw4 := hts (.fieldLink RX3 13 "ParquetLayer$Laying" "along" "J") (by decide +kernel)
  have hw5 := hts (.fieldLink RX3 17 "ParquetLayer$Laying" "across" "J") (by decide +kernel)
  have hi3 := ihX3_init_3
  have hD := hD0.self (sz := s.heap.size)
  generalize hAe : va_A ([(b, .inr (2, [.int 0, .long 0, .long 0]))]) s.heap.size = A at hD ⊢
  have hA : ∀ q : Nat, s.heap.size ≤ q → A q := fun q h => by rw [← hAe]; exact Or.inr h
  have hS : va_S A s.heap s.heap [] := va_S.rf
  have hl := lv_entry ([.ref b, .int x0, .long x1, .long x2]) (n := 6) (Nat.le_of_ble_eq_true rfl)
  rw [lg_entry_eq]
  generalize (lg_sl ([.ref b, .int x0, .long x1, .long x2]) ++ List.replicate (6 - (lg_sl ([.ref b, .int x0, .long x1, .long x2])).length) Slot.unset).toArray = ls at hl ⊢
  have hl : lv_has ls 6 [(0, .ref b), (1, .int x0), (2, .long x1), (4, .long x2)] := hl
  refine lv_aload_n hx hb dX3_init_0 rfl (lv_at hl 0 rfl) ?_
  refine W.objInit hx hb hown hw0 hw1 hw2 rfl (by rw [hml]; exact hl.1) rfl dX3_init_1 (Nat.le_of_ble_eq_true rfl) (Nat.le_of_ble_eq_true rfl) ?_
  refine W.eq (g2 := F0 m 4 ls []) rfl ?_
  refine lv_aload_n hx hb dX3_init_4 rfl (lv_at hl 0 rfl) ?_
  refine lv_iload_n hx hb dX3_init_5 rfl (lv_at hl 1 rfl) ?_
  refine va_putF (D := D) (ci := 2) (v := .int x0) (ty := .int) (C := RX3) (T := TX3) (N := 3) hx hb hts hi3 tyX3 tyX3_ok nmX3 hown hK hP hD hS 0 rfl rfl 0 (by decide) hw3 (fun _ h9 => h9) rfl hin rfl (by decide +kernel) rfl rfl (Nat.le_of_ble_eq_true rfl) dX3_init_6 (fun H locs hP hD hS => ?_)
  have hP : va_P D vwCl ([(b, .inr (2, [.int x0, .long 0, .long 0]))]) H := hP
  have hD : va_D A ([(b, .inr (2, [.int x0, .long 0, .long 0]))]) := hD
  refine lv_aload_n hx hb dX3_init_9 rfl (lv_at hl 0 rfl) ?_
  refine lv_lload_n hx hb dX3_init_10 rfl (lv_at hl 2 rfl) ?_
  refine va_putF (D := D) (ci := 2) (v := .long x1) (ty := .long) (C := RX3) (T := TX3) (N := 3) hx hb hts hi3 tyX3 tyX3_ok nmX3 hown hK hP hD hS 0 rfl rfl 1 (by decide) hw4 (fun _ h9 => h9) rfl hin rfl (by decide +kernel) rfl rfl (Nat.le_of_ble_eq_true rfl) dX3_init_11 (fun H locs hP hD hS => ?_)
  have hP : va_P D vwCl ([(b, .inr (2, [.int x0, .long x1, .long 0]))]) H := hP
  have hD : va_D A ([(b, .inr (2, [.int x0, .long x1, .long 0]))]) := hD
  refine lv_aload_n hx hb dX3_init_14 rfl (lv_at hl 0 rfl) ?_
  refine lv_lload hx hb dX3_init_15 (lv_at hl 3 rfl) ?_
  refine va_putF (D := D) (ci := 2) (v := .long x2) (ty := .long) (C := RX3) (T := TX3) (N := 3) hx hb hts hi3 tyX3 tyX3_ok nmX3 hown hK hP hD hS 0 rfl rfl 2 (by decide) hw5 (fun _ h9 => h9) rfl hin rfl (by decide +kernel) rfl rfl (Nat.le_of_ble_eq_true rfl) dX3_init_17 (fun H locs hP hD hS => ?_)
  have hP : va_P D vwCl ([(b, .inr (2, [.int x0, .long x1, .long x2]))]) H := hP
  have hD : va_D A ([(b, .inr (2, [.int x0, .long x1, .long x2]))]) := hD
  exact wret_v hx hb hr hlocks () trivial hP hD hS dX3_init_20
theorem dX4_init_0 : decode cX4_init 0 = .ok (.aload_n 0, 1) := by decide +kernel
theorem dX4_init_1 : decode cX4_init 1 = .ok (.invokespecial 1, 3) := by decide +kernel
theorem dX4_init_4 : decode cX4_init 4 = .ok (.aload_n 0, 1) := by decide +kernel
theorem dX4_init_5 : decode cX4_init 5 = .ok (.sipush 16640, 3) := by decide +kernel
theorem dX4_init_8 : decode cX4_init 8 = .ok (.newarray .int, 2) := by decide +kernel
theorem dX4_init_10 : decode cX4_init 10 = .ok (.putfield 9, 3) := by decide +kernel
theorem dX4_init_13 : decode cX4_init 13 = .ok (.aload_n 0, 1) := by decide +kernel
theorem dX4_init_14 : decode cX4_init 14 = .ok (.sipush 512, 3) := by decide +kernel
theorem dX4_init_17 : decode cX4_init 17 = .ok (.newarray .int, 2) := by decide +kernel
theorem dX4_init_19 : decode cX4_init 19 = .ok (.putfield 13, 3) := by decide +kernel
theorem dX4_init_22 : decode cX4_init 22 = .ok (.return_, 1) := by decide +kernel
set_option maxRecDepth 20000 in
theorem ihX4_init_4 : ∀ w ∈ u_ws RX4 TX4 4, w ∈ wsX4_init := by decide +kernel
set_option maxHeartbeats 4000000 in
set_option maxRecDepth 100000 in
theorem ct_X4_init (l : Launch) (D : va_G) (cy : Nat → ClassId) (b sz : Nat)  : Met l yX4_init wsX4_init ({ frames := 1, cells := 2, slots := 17152, locals := 20 }) (va_Pc [.ref b] (PW D cy sz ([(b, .inr (3, [.null, .null, .long 0, .int 0]))]))) (va_Qv (fun _ : Nat × Nat => True) (BW D (va_A ([(b, .inr (3, [.null, .null, .long 0, .int 0]))]) sz) (fun u : Nat × Nat => [(b, .inr (3, [.ref u.1, .ref u.2, .long 0, .int 0])), (u.1, .inl (cy 0, 16640, .inl ((fun _ => 0)))), (u.2, .inl (cy 0, 512, .inl ((fun _ => 0))))])) (va_A ([(b, .inr (3, [.null, .null, .long 0, .int 0]))]) sz)) 2 17152 (va_A ([(b, .inr (3, [.null, .null, .long 0, .int 0]))]) sz) := by
  refine Met.ofW (cc := cX4_init) (maxL := 1) (ret := none) (by decide) rfl ?_
  intro p e s m args below meth c s₁ B hml hv
  obtain ⟨rfl, rfl, hP, hK, hN, hD0⟩ := hv
  have hx := B.exec
  have hb := B.bytes
  have hr := B.returns
  have hts := atoms_spec (ws := wsX4_init) B.pre
  have hown : s.vm.findClass RX4 = some m.cls := findClass_of_methodNamed B.named
  have hlocks := B.notSynchronized
  have hin : meth.name = "<init>" := (name_of_methodNamed B.named B.method).1
  have hw0 := hts (.methodLink RX4 1 objectInit) (by decide +kernel)
  have hw1 := hts (.instanceMethod objectInit) (by decide +kernel)
  have hw2 := hts (.code objectInit ⟨#[0xb1]⟩ 1 none) (by decide +kernel)
  have hw3 := hts (.arrayClass .int) (by decide +kernel)
  have hw4 := hts (.fieldLink RX4 9 "ParquetLayer$Layings" "ways" "[I") (by decide +kernel)
  have hw5 := hts (.fieldLink RX4 13 "ParquetLayer$Layings" "pair" "[I") (by decide +kernel)
  have hi4 := ihX4_init_4
  have hD := hD0.self (sz := s.heap.size)
  generalize hAe : va_A ([(b, .inr (3, [.null, .null, .long 0, .int 0]))]) s.heap.size = A at hD ⊢
  have hA : ∀ q : Nat, s.heap.size ≤ q → A q := fun q h => by rw [← hAe]; exact Or.inr h
  have hS : va_S A s.heap s.heap [] := va_S.rf
  have hl := lv_entry ([.ref b]) (n := 1) (Nat.le_of_ble_eq_true rfl)
  rw [lg_entry_eq]
  generalize (lg_sl ([.ref b]) ++ List.replicate (1 - (lg_sl ([.ref b])).length) Slot.unset).toArray = ls at hl ⊢
  have hl : lv_has ls 1 [(0, .ref b)] := hl
  refine lv_aload_n hx hb dX4_init_0 rfl (lv_at hl 0 rfl) ?_
  refine W.objInit hx hb hown hw0 hw1 hw2 rfl (by rw [hml]; exact hl.1) rfl dX4_init_1 (Nat.le_of_ble_eq_true rfl) (Nat.le_of_ble_eq_true rfl) ?_
  refine W.eq (g2 := F0 m 4 ls []) rfl ?_
  refine lv_aload_n hx hb dX4_init_4 rfl (lv_at hl 0 rfl) ?_
  refine lv_sipush (v := 16640) hx hb dX4_init_5 (by decide) ?_
  refine knew_int hx hb hw3 hK hP hD hS hA (by decide) (N' := 16640) (by decide) (by decide) (Nat.le_of_ble_eq_true rfl) (Nat.le_of_ble_eq_true rfl) dX4_init_8 (fun q_1 H hP hD hS => ?_)
  have hP : va_P D vwCl ([(b, .inr (3, [.null, .null, .long 0, .int 0])), (q_1, .inl (cy 0, 16640, .inl ((fun _ => 0))))]) H := hP
  have hD : va_D A ([(b, .inr (3, [.null, .null, .long 0, .int 0])), (q_1, .inl (cy 0, 16640, .inl ((fun _ => 0))))]) := hD
  refine va_putF (D := D) (ci := 3) (v := .ref q_1) (ty := .array .int) (C := RX4) (T := TX4) (N := 4) hx hb hts hi4 tyX4 tyX4_ok nmX4 hown hK hP hD hS 0 rfl rfl 0 (by decide) hw4 (fun _ h9 => h9) rfl hin rfl (by decide +kernel) rfl rfl (Nat.le_of_ble_eq_true rfl) dX4_init_10 (fun H locs hP hD hS => ?_)
  have hP : va_P D vwCl ([(b, .inr (3, [.ref q_1, .null, .long 0, .int 0])), (q_1, .inl (cy 0, 16640, .inl ((fun _ => 0))))]) H := hP
  have hD : va_D A ([(b, .inr (3, [.ref q_1, .null, .long 0, .int 0])), (q_1, .inl (cy 0, 16640, .inl ((fun _ => 0))))]) := hD
  refine lv_aload_n hx hb dX4_init_13 rfl (lv_at hl 0 rfl) ?_
  refine lv_sipush (v := 512) hx hb dX4_init_14 (by decide) ?_
  refine knew_int hx hb hw3 hK hP hD hS hA (by decide) (N' := 512) (by decide) (by decide) (Nat.le_of_ble_eq_true rfl) (Nat.le_of_ble_eq_true rfl) dX4_init_17 (fun q_2 H hP hD hS => ?_)
  have hP : va_P D vwCl ([(b, .inr (3, [.ref q_1, .null, .long 0, .int 0])), (q_1, .inl (cy 0, 16640, .inl ((fun _ => 0)))), (q_2, .inl (cy 0, 512, .inl ((fun _ => 0))))]) H := hP
  have hD : va_D A ([(b, .inr (3, [.ref q_1, .null, .long 0, .int 0])), (q_1, .inl (cy 0, 16640, .inl ((fun _ => 0)))), (q_2, .inl (cy 0, 512, .inl ((fun _ => 0))))]) := hD
  refine va_putF (D := D) (ci := 3) (v := .ref q_2) (ty := .array .int) (C := RX4) (T := TX4) (N := 4) hx hb hts hi4 tyX4 tyX4_ok nmX4 hown hK hP hD hS 0 rfl rfl 1 (by decide) hw5 (fun _ h9 => h9) rfl hin rfl (by decide +kernel) rfl rfl (Nat.le_of_ble_eq_true rfl) dX4_init_19 (fun H locs hP hD hS => ?_)
  have hP : va_P D vwCl ([(b, .inr (3, [.ref q_1, .ref q_2, .long 0, .int 0])), (q_1, .inl (cy 0, 16640, .inl ((fun _ => 0)))), (q_2, .inl (cy 0, 512, .inl ((fun _ => 0))))]) H := hP
  have hD : va_D A ([(b, .inr (3, [.ref q_1, .ref q_2, .long 0, .int 0])), (q_1, .inl (cy 0, 16640, .inl ((fun _ => 0)))), (q_2, .inl (cy 0, 512, .inl ((fun _ => 0))))]) := hD
  exact wret_v hx hb hr hlocks (q_1, q_2) trivial hP hD hS dX4_init_22
theorem dX6_init_0 : decode cX6_init 0 = .ok (.aload_n 0, 1) := by decide +kernel
theorem dX6_init_1 : decode cX6_init 1 = .ok (.invokespecial 1, 3) := by decide +kernel
theorem dX6_init_4 : decode cX6_init 4 = .ok (.aload_n 0, 1) := by decide +kernel
theorem dX6_init_5 : decode cX6_init 5 = .ok (.bipush 16, 2) := by decide +kernel
theorem dX6_init_7 : decode cX6_init 7 = .ok (.newarray .int, 2) := by decide +kernel
theorem dX6_init_9 : decode cX6_init 9 = .ok (.putfield 9, 3) := by decide +kernel
theorem dX6_init_12 : decode cX6_init 12 = .ok (.return_, 1) := by decide +kernel
set_option maxRecDepth 20000 in
theorem ihX6_init_6 : ∀ w ∈ u_ws RX6 TX6 3, w ∈ wsX6_init := by decide +kernel
set_option maxHeartbeats 4000000 in
set_option maxRecDepth 100000 in
theorem ct_X6_init (l : Launch) (D : va_G) (cy : Nat → ClassId) (b sz : Nat)  : Met l yX6_init wsX6_init ({ frames := 1, cells := 1, slots := 16, locals := 20 }) (va_Pc [.ref b] (PW D cy sz ([(b, .inr (5, [.null, .int 0, .int 0]))]))) (va_Qv (fun _ : Nat => True) (BW D (va_A ([(b, .inr (5, [.null, .int 0, .int 0]))]) sz) (fun u : Nat => [(b, .inr (5, [.ref u, .int 0, .int 0])), (u, .inl (cy 0, 16, .inl ((fun _ => 0))))])) (va_A ([(b, .inr (5, [.null, .int 0, .int 0]))]) sz)) 1 16 (va_A ([(b, .inr (5, [.null, .int 0, .int 0]))]) sz) := by
  refine Met.ofW (cc := cX6_init) (maxL := 1) (ret := none) (by decide) rfl ?_
  intro p e s m args below meth c s₁ B hml hv
  obtain ⟨rfl, rfl, hP, hK, hN, hD0⟩ := hv
  have hx := B.exec
  have hb := B.bytes
  have hr := B.returns
  have hts := atoms_spec (ws := wsX6_init) B.pre
  have hown : s.vm.findClass RX6 = some m.cls := findClass_of_methodNamed B.named
  have hlocks := B.notSynchronized
  have hin : meth.name = "<init>" := (name_of_methodNamed B.named B.method).1
  have hw0 := hts (.methodLink RX6 1 objectInit) (by decide +kernel)
  have hw1 := hts (.instanceMethod objectInit) (by decide +kernel)
  have hw2 := hts (.code objectInit ⟨#[0xb1]⟩ 1 none) (by decide +kernel)
  have hw3 := hts (.arrayClass .int) (by decide +kernel)
  have hw4 := hts (.fieldLink RX6 9 "ParquetLayer$Sheet" "numbers" "[I") (by decide +kernel)
  have hi6 := ihX6_init_6
  have hD := hD0.self (sz := s.heap.size)
  generalize hAe : va_A ([(b, .inr (5, [.null, .int 0, .int 0]))]) s.heap.size = A at hD ⊢
  have hA : ∀ q : Nat, s.heap.size ≤ q → A q := fun q h => by rw [← hAe]; exact Or.inr h
  have hS : va_S A s.heap s.heap [] := va_S.rf
  have hl := lv_entry ([.ref b]) (n := 1) (Nat.le_of_ble_eq_true rfl)
  rw [lg_entry_eq]
  generalize (lg_sl ([.ref b]) ++ List.replicate (1 - (lg_sl ([.ref b])).length) Slot.unset).toArray = ls at hl ⊢
  have hl : lv_has ls 1 [(0, .ref b)] := hl
  refine lv_aload_n hx hb dX6_init_0 rfl (lv_at hl 0 rfl) ?_
  refine W.objInit hx hb hown hw0 hw1 hw2 rfl (by rw [hml]; exact hl.1) rfl dX6_init_1 (Nat.le_of_ble_eq_true rfl) (Nat.le_of_ble_eq_true rfl) ?_
  refine W.eq (g2 := F0 m 4 ls []) rfl ?_
  refine lv_aload_n hx hb dX6_init_4 rfl (lv_at hl 0 rfl) ?_
  refine lv_bipush (v := 16) hx hb dX6_init_5 (by decide) ?_
  refine knew_int hx hb hw3 hK hP hD hS hA (by decide) (N' := 16) (by decide) (by decide) (Nat.le_of_ble_eq_true rfl) (Nat.le_of_ble_eq_true rfl) dX6_init_7 (fun q_1 H hP hD hS => ?_)
  have hP : va_P D vwCl ([(b, .inr (5, [.null, .int 0, .int 0])), (q_1, .inl (cy 0, 16, .inl ((fun _ => 0))))]) H := hP
  have hD : va_D A ([(b, .inr (5, [.null, .int 0, .int 0])), (q_1, .inl (cy 0, 16, .inl ((fun _ => 0))))]) := hD
  refine va_putF (D := D) (ci := 5) (v := .ref q_1) (ty := .array .int) (C := RX6) (T := TX6) (N := 3) hx hb hts hi6 tyX6 tyX6_ok nmX6 hown hK hP hD hS 0 rfl rfl 0 (by decide) hw4 (fun _ h9 => h9) rfl hin rfl (by decide +kernel) rfl rfl (Nat.le_of_ble_eq_true rfl) dX6_init_9 (fun H locs hP hD hS => ?_)
  have hP : va_P D vwCl ([(b, .inr (5, [.ref q_1, .int 0, .int 0])), (q_1, .inl (cy 0, 16, .inl ((fun _ => 0))))]) H := hP
  have hD : va_D A ([(b, .inr (5, [.ref q_1, .int 0, .int 0])), (q_1, .inl (cy 0, 16, .inl ((fun _ => 0))))]) := hD
  exact wret_v hx hb hr hlocks q_1 trivial hP hD hS dX6_init_12
theorem dX2_init_0 : decode cX2_init 0 = .ok (.aload_n 0, 1) := by decide +kernel
theorem dX2_init_1 : decode cX2_init 1 = .ok (.invokespecial 3, 3) := by decide +kernel
theorem dX2_init_4 : decode cX2_init 4 = .ok (.aload_n 0, 1) := by decide +kernel
theorem dX2_init_5 : decode cX2_init 5 = .ok (.bipush 81, 2) := by decide +kernel
theorem dX2_init_7 : decode cX2_init 7 = .ok (.newarray .int, 2) := by decide +kernel
theorem dX2_init_9 : decode cX2_init 9 = .ok (.putfield 9, 3) := by decide +kernel
theorem dX2_init_12 : decode cX2_init 12 = .ok (.aload_n 0, 1) := by decide +kernel
theorem dX2_init_13 : decode cX2_init 13 = .ok (.bipush 81, 2) := by decide +kernel
theorem dX2_init_15 : decode cX2_init 15 = .ok (.newarray .int, 2) := by decide +kernel
theorem dX2_init_17 : decode cX2_init 17 = .ok (.putfield 13, 3) := by decide +kernel
theorem dX2_init_20 : decode cX2_init 20 = .ok (.aload_n 0, 1) := by decide +kernel
theorem dX2_init_21 : decode cX2_init 21 = .ok (.bipush 81, 2) := by decide +kernel
theorem dX2_init_23 : decode cX2_init 23 = .ok (.newarray .int, 2) := by decide +kernel
theorem dX2_init_25 : decode cX2_init 25 = .ok (.putfield 16, 3) := by decide +kernel
theorem dX2_init_28 : decode cX2_init 28 = .ok (.aload_n 0, 1) := by decide +kernel
theorem dX2_init_29 : decode cX2_init 29 = .ok (.aload_n 0, 1) := by decide +kernel
theorem dX2_init_30 : decode cX2_init 30 = .ok (.getfield 9, 3) := by decide +kernel
theorem dX2_init_33 : decode cX2_init 33 = .ok (.putfield 19, 3) := by decide +kernel
theorem dX2_init_36 : decode cX2_init 36 = .ok (.return_, 1) := by decide +kernel
set_option maxRecDepth 20000 in
theorem ihX2_init_2 : ∀ w ∈ u_ws RX2 TX2 5, w ∈ wsX2_init := by decide +kernel
set_option maxHeartbeats 4000000 in
set_option maxRecDepth 100000 in
theorem ct_X2_init (l : Launch) (D : va_G) (cy : Nat → ClassId) (b sz : Nat)  : Met l yX2_init wsX2_init ({ frames := 1, cells := 3, slots := 243, locals := 20 }) (va_Pc [.ref b] (PW D cy sz ([(b, .inr (1, [.null, .null, .null, .int 0, .null]))]))) (va_Qv (fun _ : Nat × Nat × Nat => True) (BW D (va_A ([(b, .inr (1, [.null, .null, .null, .int 0, .null]))]) sz) (fun u : Nat × Nat × Nat => [(b, .inr (1, [.ref u.1, .ref u.2.1, .ref u.2.2, .int 0, .ref u.1])), (u.1, .inl (cy 0, 81, .inl ((fun _ => 0)))), (u.2.1, .inl (cy 0, 81, .inl ((fun _ => 0)))), (u.2.2, .inl (cy 0, 81, .inl ((fun _ => 0))))])) (va_A ([(b, .inr (1, [.null, .null, .null, .int 0, .null]))]) sz)) 3 243 (va_A ([(b, .inr (1, [.null, .null, .null, .int 0, .null]))]) sz) := by
  refine Met.ofW (cc := cX2_init) (maxL := 1) (ret := none) (by decide) rfl ?_
  intro p e s m args below meth c s₁ B hml hv
  obtain ⟨rfl, rfl, hP, hK, hN, hD0⟩ := hv
  have hx := B.exec
  have hb := B.bytes
  have hr := B.returns
  have hts := atoms_spec (ws := wsX2_init) B.pre
  have hown : s.vm.findClass RX2 = some m.cls := findClass_of_methodNamed B.named
  have hlocks := B.notSynchronized
  have hin : meth.name = "<init>" := (name_of_methodNamed B.named B.method).1
  have hw0 := hts (.methodLink RX2 3 objectInit) (by decide +kernel)
  have hw1 := hts (.instanceMethod objectInit) (by decide +kernel)
  have hw2 := hts (.code objectInit ⟨#[0xb1]⟩ 1 none) (by decide +kernel)
  have hw3 := hts (.arrayClass .int) (by decide +kernel)
  have hw4 := hts (.fieldLink RX2 9 "ParquetLayer$Heights" "here" "[I") (by decide +kernel)
  have hw5 := hts (.fieldLink RX2 13 "ParquetLayer$Heights" "there" "[I") (by decide +kernel)
  have hw6 := hts (.fieldLink RX2 16 "ParquetLayer$Heights" "queue" "[I") (by decide +kernel)
  have hw7 := hts (.fieldLink RX2 19 "ParquetLayer$Heights" "target" "[I") (by decide +kernel)
  have hi2 := ihX2_init_2
  have hD := hD0.self (sz := s.heap.size)
  generalize hAe : va_A ([(b, .inr (1, [.null, .null, .null, .int 0, .null]))]) s.heap.size = A at hD ⊢
  have hA : ∀ q : Nat, s.heap.size ≤ q → A q := fun q h => by rw [← hAe]; exact Or.inr h
  have hS : va_S A s.heap s.heap [] := va_S.rf
  have hl := lv_entry ([.ref b]) (n := 1) (Nat.le_of_ble_eq_true rfl)
  rw [lg_entry_eq]
  generalize (lg_sl ([.ref b]) ++ List.replicate (1 - (lg_sl ([.ref b])).length) Slot.unset).toArray = ls at hl ⊢
  have hl : lv_has ls 1 [(0, .ref b)] := hl
  refine lv_aload_n hx hb dX2_init_0 rfl (lv_at hl 0 rfl) ?_
  refine W.objInit hx hb hown hw0 hw1 hw2 rfl (by rw [hml]; exact hl.1) rfl dX2_init_1 (Nat.le_of_ble_eq_true rfl) (Nat.le_of_ble_eq_true rfl) ?_
  refine W.eq (g2 := F0 m 4 ls []) rfl ?_
  refine lv_aload_n hx hb dX2_init_4 rfl (lv_at hl 0 rfl) ?_
  refine lv_bipush (v := 81) hx hb dX2_init_5 (by decide) ?_
  refine knew_int hx hb hw3 hK hP hD hS hA (by decide) (N' := 81) (by decide) (by decide) (Nat.le_of_ble_eq_true rfl) (Nat.le_of_ble_eq_true rfl) dX2_init_7 (fun q_1 H hP hD hS => ?_)
  have hP : va_P D vwCl ([(b, .inr (1, [.null, .null, .null, .int 0, .null])), (q_1, .inl (cy 0, 81, .inl ((fun _ => 0))))]) H := hP
  have hD : va_D A ([(b, .inr (1, [.null, .null, .null, .int 0, .null])), (q_1, .inl (cy 0, 81, .inl ((fun _ => 0))))]) := hD
  refine va_putF (D := D) (ci := 1) (v := .ref q_1) (ty := .array .int) (C := RX2) (T := TX2) (N := 5) hx hb hts hi2 tyX2 tyX2_ok nmX2 hown hK hP hD hS 0 rfl rfl 0 (by decide) hw4 (fun _ h9 => h9) rfl hin rfl (by decide +kernel) rfl rfl (Nat.le_of_ble_eq_true rfl) dX2_init_9 (fun H locs hP hD hS => ?_)
  have hP : va_P D vwCl ([(b, .inr (1, [.ref q_1, .null, .null, .int 0, .null])), (q_1, .inl (cy 0, 81, .inl ((fun _ => 0))))]) H := hP
  have hD : va_D A ([(b, .inr (1, [.ref q_1, .null, .null, .int 0, .null])), (q_1, .inl (cy 0, 81, .inl ((fun _ => 0))))]) := hD
  refine lv_aload_n hx hb dX2_init_12 rfl (lv_at hl 0 rfl) ?_
  refine lv_bipush (v := 81) hx hb dX2_init_13 (by decide) ?_
  refine knew_int hx hb hw3 hK hP hD hS hA (by decide) (N' := 81) (by decide) (by decide) (Nat.le_of_ble_eq_true rfl) (Nat.le_of_ble_eq_true rfl) dX2_init_15 (fun q_2 H hP hD hS => ?_)
  have hP : va_P D vwCl ([(b, .inr (1, [.ref q_1, .null, .null, .int 0, .null])), (q_1, .inl (cy 0, 81, .inl ((fun _ => 0)))), (q_2, .inl (cy 0, 81, .inl ((fun _ => 0))))]) H := hP
  have hD : va_D A ([(b, .inr (1, [.ref q_1, .null, .null, .int 0, .null])), (q_1, .inl (cy 0, 81, .inl ((fun _ => 0)))), (q_2, .inl (cy 0, 81, .inl ((fun _ => 0))))]) := hD
  refine va_putF (D := D) (ci := 1) (v := .ref q_2) (ty := .array .int) (C := RX2) (T := TX2) (N := 5) hx hb hts hi2 tyX2 tyX2_ok nmX2 hown hK hP hD hS 0 rfl rfl 1 (by decide) hw5 (fun _ h9 => h9) rfl hin rfl (by decide +kernel) rfl rfl (Nat.le_of_ble_eq_true rfl) dX2_init_17 (fun H locs hP hD hS => ?_)
  have hP : va_P D vwCl ([(b, .inr (1, [.ref q_1, .ref q_2, .null, .int 0, .null])), (q_1, .inl (cy 0, 81, .inl ((fun _ => 0)))), (q_2, .inl (cy 0, 81, .inl ((fun _ => 0))))]) H := hP
  have hD : va_D A ([(b, .inr (1, [.ref q_1, .ref q_2, .null, .int 0, .null])), (q_1, .inl (cy 0, 81, .inl ((fun _ => 0)))), (q_2, .inl (cy 0, 81, .inl ((fun _ => 0))))]) := hD
  refine lv_aload_n hx hb dX2_init_20 rfl (lv_at hl 0 rfl) ?_
  refine lv_bipush (v := 81) hx hb dX2_init_21 (by decide) ?_
  refine knew_int hx hb hw3 hK hP hD hS hA (by decide) (N' := 81) (by decide) (by decide) (Nat.le_of_ble_eq_true rfl) (Nat.le_of_ble_eq_true rfl) dX2_init_23 (fun q_3 H hP hD hS => ?_)
  have hP : va_P D vwCl ([(b, .inr (1, [.ref q_1, .ref q_2, .null, .int 0, .null])), (q_1, .inl (cy 0, 81, .inl ((fun _ => 0)))), (q_2, .inl (cy 0, 81, .inl ((fun _ => 0)))), (q_3, .inl (cy 0, 81, .inl ((fun _ => 0))))]) H := hP
  have hD : va_D A ([(b, .inr (1, [.ref q_1, .ref q_2, .null, .int 0, .null])), (q_1, .inl (cy 0, 81, .inl ((fun _ => 0)))), (q_2, .inl (cy 0, 81, .inl ((fun _ => 0)))), (q_3, .inl (cy 0, 81, .inl ((fun _ => 0))))]) := hD
  refine va_putF (D := D) (ci := 1) (v := .ref q_3) (ty := .array .int) (C := RX2) (T := TX2) (N := 5) hx hb hts hi2 tyX2 tyX2_ok nmX2 hown hK hP hD hS 0 rfl rfl 2 (by decide) hw6 (fun _ h9 => h9) rfl hin rfl (by decide +kernel) rfl rfl (Nat.le_of_ble_eq_true rfl) dX2_init_25 (fun H locs hP hD hS => ?_)
  have hP : va_P D vwCl ([(b, .inr (1, [.ref q_1, .ref q_2, .ref q_3, .int 0, .null])), (q_1, .inl (cy 0, 81, .inl ((fun _ => 0)))), (q_2, .inl (cy 0, 81, .inl ((fun _ => 0)))), (q_3, .inl (cy 0, 81, .inl ((fun _ => 0))))]) H := hP
  have hD : va_D A ([(b, .inr (1, [.ref q_1, .ref q_2, .ref q_3, .int 0, .null])), (q_1, .inl (cy 0, 81, .inl ((fun _ => 0)))), (q_2, .inl (cy 0, 81, .inl ((fun _ => 0)))), (q_3, .inl (cy 0, 81, .inl ((fun _ => 0))))]) := hD
  refine lv_aload_n hx hb dX2_init_28 rfl (lv_at hl 0 rfl) ?_
  refine lv_aload_n hx hb dX2_init_29 rfl (lv_at hl 0 rfl) ?_
  refine va_get (D := D) (ci := 1) (v := .ref q_1) (C := RX2) (T := TX2) (N := 5) hx hb hts hi2 hown hK hP 0 rfl rfl 0 (by decide) hw4 (fun _ h9 => h9) rfl dX2_init_30 ?_
  refine va_put (D := D) (ci := 1) (v := .ref q_1) (ty := .array .int) (C := RX2) (T := TX2) (N := 5) hx hb hts hi2 tyX2 tyX2_ok nmX2 hown hK hP hD hS 0 rfl rfl 4 (by decide) hw7 (fun _ h9 => h9) rfl (by decide +kernel) rfl rfl (Nat.le_of_ble_eq_true rfl) dX2_init_33 (fun H locs hP hD hS => ?_)
  have hP : va_P D vwCl ([(b, .inr (1, [.ref q_1, .ref q_2, .ref q_3, .int 0, .ref q_1])), (q_1, .inl (cy 0, 81, .inl ((fun _ => 0)))), (q_2, .inl (cy 0, 81, .inl ((fun _ => 0)))), (q_3, .inl (cy 0, 81, .inl ((fun _ => 0))))]) H := hP
  have hD : va_D A ([(b, .inr (1, [.ref q_1, .ref q_2, .ref q_3, .int 0, .ref q_1])), (q_1, .inl (cy 0, 81, .inl ((fun _ => 0)))), (q_2, .inl (cy 0, 81, .inl ((fun _ => 0)))), (q_3, .inl (cy 0, 81, .inl ((fun _ => 0))))]) := hD
  exact wret_v hx hb hr hlocks (q_1, q_2, q_3) trivial hP hD hS dX2_init_36
theorem dX8_init_0 : decode cX8_init 0 = .ok (.aload_n 0, 1) := by decide +kernel
theorem dX8_init_1 : decode cX8_init 1 = .ok (.invokespecial 1, 3) := by decide +kernel
theorem dX8_init_4 : decode cX8_init 4 = .ok (.return_, 1) := by decide +kernel
set_option maxHeartbeats 4000000 in
set_option maxRecDepth 100000 in
theorem ct_X8_init (l : Launch) (D : va_G) (cy : Nat → ClassId) (b sz : Nat)  : Met l yX8_init wsX8_init ({ frames := 1, cells := 0, slots := 0, locals := 20 }) (va_Pc [.ref b] (PW D cy sz ([(b, .inr (7, [.long 0, .long 0]))]))) (va_Qv (fun _ : Unit => True) (BW D (va_A ([(b, .inr (7, [.long 0, .long 0]))]) sz) (fun u : Unit => [(b, .inr (7, [.long 0, .long 0]))])) (va_A ([(b, .inr (7, [.long 0, .long 0]))]) sz)) 0 0 (va_A ([(b, .inr (7, [.long 0, .long 0]))]) sz) := by
  refine Met.ofW (cc := cX8_init) (maxL := 1) (ret := none) (by decide) rfl ?_
  intro p e s m args below meth c s₁ B hml hv
  obtain ⟨rfl, rfl, hP, hK, hN, hD0⟩ := hv
  have hx := B.exec
  have hb := B.bytes
  have hr := B.returns
  have hts := atoms_spec (ws := wsX8_init) B.pre
  have hown : s.vm.findClass RX8 = some m.cls := findClass_of_methodNamed B.named
  have hlocks := B.notSynchronized
  have hin : meth.name = "<init>" := (name_of_methodNamed B.named B.method).1
  have hw0 := hts (.methodLink RX8 1 objectInit) (by decide +kernel)
  have hw1 := hts (.instanceMethod objectInit) (by decide +kernel)
  have hw2 := hts (.code objectInit ⟨#[0xb1]⟩ 1 none) (by decide +kernel)
  have hD := hD0.self (sz := s.heap.size)
  generalize hAe : va_A ([(b, .inr (7, [.long 0, .long 0]))]) s.heap.size = A at hD ⊢
  have hA : ∀ q : Nat, s.heap.size ≤ q → A q := fun q h => by rw [← hAe]; exact Or.inr h
  have hS : va_S A s.heap s.heap [] := va_S.rf
  have hl := lv_entry ([.ref b]) (n := 1) (Nat.le_of_ble_eq_true rfl)
  rw [lg_entry_eq]
  generalize (lg_sl ([.ref b]) ++ List.replicate (1 - (lg_sl ([.ref b])).length) Slot.unset).toArray = ls at hl ⊢
  have hl : lv_has ls 1 [(0, .ref b)] := hl
  refine lv_aload_n hx hb dX8_init_0 rfl (lv_at hl 0 rfl) ?_
  refine W.objInit hx hb hown hw0 hw1 hw2 rfl (by rw [hml]; exact hl.1) rfl dX8_init_1 (Nat.le_of_ble_eq_true rfl) (Nat.le_of_ble_eq_true rfl) ?_
  refine W.eq (g2 := F0 m 4 ls []) rfl ?_
  exact wret_v hx hb hr hlocks () trivial hP hD hS dX8_init_4
theorem dX0_init_0 : decode cX0_init 0 = .ok (.aload_n 0, 1) := by decide +kernel
theorem dX0_init_1 : decode cX0_init 1 = .ok (.invokespecial 1, 3) := by decide +kernel
theorem dX0_init_4 : decode cX0_init 4 = .ok (.aload_n 0, 1) := by decide +kernel
theorem dX0_init_5 : decode cX0_init 5 = .ok (.bipush 64, 2) := by decide +kernel
theorem dX0_init_7 : decode cX0_init 7 = .ok (.newarray .int, 2) := by decide +kernel
theorem dX0_init_9 : decode cX0_init 9 = .ok (.putfield 7, 3) := by decide +kernel
theorem dX0_init_12 : decode cX0_init 12 = .ok (.aload_n 0, 1) := by decide +kernel
theorem dX0_init_13 : decode cX0_init 13 = .ok (.bipush 64, 2) := by decide +kernel
theorem dX0_init_15 : decode cX0_init 15 = .ok (.newarray .int, 2) := by decide +kernel
theorem dX0_init_17 : decode cX0_init 17 = .ok (.putfield 13, 3) := by decide +kernel
theorem dX0_init_20 : decode cX0_init 20 = .ok (.aload_n 0, 1) := by decide +kernel
theorem dX0_init_21 : decode cX0_init 21 = .ok (.bipush 64, 2) := by decide +kernel
theorem dX0_init_23 : decode cX0_init 23 = .ok (.newarray .int, 2) := by decide +kernel
theorem dX0_init_25 : decode cX0_init 25 = .ok (.putfield 16, 3) := by decide +kernel
theorem dX0_init_28 : decode cX0_init 28 = .ok (.return_, 1) := by decide +kernel
set_option maxRecDepth 20000 in
theorem ihX0_init_0 : ∀ w ∈ u_ws RX0 TX0 7, w ∈ wsX0_init := by decide +kernel
set_option maxHeartbeats 4000000 in
set_option maxRecDepth 100000 in
theorem ct_X0_init (l : Launch) (D : va_G) (cy : Nat → ClassId) (b sz : Nat)  : Met l yX0_init wsX0_init ({ frames := 1, cells := 3, slots := 192, locals := 20 }) (va_Pc [.ref b] (PW D cy sz ([(b, .inr (0, [.null, .null, .null, .int 0, .long 0, .long 0, .long 0]))]))) (va_Qv (fun _ : Nat × Nat × Nat => True) (BW D (va_A ([(b, .inr (0, [.null, .null, .null, .int 0, .long 0, .long 0, .long 0]))]) sz) (fun u : Nat × Nat × Nat => [(b, .inr (0, [.ref u.1, .ref u.2.1, .ref u.2.2, .int 0, .long 0, .long 0, .long 0])), (u.1, .inl (cy 0, 64, .inl ((fun _ => 0)))), (u.2.1, .inl (cy 0, 64, .inl ((fun _ => 0)))), (u.2.2, .inl (cy 0, 64, .inl ((fun _ => 0))))])) (va_A ([(b, .inr (0, [.null, .null, .null, .int 0, .long 0, .long 0, .long 0]))]) sz)) 3 192 (va_A ([(b, .inr (0, [.null, .null, .null, .int 0, .long 0, .long 0, .long 0]))]) sz) := by
  refine Met.ofW (cc := cX0_init) (maxL := 1) (ret := none) (by decide) rfl ?_
  intro p e s m args below meth c s₁ B hml hv
  obtain ⟨rfl, rfl, hP, hK, hN, hD0⟩ := hv
  have hx := B.exec
  have hb := B.bytes
  have hr := B.returns
  have hts := atoms_spec (ws := wsX0_init) B.pre
  have hown : s.vm.findClass RX0 = some m.cls := findClass_of_methodNamed B.named
  have hlocks := B.notSynchronized
  have hin : meth.name = "<init>" := (name_of_methodNamed B.named B.method).1
  have hw0 := hts (.methodLink RX0 1 objectInit) (by decide +kernel)
  have hw1 := hts (.instanceMethod objectInit) (by decide +kernel)
  have hw2 := hts (.code objectInit ⟨#[0xb1]⟩ 1 none) (by decide +kernel)
  have hw3 := hts (.arrayClass .int) (by decide +kernel)
  have hw4 := hts (.fieldLink RX0 7 "ParquetLayer$Covering" "mate" "[I") (by decide +kernel)
  have hw5 := hts (.fieldLink RX0 13 "ParquetLayer$Covering" "reachedFrom" "[I") (by decide +kernel)
  have hw6 := hts (.fieldLink RX0 16 "ParquetLayer$Covering" "queue" "[I") (by decide +kernel)
  have hi0 := ihX0_init_0
  have hD := hD0.self (sz := s.heap.size)
  generalize hAe : va_A ([(b, .inr (0, [.null, .null, .null, .int 0, .long 0, .long 0, .long 0]))]) s.heap.size = A at hD ⊢
  have hA : ∀ q : Nat, s.heap.size ≤ q → A q := fun q h => by rw [← hAe]; exact Or.inr h
  have hS : va_S A s.heap s.heap [] := va_S.rf
  have hl := lv_entry ([.ref b]) (n := 1) (Nat.le_of_ble_eq_true rfl)
  rw [lg_entry_eq]
  generalize (lg_sl ([.ref b]) ++ List.replicate (1 - (lg_sl ([.ref b])).length) Slot.unset).toArray = ls at hl ⊢
  have hl : lv_has ls 1 [(0, .ref b)] := hl
  refine lv_aload_n hx hb dX0_init_0 rfl (lv_at hl 0 rfl) ?_
  refine W.objInit hx hb hown hw0 hw1 hw2 rfl (by rw [hml]; exact hl.1) rfl dX0_init_1 (Nat.le_of_ble_eq_true rfl) (Nat.le_of_ble_eq_true rfl) ?_
  refine W.eq (g2 := F0 m 4 ls []) rfl ?_
  refine lv_aload_n hx hb dX0_init_4 rfl (lv_at hl 0 rfl) ?_
  refine lv_bipush (v := 64) hx hb dX0_init_5 (by decide) ?_
  refine knew_int hx hb hw3 hK hP hD hS hA (by decide) (N' := 64) (by decide) (by decide) (Nat.le_of_ble_eq_true rfl) (Nat.le_of_ble_eq_true rfl) dX0_init_7 (fun q_1 H hP hD hS => ?_)
  have hP : va_P D vwCl ([(b, .inr (0, [.null, .null, .null, .int 0, .long 0, .long 0, .long 0])), (q_1, .inl (cy 0, 64, .inl ((fun _ => 0))))]) H := hP
  have hD : va_D A ([(b, .inr (0, [.null, .null, .null, .int 0, .long 0, .long 0, .long 0])), (q_1, .inl (cy 0, 64, .inl ((fun _ => 0))))]) := hD
  refine va_putF (D := D) (ci := 0) (v := .ref q_1) (ty := .array .int) (C := RX0) (T := TX0) (N := 7) hx hb hts hi0 tyX0 tyX0_ok nmX0 hown hK hP hD hS 0 rfl rfl 0 (by decide) hw4 (fun _ h9 => h9) rfl hin rfl (by decide +kernel) rfl rfl (Nat.le_of_ble_eq_true rfl) dX0_init_9 (fun H locs hP hD hS => ?_)
  have hP : va_P D vwCl ([(b, .inr (0, [.ref q_1, .null, .null, .int 0, .long 0, .long 0, .long 0])), (q_1, .inl (cy 0, 64, .inl ((fun _ => 0))))]) H := hP
  have hD : va_D A ([(b, .inr (0, [.ref q_1, .null, .null, .int 0, .long 0, .long 0, .long 0])), (q_1, .inl (cy 0, 64, .inl ((fun _ => 0))))]) := hD
  refine lv_aload_n hx hb dX0_init_12 rfl (lv_at hl 0 rfl) ?_
  refine lv_bipush (v := 64) hx hb dX0_init_13 (by decide) ?_
  refine knew_int hx hb hw3 hK hP hD hS hA (by decide) (N' := 64) (by decide) (by decide) (Nat.le_of_ble_eq_true rfl) (Nat.le_of_ble_eq_true rfl) dX0_init_15 (fun q_2 H hP hD hS => ?_)
  have hP : va_P D vwCl ([(b, .inr (0, [.ref q_1, .null, .null, .int 0, .long 0, .long 0, .long 0])), (q_1, .inl (cy 0, 64, .inl ((fun _ => 0)))), (q_2, .inl (cy 0, 64, .inl ((fun _ => 0))))]) H := hP
  have hD : va_D A ([(b, .inr (0, [.ref q_1, .null, .null, .int 0, .long 0, .long 0, .long 0])), (q_1, .inl (cy 0, 64, .inl ((fun _ => 0)))), (q_2, .inl (cy 0, 64, .inl ((fun _ => 0))))]) := hD
  refine va_putF (D := D) (ci := 0) (v := .ref q_2) (ty := .array .int) (C := RX0) (T := TX0) (N := 7) hx hb hts hi0 tyX0 tyX0_ok nmX0 hown hK hP hD hS 0 rfl rfl 1 (by decide) hw5 (fun _ h9 => h9) rfl hin rfl (by decide +kernel) rfl rfl (Nat.le_of_ble_eq_true rfl) dX0_init_17 (fun H locs hP hD hS => ?_)
  have hP : va_P D vwCl ([(b, .inr (0, [.ref q_1, .ref q_2, .null, .int 0, .long 0, .long 0, .long 0])), (q_1, .inl (cy 0, 64, .inl ((fun _ => 0)))), (q_2, .inl (cy 0, 64, .inl ((fun _ => 0))))]) H := hP
  have hD : va_D A ([(b, .inr (0, [.ref q_1, .ref q_2, .null, .int 0, .long 0, .long 0, .long 0])), (q_1, .inl (cy 0, 64, .inl ((fun _ => 0)))), (q_2, .inl (cy 0, 64, .inl ((fun _ => 0))))]) := hD
  refine lv_aload_n hx hb dX0_init_20 rfl (lv_at hl 0 rfl) ?_
  refine lv_bipush (v := 64) hx hb dX0_init_21 (by decide) ?_
  refine knew_int hx hb hw3 hK hP hD hS hA (by decide) (N' := 64) (by decide) (by decide) (Nat.le_of_ble_eq_true rfl) (Nat.le_of_ble_eq_true rfl) dX0_init_23 (fun q_3 H hP hD hS => ?_)
  have hP : va_P D vwCl ([(b, .inr (0, [.ref q_1, .ref q_2, .null, .int 0, .long 0, .long 0, .long 0])), (q_1, .inl (cy 0, 64, .inl ((fun _ => 0)))), (q_2, .inl (cy 0, 64, .inl ((fun _ => 0)))), (q_3, .inl (cy 0, 64, .inl ((fun _ => 0))))]) H := hP
  have hD : va_D A ([(b, .inr (0, [.ref q_1, .ref q_2, .null, .int 0, .long 0, .long 0, .long 0])), (q_1, .inl (cy 0, 64, .inl ((fun _ => 0)))), (q_2, .inl (cy 0, 64, .inl ((fun _ => 0)))), (q_3, .inl (cy 0, 64, .inl ((fun _ => 0))))]) := hD
  refine va_putF (D := D) (ci := 0) (v := .ref q_3) (ty := .array .int) (C := RX0) (T := TX0) (N := 7) hx hb hts hi0 tyX0 tyX0_ok nmX0 hown hK hP hD hS 0 rfl rfl 2 (by decide) hw6 (fun _ h9 => h9) rfl hin rfl (by decide +kernel) rfl rfl (Nat.le_of_ble_eq_true rfl) dX0_init_25 (fun H locs hP hD hS => ?_)
  have hP : va_P D vwCl ([(b, .inr (0, [.ref q_1, .ref q_2, .ref q_3, .int 0, .long 0, .long 0, .long 0])), (q_1, .inl (cy 0, 64, .inl ((fun _ => 0)))), (q_2, .inl (cy 0, 64, .inl ((fun _ => 0)))), (q_3, .inl (cy 0, 64, .inl ((fun _ => 0))))]) H := hP
  have hD : va_D A ([(b, .inr (0, [.ref q_1, .ref q_2, .ref q_3, .int 0, .long 0, .long 0, .long 0])), (q_1, .inl (cy 0, 64, .inl ((fun _ => 0)))), (q_2, .inl (cy 0, 64, .inl ((fun _ => 0)))), (q_3, .inl (cy 0, 64, .inl ((fun _ => 0))))]) := hD
  exact wret_v hx hb hr hlocks (q_1, q_2, q_3) trivial hP hD hS dX0_init_28
