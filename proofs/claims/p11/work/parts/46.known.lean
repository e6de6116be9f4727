theorem dX4_init_0 : decode cX4_init 0 = .ok (.aload_n 0, 1) := by decide +kernel
theorem dX4_init_1 : decode cX4_init 1 = .ok (.invokespecial 1, 3) := by decide +kernel
theorem dX4_init_4 : decode cX4_init 4 = .ok (.aload_n 0, 1) := by decide +kernel
theorem dX4_init_5 : decode cX4_init 5 = .ok (.sipush 16640, 3) := by decide +kernel
theorem dX4_init_8 : decode cX4_init 8 = .ok (.newarray .int, 2) := by decide +kernel
theorem dX4_init_10 : decode cX4_init 10 = .ok (.putfield 9, 3) := by decide +kernel
theorem dX4_init_13 : decode cX4_init 13 = .ok (.aload_n 0, 1) := by decide +kernel
theorem dX4_init_14 : decode cX4_init 14 = .ok (.sipush 512, 3) := by decide +kernel
theorem dX4_init_17 : decode cX4_init 17 = .ok (.newarray .int, 2) := by decide +kernel
theorem dX4_init_19 : decode cX4_init 19 = .ok (.putfield 13, 3) := by decide +kernel
theorem dX4_init_22 : decode cX4_init 22 = .ok (.return_, 1) := by decide +kernel
set_option maxRecDepth 20000 in
theorem ihX4_init_4 : ∀ w ∈ u_ws RX4 TX4 4, w ∈ wsX4_init := fun _ h => List.mem_cons_of_mem _ (List.mem_append_right _ h)
set_option maxHeartbeats 4000000 in
set_option maxRecDepth 100000 in
theorem ct_X4_init (l : Launch) (D : va_G) (cy : Nat → ClassId) (b sz : Nat)  : Met l yX4_init wsX4_init ({ frames := 1, cells := 2, slots := 17152, locals := 20 }) (va_Pc [.ref b] (PW D cy sz ([(b, .inr (3, [.null, .null, .long 0, .int 0]))]))) (va_Qv (fun _ : Nat × Nat => True) (BW D (va_A ([(b, .inr (3, [.null, .null, .long 0, .int 0]))]) sz) (fun u : Nat × Nat => [(b, .inr (3, [.ref u.1, .ref u.2, .long 0, .int 0])), (u.1, .inl (cy 0, 16640, .inl ((fun _ => 0)))), (u.2, .inl (cy 0, 512, .inl ((fun _ => 0))))])) (va_A ([(b, .inr (3, [.null, .null, .long 0, .int 0]))]) sz)) 2 17152 (va_A ([(b, .inr (3, [.null, .null, .long 0, .int 0]))]) sz) := by
  refine Met.ofW (cc := cX4_init) (maxL := 1) (ret := none) (by decide) rfl ?_
  intro p e s m args below meth c s₁ B hml hv
  obtain ⟨rfl, rfl, hP, hK, hN, hD0⟩ := hv
  have hx := B.exec
  have hb := B.bytes
  have hr := B.returns
  have hts := atoms_spec (ws := wsX4_init) B.pre
  have hown : s.vm.findClass RX4 = some m.cls := findClass_of_methodNamed B.named
  have hlocks := B.notSynchronized
  have hin : meth.name = "<init>" := (name_of_methodNamed B.named B.method).1
  have hw0 := hts (.methodLink RX4 1 objectInit) (by decide +kernel)
  have hw1 := hts (.instanceMethod objectInit) (by decide +kernel)
  have hw2 := hts (.code objectInit ⟨#[0xb1]⟩ 1 none) (by decide +kernel)
  have hw3 := hts (.arrayClass .int) (by decide +kernel)
  have hw4 := hts (.fieldLink RX4 9 "ParquetLayer$Layings" "ways" "[I") (by decide +kernel)
  have hw5 := hts (.fieldLink RX4 13 "ParquetLayer$Layings" "pair" "[I") (by decide +kernel)
  have hi4 := ihX4_init_4
  have hD := hD0.self (sz := s.heap.size)
  generalize hAe : va_A ([(b, .inr (3, [.null, .null, .long 0, .int 0]))]) s.heap.size = A at hD ⊢
  have hA : ∀ q : Nat, s.heap.size ≤ q → A q := fun q h => by rw [← hAe]; exact Or.inr h
  have hS : va_S A s.heap s.heap [] := va_S.rf
  have hl := lv_entry ([.ref b]) (n := 1) (Nat.le_of_ble_eq_true rfl)
  rw [lg_entry_eq]
  generalize (lg_sl ([.ref b]) ++ List.replicate (1 - (lg_sl ([.ref b])).length) Slot.unset).toArray = ls at hl ⊢
  have hl : lv_has ls 1 [(0, .ref b)] := hl
  refine lv_aload_n hx hb dX4_init_0 rfl (lv_at hl 0 rfl) ?_
  refine W.objInit hx hb hown hw0 hw1 hw2 rfl (by rw [hml]; exact hl.1) rfl dX4_init_1 (Nat.le_of_ble_eq_true rfl) (Nat.le_of_ble_eq_true rfl) ?_
  refine W.eq (g2 := F0 m 4 ls []) rfl ?_
  refine lv_aload_n hx hb dX4_init_4 rfl (lv_at hl 0 rfl) ?_
  refine lv_sipush (v := 16640) hx hb dX4_init_5 (by decide) ?_
  refine knew_int hx hb hw3 hK hP hD hS hA (by decide) (N' := 16640) (by decide) (by decide) (Nat.le_of_ble_eq_true rfl) (Nat.le_of_ble_eq_true rfl) dX4_init_8 (fun q_1 H hP hD hS => ?_)
  have hP : va_P D vwCl ([(b, .inr (3, [.null, .null, .long 0, .int 0])), (q_1, .inl (cy 0, 16640, .inl ((fun _ => 0))))]) H := hP
  have hD : va_D A ([(b, .inr (3, [.null, .null, .long 0, .int 0])), (q_1, .inl (cy 0, 16640, .inl ((fun _ => 0))))]) := hD
  refine va_putF (D := D) (ci := 3) (v := .ref q_1) (ty := .array .int) (C := RX4) (T := TX4) (N := 4) hx hb hts hi4 tyX4 tyX4_ok nmX4 hown hK hP hD hS 0 rfl rfl 0 (by decide) hw4 (fun _ h9 => h9) rfl hin rfl (by decide +kernel) rfl rfl (Nat.le_of_ble_eq_true rfl) dX4_init_10 (fun H locs hP hD hS => ?_)
  have hP : va_P D vwCl ([(b, .inr (3, [.ref q_1, .null, .long 0, .int 0])), (q_1, .inl (cy 0, 16640, .inl ((fun _ => 0))))]) H := hP
  have hD : va_D A ([(b, .inr (3, [.ref q_1, .null, .long 0, .int 0])), (q_1, .inl (cy 0, 16640, .inl ((fun _ => 0))))]) := hD
  refine lv_aload_n hx hb dX4_init_13 rfl (lv_at hl 0 rfl) ?_
  refine lv_sipush (v := 512) hx hb dX4_init_14 (by decide) ?_
  refine knew_int hx hb hw3 hK hP hD hS hA (by decide) (N' := 512) (by decide) (by decide) (Nat.le_of_ble_eq_true rfl) (Nat.le_of_ble_eq_true rfl) dX4_init_17 (fun q_2 H hP hD hS => ?_)
  have hP : va_P D vwCl ([(b, .inr (3, [.ref q_1, .null, .long 0, .int 0])), (q_1, .inl (cy 0, 16640, .inl ((fun _ => 0)))), (q_2, .inl (cy 0, 512, .inl ((fun _ => 0))))]) H := hP
  have hD : va_D A ([(b, .inr (3, [.ref q_1, .null, .long 0, .int 0])), (q_1, .inl (cy 0, 16640, .inl ((fun _ => 0)))), (q_2, .inl (cy 0, 512, .inl ((fun _ => 0))))]) := hD
  refine va_putF (D := D) (ci := 3) (v := .ref q_2) (ty := .array .int) (C := RX4) (T := TX4) (N := 4) hx hb hts hi4 tyX4 tyX4_ok nmX4 hown hK hP hD hS 0 rfl rfl 1 (by decide) hw5 (fun _ h9 => h9) rfl hin rfl (by decide +kernel) rfl rfl (Nat.le_of_ble_eq_true rfl) dX4_init_19 (fun H locs hP hD hS => ?_)
  have hP : va_P D vwCl ([(b, .inr (3, [.ref q_1, .ref q_2, .long 0, .int 0])), (q_1, .inl (cy 0, 16640, .inl ((fun _ => 0)))), (q_2, .inl (cy 0, 512, .inl ((fun _ => 0))))]) H := hP
  have hD : va_D A ([(b, .inr (3, [.ref q_1, .ref q_2, .long 0, .int 0])), (q_1, .inl (cy 0, 16640, .inl ((fun _ => 0)))), (q_2, .inl (cy 0, 512, .inl ((fun _ => 0))))]) := hD
  exact wret_v hx hb hr hlocks (q_1, q_2) trivial hP hD hS dX4_init_22
theorem ix_perm {X Y L : va_W} {i : Nat} {q : Nat × va_E} (h : (X ++ (L ++ Y))[i]? = some q) : ((X ++ Y) ++ L)[if i < X.length then i else if i < X.length + L.length then i + Y.length else i - L.length]? = some q := by
  rw [List.getElem?_append] at h
  by_cases h1 : i < X.length
  · rw [if_pos h1] at h ⊢
    rw [List.getElem?_append_left (by rw [List.length_append]; omega), List.getElem?_append_left h1]
    exact h
  · rw [if_neg h1] at h ⊢
    rw [List.getElem?_append] at h
    by_cases h2 : i < X.length + L.length
    · rw [if_pos (by omega)] at h
      rw [if_pos h2, List.getElem?_append_right (by rw [List.length_append]; omega), List.length_append, show i + Y.length - (X.length + Y.length) = i - X.length by omega]
      exact h
    · rw [if_neg (by omega)] at h
      rw [if_neg h2]
      have hlt := (List.getElem?_eq_some_iff.mp h).1
      rw [List.getElem?_append_left (by rw [List.length_append]; omega), List.getElem?_append_right (by omega), show i - L.length - X.length = i - X.length - L.length by omega]
      exact h
theorem P_perm {D : va_G} {X Y L : va_W} {H : Heap} (h : va_P D vwCl ((X ++ Y) ++ L) H) : va_P D vwCl (X ++ (L ++ Y)) H := fun _ q hk => h _ q (ix_perm hk)
theorem perm_inj {x l y i j : Nat} (hi : i < x + (l + y)) (hj : j < x + (l + y)) (e : (if i < x then i else if i < x + l then i + y else i - l) = (if j < x then j else if j < x + l then j + y else j - l)) : i = j := by
  by_cases a1 : i < x <;> by_cases a2 : j < x <;> by_cases a3 : i < x + l <;> by_cases a4 : j < x + l <;> simp only [a1, a2, a3, a4, if_true, if_false] at e <;> omega
theorem D_perm {A : Nat → Prop} {X Y L : va_W} (h : va_D A ((X ++ Y) ++ L)) : va_D A (X ++ (L ++ Y)) := by
  refine ⟨fun i j p q h1 h2 h3 => ?_, fun k q hk => h.2 _ q (ix_perm hk)⟩
  have b1 := (List.getElem?_eq_some_iff.mp h1).1
  have b2 := (List.getElem?_eq_some_iff.mp h2).1
  rw [List.length_append, List.length_append] at b1 b2
  exact perm_inj b1 b2 (h.1 _ _ p q (ix_perm h1) (ix_perm h2) h3)
theorem dX9_knownLayings_0 : decode cX9_knownLayings 0 = .ok (.aload_n 0, 1) := by decide +kernel
theorem dX9_knownLayings_1 : decode cX9_knownLayings 1 = .ok (.getfield 337, 3) := by decide +kernel
theorem dX9_knownLayings_4 : decode cX9_knownLayings 4 = .ok (.ifnonnull 14, 3) := by decide +kernel
theorem dX9_knownLayings_7 : decode cX9_knownLayings 7 = .ok (.aload_n 0, 1) := by decide +kernel
theorem dX9_knownLayings_8 : decode cX9_knownLayings 8 = .ok (.new 175, 3) := by decide +kernel
theorem dX9_knownLayings_11 : decode cX9_knownLayings 11 = .ok (.dup, 1) := by decide +kernel
set_option maxRecDepth 20000 in
theorem ggX9_knownLayings_X4_init : GoodIn wsX9_knownLayings wsX4_init := goodIn_r _ [8, 9, 10, 11, 12, 13, 14, 61, 62, 63, 64] rfl (by decide +kernel)
set_option maxRecDepth 20000 in
theorem gX9_knownLayings_X4_init_n341 : GoodIn wsX9_knownLayings (wsX4_init) := ggX9_knownLayings_X4_init
theorem dX9_knownLayings_12 : decode cX9_knownLayings 12 = .ok (.invokespecial 341, 3) := by decide +kernel
theorem dX9_knownLayings_15 : decode cX9_knownLayings 15 = .ok (.putfield 337, 3) := by decide +kernel
theorem dX9_knownLayings_18 : decode cX9_knownLayings 18 = .ok (.aload_n 0, 1) := by decide +kernel
theorem dX9_knownLayings_19 : decode cX9_knownLayings 19 = .ok (.getfield 337, 3) := by decide +kernel
theorem dX9_knownLayings_22 : decode cX9_knownLayings 22 = .ok (.aload_n 0, 1) := by decide +kernel
theorem dX9_knownLayings_23 : decode cX9_knownLayings 23 = .ok (.getfield 48, 3) := by decide +kernel
theorem dX9_knownLayings_26 : decode cX9_knownLayings 26 = .ok (.aload_n 0, 1) := by decide +kernel
set_option maxRecDepth 20000 in
theorem ggX9_knownLayings_X9_gluedFields : GoodIn wsX9_knownLayings wsX9_gluedFields := goodIn_r _ [19, 20, 21, 22, 23, 24, 25, 26, 27, 28, 29, 18, 30, 50, 51, 52, 53, 54, 55, 56, 57, 58, 59, 60, 65, 66, 67, 68, 69, 70, 71] rfl (by decide +kernel)
set_option maxRecDepth 20000 in
theorem gX9_knownLayings_X9_gluedFields : GoodIn wsX9_knownLayings (wsV RX9 119 RX9 yX9_gluedFields wsX9_gluedFields) := goodIn_app (goodIn_r _ [15, 16, 17, 18] rfl (by decide +kernel)) ggX9_knownLayings_X9_gluedFields
theorem dX9_knownLayings_27 : decode cX9_knownLayings 27 = .ok (.invokevirtual 119, 3) := by decide +kernel
theorem dX9_knownLayings_30 : decode cX9_knownLayings 30 = .ok (.ldc2_w 54, 3) := by decide +kernel
theorem dX9_knownLayings_33 : decode cX9_knownLayings 33 = .ok (.lxor, 1) := by decide +kernel
theorem dX9_knownLayings_34 : decode cX9_knownLayings 34 = .ok (.land, 1) := by decide +kernel
set_option maxRecDepth 20000 in
theorem ggX9_knownLayings_X4_know : GoodIn wsX9_knownLayings wsX4_know := goodIn_r _ [34, 35, 36, 13, 37, 38, 4, 39, 40, 41, 42, 43, 44, 45, 46, 47, 48, 49, 61, 62, 63, 64] rfl (by decide +kernel)
set_option maxRecDepth 20000 in
theorem gX9_knownLayings_X4_know : GoodIn wsX9_knownLayings (wsV RX9 342 RX4 yX4_know wsX4_know) := goodIn_app (goodIn_r _ [31, 32, 33, 4] rfl (by decide +kernel)) ggX9_knownLayings_X4_know
theorem dX9_knownLayings_35 : decode cX9_knownLayings 35 = .ok (.invokevirtual 342, 3) := by decide +kernel
theorem dX9_knownLayings_38 : decode cX9_knownLayings 38 = .ok (.aload_n 0, 1) := by decide +kernel
theorem dX9_knownLayings_39 : decode cX9_knownLayings 39 = .ok (.getfield 337, 3) := by decide +kernel
theorem dX9_knownLayings_42 : decode cX9_knownLayings 42 = .ok (.areturn, 1) := by decide +kernel
set_option maxRecDepth 20000 in
theorem ihX9_knownLayings_4 : ∀ w ∈ u_ws RX4 TX4 4, w ∈ wsX9_knownLayings := fun _ h => List.mem_cons_of_mem _ (List.mem_append_left _ (List.mem_append_right _ h))
set_option maxRecDepth 20000 in
theorem ihX9_knownLayings_9 : ∀ w ∈ u_ws RX9 TX9 11, w ∈ wsX9_knownLayings := fun _ h => List.mem_cons_of_mem _ (List.mem_append_left _ (List.mem_append_left _ (List.mem_append_right _ h)))
set_option maxHeartbeats 4000000 in
set_option maxRecDepth 100000 in
theorem t_X9_knownLayings (l : Launch) (D : va_G) (cy : Nat → ClassId) (a : Nat → Nat) (sz : Nat) (J : Nat → Int64) (I : Nat → Int32) (O : Nat → Option Nat) (R : Nat → Nat → Int32) (RO : Nat → Nat → Option Nat) (LL Y : va_W)  (hM : CI a Y I O RO) (hL : LOK cy (O 5) LL) : Met l yX9_knownLayings wsX9_knownLayings ({ frames := 4, cells := 3, slots := 17156, locals := 99 }) (va_Pc [.ref (a 0)] (PW D cy sz (CT cy a J I O R RO (LL ++ Y)))) (va_Qr (fun u : Nat × Nat × Int64 × Int32 × (Nat → Int32) × (Nat → Int32) => isB u.2.2.2.1 ∧ (u.2.2.2.1 = 1 → tabF (bfx u.2.2.1) u.2.2.2.2.1 0)) (fun u r t => va_P D vwCl (CT cy a J I (va_up O 5 (some r)) R RO (lgC cy r u.1 u.2.1 u.2.2.1 u.2.2.2.1 u.2.2.2.2.1 u.2.2.2.2.2 ++ Y)) t.heap ∧ va_D (va_A (CT cy a J I O R RO (LL ++ Y)) sz) (CT cy a J I (va_up O 5 (some r)) R RO (lgC cy r u.1 u.2.1 u.2.2.1 u.2.2.2.1 u.2.2.2.2.1 u.2.2.2.2.2 ++ Y))) (va_A (CT cy a J I O R RO (LL ++ Y)) sz)) 3 17156 (va_A (CT cy a J I O R RO (LL ++ Y)) sz) := by
  refine Met.ofW (cc := cX9_knownLayings) (maxL := 1) (ret := (some (.object "ParquetLayer$Layings"))) (by decide) rfl ?_
  intro p e s m args below meth c s₁ B hml hv
  obtain ⟨rfl, rfl, hP, hK, hN, hD0⟩ := hv
  have hx := B.exec
  have hb := B.bytes
  have hr := B.returns
  have hts := atoms_spec (ws := wsX9_knownLayings) B.pre
  have hown : s.vm.findClass RX9 = some m.cls := findClass_of_methodNamed B.named
  have hlocks := B.notSynchronized
  have hw0 := hts (.fieldLink RX9 337 "ParquetLayer" "layings" "LParquetLayer$Layings;") (by decide +kernel)
  have hw1 := hts (.classLink RX9 175 RX4) (by decide +kernel)
  have hw2 := hts (.instantiable RX4 4) (by decide +kernel)
  have hw3 := hts (.initialized RX4) (by decide +kernel)
  have hw4 := hts (.instanceMethod yX4_init) (by decide +kernel)
  have hw5 := hts (.fieldLink RX9 48 "ParquetLayer" "fields" "J") (by decide +kernel)
  have hw6 := hts (.constantLong RX9 54 (-1)) (by decide +kernel)
  have hi4 := ihX9_knownLayings_4
  have hi9 := ihX9_knownLayings_9
  have hD := hD0.self (sz := s.heap.size)
  generalize hAe : va_A (CT cy a J I O R RO (LL ++ Y)) s.heap.size = A at hD ⊢
  have hA : ∀ q : Nat, s.heap.size ≤ q → A q := fun q h => by rw [← hAe]; exact Or.inr h
  have hS : va_S A s.heap s.heap [] := va_S.rf
  have hl := lv_entry ([.ref (a 0)]) (n := 1) (Nat.le_of_ble_eq_true rfl)
  rw [lg_entry_eq]
  generalize (lg_sl ([.ref (a 0)]) ++ List.replicate (1 - (lg_sl ([.ref (a 0)])).length) Slot.unset).toArray = ls at hl ⊢
  have hl : lv_has ls 1 [(0, .ref (a 0))] := hl
  have hRO0 := hM.2.2.2.2.2.2.2.2.1
  have hRO1 := hM.2.2.2.2.2.2.2.2.2.1
  have hRO2 := hM.2.2.2.2.2.2.2.2.2.2.1
  have hRO3 := hM.2.2.2.2.2.2.2.2.2.2.2
  have hP : va_P D vwCl (CT cy a J I (va_up O 5 (O 5)) R RO (LL ++ Y)) s.heap := hP
  have hD : va_D A (CT cy a J I (va_up O 5 (O 5)) R RO (LL ++ Y)) := hD
  rcases hL with ⟨h5, rfl⟩ | ⟨b0, b1, b2, jf, kn, fw, fp, h5, hkn, htb, rfl⟩
  · rw [h5] at hP hD
    refine lv_aload_n hx hb dX9_knownLayings_0 rfl (lv_at hl 0 rfl) ?_
    refine va_get (D := D) (ci := 8) (v := .null) (C := RX9) (T := TX9) (N := 11) hx hb hts hi9 hown hK hP 0 rfl rfl 5 (by decide) hw0 (fun _ h9 => h9) rfl dX9_knownLayings_1 ?_
    refine lv_ifnonnullN hx hb dX9_knownLayings_4 ?_
    refine lv_aload_n hx hb dX9_knownLayings_7 rfl (lv_at hl 0 rfl) ?_
    refine va_new (ci := 3) (fs := [.null, .null, .long 0, .int 0]) (C := RX4) (T := TX4) (N := 4) hx hb hts hi4 tyX4 tyX4_ok hown hw1 hw2 hw3 hK hP hD hS hA rfl (fun j hj => by rcases (show j = 0 ∨ j = 1 ∨ j = 2 ∨ j = 3 by omega) with rfl | rfl | rfl | rfl <;> rfl) (Nat.le_of_ble_eq_true rfl) (Nat.le_of_ble_eq_true rfl) dX9_knownLayings_8 (fun q_1 H hP hD hS => ?_)
    have hP : va_P D vwCl (CT cy a J I (va_up O 5 none) R RO ([] ++ Y) ++ [(q_1, .inr (3, [.null, .null, .long 0, .int 0]))]) H := hP
    have hD : va_D A (CT cy a J I (va_up O 5 none) R RO ([] ++ Y) ++ [(q_1, .inr (3, [.null, .null, .long 0, .int 0]))]) := hD
    refine lv_dup hx hb dX9_knownLayings_11 rfl ?_
    refine kNewN_v (As := []) (rest := [.ref q_1, .ref (a 0)]) (X := CT cy a J I (va_up O 5 none) R RO ([] ++ Y)) ⟨hx, hb, hml, hown, hts⟩ (ct_X4_init l D cy q_1 _ ) ⟨va_cnB 0 hts gX9_knownLayings_X4_init_n341 rfl rfl rfl hN.2.2.2.2.2.1 hw3 (by decide +kernel) ⟨Nat.le_of_ble_eq_true rfl, Nat.le_of_ble_eq_true rfl⟩, rfl, hw4⟩ hK hN hP hD hS hA rfl hl.1 rfl (Nat.le_of_ble_eq_true rfl) dX9_knownLayings_12 ⟨Nat.le_of_ble_eq_true rfl, Nat.le_of_ble_eq_true rfl⟩ (fun u H locs hw hP hD hS => ?_)
    obtain ⟨q_2, q_3⟩ := u
    have hP : va_P D vwCl (CT cy a J I (va_up O 5 none) R RO ([] ++ Y) ++ [(q_1, .inr (3, [.ref q_2, .ref q_3, .long 0, .int 0])), (q_2, .inl (cy 0, 16640, .inl (fun _ => 0))), (q_3, .inl (cy 0, 512, .inl (fun _ => 0)))]) H := hP
    have hD : va_D A (CT cy a J I (va_up O 5 none) R RO ([] ++ Y) ++ [(q_1, .inr (3, [.ref q_2, .ref q_3, .long 0, .int 0])), (q_2, .inl (cy 0, 16640, .inl (fun _ => 0))), (q_3, .inl (cy 0, 512, .inl (fun _ => 0)))]) := hD
    have hP : va_P D vwCl (CT cy a J I (va_up O 5 none) R RO ([(q_1, .inr (3, [.ref q_2, .ref q_3, .long 0, .int 0])), (q_2, .inl (cy 0, 16640, .inl (fun _ => 0))), (q_3, .inl (cy 0, 512, .inl (fun _ => 0)))] ++ Y)) H := P_perm (X := CT cy a J I (va_up O 5 none) R RO []) (Y := Y) (L := [(q_1, .inr (3, [.ref q_2, .ref q_3, .long 0, .int 0])), (q_2, .inl (cy 0, 16640, .inl (fun _ => 0))), (q_3, .inl (cy 0, 512, .inl (fun _ => 0)))]) hP
    have hD : va_D A (CT cy a J I (va_up O 5 none) R RO ([(q_1, .inr (3, [.ref q_2, .ref q_3, .long 0, .int 0])), (q_2, .inl (cy 0, 16640, .inl (fun _ => 0))), (q_3, .inl (cy 0, 512, .inl (fun _ => 0)))] ++ Y)) := D_perm (X := CT cy a J I (va_up O 5 none) R RO []) (Y := Y) (L := [(q_1, .inr (3, [.ref q_2, .ref q_3, .long 0, .int 0])), (q_2, .inl (cy 0, 16640, .inl (fun _ => 0))), (q_3, .inl (cy 0, 512, .inl (fun _ => 0)))]) hD
    refine va_put (D := D) (ci := 8) (v := .ref q_1) (ty := .object "ParquetLayer$Layings") (C := RX9) (T := TX9) (N := 11) hx hb hts hi9 tyX9 tyX9_ok nmX9 hown hK hP hD hS 0 rfl rfl 5 (by decide) hw0 (fun _ h9 => h9) rfl (by decide +kernel) rfl rfl (Nat.le_of_ble_eq_true rfl) dX9_knownLayings_15 (fun H locs hP hD hS => ?_)
    have hP : va_P D vwCl (CT cy a J I (va_up O 5 (some q_1)) R RO ([(q_1, .inr (3, [.ref q_2, .ref q_3, .long 0, .int 0])), (q_2, .inl (cy 0, 16640, .inl (fun _ => 0))), (q_3, .inl (cy 0, 512, .inl (fun _ => 0)))] ++ Y)) H := hP
    have hD : va_D A (CT cy a J I (va_up O 5 (some q_1)) R RO ([(q_1, .inr (3, [.ref q_2, .ref q_3, .long 0, .int 0])), (q_2, .inl (cy 0, 16640, .inl (fun _ => 0))), (q_3, .inl (cy 0, 512, .inl (fun _ => 0)))] ++ Y)) := hD
    refine lv_aload_n hx hb dX9_knownLayings_18 rfl (lv_at hl 0 rfl) ?_
    refine va_get (D := D) (ci := 8) (v := .ref q_1) (C := RX9) (T := TX9) (N := 11) hx hb hts hi9 hown hK hP 0 rfl rfl 5 (by decide) hw0 (fun _ h9 => h9) rfl dX9_knownLayings_19 ?_
    refine lv_aload_n hx hb dX9_knownLayings_22 rfl (lv_at hl 0 rfl) ?_
    refine va_get (D := D) (ci := 8) (v := .long (J 6)) (C := RX9) (T := TX9) (N := 11) hx hb hts hi9 hown hK hP 0 rfl rfl 6 (by decide) hw5 (fun _ h9 => h9) rfl dX9_knownLayings_23 ?_
    refine lv_aload_n hx hb dX9_knownLayings_26 rfl (lv_at hl 0 rfl) ?_
    refine kRa_l (As := []) (rest := [.long (J 6), .ref q_1]) (q0 := 0) ⟨hx, hb, hml, hown, hts⟩ (t_X9_gluedFields l D cy a _ J I (va_up O 5 (some q_1)) R RO ([(q_1, .inr (3, [.ref q_2, .ref q_3, .long 0, .int 0])), (q_2, .inl (cy 0, 16640, .inl (fun _ => 0))), (q_3, .inl (cy 0, 512, .inl (fun _ => 0)))]) Y   ⟨hM.1, hM.2.1, hM.2.2.1, hM.2.2.2.1, hM.2.2.2.2.1, hM.2.2.2.2.2.1, hM.2.2.2.2.2.2.1, hM.2.2.2.2.2.2.2.1, hRO0, hRO1, hRO2, hRO3⟩) (cwV 0 hts gX9_knownLayings_X9_gluedFields rfl rfl rfl (by decide +kernel) ⟨Nat.le_of_ble_eq_true rfl, Nat.le_of_ble_eq_true rfl⟩) hK hN hP hD rfl rfl rfl hl.1 rfl (Nat.le_of_ble_eq_true rfl) dX9_knownLayings_27 ⟨Nat.le_of_ble_eq_true rfl, Nat.le_of_ble_eq_true rfl⟩ (fun r_4 hr_5 => ?_)
    refine lv_ldc2 (v := (-1)) hx hb hown hw6 dX9_knownLayings_30 ?_
    refine lv_lxor hx hb dX9_knownLayings_33 ?_
    refine lv_land hx hb dX9_knownLayings_34 ?_
    refine kM_v (As := [.long ((J 6) &&& (r_4 ^^^ (-1)))]) (rest := []) (q0 := 20) ⟨hx, hb, hml, hown, hts⟩ (t_X4_know l D cy a _ J I (va_up O 5 (some q_1)) R RO q_1 q_2 q_3 0 0 (fun _ => 0) (fun _ => 0) (Or.inl rfl) Y ((J 6) &&& (r_4 ^^^ (-1))) (fun z => absurd z (by decide))  ) (cwV 1 hts gX9_knownLayings_X4_know rfl rfl rfl (by decide +kernel) ⟨Nat.le_of_ble_eq_true rfl, Nat.le_of_ble_eq_true rfl⟩) hK hN hP hD hS hA rfl rfl rfl hl.1 rfl (Nat.le_of_ble_eq_true rfl) dX9_knownLayings_35 ⟨Nat.le_of_ble_eq_true rfl, Nat.le_of_ble_eq_true rfl⟩ (fun u H locs hw hP hD hS => ?_)
    obtain ⟨g_7, g_8, g_9, ⟨hkn_10, hp_11, hp_12, hp_13⟩, rfl⟩ := hw
    have hP : va_P D vwCl (CT cy a J I (va_up O 5 (some q_1)) R RO ([(q_1, .inr (3, [.ref q_2, .ref q_3, .long g_7, .int g_8])), (q_2, .inl (cy 0, 16640, .inl g_9)), (q_3, .inl (cy 0, 512, .inl (fun _ => 0)))] ++ Y)) H := hP
    have hD : va_D A (CT cy a J I (va_up O 5 (some q_1)) R RO ([(q_1, .inr (3, [.ref q_2, .ref q_3, .long g_7, .int g_8])), (q_2, .inl (cy 0, 16640, .inl g_9)), (q_3, .inl (cy 0, 512, .inl (fun _ => 0)))] ++ Y)) := hD
    refine lv_aload_n hx hb dX9_knownLayings_38 rfl (lv_at hl 0 rfl) ?_
    refine va_get (D := D) (ci := 8) (v := .ref q_1) (C := RX9) (T := TX9) (N := 11) hx hb hts hi9 hown hK hP 0 rfl rfl 5 (by decide) hw0 (fun _ h9 => h9) rfl dX9_knownLayings_39 ?_
    exact wret_r hx hb hr hlocks (Or.inl ⟨_, rfl⟩) (q_2, q_3, g_7, g_8, g_9, (fun _ => 0)) ⟨hkn_10, (fun _ => by rw [hp_11]; exact hp_13)⟩ hP hD hS dX9_knownLayings_42
  · rw [h5] at hP hD
    refine lv_aload_n hx hb dX9_knownLayings_0 rfl (lv_at hl 0 rfl) ?_
    refine va_get (D := D) (ci := 8) (v := .ref b0) (C := RX9) (T := TX9) (N := 11) hx hb hts hi9 hown hK hP 0 rfl rfl 5 (by decide) hw0 (fun _ h9 => h9) rfl dX9_knownLayings_1 ?_
    refine lv_ifnonnull (tgt := 18) hx hb dX9_knownLayings_4 (by decide) ?_
    refine lv_aload_n hx hb dX9_knownLayings_18 rfl (lv_at hl 0 rfl) ?_
    refine va_get (D := D) (ci := 8) (v := .ref b0) (C := RX9) (T := TX9) (N := 11) hx hb hts hi9 hown hK hP 0 rfl rfl 5 (by decide) hw0 (fun _ h9 => h9) rfl dX9_knownLayings_19 ?_
    refine lv_aload_n hx hb dX9_knownLayings_22 rfl (lv_at hl 0 rfl) ?_
    refine va_get (D := D) (ci := 8) (v := .long (J 6)) (C := RX9) (T := TX9) (N := 11) hx hb hts hi9 hown hK hP 0 rfl rfl 6 (by decide) hw5 (fun _ h9 => h9) rfl dX9_knownLayings_23 ?_
    refine lv_aload_n hx hb dX9_knownLayings_26 rfl (lv_at hl 0 rfl) ?_
    refine kRa_l (As := []) (rest := [.long (J 6), .ref b0]) (q0 := 0) ⟨hx, hb, hml, hown, hts⟩ (t_X9_gluedFields l D cy a _ J I (va_up O 5 (some b0)) R RO ([(b0, .inr (3, [.ref b1, .ref b2, .long jf, .int kn])), (b1, .inl (cy 0, 16640, .inl fw)), (b2, .inl (cy 0, 512, .inl fp))]) Y   ⟨hM.1, hM.2.1, hM.2.2.1, hM.2.2.2.1, hM.2.2.2.2.1, hM.2.2.2.2.2.1, hM.2.2.2.2.2.2.1, hM.2.2.2.2.2.2.2.1, hRO0, hRO1, hRO2, hRO3⟩) (cwV 0 hts gX9_knownLayings_X9_gluedFields rfl rfl rfl (by decide +kernel) ⟨Nat.le_of_ble_eq_true rfl, Nat.le_of_ble_eq_true rfl⟩) hK hN hP hD rfl rfl rfl hl.1 rfl (Nat.le_of_ble_eq_true rfl) dX9_knownLayings_27 ⟨Nat.le_of_ble_eq_true rfl, Nat.le_of_ble_eq_true rfl⟩ (fun r_14 hr_15 => ?_)
    refine lv_ldc2 (v := (-1)) hx hb hown hw6 dX9_knownLayings_30 ?_
    refine lv_lxor hx hb dX9_knownLayings_33 ?_
    refine lv_land hx hb dX9_knownLayings_34 ?_
    refine kM_v (As := [.long ((J 6) &&& (r_14 ^^^ (-1)))]) (rest := []) (q0 := 20) ⟨hx, hb, hml, hown, hts⟩ (t_X4_know l D cy a _ J I (va_up O 5 (some b0)) R RO b0 b1 b2 jf kn fw fp hkn Y ((J 6) &&& (r_14 ^^^ (-1))) htb  ) (cwV 1 hts gX9_knownLayings_X4_know rfl rfl rfl (by decide +kernel) ⟨Nat.le_of_ble_eq_true rfl, Nat.le_of_ble_eq_true rfl⟩) hK hN hP hD hS hA rfl rfl rfl hl.1 rfl (Nat.le_of_ble_eq_true rfl) dX9_knownLayings_35 ⟨Nat.le_of_ble_eq_true rfl, Nat.le_of_ble_eq_true rfl⟩ (fun u H locs hw hP hD hS => ?_)
    obtain ⟨g_17, g_18, g_19, ⟨hkn_20, hp_21, hp_22, hp_23⟩, rfl⟩ := hw
    have hP : va_P D vwCl (CT cy a J I (va_up O 5 (some b0)) R RO ([(b0, .inr (3, [.ref b1, .ref b2, .long g_17, .int g_18])), (b1, .inl (cy 0, 16640, .inl g_19)), (b2, .inl (cy 0, 512, .inl fp))] ++ Y)) H := hP
    have hD : va_D A (CT cy a J I (va_up O 5 (some b0)) R RO ([(b0, .inr (3, [.ref b1, .ref b2, .long g_17, .int g_18])), (b1, .inl (cy 0, 16640, .inl g_19)), (b2, .inl (cy 0, 512, .inl fp))] ++ Y)) := hD
    refine lv_aload_n hx hb dX9_knownLayings_38 rfl (lv_at hl 0 rfl) ?_
    refine va_get (D := D) (ci := 8) (v := .ref b0) (C := RX9) (T := TX9) (N := 11) hx hb hts hi9 hown hK hP 0 rfl rfl 5 (by decide) hw0 (fun _ h9 => h9) rfl dX9_knownLayings_39 ?_
    refine W.widen (k := 3) (n := 17156) (Nat.le_of_ble_eq_true rfl) (Nat.le_of_ble_eq_true rfl) ?_
    exact wret_r hx hb hr hlocks (Or.inl ⟨_, rfl⟩) (b1, b2, g_17, g_18, g_19, fp) ⟨hkn_20, (fun _ => by rw [hp_21]; exact hp_23)⟩ hP hD hS dX9_knownLayings_42
theorem dX9_layingOf_0 : decode cX9_layingOf 0 = .ok (.aload_n 0, 1) := by decide +kernel
set_option maxRecDepth 20000 in
theorem ggX9_layingOf_X9_knownLayings : GoodIn wsX9_layingOf wsX9_knownLayings := goodIn_r _ [8, 9, 10, 11, 12, 13, 14, 15, 16, 17, 18, 19, 20, 21, 22, 23, 24, 25, 7, 26, 27, 28, 29, 30, 31, 32, 33, 34, 35, 36, 37, 38, 39, 40, 41, 42, 43, 44, 45, 46, 47, 48, 49, 50, 51, 52, 53, 54, 55, 56, 91, 92, 93, 94, 95, 96, 97, 98, 99, 100, 101, 102, 103, 104, 105, 106, 107, 108, 109, 110, 111, 112] rfl (by decide +kernel)
set_option maxRecDepth 20000 in
theorem gX9_layingOf_X9_knownLayings : GoodIn wsX9_layingOf (wsV RX9 170 RX9 yX9_knownLayings wsX9_knownLayings) := goodIn_app (goodIn_r _ [4, 5, 6, 7] rfl (by decide +kernel)) ggX9_layingOf_X9_knownLayings
theorem dX9_layingOf_1 : decode cX9_layingOf 1 = .ok (.invokevirtual 170, 3) := by decide +kernel
theorem dX9_layingOf_4 : decode cX9_layingOf 4 = .ok (.astore_n 2, 1) := by decide +kernel
theorem dX9_layingOf_5 : decode cX9_layingOf 5 = .ok (.aload_n 2, 1) := by decide +kernel
theorem dX9_layingOf_6 : decode cX9_layingOf 6 = .ok (.iload_n 1, 1) := by decide +kernel
set_option maxRecDepth 20000 in
theorem ggX9_layingOf_X4_acrossOf : GoodIn wsX9_layingOf wsX4_acrossOf := goodIn_r _ [60, 61, 62, 63, 12, 64, 43, 50, 51, 52, 53, 65, 66, 67, 68, 21, 47, 48, 49, 102, 103, 104, 105] rfl (by decide +kernel)
set_option maxRecDepth 20000 in
theorem gX9_layingOf_X4_acrossOf : GoodIn wsX9_layingOf (wsV RX9 345 RX4 yX4_acrossOf wsX4_acrossOf) := goodIn_app (goodIn_r _ [57, 58, 59, 12] rfl (by decide +kernel)) ggX9_layingOf_X4_acrossOf
theorem dX9_layingOf_7 : decode cX9_layingOf 7 = .ok (.invokevirtual 345, 3) := by decide +kernel
theorem dX9_layingOf_10 : decode cX9_layingOf 10 = .ok (.lstore_n 3, 1) := by decide +kernel
theorem dX9_layingOf_11 : decode cX9_layingOf 11 = .ok (.aload_n 2, 1) := by decide +kernel
theorem dX9_layingOf_12 : decode cX9_layingOf 12 = .ok (.lload_n 3, 1) := by decide +kernel
set_option maxRecDepth 20000 in
theorem ggX9_layingOf_X4_alongBeside : GoodIn wsX9_layingOf wsX4_alongBeside := goodIn_r _ [72, 43, 73, 74, 50, 51, 52, 53, 102, 103, 104, 105] rfl (by decide +kernel)
set_option maxRecDepth 20000 in
theorem gX9_layingOf_X4_alongBeside : GoodIn wsX9_layingOf (wsV RX9 349 RX4 yX4_alongBeside wsX4_alongBeside) := goodIn_app (goodIn_r _ [69, 70, 71, 12] rfl (by decide +kernel)) ggX9_layingOf_X4_alongBeside
theorem dX9_layingOf_13 : decode cX9_layingOf 13 = .ok (.invokevirtual 349, 3) := by decide +kernel
theorem dX9_layingOf_16 : decode cX9_layingOf 16 = .ok (.lstore 5, 2) := by decide +kernel
theorem dX9_layingOf_18 : decode cX9_layingOf 18 = .ok (.new 166, 3) := by decide +kernel
theorem dX9_layingOf_21 : decode cX9_layingOf 21 = .ok (.dup, 1) := by decide +kernel
theorem dX9_layingOf_22 : decode cX9_layingOf 22 = .ok (.iload_n 1, 1) := by decide +kernel
theorem dX9_layingOf_23 : decode cX9_layingOf 23 = .ok (.lload 5, 2) := by decide +kernel
theorem dX9_layingOf_25 : decode cX9_layingOf 25 = .ok (.aload_n 0, 1) := by decide +kernel
theorem dX9_layingOf_26 : decode cX9_layingOf 26 = .ok (.iconst 0, 1) := by decide +kernel
set_option maxRecDepth 20000 in
theorem ggX9_layingOf_X9_gluedStarts : GoodIn wsX9_layingOf wsX9_gluedStarts := goodIn_r _ [78, 27, 79, 80, 29, 30, 31, 32, 33, 34, 35, 36, 7, 37, 91, 92, 93, 94, 95, 96, 97, 98, 99, 100, 101, 106, 107, 108, 109, 110, 111, 112] rfl (by decide +kernel)
set_option maxRecDepth 20000 in
theorem gX9_layingOf_X9_gluedStarts : GoodIn wsX9_layingOf (wsV RX9 333 RX9 yX9_gluedStarts wsX9_gluedStarts) := goodIn_app (goodIn_r _ [75, 76, 77, 7] rfl (by decide +kernel)) ggX9_layingOf_X9_gluedStarts
theorem dX9_layingOf_27 : decode cX9_layingOf 27 = .ok (.invokevirtual 333, 3) := by decide +kernel
theorem dX9_layingOf_30 : decode cX9_layingOf 30 = .ok (.lor, 1) := by decide +kernel
theorem dX9_layingOf_31 : decode cX9_layingOf 31 = .ok (.lload_n 3, 1) := by decide +kernel
theorem dX9_layingOf_32 : decode cX9_layingOf 32 = .ok (.aload_n 0, 1) := by decide +kernel
theorem dX9_layingOf_33 : decode cX9_layingOf 33 = .ok (.iconst 1, 1) := by decide +kernel
theorem dX9_layingOf_34 : decode cX9_layingOf 34 = .ok (.invokevirtual 333, 3) := by decide +kernel
theorem dX9_layingOf_37 : decode cX9_layingOf 37 = .ok (.lor, 1) := by decide +kernel
set_option maxRecDepth 20000 in
theorem ggX9_layingOf_X3_init : GoodIn wsX9_layingOf wsX3_init := goodIn_r _ [83, 84, 18, 19, 85, 86, 87, 88, 89, 90] rfl (by decide +kernel)
set_option maxRecDepth 20000 in
theorem gX9_layingOf_X3_init : GoodIn wsX9_layingOf (wsX3_init) := ggX9_layingOf_X3_init
theorem dX9_layingOf_38 : decode cX9_layingOf 38 = .ok (.invokespecial 352, 3) := by decide +kernel
theorem dX9_layingOf_41 : decode cX9_layingOf 41 = .ok (.areturn, 1) := by decide +kernel
set_option maxRecDepth 20000 in
theorem ihX9_layingOf_3 : ∀ w ∈ u_ws RX3 TX3 3, w ∈ wsX9_layingOf := fun _ h => List.mem_cons_of_mem _ (List.mem_append_left _ (List.mem_append_left _ (List.mem_append_left _ (List.mem_append_right _ h))))
set_option maxHeartbeats 4000000 in
set_option maxRecDepth 100000 in
theorem t_X9_layingOf (l : Launch) (D : va_G) (cy : Nat → ClassId) (a : Nat → Nat) (sz : Nat) (J : Nat → Int64) (I : Nat → Int32) (O : Nat → Option Nat) (R : Nat → Nat → Int32) (RO : Nat → Nat → Option Nat) (LL Y : va_W) (x0 : Int32) (hM : CI a Y I O RO) (hL : LOK cy (O 5) LL) : Met l yX9_layingOf wsX9_layingOf ({ frames := 5, cells := 4, slots := 17159, locals := 119 }) (va_Pc [.ref (a 0), .int x0] (PW D cy sz (CT cy a J I O R RO (LL ++ Y)))) (va_Qr (fun u : Option Nat × va_W × Int64 × Int64 => LOK cy u.1 u.2.1) (fun u r t => va_P D vwCl (CT cy a J I (va_up O 5 u.1) R RO (u.2.1 ++ (Y ++ [laC r x0 u.2.2.1 u.2.2.2]))) t.heap ∧ va_D (va_A (CT cy a J I O R RO (LL ++ Y)) sz) (CT cy a J I (va_up O 5 u.1) R RO (u.2.1 ++ (Y ++ [laC r x0 u.2.2.1 u.2.2.2])))) (va_A (CT cy a J I O R RO (LL ++ Y)) sz)) 4 17159 (va_A (CT cy a J I O R RO (LL ++ Y)) sz) := by
  refine Met.ofW (cc := cX9_layingOf) (maxL := 7) (ret := (some (.object "ParquetLayer$Laying"))) (by decide) rfl ?_
  intro p e s m args below meth c s₁ B hml hv
  obtain ⟨rfl, rfl, hP, hK, hN, hD0⟩ := hv
  have hx := B.exec
  have hb := B.bytes
  have hr := B.returns
  have hts := atoms_spec (ws := wsX9_layingOf) B.pre
  have hown : s.vm.findClass RX9 = some m.cls := findClass_of_methodNamed B.named
  have hlocks := B.notSynchronized
  have hw0 := hts (.classLink RX9 166 RX3) (by decide +kernel)
  have hw1 := hts (.instantiable RX3 3) (by decide +kernel)
  have hw2 := hts (.initialized RX3) (by decide +kernel)
  have hw3 := hts (.instanceMethod yX3_init) (by decide +kernel)
  have hw4 := hts (.methodLink RX9 352 yX3_init) (by decide +kernel)
  have hi3 := ihX9_layingOf_3
  have hD := hD0.self (sz := s.heap.size)
  generalize hAe : va_A (CT cy a J I O R RO (LL ++ Y)) s.heap.size = A at hD ⊢
  have hA : ∀ q : Nat, s.heap.size ≤ q → A q := fun q h => by rw [← hAe]; exact Or.inr h
  have hS : va_S A s.heap s.heap [] := va_S.rf
  have hl := lv_entry ([.ref (a 0), .int x0]) (n := 7) (Nat.le_of_ble_eq_true rfl)
  rw [lg_entry_eq]
  generalize (lg_sl ([.ref (a 0), .int x0]) ++ List.replicate (7 - (lg_sl ([.ref (a 0), .int x0])).length) Slot.unset).toArray = ls at hl ⊢
  have hl : lv_has ls 7 [(0, .ref (a 0)), (1, .int x0)] := hl
  have hRO0 := hM.2.2.2.2.2.2.2.2.1
  have hRO1 := hM.2.2.2.2.2.2.2.2.2.1
  have hRO2 := hM.2.2.2.2.2.2.2.2.2.2.1
  have hRO3 := hM.2.2.2.2.2.2.2.2.2.2.2
  have hP : va_P D vwCl (CT cy a J I (va_up O 5 (O 5)) R RO (LL ++ Y)) s.heap := hP
  have hD : va_D A (CT cy a J I (va_up O 5 (O 5)) R RO (LL ++ Y)) := hD
  refine lv_aload_n hx hb dX9_layingOf_0 rfl (lv_at hl 0 rfl) ?_
  refine kM_r (As := []) (rest := []) (q0 := 0) ⟨hx, hb, hml, hown, hts⟩ (t_X9_knownLayings l D cy a _ J I (va_up O 5 (O 5)) R RO LL Y   ⟨hM.1, hM.2.1, hM.2.2.1, hM.2.2.2.1, hM.2.2.2.2.1, hM.2.2.2.2.2.1, hM.2.2.2.2.2.2.1, hM.2.2.2.2.2.2.2.1, hRO0, hRO1, hRO2, hRO3⟩ hL) (cwV 0 hts gX9_layingOf_X9_knownLayings rfl rfl rfl (by decide +kernel) ⟨Nat.le_of_ble_eq_true rfl, Nat.le_of_ble_eq_true rfl⟩) hK hN hP hD hS hA rfl rfl rfl hl.1 rfl (Nat.le_of_ble_eq_true rfl) dX9_layingOf_1 ⟨Nat.le_of_ble_eq_true rfl, Nat.le_of_ble_eq_true rfl⟩ (fun u r_1 H locs hw hP hD hS => ?_)
  obtain ⟨g_2, g_3, g_4, g_5, g_6, g_7⟩ := u
  have hkn_8 : isB g_5 := hw.1
  have htb_9 : g_5 = 1 → tabF (bfx g_4) g_6 0 := hw.2
  have hP : va_P D vwCl (CT cy a J I (va_up O 5 (some r_1)) R RO ([(r_1, .inr (3, [.ref g_2, .ref g_3, .long g_4, .int g_5])), (g_2, .inl (cy 0, 16640, .inl g_6)), (g_3, .inl (cy 0, 512, .inl g_7))] ++ Y)) H := hP
  have hD : va_D A (CT cy a J I (va_up O 5 (some r_1)) R RO ([(r_1, .inr (3, [.ref g_2, .ref g_3, .long g_4, .int g_5])), (g_2, .inl (cy 0, 16640, .inl g_6)), (g_3, .inl (cy 0, 512, .inl g_7))] ++ Y)) := hD
  refine lv_astore_n (lv' := [(2, .ref r_1), (0, .ref (a 0)), (1, .int x0)]) hx hb dX9_layingOf_4 rfl hl (by decide) rfl (fun ls hl => ?_)
  refine lv_aload_n hx hb dX9_layingOf_5 rfl (lv_at hl 0 rfl) ?_
  refine lv_iload_n hx hb dX9_layingOf_6 rfl (lv_at hl 2 rfl) ?_
  refine kRa_l (As := [.int x0]) (rest := []) (q0 := 20) ⟨hx, hb, hml, hown, hts⟩ (t_X4_acrossOf l D cy a _ J I (va_up O 5 (some r_1)) R RO r_1 g_2 g_3 g_4 g_5 g_6 g_7 hkn_8 Y x0  ) (cwV 1 hts gX9_layingOf_X4_acrossOf rfl rfl rfl (by decide +kernel) ⟨Nat.le_of_ble_eq_true rfl, Nat.le_of_ble_eq_true rfl⟩) hK hN hP hD rfl rfl rfl hl.1 rfl (Nat.le_of_ble_eq_true rfl) dX9_layingOf_7 ⟨Nat.le_of_ble_eq_true rfl, Nat.le_of_ble_eq_true rfl⟩ (fun r_10 hr_11 => ?_)
  refine lv_lstore_n (lv' := [(3, .long r_10), (2, .ref r_1), (0, .ref (a 0)), (1, .int x0)]) hx hb dX9_layingOf_10 rfl hl (by decide) rfl (fun ls hl => ?_)
  refine lv_aload_n hx hb dX9_layingOf_11 rfl (lv_at hl 1 rfl) ?_
  refine lv_lload_n hx hb dX9_layingOf_12 rfl (lv_at hl 0 rfl) ?_
  refine kRa_l (As := [.long r_10]) (rest := []) (q0 := 20) ⟨hx, hb, hml, hown, hts⟩ (t_X4_alongBeside l D cy a _ J I (va_up O 5 (some r_1)) R RO r_1 g_2 g_3 g_4 g_5 g_6 g_7 hkn_8 Y r_10  ) (cwV 1 hts gX9_layingOf_X4_alongBeside rfl rfl rfl (by decide +kernel) ⟨Nat.le_of_ble_eq_true rfl, Nat.le_of_ble_eq_true rfl⟩) hK hN hP hD rfl rfl rfl hl.1 rfl (Nat.le_of_ble_eq_true rfl) dX9_layingOf_13 ⟨Nat.le_of_ble_eq_true rfl, Nat.le_of_ble_eq_true rfl⟩ (fun r_12 hr_13 => ?_)
  refine lv_lstore (lv' := [(5, .long r_12), (3, .long r_10), (2, .ref r_1), (0, .ref (a 0)), (1, .int x0)]) hx hb dX9_layingOf_16 hl (by decide) rfl (fun ls hl => ?_)
  refine va_new (ci := 2) (fs := [.int 0, .long 0, .long 0]) (C := RX3) (T := TX3) (N := 3) hx hb hts hi3 tyX3 tyX3_ok hown hw0 hw1 hw2 hK hP hD hS hA rfl (fun j hj => by rcases (show j = 0 ∨ j = 1 ∨ j = 2 by omega) with rfl | rfl | rfl <;> rfl) (Nat.le_of_ble_eq_true rfl) (Nat.le_of_ble_eq_true rfl) dX9_layingOf_18 (fun q_14 H hP hD hS => ?_)
  have hP : va_P D vwCl (CT cy a J I (va_up O 5 (some r_1)) R RO ([(r_1, .inr (3, [.ref g_2, .ref g_3, .long g_4, .int g_5])), (g_2, .inl (cy 0, 16640, .inl g_6)), (g_3, .inl (cy 0, 512, .inl g_7))] ++ Y) ++ [(q_14, .inr (2, [.int 0, .long 0, .long 0]))]) H := hP
  have hD : va_D A (CT cy a J I (va_up O 5 (some r_1)) R RO ([(r_1, .inr (3, [.ref g_2, .ref g_3, .long g_4, .int g_5])), (g_2, .inl (cy 0, 16640, .inl g_6)), (g_3, .inl (cy 0, 512, .inl g_7))] ++ Y) ++ [(q_14, .inr (2, [.int 0, .long 0, .long 0]))]) := hD
  refine lv_dup hx hb dX9_layingOf_21 rfl ?_
  refine lv_iload_n hx hb dX9_layingOf_22 rfl (lv_at hl 4 rfl) ?_
  refine lv_lload hx hb dX9_layingOf_23 (lv_at hl 0 rfl) ?_
  refine lv_aload_n hx hb dX9_layingOf_25 rfl (lv_at hl 3 rfl) ?_
  refine lv_iconst (v := 0) hx hb dX9_layingOf_26 (by decide) ?_
  have hPb := P_left hP
  have hDb := D_left hD
  refine kRa_l (As := [.int 0]) (rest := [.long r_12, .int x0, .ref q_14, .ref q_14]) (q0 := 0) ⟨hx, hb, hml, hown, hts⟩ (t_X9_gluedStarts l D cy a _ J I (va_up O 5 (some r_1)) R RO ([(r_1, .inr (3, [.ref g_2, .ref g_3, .long g_4, .int g_5])), (g_2, .inl (cy 0, 16640, .inl g_6)), (g_3, .inl (cy 0, 512, .inl g_7))]) Y false  ⟨hM.1, hM.2.1, hM.2.2.1, hM.2.2.2.1, hM.2.2.2.2.1, hM.2.2.2.2.2.1, hM.2.2.2.2.2.2.1, hM.2.2.2.2.2.2.2.1, hRO0, hRO1, hRO2, hRO3⟩) (cwV 1 hts gX9_layingOf_X9_gluedStarts rfl rfl rfl (by decide +kernel) ⟨Nat.le_of_ble_eq_true rfl, Nat.le_of_ble_eq_true rfl⟩) hK hN hPb hDb rfl rfl rfl hl.1 rfl (Nat.le_of_ble_eq_true rfl) dX9_layingOf_27 ⟨Nat.le_of_ble_eq_true rfl, Nat.le_of_ble_eq_true rfl⟩ (fun r_15 hr_16 => ?_)
  refine lv_lor hx hb dX9_layingOf_30 ?_
  refine lv_lload_n hx hb dX9_layingOf_31 rfl (lv_at hl 1 rfl) ?_
  refine lv_aload_n hx hb dX9_layingOf_32 rfl (lv_at hl 3 rfl) ?_
  refine lv_iconst (v := 1) hx hb dX9_layingOf_33 (by decide) ?_
  have hPb := P_left hP
  have hDb := D_left hD
  refine kRa_l (As := [.int 1]) (rest := [.long r_10, .long (r_12 ||| r_15), .int x0, .ref q_14, .ref q_14]) (q0 := 0) ⟨hx, hb, hml, hown, hts⟩ (t_X9_gluedStarts l D cy a _ J I (va_up O 5 (some r_1)) R RO ([(r_1, .inr (3, [.ref g_2, .ref g_3, .long g_4, .int g_5])), (g_2, .inl (cy 0, 16640, .inl g_6)), (g_3, .inl (cy 0, 512, .inl g_7))]) Y true  ⟨hM.1, hM.2.1, hM.2.2.1, hM.2.2.2.1, hM.2.2.2.2.1, hM.2.2.2.2.2.1, hM.2.2.2.2.2.2.1, hM.2.2.2.2.2.2.2.1, hRO0, hRO1, hRO2, hRO3⟩) (cwV 1 hts gX9_layingOf_X9_gluedStarts rfl rfl rfl (by decide +kernel) ⟨Nat.le_of_ble_eq_true rfl, Nat.le_of_ble_eq_true rfl⟩) hK hN hPb hDb rfl rfl rfl hl.1 rfl (Nat.le_of_ble_eq_true rfl) dX9_layingOf_34 ⟨Nat.le_of_ble_eq_true rfl, Nat.le_of_ble_eq_true rfl⟩ (fun r_17 hr_18 => ?_)
  refine lv_lor hx hb dX9_layingOf_37 ?_
  refine kNew_v (As := [.int x0, .long (r_12 ||| r_15), .long (r_10 ||| r_17)]) (rest := [.ref q_14]) (X := CT cy a J I (va_up O 5 (some r_1)) R RO ([(r_1, .inr (3, [.ref g_2, .ref g_3, .long g_4, .int g_5])), (g_2, .inl (cy 0, 16640, .inl g_6)), (g_3, .inl (cy 0, 512, .inl g_7))] ++ Y)) ⟨hx, hb, hml, hown, hts⟩ (ct_X3_init l D cy q_14 _ x0 (r_12 ||| r_15) (r_10 ||| r_17)) (cwI 3 hts gX9_layingOf_X3_init rfl rfl rfl hw2 hw4 hw3 rfl (by decide +kernel) ⟨Nat.le_of_ble_eq_true rfl, Nat.le_of_ble_eq_true rfl⟩) hK hN hP hD hS hA rfl hl.1 rfl (Nat.le_of_ble_eq_true rfl) dX9_layingOf_38 ⟨Nat.le_of_ble_eq_true rfl, Nat.le_of_ble_eq_true rfl⟩ (fun u H locs hw hP hD hS => ?_)
  have hP : va_P D vwCl (CT cy a J I (va_up O 5 (some r_1)) R RO ([(r_1, .inr (3, [.ref g_2, .ref g_3, .long g_4, .int g_5])), (g_2, .inl (cy 0, 16640, .inl g_6)), (g_3, .inl (cy 0, 512, .inl g_7))] ++ Y) ++ [(q_14, .inr (2, [.int x0, .long (r_12 ||| r_15), .long (r_10 ||| r_17)]))]) H := hP
  have hD : va_D A (CT cy a J I (va_up O 5 (some r_1)) R RO ([(r_1, .inr (3, [.ref g_2, .ref g_3, .long g_4, .int g_5])), (g_2, .inl (cy 0, 16640, .inl g_6)), (g_3, .inl (cy 0, 512, .inl g_7))] ++ Y) ++ [(q_14, .inr (2, [.int x0, .long (r_12 ||| r_15), .long (r_10 ||| r_17)]))]) := hD
  have hP : va_P D vwCl (CT cy a J I (va_up O 5 (some r_1)) R RO ([(r_1, .inr (3, [.ref g_2, .ref g_3, .long g_4, .int g_5])), (g_2, .inl (cy 0, 16640, .inl g_6)), (g_3, .inl (cy 0, 512, .inl g_7))] ++ (Y ++ [(q_14, .inr (2, [.int x0, .long (r_12 ||| r_15), .long (r_10 ||| r_17)]))]))) H := by rw [← List.append_assoc]; exact hP
  have hD : va_D A (CT cy a J I (va_up O 5 (some r_1)) R RO ([(r_1, .inr (3, [.ref g_2, .ref g_3, .long g_4, .int g_5])), (g_2, .inl (cy 0, 16640, .inl g_6)), (g_3, .inl (cy 0, 512, .inl g_7))] ++ (Y ++ [(q_14, .inr (2, [.int x0, .long (r_12 ||| r_15), .long (r_10 ||| r_17)]))]))) := by rw [← List.append_assoc]; exact hD
  have hs_19 : ∀ c, c ∈ Y → c ∈ (Y ++ [(q_14, .inr (2, [.int x0, .long (r_12 ||| r_15), .long (r_10 ||| r_17)]))]) := fun c h => List.mem_append_left _ h
  have hi_20 : chO (Y ++ [(q_14, .inr (2, [.int x0, .long (r_12 ||| r_15), .long (r_10 ||| r_17)]))]) (O 7) := chO_mono hs_19 hM.2.1
  have hi_21 : layO (Y ++ [(q_14, .inr (2, [.int x0, .long (r_12 ||| r_15), .long (r_10 ||| r_17)]))]) (O 8) := layO_mono hs_19 hM.2.2.1
  have hi_22 : ∀ i, i < 20 → pasO (Y ++ [(q_14, .inr (2, [.int x0, .long (r_12 ||| r_15), .long (r_10 ||| r_17)]))]) ((RO 2) i) := pas_mono hs_19 hM.2.2.2.1
  have hmono_23 : ∀ c, c ∈ Y → c ∈ (Y ++ [(q_14, .inr (2, [.int x0, .long (r_12 ||| r_15), .long (r_10 ||| r_17)]))]) := fun c h => hs_19 c ((fun _ h => h) c h)
  exact wret_r hx hb hr hlocks (Or.inl ⟨_, rfl⟩) (some r_1, [(r_1, .inr (3, [.ref g_2, .ref g_3, .long g_4, .int g_5])), (g_2, .inl (cy 0, 16640, .inl g_6)), (g_3, .inl (cy 0, 512, .inl g_7))], r_12 ||| r_15, r_10 ||| r_17) (Or.inr ⟨_, _, _, _, _, _, _, rfl, hkn_8, htb_9, rfl⟩) hP hD hS dX9_layingOf_41
