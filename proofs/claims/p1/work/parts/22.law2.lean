set_option maxHeartbeats 4000000 in
set_option maxRecDepth 100000 in
theorem law_e0 {p : Program} {e : Env} {s : State} {m : MethodId} {below : List Frame} {meth : Method} {c : Code} (l : Launch) {b : Nat} {xs : Nat → Int32} {D : va_G} {cy : Nat → ClassId} (C0 : lawCtx p s m meth c b 0 xs D cy) (ax am : Nat → Nat) (RO : Nat → Nat → Option Nat) (hRO0 : RO 1 0 = some (ax 12)) (hRO1 : RO 1 1 = some (ax 14)) (hRO2 : RO 1 2 = some (ax 16)) (hRO3 : RO 1 3 = some (ax 18)) (H : Heap) (locs : List Loc) (hP : va_P D vwCl (CW cy ax (fun _ => 0) (fun _ => 0) (va_up (fun _ => none) 100 (some (ax 4))) (fun _ _ => 0) RO ++ MW cy am (fun _ => 0) (fun _ => 0) (fun _ _ => 0) (fun _ _ => 0)) H) (hD : va_D (fun q : Nat => s.heap.size ≤ q) (CW cy ax (fun _ => 0) (fun _ => 0) (va_up (fun _ => none) 100 (some (ax 4))) (fun _ _ => 0) RO ++ MW cy am (fun _ => 0) (fun _ => 0) (fun _ _ => 0) (fun _ _ => 0))) (hS : va_S (fun q : Nat => s.heap.size ≤ q) s.heap H locs) (ls : Array Slot) (hl : lv_has ls 4 [(0, .ref b), (1, .ref (ax 0)), (2, .ref (am 0)), (3, .int 0)]) : W p l e room_1 s m #[Value.ref b] below meth c H locs 39 18292 (lw_Z below #[Value.ref b] s) (F0 m 18 ls []) := by
  obtain ⟨⟨hx, hb, hr, hml, hown, hts, hX, hbl, hlocks, hgv⟩, hK, hN⟩ := C0
  have hown : s.vm.findClass RL = some m.cls := hown
  have hA : ∀ q : Nat, s.heap.size ≤ q → (fun q : Nat => s.heap.size ≤ q) q := fun _ h => h
  have hbA : ¬ (fun q : Nat => s.heap.size ≤ q) b := Nat.not_le.mpr hbl
  refine lv_iload_n hx hb dL_law_18 rfl (lv_at hl 3 rfl) ?_
  refine lv_aload_n hx hb dL_law_19 rfl (lv_at hl 0 rfl) ?_
  refine va_slen hx hb hX hbl hbA hS dL_law_20 ?_
  refine wtop_i (y := 0) rfl ?_
  refine lv_bipush (v := 6) hx hb dL_law_21 (by decide) ?_
  refine lv_isub hx hb dL_law_23 ?_
  refine wtop_i (y := (-6)) (by decide) ?_
  refine lv_icmp_gt (tgt := 1041) hx hb dL_law_24 (by decide) (fun c_1 => ?_) (fun c_1 => absurd (by decide) c_1)
  refine lv_iconst (v := 1) hx hb dL_law_1041 (by decide) ?_
  refine va_forget (fun q hq => hS.2.2 q hq) ?_
  refine W.widen (k := 600000) (n := 7302250) (Nat.le_of_ble_eq_true rfl) (Nat.le_of_ble_eq_true rfl) ?_
  exact lw_ret hx hb hr hlocks dL_law_1042
set_option maxHeartbeats 4000000 in
set_option maxRecDepth 100000 in
theorem law_e1 {p : Program} {e : Env} {s : State} {m : MethodId} {below : List Frame} {meth : Method} {c : Code} (l : Launch) {b : Nat} {xs : Nat → Int32} {D : va_G} {cy : Nat → ClassId} (C0 : lawCtx p s m meth c b 1 xs D cy) (ax am : Nat → Nat) (RO : Nat → Nat → Option Nat) (hRO0 : RO 1 0 = some (ax 12)) (hRO1 : RO 1 1 = some (ax 14)) (hRO2 : RO 1 2 = some (ax 16)) (hRO3 : RO 1 3 = some (ax 18)) (H : Heap) (locs : List Loc) (hP : va_P D vwCl (CW cy ax (fun _ => 0) (fun _ => 0) (va_up (fun _ => none) 100 (some (ax 4))) (fun _ _ => 0) RO ++ MW cy am (fun _ => 0) (fun _ => 0) (fun _ _ => 0) (fun _ _ => 0)) H) (hD : va_D (fun q : Nat => s.heap.size ≤ q) (CW cy ax (fun _ => 0) (fun _ => 0) (va_up (fun _ => none) 100 (some (ax 4))) (fun _ _ => 0) RO ++ MW cy am (fun _ => 0) (fun _ => 0) (fun _ _ => 0) (fun _ _ => 0))) (hS : va_S (fun q : Nat => s.heap.size ≤ q) s.heap H locs) (ls : Array Slot) (hl : lv_has ls 4 [(0, .ref b), (1, .ref (ax 0)), (2, .ref (am 0)), (3, .int 0)]) : W p l e room_1 s m #[Value.ref b] below meth c H locs 39 18292 (lw_Z below #[Value.ref b] s) (F0 m 18 ls []) := by
  obtain ⟨⟨hx, hb, hr, hml, hown, hts, hX, hbl, hlocks, hgv⟩, hK, hN⟩ := C0
  have hown : s.vm.findClass RL = some m.cls := hown
  have hA : ∀ q : Nat, s.heap.size ≤ q → (fun q : Nat => s.heap.size ≤ q) q := fun _ h => h
  have hbA : ¬ (fun q : Nat => s.heap.size ≤ q) b := Nat.not_le.mpr hbl
  refine lv_iload_n hx hb dL_law_18 rfl (lv_at hl 3 rfl) ?_
  refine lv_aload_n hx hb dL_law_19 rfl (lv_at hl 0 rfl) ?_
  refine va_slen hx hb hX hbl hbA hS dL_law_20 ?_
  refine wtop_i (y := 1) rfl ?_
  refine lv_bipush (v := 6) hx hb dL_law_21 (by decide) ?_
  refine lv_isub hx hb dL_law_23 ?_
  refine wtop_i (y := (-5)) (by decide) ?_
  refine lv_icmp_gt (tgt := 1041) hx hb dL_law_24 (by decide) (fun c_1 => ?_) (fun c_1 => absurd (by decide) c_1)
  refine lv_iconst (v := 1) hx hb dL_law_1041 (by decide) ?_
  refine va_forget (fun q hq => hS.2.2 q hq) ?_
  refine W.widen (k := 600000) (n := 7302250) (Nat.le_of_ble_eq_true rfl) (Nat.le_of_ble_eq_true rfl) ?_
  exact lw_ret hx hb hr hlocks dL_law_1042
set_option maxHeartbeats 4000000 in
set_option maxRecDepth 100000 in
theorem law_e2 {p : Program} {e : Env} {s : State} {m : MethodId} {below : List Frame} {meth : Method} {c : Code} (l : Launch) {b : Nat} {xs : Nat → Int32} {D : va_G} {cy : Nat → ClassId} (C0 : lawCtx p s m meth c b 2 xs D cy) (ax am : Nat → Nat) (RO : Nat → Nat → Option Nat) (hRO0 : RO 1 0 = some (ax 12)) (hRO1 : RO 1 1 = some (ax 14)) (hRO2 : RO 1 2 = some (ax 16)) (hRO3 : RO 1 3 = some (ax 18)) (H : Heap) (locs : List Loc) (hP : va_P D vwCl (CW cy ax (fun _ => 0) (fun _ => 0) (va_up (fun _ => none) 100 (some (ax 4))) (fun _ _ => 0) RO ++ MW cy am (fun _ => 0) (fun _ => 0) (fun _ _ => 0) (fun _ _ => 0)) H) (hD : va_D (fun q : Nat => s.heap.size ≤ q) (CW cy ax (fun _ => 0) (fun _ => 0) (va_up (fun _ => none) 100 (some (ax 4))) (fun _ _ => 0) RO ++ MW cy am (fun _ => 0) (fun _ => 0) (fun _ _ => 0) (fun _ _ => 0))) (hS : va_S (fun q : Nat => s.heap.size ≤ q) s.heap H locs) (ls : Array Slot) (hl : lv_has ls 4 [(0, .ref b), (1, .ref (ax 0)), (2, .ref (am 0)), (3, .int 0)]) : W p l e room_1 s m #[Value.ref b] below meth c H locs 39 18292 (lw_Z below #[Value.ref b] s) (F0 m 18 ls []) := by
  obtain ⟨⟨hx, hb, hr, hml, hown, hts, hX, hbl, hlocks, hgv⟩, hK, hN⟩ := C0
  have hown : s.vm.findClass RL = some m.cls := hown
  have hA : ∀ q : Nat, s.heap.size ≤ q → (fun q : Nat => s.heap.size ≤ q) q := fun _ h => h
  have hbA : ¬ (fun q : Nat => s.heap.size ≤ q) b := Nat.not_le.mpr hbl
  refine lv_iload_n hx hb dL_law_18 rfl (lv_at hl 3 rfl) ?_
  refine lv_aload_n hx hb dL_law_19 rfl (lv_at hl 0 rfl) ?_
  refine va_slen hx hb hX hbl hbA hS dL_law_20 ?_
  refine wtop_i (y := 2) rfl ?_
  refine lv_bipush (v := 6) hx hb dL_law_21 (by decide) ?_
  refine lv_isub hx hb dL_law_23 ?_
  refine wtop_i (y := (-4)) (by decide) ?_
  refine lv_icmp_gt (tgt := 1041) hx hb dL_law_24 (by decide) (fun c_1 => ?_) (fun c_1 => absurd (by decide) c_1)
  refine lv_iconst (v := 1) hx hb dL_law_1041 (by decide) ?_
  refine va_forget (fun q hq => hS.2.2 q hq) ?_
  refine W.widen (k := 600000) (n := 7302250) (Nat.le_of_ble_eq_true rfl) (Nat.le_of_ble_eq_true rfl) ?_
  exact lw_ret hx hb hr hlocks dL_law_1042
set_option maxHeartbeats 4000000 in
set_option maxRecDepth 100000 in
theorem law_e3 {p : Program} {e : Env} {s : State} {m : MethodId} {below : List Frame} {meth : Method} {c : Code} (l : Launch) {b : Nat} {xs : Nat → Int32} {D : va_G} {cy : Nat → ClassId} (C0 : lawCtx p s m meth c b 3 xs D cy) (ax am : Nat → Nat) (RO : Nat → Nat → Option Nat) (hRO0 : RO 1 0 = some (ax 12)) (hRO1 : RO 1 1 = some (ax 14)) (hRO2 : RO 1 2 = some (ax 16)) (hRO3 : RO 1 3 = some (ax 18)) (H : Heap) (locs : List Loc) (hP : va_P D vwCl (CW cy ax (fun _ => 0) (fun _ => 0) (va_up (fun _ => none) 100 (some (ax 4))) (fun _ _ => 0) RO ++ MW cy am (fun _ => 0) (fun _ => 0) (fun _ _ => 0) (fun _ _ => 0)) H) (hD : va_D (fun q : Nat => s.heap.size ≤ q) (CW cy ax (fun _ => 0) (fun _ => 0) (va_up (fun _ => none) 100 (some (ax 4))) (fun _ _ => 0) RO ++ MW cy am (fun _ => 0) (fun _ => 0) (fun _ _ => 0) (fun _ _ => 0))) (hS : va_S (fun q : Nat => s.heap.size ≤ q) s.heap H locs) (ls : Array Slot) (hl : lv_has ls 4 [(0, .ref b), (1, .ref (ax 0)), (2, .ref (am 0)), (3, .int 0)]) : W p l e room_1 s m #[Value.ref b] below meth c H locs 39 18292 (lw_Z below #[Value.ref b] s) (F0 m 18 ls []) := by
  obtain ⟨⟨hx, hb, hr, hml, hown, hts, hX, hbl, hlocks, hgv⟩, hK, hN⟩ := C0
  have hown : s.vm.findClass RL = some m.cls := hown
  have hA : ∀ q : Nat, s.heap.size ≤ q → (fun q : Nat => s.heap.size ≤ q) q := fun _ h => h
  have hbA : ¬ (fun q : Nat => s.heap.size ≤ q) b := Nat.not_le.mpr hbl
  refine lv_iload_n hx hb dL_law_18 rfl (lv_at hl 3 rfl) ?_
  refine lv_aload_n hx hb dL_law_19 rfl (lv_at hl 0 rfl) ?_
  refine va_slen hx hb hX hbl hbA hS dL_law_20 ?_
  refine wtop_i (y := 3) rfl ?_
  refine lv_bipush (v := 6) hx hb dL_law_21 (by decide) ?_
  refine lv_isub hx hb dL_law_23 ?_
  refine wtop_i (y := (-3)) (by decide) ?_
  refine lv_icmp_gt (tgt := 1041) hx hb dL_law_24 (by decide) (fun c_1 => ?_) (fun c_1 => absurd (by decide) c_1)
  refine lv_iconst (v := 1) hx hb dL_law_1041 (by decide) ?_
  refine va_forget (fun q hq => hS.2.2 q hq) ?_
  refine W.widen (k := 600000) (n := 7302250) (Nat.le_of_ble_eq_true rfl) (Nat.le_of_ble_eq_true rfl) ?_
  exact lw_ret hx hb hr hlocks dL_law_1042
set_option maxHeartbeats 4000000 in
set_option maxRecDepth 100000 in
theorem law_e4 {p : Program} {e : Env} {s : State} {m : MethodId} {below : List Frame} {meth : Method} {c : Code} (l : Launch) {b : Nat} {xs : Nat → Int32} {D : va_G} {cy : Nat → ClassId} (C0 : lawCtx p s m meth c b 4 xs D cy) (ax am : Nat → Nat) (RO : Nat → Nat → Option Nat) (hRO0 : RO 1 0 = some (ax 12)) (hRO1 : RO 1 1 = some (ax 14)) (hRO2 : RO 1 2 = some (ax 16)) (hRO3 : RO 1 3 = some (ax 18)) (H : Heap) (locs : List Loc) (hP : va_P D vwCl (CW cy ax (fun _ => 0) (fun _ => 0) (va_up (fun _ => none) 100 (some (ax 4))) (fun _ _ => 0) RO ++ MW cy am (fun _ => 0) (fun _ => 0) (fun _ _ => 0) (fun _ _ => 0)) H) (hD : va_D (fun q : Nat => s.heap.size ≤ q) (CW cy ax (fun _ => 0) (fun _ => 0) (va_up (fun _ => none) 100 (some (ax 4))) (fun _ _ => 0) RO ++ MW cy am (fun _ => 0) (fun _ => 0) (fun _ _ => 0) (fun _ _ => 0))) (hS : va_S (fun q : Nat => s.heap.size ≤ q) s.heap H locs) (ls : Array Slot) (hl : lv_has ls 4 [(0, .ref b), (1, .ref (ax 0)), (2, .ref (am 0)), (3, .int 0)]) : W p l e room_1 s m #[Value.ref b] below meth c H locs 39 18292 (lw_Z below #[Value.ref b] s) (F0 m 18 ls []) := by
  obtain ⟨⟨hx, hb, hr, hml, hown, hts, hX, hbl, hlocks, hgv⟩, hK, hN⟩ := C0
  have hown : s.vm.findClass RL = some m.cls := hown
  have hA : ∀ q : Nat, s.heap.size ≤ q → (fun q : Nat => s.heap.size ≤ q) q := fun _ h => h
  have hbA : ¬ (fun q : Nat => s.heap.size ≤ q) b := Nat.not_le.mpr hbl
  refine lv_iload_n hx hb dL_law_18 rfl (lv_at hl 3 rfl) ?_
  refine lv_aload_n hx hb dL_law_19 rfl (lv_at hl 0 rfl) ?_
  refine va_slen hx hb hX hbl hbA hS dL_law_20 ?_
  refine wtop_i (y := 4) rfl ?_
  refine lv_bipush (v := 6) hx hb dL_law_21 (by decide) ?_
  refine lv_isub hx hb dL_law_23 ?_
  refine wtop_i (y := (-2)) (by decide) ?_
  refine lv_icmp_gt (tgt := 1041) hx hb dL_law_24 (by decide) (fun c_1 => ?_) (fun c_1 => absurd (by decide) c_1)
  refine lv_iconst (v := 1) hx hb dL_law_1041 (by decide) ?_
  refine va_forget (fun q hq => hS.2.2 q hq) ?_
  refine W.widen (k := 600000) (n := 7302250) (Nat.le_of_ble_eq_true rfl) (Nat.le_of_ble_eq_true rfl) ?_
  exact lw_ret hx hb hr hlocks dL_law_1042
set_option maxHeartbeats 4000000 in
set_option maxRecDepth 100000 in
theorem law_e5 {p : Program} {e : Env} {s : State} {m : MethodId} {below : List Frame} {meth : Method} {c : Code} (l : Launch) {b : Nat} {xs : Nat → Int32} {D : va_G} {cy : Nat → ClassId} (C0 : lawCtx p s m meth c b 5 xs D cy) (ax am : Nat → Nat) (RO : Nat → Nat → Option Nat) (hRO0 : RO 1 0 = some (ax 12)) (hRO1 : RO 1 1 = some (ax 14)) (hRO2 : RO 1 2 = some (ax 16)) (hRO3 : RO 1 3 = some (ax 18)) (H : Heap) (locs : List Loc) (hP : va_P D vwCl (CW cy ax (fun _ => 0) (fun _ => 0) (va_up (fun _ => none) 100 (some (ax 4))) (fun _ _ => 0) RO ++ MW cy am (fun _ => 0) (fun _ => 0) (fun _ _ => 0) (fun _ _ => 0)) H) (hD : va_D (fun q : Nat => s.heap.size ≤ q) (CW cy ax (fun _ => 0) (fun _ => 0) (va_up (fun _ => none) 100 (some (ax 4))) (fun _ _ => 0) RO ++ MW cy am (fun _ => 0) (fun _ => 0) (fun _ _ => 0) (fun _ _ => 0))) (hS : va_S (fun q : Nat => s.heap.size ≤ q) s.heap H locs) (ls : Array Slot) (hl : lv_has ls 4 [(0, .ref b), (1, .ref (ax 0)), (2, .ref (am 0)), (3, .int 0)]) : W p l e room_1 s m #[Value.ref b] below meth c H locs 39 18292 (lw_Z below #[Value.ref b] s) (F0 m 18 ls []) := by
  obtain ⟨⟨hx, hb, hr, hml, hown, hts, hX, hbl, hlocks, hgv⟩, hK, hN⟩ := C0
  have hown : s.vm.findClass RL = some m.cls := hown
  have hA : ∀ q : Nat, s.heap.size ≤ q → (fun q : Nat => s.heap.size ≤ q) q := fun _ h => h
  have hbA : ¬ (fun q : Nat => s.heap.size ≤ q) b := Nat.not_le.mpr hbl
  refine lv_iload_n hx hb dL_law_18 rfl (lv_at hl 3 rfl) ?_
  refine lv_aload_n hx hb dL_law_19 rfl (lv_at hl 0 rfl) ?_
  refine va_slen hx hb hX hbl hbA hS dL_law_20 ?_
  refine wtop_i (y := 5) rfl ?_
  refine lv_bipush (v := 6) hx hb dL_law_21 (by decide) ?_
  refine lv_isub hx hb dL_law_23 ?_
  refine wtop_i (y := (-1)) (by decide) ?_
  refine lv_icmp_gt (tgt := 1041) hx hb dL_law_24 (by decide) (fun c_1 => ?_) (fun c_1 => absurd (by decide) c_1)
  refine lv_iconst (v := 1) hx hb dL_law_1041 (by decide) ?_
  refine va_forget (fun q hq => hS.2.2 q hq) ?_
  refine W.widen (k := 600000) (n := 7302250) (Nat.le_of_ble_eq_true rfl) (Nat.le_of_ble_eq_true rfl) ?_
  exact lw_ret hx hb hr hlocks dL_law_1042
theorem dL_law_27 : decode cL_law 27 = .ok (.aload_n 0, 1) := by decide +kernel
theorem dL_law_28 : decode cL_law 28 = .ok (.iload_n 3, 1) := by decide +kernel
theorem dL_law_29 : decode cL_law 29 = .ok (.iaload, 1) := by decide +kernel
theorem dL_law_30 : decode cL_law 30 = .ok (.bipush 31, 2) := by decide +kernel
theorem dL_law_32 : decode cL_law 32 = .ok (.iand, 1) := by decide +kernel
theorem dL_law_33 : decode cL_law 33 = .ok (.tableswitch 1002 0 28 #[131, 164, 187, 210, 279, 292, 325, 358, 371, 420, 443, 456, 469, 492, 515, 528, 551, 584, 623, 656, 699, 758, 771, 794, 837, 880, 943, 966, 979], 131) := by decide +kernel
set_option maxHeartbeats 4000000 in
set_option maxRecDepth 100000 in
theorem law_b {p : Program} {e : Env} {s : State} {m : MethodId} {below : List Frame} {meth : Method} {c : Code} (l : Launch) {b : Nat} {xs : Nat → Int32} {D : va_G} {cy : Nat → ClassId} (C0 : lawCtx p s m meth c b 6 xs D cy) (ax am : Nat → Nat) (RO : Nat → Nat → Option Nat) (hRO0 : RO 1 0 = some (ax 12)) (hRO1 : RO 1 1 = some (ax 14)) (hRO2 : RO 1 2 = some (ax 16)) (hRO3 : RO 1 3 = some (ax 18)) (H : Heap) (locs : List Loc) (hP : va_P D vwCl (CW cy ax (fun _ => 0) (fun _ => 0) (va_up (fun _ => none) 100 (some (ax 4))) (fun _ _ => 0) RO ++ MW cy am (fun _ => 0) (fun _ => 0) (fun _ _ => 0) (fun _ _ => 0)) H) (hD : va_D (fun q : Nat => s.heap.size ≤ q) (CW cy ax (fun _ => 0) (fun _ => 0) (va_up (fun _ => none) 100 (some (ax 4))) (fun _ _ => 0) RO ++ MW cy am (fun _ => 0) (fun _ => 0) (fun _ _ => 0) (fun _ _ => 0))) (hS : va_S (fun q : Nat => s.heap.size ≤ q) s.heap H locs) (ls : Array Slot) (hl : lv_has ls 4 [(0, .ref b), (1, .ref (ax 0)), (2, .ref (am 0)), (3, .int 0)]) : W p l e room_1 s m #[Value.ref b] below meth c H locs 39 18292 (lw_Z below #[Value.ref b] s) (F0 m 18 ls []) := by
  obtain ⟨⟨hx, hb, hr, hml, hown, hts, hX, hbl, hlocks, hgv⟩, hK, hN⟩ := id C0
  have hbA : ¬ (fun q : Nat => s.heap.size ≤ q) b := Nat.not_le.mpr hbl
  refine lv_iload_n hx hb dL_law_18 rfl (lv_at hl 3 rfl) ?_
  refine lv_aload_n hx hb dL_law_19 rfl (lv_at hl 0 rfl) ?_
  refine va_slen hx hb hX hbl hbA hS dL_law_20 ?_
  refine wtop_i (y := 6) rfl ?_
  refine lv_bipush (v := 6) hx hb dL_law_21 (by decide) ?_
  refine lv_isub hx hb dL_law_23 ?_
  refine wtop_i (y := 0) (by decide) ?_
  refine lv_icmp_gt (tgt := 1041) hx hb dL_law_24 (by decide) (fun c_1 => absurd c_1 (by decide)) (fun c_1 => ?_)
  refine lv_aload_n hx hb dL_law_27 rfl (lv_at hl 0 rfl) ?_
  refine lv_iload_n hx hb dL_law_28 rfl (lv_at hl 3 rfl) ?_
  refine va_sld hx hb hX hbl hbA hS (by unfold vp_in; decide) dL_law_29 ?_
  refine wtop_i (y := xs 0) rfl ?_
  refine lv_bipush (v := 31) hx hb dL_law_30 (by decide) ?_
  refine lv_iand hx hb dL_law_32 ?_
  by_cases c_2 : (xs 0) &&& 31 = 0
  · refine lv_tableIn (off := 131) (tgt := 164) hx hb dL_law_33 (by rw [c_2]; decide) (by rw [c_2]; decide) (by rw [c_2]; rfl) (by decide) ?_
    exact law_0 l C0 ax am RO hRO0 hRO1 hRO2 hRO3 H locs hP hD hS ls hl
  by_cases c_3 : (xs 0) &&& 31 = 1
  · refine lv_tableIn (off := 164) (tgt := 197) hx hb dL_law_33 (by rw [c_3]; decide) (by rw [c_3]; decide) (by rw [c_3]; rfl) (by decide) ?_
    exact law_1 l C0 ax am RO hRO0 hRO1 hRO2 hRO3 H locs hP hD hS ls hl
  by_cases c_4 : (xs 0) &&& 31 = 2
  · refine lv_tableIn (off := 187) (tgt := 220) hx hb dL_law_33 (by rw [c_4]; decide) (by rw [c_4]; decide) (by rw [c_4]; rfl) (by decide) ?_
    exact law_2 l C0 ax am RO hRO0 hRO1 hRO2 hRO3 H locs hP hD hS ls hl
  by_cases c_5 : (xs 0) &&& 31 = 3
  · refine lv_tableIn (off := 210) (tgt := 243) hx hb dL_law_33 (by rw [c_5]; decide) (by rw [c_5]; decide) (by rw [c_5]; rfl) (by decide) ?_
    exact law_3 l C0 ax am RO hRO0 hRO1 hRO2 hRO3 H locs hP hD hS ls hl
  by_cases c_6 : (xs 0) &&& 31 = 4
  · refine lv_tableIn (off := 279) (tgt := 312) hx hb dL_law_33 (by rw [c_6]; decide) (by rw [c_6]; decide) (by rw [c_6]; rfl) (by decide) ?_
    exact law_4 l C0 ax am RO hRO0 hRO1 hRO2 hRO3 H locs hP hD hS ls hl
  by_cases c_7 : (xs 0) &&& 31 = 5
  · refine lv_tableIn (off := 292) (tgt := 325) hx hb dL_law_33 (by rw [c_7]; decide) (by rw [c_7]; decide) (by rw [c_7]; rfl) (by decide) ?_
    exact law_5 l C0 ax am RO hRO0 hRO1 hRO2 hRO3 H locs hP hD hS ls hl
  by_cases c_8 : (xs 0) &&& 31 = 6
  · refine lv_tableIn (off := 325) (tgt := 358) hx hb dL_law_33 (by rw [c_8]; decide) (by rw [c_8]; decide) (by rw [c_8]; rfl) (by decide) ?_
    exact law_6 l C0 ax am RO hRO0 hRO1 hRO2 hRO3 H locs hP hD hS ls hl
  by_cases c_9 : (xs 0) &&& 31 = 7
  · refine lv_tableIn (off := 358) (tgt := 391) hx hb dL_law_33 (by rw [c_9]; decide) (by rw [c_9]; decide) (by rw [c_9]; rfl) (by decide) ?_
    exact law_7 l C0 ax am RO hRO0 hRO1 hRO2 hRO3 H locs hP hD hS ls hl
  by_cases c_10 : (xs 0) &&& 31 = 8
  · refine lv_tableIn (off := 371) (tgt := 404) hx hb dL_law_33 (by rw [c_10]; decide) (by rw [c_10]; decide) (by rw [c_10]; rfl) (by decide) ?_
    exact law_8 l C0 ax am RO hRO0 hRO1 hRO2 hRO3 H locs hP hD hS ls hl
  by_cases c_11 : (xs 0) &&& 31 = 9
  · refine lv_tableIn (off := 420) (tgt := 453) hx hb dL_law_33 (by rw [c_11]; decide) (by rw [c_11]; decide) (by rw [c_11]; rfl) (by decide) ?_
    exact law_9 l C0 ax am RO hRO0 hRO1 hRO2 hRO3 H locs hP hD hS ls hl
  by_cases c_12 : (xs 0) &&& 31 = 10
  · refine lv_tableIn (off := 443) (tgt := 476) hx hb dL_law_33 (by rw [c_12]; decide) (by rw [c_12]; decide) (by rw [c_12]; rfl) (by decide) ?_
    exact law_10 l C0 ax am RO hRO0 hRO1 hRO2 hRO3 H locs hP hD hS ls hl
  by_cases c_13 : (xs 0) &&& 31 = 11
  · refine lv_tableIn (off := 456) (tgt := 489) hx hb dL_law_33 (by rw [c_13]; decide) (by rw [c_13]; decide) (by rw [c_13]; rfl) (by decide) ?_
    exact law_11 l C0 ax am RO hRO0 hRO1 hRO2 hRO3 H locs hP hD hS ls hl
  by_cases c_14 : (xs 0) &&& 31 = 12
  · refine lv_tableIn (off := 469) (tgt := 502) hx hb dL_law_33 (by rw [c_14]; decide) (by rw [c_14]; decide) (by rw [c_14]; rfl) (by decide) ?_
    exact law_12 l C0 ax am RO hRO0 hRO1 hRO2 hRO3 H locs hP hD hS ls hl
  by_cases c_15 : (xs 0) &&& 31 = 13
  · refine lv_tableIn (off := 492) (tgt := 525) hx hb dL_law_33 (by rw [c_15]; decide) (by rw [c_15]; decide) (by rw [c_15]; rfl) (by decide) ?_
    exact law_13 l C0 ax am RO hRO0 hRO1 hRO2 hRO3 H locs hP hD hS ls hl
  by_cases c_16 : (xs 0) &&& 31 = 14
  · refine lv_tableIn (off := 515) (tgt := 548) hx hb dL_law_33 (by rw [c_16]; decide) (by rw [c_16]; decide) (by rw [c_16]; rfl) (by decide) ?_
    exact law_14 l C0 ax am RO hRO0 hRO1 hRO2 hRO3 H locs hP hD hS ls hl
  by_cases c_17 : (xs 0) &&& 31 = 15
  · refine lv_tableIn (off := 528) (tgt := 561) hx hb dL_law_33 (by rw [c_17]; decide) (by rw [c_17]; decide) (by rw [c_17]; rfl) (by decide) ?_
    exact law_15 l C0 ax am RO hRO0 hRO1 hRO2 hRO3 H locs hP hD hS ls hl
  by_cases c_18 : (xs 0) &&& 31 = 16
  · refine lv_tableIn (off := 551) (tgt := 584) hx hb dL_law_33 (by rw [c_18]; decide) (by rw [c_18]; decide) (by rw [c_18]; rfl) (by decide) ?_
    exact law_16 l C0 ax am RO hRO0 hRO1 hRO2 hRO3 H locs hP hD hS ls hl
  by_cases c_19 : (xs 0) &&& 31 = 17
  · refine lv_tableIn (off := 584) (tgt := 617) hx hb dL_law_33 (by rw [c_19]; decide) (by rw [c_19]; decide) (by rw [c_19]; rfl) (by decide) ?_
    exact law_17 l C0 ax am RO hRO0 hRO1 hRO2 hRO3 H locs hP hD hS ls hl
  by_cases c_20 : (xs 0) &&& 31 = 18
  · refine lv_tableIn (off := 623) (tgt := 656) hx hb dL_law_33 (by rw [c_20]; decide) (by rw [c_20]; decide) (by rw [c_20]; rfl) (by decide) ?_
    exact law_18 l C0 ax am RO hRO0 hRO1 hRO2 hRO3 H locs hP hD hS ls hl
  by_cases c_21 : (xs 0) &&& 31 = 19
  · refine lv_tableIn (off := 656) (tgt := 689) hx hb dL_law_33 (by rw [c_21]; decide) (by rw [c_21]; decide) (by rw [c_21]; rfl) (by decide) ?_
    exact law_19 l C0 ax am RO hRO0 hRO1 hRO2 hRO3 H locs hP hD hS ls hl
  by_cases c_22 : (xs 0) &&& 31 = 20
  · refine lv_tableIn (off := 699) (tgt := 732) hx hb dL_law_33 (by rw [c_22]; decide) (by rw [c_22]; decide) (by rw [c_22]; rfl) (by decide) ?_
    exact law_20 l C0 ax am RO hRO0 hRO1 hRO2 hRO3 H locs hP hD hS ls hl
  by_cases c_23 : (xs 0) &&& 31 = 21
  · refine lv_tableIn (off := 758) (tgt := 791) hx hb dL_law_33 (by rw [c_23]; decide) (by rw [c_23]; decide) (by rw [c_23]; rfl) (by decide) ?_
    exact law_21 l C0 ax am RO hRO0 hRO1 hRO2 hRO3 H locs hP hD hS ls hl
  by_cases c_24 : (xs 0) &&& 31 = 22
  · refine lv_tableIn (off := 771) (tgt := 804) hx hb dL_law_33 (by rw [c_24]; decide) (by rw [c_24]; decide) (by rw [c_24]; rfl) (by decide) ?_
    exact law_22 l C0 ax am RO hRO0 hRO1 hRO2 hRO3 H locs hP hD hS ls hl
  by_cases c_25 : (xs 0) &&& 31 = 23
  · refine lv_tableIn (off := 794) (tgt := 827) hx hb dL_law_33 (by rw [c_25]; decide) (by rw [c_25]; decide) (by rw [c_25]; rfl) (by decide) ?_
    exact law_23 l C0 ax am RO hRO0 hRO1 hRO2 hRO3 H locs hP hD hS ls hl
  by_cases c_26 : (xs 0) &&& 31 = 24
  · refine lv_tableIn (off := 837) (tgt := 870) hx hb dL_law_33 (by rw [c_26]; decide) (by rw [c_26]; decide) (by rw [c_26]; rfl) (by decide) ?_
    exact law_24 l C0 ax am RO hRO0 hRO1 hRO2 hRO3 H locs hP hD hS ls hl
  by_cases c_27 : (xs 0) &&& 31 = 25
  · refine lv_tableIn (off := 880) (tgt := 913) hx hb dL_law_33 (by rw [c_27]; decide) (by rw [c_27]; decide) (by rw [c_27]; rfl) (by decide) ?_
    exact law_25 l C0 ax am RO hRO0 hRO1 hRO2 hRO3 H locs hP hD hS ls hl
  by_cases c_28 : (xs 0) &&& 31 = 26
  · refine lv_tableIn (off := 943) (tgt := 976) hx hb dL_law_33 (by rw [c_28]; decide) (by rw [c_28]; decide) (by rw [c_28]; rfl) (by decide) ?_
    exact law_26 l C0 ax am RO hRO0 hRO1 hRO2 hRO3 H locs hP hD hS ls hl
  by_cases c_29 : (xs 0) &&& 31 = 27
  · refine lv_tableIn (off := 966) (tgt := 999) hx hb dL_law_33 (by rw [c_29]; decide) (by rw [c_29]; decide) (by rw [c_29]; rfl) (by decide) ?_
    exact law_27 l C0 ax am RO hRO0 hRO1 hRO2 hRO3 H locs hP hD hS ls hl
  by_cases c_30 : (xs 0) &&& 31 = 28
  · refine lv_tableIn (off := 979) (tgt := 1012) hx hb dL_law_33 (by rw [c_30]; decide) (by rw [c_30]; decide) (by rw [c_30]; rfl) (by decide) ?_
    exact law_28 l C0 ax am RO hRO0 hRO1 hRO2 hRO3 H locs hP hD hS ls hl
  refine lv_tableOut (tgt := 1035) hx hb dL_law_33 (sw_out 0 28 (by decide) (by decide) (fun k hk1 hk2 => by have hq : k = 0 ∨ k = 1 ∨ k = 2 ∨ k = 3 ∨ k = 4 ∨ k = 5 ∨ k = 6 ∨ k = 7 ∨ k = 8 ∨ k = 9 ∨ k = 10 ∨ k = 11 ∨ k = 12 ∨ k = 13 ∨ k = 14 ∨ k = 15 ∨ k = 16 ∨ k = 17 ∨ k = 18 ∨ k = 19 ∨ k = 20 ∨ k = 21 ∨ k = 22 ∨ k = 23 ∨ k = 24 ∨ k = 25 ∨ k = 26 ∨ k = 27 ∨ k = 28 := (by omega); rcases hq with rfl | rfl | rfl | rfl | rfl | rfl | rfl | rfl | rfl | rfl | rfl | rfl | rfl | rfl | rfl | rfl | rfl | rfl | rfl | rfl | rfl | rfl | rfl | rfl | rfl | rfl | rfl | rfl | rfl <;> assumption)) (by decide) ?_
  exact law_d l C0 ax am RO hRO0 hRO1 hRO2 hRO3 H locs hP hD hS ls hl
