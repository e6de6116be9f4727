theorem dL_law_0 : decode cL_law 0 = .ok (.new 7, 3) := by decide +kernel
theorem dL_law_3 : decode cL_law 3 = .ok (.dup, 1) := by decide +kernel
theorem dL_law_4 : decode cL_law 4 = .ok (.invokespecial 9, 3) := by decide +kernel
theorem dL_law_7 : decode cL_law 7 = .ok (.astore_n 1, 1) := by decide +kernel
theorem dL_law_8 : decode cL_law 8 = .ok (.new 10, 3) := by decide +kernel
theorem dL_law_11 : decode cL_law 11 = .ok (.dup, 1) := by decide +kernel
theorem dL_law_12 : decode cL_law 12 = .ok (.invokespecial 12, 3) := by decide +kernel
theorem dL_law_15 : decode cL_law 15 = .ok (.astore_n 2, 1) := by decide +kernel
theorem dL_law_16 : decode cL_law 16 = .ok (.iconst 0, 1) := by decide +kernel
theorem dL_law_17 : decode cL_law 17 = .ok (.istore_n 3, 1) := by decide +kernel
theorem kn_prim {s : State} {args : Array Value} {ty : FieldType} (h : (Cond.arrayClass ty).before args s = true) (hp : ∀ C, ty ≠ .object C) : ∃ cA : ClassId, ArrOfT s cA ty ∧ va_RA s cA ty := by
  obtain ⟨cA, kA, comp, hf, hk, hkind⟩ := Cond.arrayClass_spec h
  refine ⟨cA, fun n z => ⟨fun k h => (by cases h), kA, hk, comp, hkind⟩, ?_⟩
  cases ty with
  | object C => exact absurd rfl (hp C)
  | _ => exact hf
theorem kn_obj {s : State} {C : String} (h : va_AO C s) : ∃ cA : ClassId, ArrOfT s cA (.object C) ∧ va_RA s cA (.object C) := by
  obtain ⟨comp, c, k, h1, h2, h3, h4, h5⟩ := Cond.arrayOver_spec h
  exact ⟨c, fun n z => ⟨fun k h => (by cases h), k, h3, comp, h4⟩, k, comp, h3, h4, h1, h5⟩
set_option maxHeartbeats 4000000 in
set_option maxRecDepth 100000 in
theorem law_kn {p : Program} {s : State} {m : MethodId} {meth : Method} {c : Code} {b L : Nat} {xs : Nat → Int32} (C0 : lw_At p s m meth c b L xs) : ∃ (D : va_G) (cy : Nat → ClassId), va_K D vwCl (tysA cy) s ∧ NW s := by
  obtain ⟨hx, hb, hr, hml, hown, hts, hX, hbl, hlocks, hgv⟩ := C0
  obtain ⟨c0, iS0, hKn0⟩ := u_known (C := RX0) (T := TX0) (N := 7) (n := 7) hts inX0 (hts (.instantiable RX0 7) (by decide +kernel))
  obtain ⟨c1, iS1, hKn1⟩ := u_known (C := RX2) (T := TX2) (N := 5) (n := 5) hts inX2 (hts (.instantiable RX2 5) (by decide +kernel))
  obtain ⟨c2, iS2, hKn2⟩ := u_known (C := RX3) (T := TX3) (N := 3) (n := 3) hts inX3 (hts (.instantiable RX3 3) (by decide +kernel))
  obtain ⟨c3, iS3, hKn3⟩ := u_known (C := RX4) (T := TX4) (N := 4) (n := 4) hts inX4 (hts (.instantiable RX4 4) (by decide +kernel))
  obtain ⟨c4, iS4, hKn4⟩ := u_known (C := RX5) (T := TX5) (N := 3) (n := 3) hts inX5 (hts (.instantiable RX5 3) (by decide +kernel))
  obtain ⟨c5, iS5, hKn5⟩ := u_known (C := RX6) (T := TX6) (N := 3) (n := 3) hts inX6 (hts (.instantiable RX6 3) (by decide +kernel))
  obtain ⟨c6, iS6, hKn6⟩ := u_known (C := RX7) (T := TX7) (N := 7) (n := 7) hts inX7 (hts (.instantiable RX7 7) (by decide +kernel))
  obtain ⟨c7, iS7, hKn7⟩ := u_known (C := RX8) (T := TX8) (N := 2) (n := 2) hts inX8 (hts (.instantiable RX8 2) (by decide +kernel))
  obtain ⟨c8, iS8, hKn8⟩ := u_known (C := RX9) (T := TX9) (N := 11) (n := 11) hts inX9 (hts (.instantiable RX9 11) (by decide +kernel))
  obtain ⟨c9, iS9, hKn9⟩ := u_known (C := RX10) (T := TX10) (N := 30) (n := 30) hts inX10 (hts (.instantiable RX10 30) (by decide +kernel))
  obtain ⟨dC, dI, hKc⟩ : ∃ (dC : Nat → ClassId) (dI : Nat → Nat → Nat), ∀ (k : Nat) (q : vw_C), vwCl[k]? = some q → u_Kn s q.1 q.2.1 q.2.2 (dC k) (dI k) := by
    refine ⟨fun k => if k = 0 then c0 else if k = 1 then c1 else if k = 2 then c2 else if k = 3 then c3 else if k = 4 then c4 else if k = 5 then c5 else if k = 6 then c6 else if k = 7 then c7 else if k = 8 then c8 else c9, fun k => if k = 0 then iS0 else if k = 1 then iS1 else if k = 2 then iS2 else if k = 3 then iS3 else if k = 4 then iS4 else if k = 5 then iS5 else if k = 6 then iS6 else if k = 7 then iS7 else if k = 8 then iS8 else iS9, ?_⟩
    intro k q hq
    match k, hq with
    | 0, hq => cases hq; exact hKn0
    | 1, hq => cases hq; exact hKn1
    | 2, hq => cases hq; exact hKn2
    | 3, hq => cases hq; exact hKn3
    | 4, hq => cases hq; exact hKn4
    | 5, hq => cases hq; exact hKn5
    | 6, hq => cases hq; exact hKn6
    | 7, hq => cases hq; exact hKn7
    | 8, hq => cases hq; exact hKn8
    | 9, hq => cases hq; exact hKn9
    | k + 10, hq => simp [vwCl] at hq
  have hN : NW s := ⟨va_Nw.of rfl (hts nw0 (by decide +kernel)), va_Nw.of rfl (hts nw1 (by decide +kernel)), va_Nw.of rfl (hts nw2 (by decide +kernel)), va_Nw.of rfl (hts nw3 (by decide +kernel)), va_Nw.of rfl (hts nw4 (by decide +kernel)), va_Nw.of rfl (hts nw5 (by decide +kernel)), va_AO.of (hts (.arrayOver (.object "ParquetLayer$Past")) (by decide +kernel)), va_AO.of (hts (.arrayOver (.object "ParquetLayer$Sheet")) (by decide +kernel))⟩
  obtain ⟨y0, hy0⟩ := kn_prim (hts (.arrayClass .int) (by decide +kernel)) (fun C h => by cases h)
  obtain ⟨y1, hy1⟩ := kn_prim (hts (.arrayClass .long) (by decide +kernel)) (fun C h => by cases h)
  obtain ⟨y2, hy2⟩ := kn_prim (hts (.arrayClass .boolean) (by decide +kernel)) (fun C h => by cases h)
  obtain ⟨y3, hy3⟩ := kn_obj hN.2.2.2.2.2.2.1
  obtain ⟨y4, hy4⟩ := kn_obj hN.2.2.2.2.2.2.2
  refine ⟨(dC, dI), fun k => if k = 0 then y0 else if k = 1 then y1 else if k = 2 then y2 else if k = 3 then y3 else y4, ⟨hKc, ?_⟩, hN⟩
  intro k q hq
  match k, hq with
  | 0, hq => cases hq; exact hy0
  | 1, hq => cases hq; exact hy1
  | 2, hq => cases hq; exact hy2
  | 3, hq => cases hq; exact hy3
  | 4, hq => cases hq; exact hy4
  | k + 5, hq => simp [tysA] at hq
set_option maxHeartbeats 4000000 in
set_option maxRecDepth 100000 in
/-- from the entry, for every script of at most 384 ints, the law comes to its end with true -/
theorem whole_start {p : Program} {e : Env} {s : State} {m : MethodId} {below : List Frame} {meth : Method} {c : Code} (l : Launch) {b L : Nat} {xs : Nat → Int32} (hL : L ≤ 384) (C0 : lw_At p s m meth c b L xs) : W p l e room_1 s m #[Value.ref b] below meth c s.heap [] 0 0 (lw_Z below #[Value.ref b] s) (entryFrame m ([Value.ref b] : List Value).toArray 4) := by
  obtain ⟨D, cy, hK, hN⟩ := law_kn C0
  obtain ⟨hx, hb, hr, hml, hown, hts0, hX, hbl, hlocks, hgv⟩ := id C0
  have hts := hts0
  have hown : s.vm.findClass RL = some m.cls := hown
  have hA : ∀ q : Nat, s.heap.size ≤ q → (fun q : Nat => s.heap.size ≤ q) q := fun _ h => h
  have hS : va_S (fun q : Nat => s.heap.size ≤ q) s.heap s.heap [] := va_S.rf
  have hP : va_P D vwCl [] s.heap := fun k q h => by simp at h
  have hD : va_D (fun q : Nat => s.heap.size ≤ q) [] := ⟨fun i j p q h => by simp at h, fun k q h => by simp at h⟩
  have hl := lv_entry ([.ref b]) (n := 4) (Nat.le_of_ble_eq_true rfl)
  rw [lg_entry_eq]
  generalize (lg_sl ([.ref b]) ++ List.replicate (4 - (lg_sl ([.ref b])).length) Slot.unset).toArray = ls at hl ⊢
  have hl : lv_has ls 4 [(0, .ref b)] := hl
  refine va_new (ci := 8) (fs := [.null, .null, .null, .null, .null, .null, .long 0, .null, .null, .int 0, .int 0]) (C := RX9) (T := TX9) (N := 11) hx hb hts0 inX9 tyX9 tyX9_ok hown (hts0 (.classLink RL 7 RX9) (by decide +kernel)) (hts0 (.instantiable RX9 11) (by decide +kernel)) (hts0 (.initialized RX9) (by decide +kernel)) hK hP hD hS hA rfl (fun j hj => by rcases (show j = 0 ∨ j = 1 ∨ j = 2 ∨ j = 3 ∨ j = 4 ∨ j = 5 ∨ j = 6 ∨ j = 7 ∨ j = 8 ∨ j = 9 ∨ j = 10 by omega) with rfl | rfl | rfl | rfl | rfl | rfl | rfl | rfl | rfl | rfl | rfl <;> rfl) (Nat.le_of_ble_eq_true rfl) (Nat.le_of_ble_eq_true rfl) dL_law_0 (fun q0 H hP hD hS => ?_)
  refine lv_dup hx hb dL_law_3 rfl ?_
  refine kNew_v (As := []) (rest := [.ref q0]) (X := []) ⟨hx, hb, hml, hown, hts⟩ (ct_X9_init l D cy q0 _) (cwI 0 hts gr_wsX9_init rfl rfl rfl (hts0 (.initialized RX9) (by decide +kernel)) (hts0 (.methodLink RL 9 yX9_init) (by decide +kernel)) (hts0 (.instanceMethod yX9_init) (by decide +kernel)) rfl (by decide +kernel) ⟨(Nat.le_of_ble_eq_true rfl), (Nat.le_of_ble_eq_true rfl)⟩) hK hN hP hD hS hA rfl hl.1 rfl (Nat.le_of_ble_eq_true rfl) dL_law_4 ⟨(Nat.le_of_ble_eq_true rfl), (Nat.le_of_ble_eq_true rfl)⟩ (fun u H1 locs1 hw hP1 hD1 hS1 => ?_)
  obtain ⟨ax, RO⟩ := u
  obtain ⟨e0, hRO0, hRO1, hRO2, hRO3, hRON⟩ := hw
  dsimp only at e0 hRO0 hRO1 hRO2 hRO3 hRON
  subst e0
  have hP : va_P D vwCl (CW cy ax (fun _ => 0) (fun _ => 0) (va_up (fun _ => none) 100 (some (ax 4))) (fun _ _ => 0) RO) H1 := hP1
  have hD : va_D (fun q : Nat => s.heap.size ≤ q) (CW cy ax (fun _ => 0) (fun _ => 0) (va_up (fun _ => none) 100 (some (ax 4))) (fun _ _ => 0) RO) := hD1
  have hS := hS1
  refine lv_astore_n (lv' := [(1, .ref (ax 0)), (0, .ref b)]) hx hb dL_law_7 rfl hl (by decide) rfl (fun ls hl => ?_)
  refine va_new (ci := 9) (fs := [.long 0, .int 0, .null, .int 0, .long 0, .long 0, .null, .null, .null, .null, .null, .null, .int 0, .int 0, .null, .null, .null, .null, .null, .long 0, .long 0, .long 0, .long 0, .long 0, .null, .null, .null, .null, .null, .null]) (C := RX10) (T := TX10) (N := 30) hx hb hts0 inX10 tyX10 tyX10_ok hown (hts0 (.classLink RL 10 RX10) (by decide +kernel)) (hts0 (.instantiable RX10 30) (by decide +kernel)) (hts0 (.initialized RX10) (by decide +kernel)) hK hP hD hS hA rfl (fun j hj => by rcases (show j = 0 ∨ j = 1 ∨ j = 2 ∨ j = 3 ∨ j = 4 ∨ j = 5 ∨ j = 6 ∨ j = 7 ∨ j = 8 ∨ j = 9 ∨ j = 10 ∨ j = 11 ∨ j = 12 ∨ j = 13 ∨ j = 14 ∨ j = 15 ∨ j = 16 ∨ j = 17 ∨ j = 18 ∨ j = 19 ∨ j = 20 ∨ j = 21 ∨ j = 22 ∨ j = 23 ∨ j = 24 ∨ j = 25 ∨ j = 26 ∨ j = 27 ∨ j = 28 ∨ j = 29 by omega) with rfl | rfl | rfl | rfl | rfl | rfl | rfl | rfl | rfl | rfl | rfl | rfl | rfl | rfl | rfl | rfl | rfl | rfl | rfl | rfl | rfl | rfl | rfl | rfl | rfl | rfl | rfl | rfl | rfl | rfl <;> rfl) (Nat.le_of_ble_eq_true rfl) (Nat.le_of_ble_eq_true rfl) dL_law_8 (fun q1 H hP hD hS => ?_)
  refine lv_dup hx hb dL_law_11 rfl ?_
  refine kNew_v (As := []) (rest := [.ref q1]) (X := CW cy ax (fun _ => 0) (fun _ => 0) (va_up (fun _ => none) 100 (some (ax 4))) (fun _ _ => 0) RO) ⟨hx, hb, hml, hown, hts⟩ (ct_X10_init l D cy q1 _) (cwI 0 hts gr_wsX10_init rfl rfl rfl (hts0 (.initialized RX10) (by decide +kernel)) (hts0 (.methodLink RL 12 yX10_init) (by decide +kernel)) (hts0 (.instanceMethod yX10_init) (by decide +kernel)) rfl (by decide +kernel) ⟨(Nat.le_of_ble_eq_true rfl), (Nat.le_of_ble_eq_true rfl)⟩) hK hN hP hD hS hA rfl hl.1 rfl (Nat.le_of_ble_eq_true rfl) dL_law_12 ⟨(Nat.le_of_ble_eq_true rfl), (Nat.le_of_ble_eq_true rfl)⟩ (fun u H2 locs2 hw hP2 hD2 hS2 => ?_)
  obtain ⟨am, rfl⟩ : ∃ z, z = u := ⟨_, rfl⟩
  have hw : am 0 = q1 := hw
  subst hw
  have hP : va_P D vwCl (MW cy am (fun _ => 0) (fun _ => 0) (fun _ _ => 0) (fun _ _ => 0) ++ CT cy ax (fun _ => 0) (fun _ => 0) (va_up (fun _ => none) 100 (some (ax 4))) (fun _ _ => 0) RO ([] ++ [])) H2 := P_perm (X := []) (Y := CW cy ax (fun _ => 0) (fun _ => 0) (va_up (fun _ => none) 100 (some (ax 4))) (fun _ _ => 0) RO) (L := MW cy am (fun _ => 0) (fun _ => 0) (fun _ _ => 0) (fun _ _ => 0)) hP2
  have hD : va_D (fun q : Nat => s.heap.size ≤ q) (MW cy am (fun _ => 0) (fun _ => 0) (fun _ _ => 0) (fun _ _ => 0) ++ CT cy ax (fun _ => 0) (fun _ => 0) (va_up (fun _ => none) 100 (some (ax 4))) (fun _ _ => 0) RO ([] ++ [])) := D_perm (X := []) (Y := CW cy ax (fun _ => 0) (fun _ => 0) (va_up (fun _ => none) 100 (some (ax 4))) (fun _ _ => 0) RO) (L := MW cy am (fun _ => 0) (fun _ => 0) (fun _ _ => 0) (fun _ _ => 0)) hD2
  have hS := hS2
  refine lv_astore_n (lv' := [(2, .ref (am 0)), (1, .ref (ax 0)), (0, .ref b)]) hx hb dL_law_15 rfl hl (by decide) rfl (fun ls hl => ?_)
  refine lv_iconst (v := 0) hx hb dL_law_16 (by decide) ?_
  refine lv_istore_n (lv' := [(3, .int 0), (2, .ref (am 0)), (1, .ref (ax 0)), (0, .ref b)]) hx hb dL_law_17 rfl hl (by decide) rfl (fun ls hl => ?_)
  have hl := lv_sub hl (l' := [(0, .ref b), (1, .ref (ax 0)), (2, .ref (am 0)), (3, .int (nI (6 * 0)))]) [3, 2, 1, 0] rfl
  have z21 : vp_in (0 : Int32) 21 := by unfold vp_in; decide
  have z17 : vp_in (0 : Int32) 17 := by unfold vp_in; decide
  have z81 : vp_in (0 : Int32) 81 := by unfold vp_in; decide
  have z64 : vp_in (0 : Int32) 64 := by unfold vp_in; decide
  exact law_loop l ⟨C0, hK, hN⟩ ax am hL 65 0 (by omega) (by omega) (fun _ => 0) (fun _ => 0) (fun _ _ => 0) (fun _ _ => 0) (fun _ => 0) (fun _ => 0) (va_up (fun _ => none) 100 (some (ax 4))) (fun _ _ => 0) RO [] [] 0 [] [] (fun _ => 0) (fun _ => 0) (fun _ _ => 0)
    ⟨z21, Or.inl rfl, z21, fun _ _ => z21, fun _ _ => Or.inl rfl, fun _ _ => z17⟩ ⟨z21, ch_none, lay_none, fun i _ => Or.inl (hRON i), z17, z17, z17, z17, hRO0, hRO1, hRO2, hRO3⟩ (Or.inl ⟨rfl, rfl⟩) (fun _ _ => z81) (fun _ _ => z64) (fun _ _ => z64) ⟨rfl, ⟨0, by decide, rfl, rfl⟩, 0, by decide, rfl, rfl⟩ (fun _ _ => ⟨rfl, rfl, fun _ _ => (show (0 : Int32) &&& 255 = 0 by decide), Or.inl rfl, z17⟩) ⟨rfl, ⟨rfl, by decide⟩, 0, fun _ => (0, []), by decide, rfl, rfl, fun _ h => absurd h (Nat.not_lt_zero _)⟩ ⟨⟨rfl, rfl, fun _ _ => (show (0 : Int32) &&& 255 = 0 by decide), Or.inl rfl, z17⟩, ⟨rfl, rfl, fun _ _ => (show (0 : Int32) &&& 255 = 0 by decide), Or.inl rfl, z17⟩, ⟨rfl, rfl, fun _ _ => (show (0 : Int32) &&& 255 = 0 by decide), Or.inl rfl, z17⟩, ⟨rfl, rfl, fun _ _ => (show (0 : Int32) &&& 255 = 0 by decide), Or.inl rfl, z17⟩⟩ ⟨⟨fun c h => absurd h List.not_mem_nil, trivial⟩, fun x h => absurd h List.not_mem_nil⟩
    _ _ hP hD hS ls hl
-- ===== YOUR PART ENDS =====
set_option maxHeartbeats 4000000 in
theorem lw_walk (l : Launch) (b : Addr) (xs : List Int32) : MetFree l x (headSpec (Jvm.Cond.code x code maxLocals ret :: tables_1) room_1) (lw_P b xs) (fun _ _ _ _ _ => True) lw_Q := by
  refine MetFree.of_bodyS (code := code) (maxLocals := maxLocals) (ret := ret) (by decide) ?_ ?_
  · intro args s m h hn
    obtain ⟨meth, c, h1, h2, h3, h4, h5, h6, -, -⟩ := Cond.code_spec hn (atoms_spec (ws := Jvm.Cond.code x code maxLocals ret :: tables_1) h _ List.mem_cons_self)
    exact ⟨meth, c, h1, h2, h3, h4, h5, h6⟩
  · intro p e s m args below meth c s₁ B hml0 hP _
    obtain ⟨rfl, hx, hbd, hgv⟩ := hP
    obtain ⟨scr, harrAt, hlist, hof, hsmall⟩ := hx
    obtain ⟨hcb, hkn, -, -⟩ := State.arrayAt?_spec harrAt
    have hown : s.vm.findClass R_law = some m.cls := findClass_of_methodNamed B.named
    have hts0 : ∀ c ∈ (Jvm.Cond.code x code maxLocals ret :: tables_1), c.before #[Value.ref b] s = true := atoms_spec (ws := Jvm.Cond.code x code maxLocals ret :: tables_1) B.pre
    have hts : ∀ w ∈ lw_tbl, w.before #[Value.ref b] s = true := k2_hts_sels lw_privs (fun w hw => hts0 w (List.mem_cons_of_mem _ hw)) lw_privs_ok
    have hml : c.maxLocals = 4 := B.maxLocals_eq (hts0 _ List.mem_cons_self)
    have X₀ : Stand p l e room_1 s m #[Value.ref b] below meth c s₁ [] 0 0 := Stand.of_body B
    have hh0 : s₁.heap = s.heap := by rw [B.state]; rfl
    have hsz : scr.slots.size = xs.length := by rw [← Array.length_toList, hlist, List.length_map]
    have hval : ∀ j : Nat, j < xs.length → scr.slots[j]? = some (.int (xs.getD j 0)) := fun j hj => by
      rw [← Array.getElem?_toList, hlist]
      simp [hj]
    have hbl : b < s.heap.size := (Array.getElem?_eq_some_iff.mp hcb).1
    have hX : va_X b xs.length (fun j => xs.getD j 0) s s.heap := ⟨scr, hcb, hof, hkn, hsz, hval⟩
    have K : W p l e room_1 s m #[Value.ref b] below meth c s₁.heap [] 0 0 (lw_Z below #[Value.ref b] s) (entryFrame m ([Value.ref b] : List Value).toArray 4) := by
      rw [hh0]
      exact whole_start l hbd ⟨B.exec, B.bytes, B.returns, hml, hown, hts, hX, hbl, B.notSynchronized, hgv⟩
    obtain ⟨t, a1, o, b1, b2, b3⟩ := K s₁ rfl X₀
    exact ⟨t, o, a1, b1, b2, b3⟩
theorem lw_pre_spec {args : Array Value} {s : State} (h : (Jvm.Cond.and given_1 narrow_1).before args s = true) (hr : rest_1_c.before args s = true) : ∃ (b : Addr) (xs : List Int32), lw_P b xs args s := by
  have hs := flat_of_before _ h
  have hq := flat_of_before _ hr
  have hc : (Cond.count 1).before args s = true := hs _ (by decide +kernel)
  have harr : (Cond.arrayOf (.arg 0) .int).before args s = true := hs _ (by decide +kernel)
  have hle : (Cond.le (.length (.arg 0)) (.int 384)).before args s = true := hs _ (by decide +kernel)
  have hlen : (Cond.isInt (.length (.arg 0))).before args s = true := hq _ (by decide +kernel)
  have hall : (Cond.all (.arg 0) (.isInt (.elem (.arg 0) (.index 0)))).before args s = true := hq _ (by decide +kernel)
  obtain ⟨b, xs, hb, hx⟩ := State.ints_of_pre rfl harr hlen hall
  have hsm : xs.length < 2 ^ 31 := hx.choose_spec.2.2.2
  have hev : (Term.length (.arg 0)).eval args s none [] s = some (.int xs.length.toInt32) := hx.length_eval hb
  have hv := Cond.le_ints hev (show (Term.int 384).eval args s none [] s = some (.int 384) from rfl)
  have hd : xs.length.toInt32 ≤ 384 := by
    simpa [Cond.before, Cond.holds, hv] using hle
  have hN : xs.length ≤ 384 := (Int32.ofNat_le_ofNat hsm (by decide)).mp (show Int32.ofNat xs.length ≤ Int32.ofNat 384 from hd)
  exact ⟨b, xs, Cond.one_arg hc (show args[0]? = some (.ref b) from hb), hx, hN, h⟩
theorem lw_comes (l : Launch) : Comes l x (Jvm.Cond.code x code maxLocals ret :: tables_1) room_1 (fun tb e args s => Calls_1 tb e args s ∧ rest_1 tb e args s ∧ Pre_1 tb e args s)
    (fun _ _ args s o t => lw_Q args s o t) := by
  intro p e ha hc hk s m args below hf hfit hheap happ hpre
  obtain ⟨b, xs, hP⟩ := lw_pre_spec hpre.2.2 hpre.2.1
  obtain ⟨k, o, h1, h2, h3, hQ⟩ := lw_walk l b xs p e ha hc hk s m args below hf ((Spec.applies_iff_loose hf).mp happ).1 hP trivial
  exact ⟨k, o, h1, h2, h3, hQ⟩
theorem lw_frame {s t : State} {o : Outcome} {args : Array Value} (h : Framed s o t [] 600000 7302249) :
    Framed s o t (fieldLocs frame_1_writes args s ++ arrayLocs frame_1_arrays args s ++ staticLocs frame_1_statics s) 600000 7302249 := h
theorem lw_limb (L : Cond) (hL : ∀ (args : Array Value) (s t : State), L.after args s (.returned (some (.int 1))) t = true) :
    ArmFor flags0 classFile x code maxLocals ret World_1 tables_1 room_1 Calls_1 rest_1 Pre_1
      (fun tb e a s o t => postC L tb e a s o t ∧ Framed s o t (fieldLocs frame_1_writes a s ++ arrayLocs frame_1_arrays a s ++ staticLocs frame_1_statics s) 600000 7302249) := by
  intro l _ _ _ p e ha hc hk s m args below hf hfit hheap happ hpre
  obtain ⟨k, o, h1, h2, h3, rfl, hF⟩ := lw_comes l p e ha hc hk s m args below hf hfit hheap happ hpre
  exact ⟨k, _, h1, h2, h3, hL args s _, lw_frame hF⟩
theorem i_vc : Claimed_1_1 ∧ Claimed_1_2 := ⟨lw_limb limb_1_1 (fun args s t => by simp [limb_1_1, Cond.after, Cond.holds, Cond.value]), lw_limb limb_1_2 (fun args s t => Cond.after_iff.mpr (by
  first | (rw [show limb_1_2 = Cond.eq .result (.int 1) from rfl, Cond.eq_ints (x := 1) (y := 1) rfl rfl]; simp; done) | (simp [limb_1_2, Cond.value, Term.eval]; done)))⟩

