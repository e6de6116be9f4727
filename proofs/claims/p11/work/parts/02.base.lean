/-! ===== BASE: worlds passed whole; calls, returns ===== -/
def bI (b : Bool) : Int32 := if b then 1 else 0
theorem bI_t {b : Bool} (h : ¬ bI b = 0) : b = true := by cases b <;> simp_all [bI]
theorem bI_f {b : Bool} (h : bI b = 0) : b = false := by cases b <;> simp_all [bI]
theorem bI_nar (b : Bool) : narrow .boolean (.int (bI b)) = .int (bI b) := by cases b <;> decide
theorem bI_fit (b : Bool) : fits .boolean (.int (bI b)) = true := by cases b <;> decide
abbrev tysA (cy : Nat → ClassId) : List (ClassId × FieldType) := [(cy 0, .int), (cy 1, .long), (cy 2, .boolean), (cy 3, .object "ParquetLayer$Past"), (cy 4, .object "ParquetLayer$Sheet")]
abbrev nw0 : Cond := .methodLinkNest "ParquetLayer" 23 ⟨"ParquetLayer$Heights", "<init>", "()V"⟩ "ParquetLayer"
abbrev nw1 : Cond := .methodLinkNest "ParquetLayer" 30 ⟨"ParquetLayer$Turner", "<init>", "()V"⟩ "ParquetLayer"
abbrev nw2 : Cond := .methodLinkNest "ParquetLayer" 37 ⟨"ParquetLayer$Covering", "<init>", "()V"⟩ "ParquetLayer"
abbrev nw3 : Cond := .methodLinkNest "ParquetLayer" 42 ⟨"ParquetLayer$Sheet", "<init>", "()V"⟩ "ParquetLayer"
abbrev nw4 : Cond := .methodLinkNest "ParquetLayer$Stone" 42 ⟨"ParquetLayer", "isUnder", "(II)Z"⟩ "ParquetLayer"
abbrev nw5 : Cond := .methodLinkNest "ParquetLayer" 341 ⟨"ParquetLayer$Layings", "<init>", "()V"⟩ "ParquetLayer"
/-- what the tables say beside the words -/
def NW (U : State) : Prop := va_Nw nw0 U ∧ va_Nw nw1 U ∧ va_Nw nw2 U ∧ va_Nw nw3 U ∧ va_Nw nw4 U ∧ va_Nw nw5 U ∧ va_AO "ParquetLayer$Past" U ∧ va_AO "ParquetLayer$Sheet" U
theorem NW.warm {s U : State} (hW : s.WarmedH U.vm) (h : NW s) : NW U := by
  obtain ⟨h0, h1, h2, h3, h4, h5, h6, h7⟩ := h
  exact ⟨va_Nw.warmM hW h0, va_Nw.warmM hW h1, va_Nw.warmM hW h2, va_Nw.warmM hW h3, va_Nw.warmM hW h4, va_Nw.warmM hW h5, va_AO.moved hW.alike h6, va_AO.moved hW.alike h7⟩
theorem NW.same {u U : State} (e : u.vm = U.vm) (h : NW u) : NW U := by
  obtain ⟨h0, h1, h2, h3, h4, h5, h6, h7⟩ := h
  exact ⟨va_Nw.same rfl e h0, va_Nw.same rfl e h1, va_Nw.same rfl e h2, va_Nw.same rfl e h3, va_Nw.same rfl e h4, va_Nw.same rfl e h5, va_AO.moved (e ▸ Vm.Alike.refl _) h6, va_AO.moved (e ▸ Vm.Alike.refl _) h7⟩
/-- the start of a contract over a whole world -/
def PW (D : va_G) (cy : Nat → ClassId) (sz : Nat) (ws : va_W) (U : State) : Prop := U.heap.size = sz ∧ va_P D vwCl ws U.heap ∧ va_K D vwCl (tysA cy) U ∧ NW U ∧ va_D (fun _ => True) ws
/-- the end: the world behind it -/
abbrev BW (D : va_G) (A : Nat → Prop) {S : Type} (wf : S → va_W) (u : S) (t : State) : Prop := va_P D vwCl (wf u) t.heap ∧ va_D A (wf u)
theorem PW_blind {As : List Value} {D : va_G} {cy : Nat → ClassId} {sz : Nat} {ws : va_W} : FrameBlind (va_Pc As (PW D cy sz ws)) := fun a U g mk q => by
  obtain ⟨q0, q1, qP, qK, qN, qD⟩ := q
  exact ⟨q0, q1, qP, va_K.moved (u := U) (U := U.calling g mk a) (Vm.Alike.refl U.vm) qK, NW.same (u := U) (U := U.calling g mk a) rfl qN, qD⟩
theorem PT_blind {As : List Value} : FrameBlind (va_Pc As (fun _ => True)) := fun _ _ _ _ q => q
theorem va_freeAll {A0 : Nat → Prop} {ws : va_W} {H0 H : Heap} {locs : List Loc} (hD : va_D A0 ws) (hS : va_S A0 H0 H locs) (hA : ∀ q, H0.size ≤ q → A0 q) : ∀ q, va_A ws H.size q → A0 q := by
  intro q h
  rcases h with ⟨k, e, h⟩ | h
  · exact hD.2 k _ h
  · exact hA q (Nat.le_trans hS.1 h)
section KCALL
variable {p : Program} {l : Launch} {e : Env} {R : Room} {s : State} {m : MethodId} {args : Array Value} {below : List Frame} {meth : Method} {c : Code} {H : Heap} {locs : List Loc} {cells slots : Nat} {Q : State → Prop}
variable {pc : Nat} {ls : Array Slot} {rest st0 As : List Value} {cc bytes : ByteArray} {Ts wsy wsy' : List Cond} {own : String} {y : MethodName} {rm : Room} {ret : Option FieldType} {index maxL nL n mc ms : Nat}
variable {D : va_G} {cy : Nat → ClassId} {ws : va_W} {A0 : Nat → Prop} {H0 : Heap} {b : Nat}
/-- a run that leaves the heap, goes on -/
theorem kgo_i {post : Int32 → Prop} {a : Array Value} (hr : va_Run p l e R s m args below meth c H locs cells slots 0 0 (F0 m pc ls st0) rest (vp_Si post a) (fun _ => False))
    (kk : ∀ r : Int32, post r → W p l e R s m args below meth c H locs cells slots Q (F0 m (pc + 3) ls (.int r :: rest))) : W p l e R s m args below meth c H locs cells slots Q (F0 m pc ls st0) := by
  intro T hT X
  obtain ⟨v, st₀, t, T', L, h0, X', hL, e1, e2, ⟨r, hv, hp, hh⟩, st⟩ := hr T hT X
  cases hv
  obtain ⟨t2, a1, b1⟩ := kk r hp T' (by rw [e1, hh, h0]) (Stand.forget X' (fun q h => (hL q h).elim))
  exact ⟨t2, st t2 a1, b1⟩
theorem kgo_l {post : Int64 → Prop} {a : Array Value} (hr : va_Run p l e R s m args below meth c H locs cells slots 0 0 (F0 m pc ls st0) rest (vp_Sl post a) (fun _ => False))
    (kk : ∀ r : Int64, post r → W p l e R s m args below meth c H locs cells slots Q (F0 m (pc + 3) ls (.long r :: rest))) : W p l e R s m args below meth c H locs cells slots Q (F0 m pc ls st0) := by
  intro T hT X
  obtain ⟨v, st₀, t, T', L, h0, X', hL, e1, e2, ⟨r, hv, hp, hh⟩, st⟩ := hr T hT X
  cases hv
  obtain ⟨t2, a1, b1⟩ := kk r hp T' (by rw [e1, hh, h0]) (Stand.forget X' (fun q h => (hL q h).elim))
  exact ⟨t2, st t2 a1, b1⟩
/-- static, without a world -/
theorem kS_i {f : Int32} (C0 : CallFix p m c cc nL s args Ts own) (hM : Met l y wsy rm (va_Pc As (fun _ => True)) (vp_Si (fun r => r = f)) 0 0 (fun _ => False)) (cw : CallB R s args own index y bytes maxL ret wsy rm 0 0 n ∧ (Cond.static y).before args s = true)
    (hn : As.length = n) (hsize : ls.size = nL) (hst : st0 = As.reverse ++ rest) (hW : (rest.map fun v => v.category).sum ≤ 8) (hdg : decode cc pc = .ok (.invokestatic index, 3)) (hf : cells ≤ R.cells ∧ slots ≤ R.slots)
    (kk : W p l e R s m args below meth c H locs cells slots Q (F0 m (pc + 3) ls (.int f :: rest))) : W p l e R s m args below meth c H locs cells slots Q (F0 m pc ls st0) := by
  refine kgo_i (va_runS C0 hM cw ⟨PT_blind, fun U _ _ => ⟨rfl, trivial⟩⟩ rfl hn hsize hst (lv_room hW) hdg hf) (fun r hr => ?_)
  rw [hr]
  exact kk
theorem kS_l {f : Int64} (C0 : CallFix p m c cc nL s args Ts own) (hM : Met l y wsy rm (va_Pc As (fun _ => True)) (vp_Sl (fun r => r = f)) 0 0 (fun _ => False)) (cw : CallB R s args own index y bytes maxL ret wsy rm 0 0 n ∧ (Cond.static y).before args s = true)
    (hn : As.length = n) (hsize : ls.size = nL) (hst : st0 = As.reverse ++ rest) (hW : (rest.map fun v => v.category).sum ≤ 8) (hdg : decode cc pc = .ok (.invokestatic index, 3)) (hf : cells ≤ R.cells ∧ slots ≤ R.slots)
    (kk : W p l e R s m args below meth c H locs cells slots Q (F0 m (pc + 3) ls (.long f :: rest))) : W p l e R s m args below meth c H locs cells slots Q (F0 m pc ls st0) := by
  refine kgo_l (va_runS C0 hM cw ⟨PT_blind, fun U _ _ => ⟨rfl, trivial⟩⟩ rfl hn hsize hst (lv_room hW) hdg hf) (fun r hr => ?_)
  rw [hr]
  exact kk
/-- an object's method that only reads -/
theorem kR_i {Cn : String} {Tn : u_T} {N ci q0 : Nat} {fs : List Value} {f : Int32} (C0 : CallFix p m c cc nL s args Ts own) (hM : Met l y wsy rm (va_Pc (.ref b :: As) (PW D cy H.size ws)) (vp_Si (fun r => r = f)) 0 0 (fun _ => False)) (cw : CallW R s args own Cn index y bytes maxL ret wsy rm 0 0 n)
    (hK : va_K D vwCl (tysA cy) s) (hN : NW s) (hP : va_P D vwCl ws H) (hD : va_D A0 ws) (he : ws[q0]? = some (b, .inr (ci, fs))) (hc : vwCl[ci]? = some (Cn, Tn, N))
    (hn : As.length = n) (hsize : ls.size = nL) (hst : st0 = As.reverse ++ .ref b :: rest) (hW : (rest.map fun v => v.category).sum ≤ 8) (hdg : decode cc pc = .ok (.invokevirtual index, 3)) (hf : cells ≤ R.cells ∧ slots ≤ R.slots)
    (kk : W p l e R s m args below meth c H locs cells slots Q (F0 m (pc + 3) ls (.int f :: rest))) : W p l e R s m args below meth c H locs cells slots Q (F0 m pc ls st0) := by
  refine kgo_i (va_runV C0 hM cw ⟨PW_blind, va_recv hK hP hc he, fun U hU hW => ⟨rfl, by rw [hU], by rw [hU]; exact hP, va_K.moved hW.alike hK, hN.warm hW, hD.weaken (fun _ _ _ _ => trivial)⟩⟩ rfl hn hsize hst (lv_room hW) hdg hf) (fun r hr => ?_)
  rw [hr]
  exact kk
theorem kR_l {Cn : String} {Tn : u_T} {N ci q0 : Nat} {fs : List Value} {f : Int64} (C0 : CallFix p m c cc nL s args Ts own) (hM : Met l y wsy rm (va_Pc (.ref b :: As) (PW D cy H.size ws)) (vp_Sl (fun r => r = f)) 0 0 (fun _ => False)) (cw : CallW R s args own Cn index y bytes maxL ret wsy rm 0 0 n)
    (hK : va_K D vwCl (tysA cy) s) (hN : NW s) (hP : va_P D vwCl ws H) (hD : va_D A0 ws) (he : ws[q0]? = some (b, .inr (ci, fs))) (hc : vwCl[ci]? = some (Cn, Tn, N))
    (hn : As.length = n) (hsize : ls.size = nL) (hst : st0 = As.reverse ++ .ref b :: rest) (hW : (rest.map fun v => v.category).sum ≤ 8) (hdg : decode cc pc = .ok (.invokevirtual index, 3)) (hf : cells ≤ R.cells ∧ slots ≤ R.slots)
    (kk : W p l e R s m args below meth c H locs cells slots Q (F0 m (pc + 3) ls (.long f :: rest))) : W p l e R s m args below meth c H locs cells slots Q (F0 m pc ls st0) := by
  refine kgo_l (va_runV C0 hM cw ⟨PW_blind, va_recv hK hP hc he, fun U hU hW => ⟨rfl, by rw [hU], by rw [hU]; exact hP, va_K.moved hW.alike hK, hN.warm hW, hD.weaken (fun _ _ _ _ => trivial)⟩⟩ rfl hn hsize hst (lv_room hW) hdg hf) (fun r hr => ?_)
  rw [hr]
  exact kk
/-- an object's method that writes: the whole world goes in, a whole world comes back -/
theorem kM_i {S : Type} {wf : S → va_W} {post : Int32 → S → Prop} {Cn : String} {Tn : u_T} {N ci q0 : Nat} {fs : List Value} (C0 : CallFix p m c cc nL s args Ts own) (hM : Met l y wsy rm (va_Pc (.ref b :: As) (PW D cy H.size ws)) (va_Qi post (BW D (va_A ws H.size) wf) (va_A ws H.size)) mc ms (va_A ws H.size)) (cw : CallW R s args own Cn index y bytes maxL ret wsy rm mc ms n)
    (hK : va_K D vwCl (tysA cy) s) (hN : NW s) (hP : va_P D vwCl ws H) (hD : va_D A0 ws) (hS : va_S A0 H0 H locs) (hA : ∀ q, H0.size ≤ q → A0 q) (he : ws[q0]? = some (b, .inr (ci, fs))) (hc : vwCl[ci]? = some (Cn, Tn, N))
    (hn : As.length = n) (hsize : ls.size = nL) (hst : st0 = As.reverse ++ .ref b :: rest) (hW : (rest.map fun v => v.category).sum ≤ 8) (hdg : decode cc pc = .ok (.invokevirtual index, 3)) (hf : cells + mc ≤ R.cells ∧ slots + ms ≤ R.slots)
    (kk : ∀ (r : Int32) (u : S) (H1 : Heap) (locs1 : List Loc), post r u → va_P D vwCl (wf u) H1 → va_D A0 (wf u) → va_S A0 H0 H1 locs1 → W p l e R s m args below meth c H1 locs1 (cells + mc) (slots + ms) Q (F0 m (pc + 3) ls (.int r :: rest))) : W p l e R s m args below meth c H locs cells slots Q (F0 m pc ls st0) := by
  have hF := va_freeAll hD hS hA
  refine va_calli (va_runV C0 hM cw ⟨PW_blind, va_recv hK hP hc he, fun U hU hW => ⟨rfl, by rw [hU], by rw [hU]; exact hP, va_K.moved hW.alike hK, hN.warm hW, hD.weaken (fun _ _ _ _ => trivial)⟩⟩ rfl hn hsize hst (lv_room hW) hdg hf) hS (fun q _ h => hF q h) hF (fun r u t H1 locs1 ht hvm hw hB hz1 hk1 hS1 => ?_)
  obtain ⟨hP1, hD1⟩ := hB
  rw [ht] at hP1
  exact kk r u H1 locs1 hw hP1 (hD1.weaken (fun k q _ h => hF q.1 h)) hS1
theorem kM_v {S : Type} {wf : S → va_W} {post : S → Prop} {Cn : String} {Tn : u_T} {N ci q0 : Nat} {fs : List Value} (C0 : CallFix p m c cc nL s args Ts own) (hM : Met l y wsy rm (va_Pc (.ref b :: As) (PW D cy H.size ws)) (va_Qv post (BW D (va_A ws H.size) wf) (va_A ws H.size)) mc ms (va_A ws H.size)) (cw : CallW R s args own Cn index y bytes maxL ret wsy rm mc ms n)
    (hK : va_K D vwCl (tysA cy) s) (hN : NW s) (hP : va_P D vwCl ws H) (hD : va_D A0 ws) (hS : va_S A0 H0 H locs) (hA : ∀ q, H0.size ≤ q → A0 q) (he : ws[q0]? = some (b, .inr (ci, fs))) (hc : vwCl[ci]? = some (Cn, Tn, N))
    (hn : As.length = n) (hsize : ls.size = nL) (hst : st0 = As.reverse ++ .ref b :: rest) (hW : (rest.map fun v => v.category).sum ≤ 8) (hdg : decode cc pc = .ok (.invokevirtual index, 3)) (hf : cells + mc ≤ R.cells ∧ slots + ms ≤ R.slots)
    (kk : ∀ (u : S) (H1 : Heap) (locs1 : List Loc), post u → va_P D vwCl (wf u) H1 → va_D A0 (wf u) → va_S A0 H0 H1 locs1 → W p l e R s m args below meth c H1 locs1 (cells + mc) (slots + ms) Q (F0 m (pc + 3) ls rest)) : W p l e R s m args below meth c H locs cells slots Q (F0 m pc ls st0) := by
  have hF := va_freeAll hD hS hA
  refine va_callv (va_runV C0 hM cw ⟨PW_blind, va_recv hK hP hc he, fun U hU hW => ⟨rfl, by rw [hU], by rw [hU]; exact hP, va_K.moved hW.alike hK, hN.warm hW, hD.weaken (fun _ _ _ _ => trivial)⟩⟩ rfl hn hsize hst (lv_room hW) hdg hf) hS (fun q _ h => hF q h) hF (fun u t H1 locs1 ht hvm hw hB hz1 hk1 hS1 => ?_)
  obtain ⟨hP1, hD1⟩ := hB
  rw [ht] at hP1
  exact kk u H1 locs1 hw hP1 (hD1.weaken (fun k q _ h => hF q.1 h)) hS1
theorem kM_l {S : Type} {wf : S → va_W} {post : Int64 → S → Prop} {Cn : String} {Tn : u_T} {N ci q0 : Nat} {fs : List Value} (C0 : CallFix p m c cc nL s args Ts own) (hM : Met l y wsy rm (va_Pc (.ref b :: As) (PW D cy H.size ws)) (va_Ql post (BW D (va_A ws H.size) wf) (va_A ws H.size)) mc ms (va_A ws H.size)) (cw : CallW R s args own Cn index y bytes maxL ret wsy rm mc ms n)
    (hK : va_K D vwCl (tysA cy) s) (hN : NW s) (hP : va_P D vwCl ws H) (hD : va_D A0 ws) (hS : va_S A0 H0 H locs) (hA : ∀ q, H0.size ≤ q → A0 q) (he : ws[q0]? = some (b, .inr (ci, fs))) (hc : vwCl[ci]? = some (Cn, Tn, N))
    (hn : As.length = n) (hsize : ls.size = nL) (hst : st0 = As.reverse ++ .ref b :: rest) (hW : (rest.map fun v => v.category).sum ≤ 8) (hdg : decode cc pc = .ok (.invokevirtual index, 3)) (hf : cells + mc ≤ R.cells ∧ slots + ms ≤ R.slots)
    (kk : ∀ (r : Int64) (u : S) (H1 : Heap) (locs1 : List Loc), post r u → va_P D vwCl (wf u) H1 → va_D A0 (wf u) → va_S A0 H0 H1 locs1 → W p l e R s m args below meth c H1 locs1 (cells + mc) (slots + ms) Q (F0 m (pc + 3) ls (.long r :: rest))) : W p l e R s m args below meth c H locs cells slots Q (F0 m pc ls st0) := by
  have hF := va_freeAll hD hS hA
  refine va_calll (va_runV C0 hM cw ⟨PW_blind, va_recv hK hP hc he, fun U hU hW => ⟨rfl, by rw [hU], by rw [hU]; exact hP, va_K.moved hW.alike hK, hN.warm hW, hD.weaken (fun _ _ _ _ => trivial)⟩⟩ rfl hn hsize hst (lv_room hW) hdg hf) hS (fun q _ h => hF q h) hF (fun r u t H1 locs1 ht hvm hw hB hz1 hk1 hS1 => ?_)
  obtain ⟨hP1, hD1⟩ := hB
  rw [ht] at hP1
  exact kk r u H1 locs1 hw hP1 (hD1.weaken (fun k q _ h => hF q.1 h)) hS1
/-- a static method over one cell of the world -/
theorem kO_v {a : Nat} {e0 : va_E} {S : Type} {ef : S → va_E} {post : S → Prop} {q0 : Nat} (C0 : CallFix p m c cc nL s args Ts own) (hM : Met l y wsy rm (va_Pc As (PW D cy H.size [(a, e0)])) (va_Qv post (BW D (va_A [(a, e0)] H.size) (fun u => [(a, ef u)])) (va_A [(a, e0)] H.size)) 0 0 (va_A [(a, e0)] H.size)) (cw : CallB R s args own index y bytes maxL ret wsy rm 0 0 n ∧ (Cond.static y).before args s = true)
    (hK : va_K D vwCl (tysA cy) s) (hN : NW s) (hP : va_P D vwCl ws H) (hD : va_D A0 ws) (hS : va_S A0 H0 H locs) (hA : ∀ q, H0.size ≤ q → A0 q) (he : ws[q0]? = some (a, e0))
    (hn : As.length = n) (hsize : ls.size = nL) (hst : st0 = As.reverse ++ rest) (hW : (rest.map fun v => v.category).sum ≤ 8) (hdg : decode cc pc = .ok (.invokestatic index, 3)) (hf : cells ≤ R.cells ∧ slots ≤ R.slots)
    (kk : ∀ (u : S) (H1 : Heap) (locs1 : List Loc), post u → va_P D vwCl (ws.set q0 (a, ef u)) H1 → va_D A0 (ws.set q0 (a, ef u)) → va_S A0 H0 H1 locs1 → W p l e R s m args below meth c H1 locs1 cells slots Q (F0 m (pc + 3) ls rest)) : W p l e R s m args below meth c H locs cells slots Q (F0 m pc ls st0) := by
  have hP0 : va_P D vwCl [(a, e0)] H := fun k q hk => by
    match k, hk with
    | 0, hk => cases hk; exact hP q0 _ he
  have hD0 : va_D A0 [(a, e0)] := ⟨fun i j p q h1 h2 h3 => by
    have h1 := (List.getElem?_eq_some_iff.mp h1).1
    have h2 := (List.getElem?_eq_some_iff.mp h2).1
    simp at h1 h2
    omega, fun k q hk => by
    match k, hk with
    | 0, hk => cases hk; exact hD.2 q0 _ he⟩
  have hF := va_freeAll hD0 hS hA
  refine va_callv (va_runS C0 hM cw ⟨PW_blind, fun U hU hW => ⟨rfl, by rw [hU], by rw [hU]; exact hP0, va_K.moved hW.alike hK, hN.warm hW, hD0.weaken (fun _ _ _ _ => trivial)⟩⟩ rfl hn hsize hst (lv_room hW) hdg hf) hS (fun q _ h => hF q h) hF (fun u t H1 locs1 ht hvm hw hB hz1 hk1 hS1 => ?_)
  obtain ⟨hP1, hD1⟩ := hB
  rw [ht] at hP1
  refine kk u H1 locs1 hw ?_ (hD.set he) hS1
  intro k q hk
  by_cases hkq : k = q0
  · subst hkq
    rw [List.getElem?_set_self (List.getElem?_eq_some_iff.mp he).1] at hk
    cases hk
    exact hP1 0 _ rfl
  · rw [List.getElem?_set_ne (Ne.symm hkq)] at hk
    refine (hP k q hk).kept (hk1 q.1 (hP k q hk).lt ?_)
    rintro (⟨j, e', hj⟩ | hj)
    · have hj0 : j < 1 := by simpa using (List.getElem?_eq_some_iff.mp hj).1
      rw [show j = 0 by omega] at hj
      cases hj
      exact hkq (hD.1 k q0 _ _ hk he rfl)
    · exact absurd (hP k q hk).lt (by omega)
/-! returns -/
theorem pret_i {f v : Int32} (hexec : p.tables.exec = Jvm.exec) (hb : c.code = cc) (hr : meth.sig.returnType = some .int) (hlocks : meth.locks = false) (hv : v = f) (hdg : decode cc pc = .ok (.ireturn, 1)) : W p l e R s m args below meth c s.heap [] cells slots (MQ below (vp_Si (fun r => r = f)) args s cells slots (fun _ => False)) (F0 m pc ls [.int v]) :=
  W.iret hexec hb hr (fun t ht _ => ⟨v, rfl, hv, ht⟩) (fun q h => by cases h) hdg hlocks
theorem pret_z {f : Bool} {v : Int32} (hexec : p.tables.exec = Jvm.exec) (hb : c.code = cc) (hr : meth.sig.returnType = some .boolean) (hlocks : meth.locks = false) (hv : v = bI f) (hdg : decode cc pc = .ok (.ireturn, 1)) : W p l e R s m args below meth c s.heap [] cells slots (MQ below (vp_Si (fun r => r = bI f)) args s cells slots (fun _ => False)) (F0 m pc ls [.int v]) :=
  W.zret hexec hb hr (by rw [hv]; exact bI_nar f) (fun t ht _ => ⟨v, rfl, hv, ht⟩) (fun q h => by cases h) hdg hlocks
theorem pret_l {f v : Int64} (hexec : p.tables.exec = Jvm.exec) (hb : c.code = cc) (hr : meth.sig.returnType = some .long) (hlocks : meth.locks = false) (hv : v = f) (hdg : decode cc pc = .ok (.lreturn, 1)) : W p l e R s m args below meth c s.heap [] cells slots (MQ below (vp_Sl (fun r => r = f)) args s cells slots (fun _ => False)) (F0 m pc ls [.long v]) :=
  W.lret hexec hb hr (fun t ht _ => ⟨v, rfl, hv, ht⟩) (fun q h => by cases h) hdg hlocks
theorem wret_i {S : Type} {wf : S → va_W} {post : Int32 → S → Prop} {v : Int32} (hexec : p.tables.exec = Jvm.exec) (hb : c.code = cc) (hr : meth.sig.returnType = some .int) (hlocks : meth.locks = false) (u : S) (hv : post v u) (hP : va_P D vwCl (wf u) H) (hD : va_D A0 (wf u)) (hS : va_S A0 s.heap H locs) (hdg : decode cc pc = .ok (.ireturn, 1)) : W p l e R s m args below meth c H locs cells slots (MQ below (va_Qi post (BW D A0 wf) A0) args s cells slots A0) (F0 m pc ls [.int v]) :=
  W.iret hexec hb hr (fun t ht _ => ⟨⟨v, u, rfl, hv, by rw [ht]; exact hP, hD⟩, hS.F ht⟩) hS.2.2 hdg hlocks
theorem wret_z {S : Type} {wf : S → va_W} {post : Int32 → S → Prop} {v : Int32} (hexec : p.tables.exec = Jvm.exec) (hb : c.code = cc) (hr : meth.sig.returnType = some .boolean) (hlocks : meth.locks = false) (hz : narrow .boolean (.int v) = .int v) (u : S) (hv : post v u) (hP : va_P D vwCl (wf u) H) (hD : va_D A0 (wf u)) (hS : va_S A0 s.heap H locs) (hdg : decode cc pc = .ok (.ireturn, 1)) : W p l e R s m args below meth c H locs cells slots (MQ below (va_Qi post (BW D A0 wf) A0) args s cells slots A0) (F0 m pc ls [.int v]) :=
  W.zret hexec hb hr hz (fun t ht _ => ⟨⟨v, u, rfl, hv, by rw [ht]; exact hP, hD⟩, hS.F ht⟩) hS.2.2 hdg hlocks
theorem wret_l {S : Type} {wf : S → va_W} {post : Int64 → S → Prop} {v : Int64} (hexec : p.tables.exec = Jvm.exec) (hb : c.code = cc) (hr : meth.sig.returnType = some .long) (hlocks : meth.locks = false) (u : S) (hv : post v u) (hP : va_P D vwCl (wf u) H) (hD : va_D A0 (wf u)) (hS : va_S A0 s.heap H locs) (hdg : decode cc pc = .ok (.lreturn, 1)) : W p l e R s m args below meth c H locs cells slots (MQ below (va_Ql post (BW D A0 wf) A0) args s cells slots A0) (F0 m pc ls [.long v]) :=
  W.lret hexec hb hr (fun t ht _ => ⟨⟨v, u, rfl, hv, by rw [ht]; exact hP, hD⟩, hS.F ht⟩) hS.2.2 hdg hlocks
theorem wret_v {S : Type} {wf : S → va_W} {post : S → Prop} (hexec : p.tables.exec = Jvm.exec) (hb : c.code = cc) (hr : meth.sig.returnType = none) (hlocks : meth.locks = false) (u : S) (hv : post u) (hP : va_P D vwCl (wf u) H) (hD : va_D A0 (wf u)) (hS : va_S A0 s.heap H locs) (hdg : decode cc pc = .ok (.return_, 1)) : W p l e R s m args below meth c H locs cells slots (MQ below (va_Qv post (BW D A0 wf) A0) args s cells slots A0) (F0 m pc ls []) :=
  W.vret hexec hb hr (fun t ht _ => ⟨⟨u, rfl, hv, by rw [ht]; exact hP, hD⟩, hS.F ht⟩) hS.2.2 hdg hlocks
end KCALL
