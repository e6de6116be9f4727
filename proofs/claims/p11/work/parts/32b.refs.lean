/-! ===== answers that are references ===== -/
def vp_Sx (v : Value) : Array Value → State → Outcome → State → Prop := fun _ st oc t => oc = .returned (some v) ∧ t.heap = st.heap
def ext (a : Nat → Nat) (q0 q1 q2 : Nat) : Nat → Nat := fun k => if k = 20 then q0 else if k = 21 then q1 else if k = 22 then q2 else a k
section KREF
variable {p : Program} {l : Launch} {e : Env} {R : Room} {s : State} {m : MethodId} {args : Array Value} {below : List Frame} {meth : Method} {c : Code} {H : Heap} {locs : List Loc} {cells slots : Nat} {Q : State → Prop}
variable {pc : Nat} {ls : Array Slot} {rest st0 As : List Value} {cc bytes : ByteArray} {Ts wsy wsy' : List Cond} {own : String} {y : MethodName} {rm : Room} {ret : Option FieldType} {index maxL nL n mc ms : Nat}
variable {D : va_G} {cy : Nat → ClassId} {ws : va_W} {A0 : Nat → Prop} {H0 : Heap} {b : Nat}
theorem wtop_v {x y : Value} (h : x = y) (k : W p l e R s m args below meth c H locs cells slots Q (F0 m pc ls (y :: rest))) : W p l e R s m args below meth c H locs cells slots Q (F0 m pc ls (x :: rest)) := h ▸ k
theorem kgo_x {v : Value} {a : Array Value} (hr : va_Run p l e R s m args below meth c H locs cells slots 0 0 (F0 m pc ls st0) rest (vp_Sx v a) (fun _ => False))
    (kk : W p l e R s m args below meth c H locs cells slots Q (F0 m (pc + 3) ls (v :: rest))) : W p l e R s m args below meth c H locs cells slots Q (F0 m pc ls st0) := by
  intro T hT X
  obtain ⟨v', st₀, t, T', L, h0, X', hL, e1, e2, ⟨hv, hh⟩, st⟩ := hr T hT X
  cases hv
  obtain ⟨t2, a1, b1⟩ := kk T' (by rw [e1, hh, h0]) (Stand.forget X' (fun q h => (hL q h).elim))
  exact ⟨t2, st t2 a1, b1⟩
theorem kR_x {Cn : String} {Tn : u_T} {N ci q0 : Nat} {fs : List Value} {v : Value} (C0 : CallFix p m c cc nL s args Ts own) (hM : Met l y wsy rm (va_Pc (.ref b :: As) (PW D cy H.size ws)) (vp_Sx v) 0 0 (fun _ => False)) (cw : CallW R s args own Cn index y bytes maxL ret wsy rm 0 0 n)
    (hK : va_K D vwCl (tysA cy) s) (hN : NW s) (hP : va_P D vwCl ws H) (hD : va_D A0 ws) (he : ws[q0]? = some (b, .inr (ci, fs))) (hc : vwCl[ci]? = some (Cn, Tn, N))
    (hn : As.length = n) (hsize : ls.size = nL) (hst : st0 = As.reverse ++ .ref b :: rest) (hW : (rest.map fun v => v.category).sum ≤ 8) (hdg : decode cc pc = .ok (.invokevirtual index, 3)) (hf : cells ≤ R.cells ∧ slots ≤ R.slots)
    (kk : W p l e R s m args below meth c H locs cells slots Q (F0 m (pc + 3) ls (v :: rest))) : W p l e R s m args below meth c H locs cells slots Q (F0 m pc ls st0) :=
  kgo_x (va_runV C0 hM cw ⟨PW_blind, va_recv hK hP hc he, fun U hU hW => ⟨rfl, by rw [hU], by rw [hU]; exact hP, va_K.moved hW.alike hK, hN.warm hW, hD.weaken (fun _ _ _ _ => trivial)⟩⟩ rfl hn hsize hst (lv_room hW) hdg hf) kk
theorem kM_r {S : Type} {wf : S → Nat → va_W} {post : S → Prop} {Cn : String} {Tn : u_T} {N ci q0 : Nat} {fs : List Value} (C0 : CallFix p m c cc nL s args Ts own) (hM : Met l y wsy rm (va_Pc (.ref b :: As) (PW D cy H.size ws)) (va_Qr post (fun u r t => va_P D vwCl (wf u r) t.heap ∧ va_D (va_A ws H.size) (wf u r)) (va_A ws H.size)) mc ms (va_A ws H.size)) (cw : CallW R s args own Cn index y bytes maxL ret wsy rm mc ms n)
    (hK : va_K D vwCl (tysA cy) s) (hN : NW s) (hP : va_P D vwCl ws H) (hD : va_D A0 ws) (hS : va_S A0 H0 H locs) (hA : ∀ q, H0.size ≤ q → A0 q) (he : ws[q0]? = some (b, .inr (ci, fs))) (hc : vwCl[ci]? = some (Cn, Tn, N))
    (hn : As.length = n) (hsize : ls.size = nL) (hst : st0 = As.reverse ++ .ref b :: rest) (hW : (rest.map fun v => v.category).sum ≤ 8) (hdg : decode cc pc = .ok (.invokevirtual index, 3)) (hf : cells + mc ≤ R.cells ∧ slots + ms ≤ R.slots)
    (kk : ∀ (u : S) (r : Nat) (H1 : Heap) (locs1 : List Loc), post u → va_P D vwCl (wf u r) H1 → va_D A0 (wf u r) → va_S A0 H0 H1 locs1 → W p l e R s m args below meth c H1 locs1 (cells + mc) (slots + ms) Q (F0 m (pc + 3) ls (.ref r :: rest))) : W p l e R s m args below meth c H locs cells slots Q (F0 m pc ls st0) := by
  have hF := va_freeAll hD hS hA
  refine va_callr (va_runV C0 hM cw ⟨PW_blind, va_recv hK hP hc he, fun U hU hW => ⟨rfl, by rw [hU], by rw [hU]; exact hP, va_K.moved hW.alike hK, hN.warm hW, hD.weaken (fun _ _ _ _ => trivial)⟩⟩ rfl hn hsize hst (lv_room hW) hdg hf) hS (fun q _ h => hF q h) hF (fun u r t H1 locs1 ht hvm hw hB hz1 hk1 hS1 => ?_)
  obtain ⟨hP1, hD1⟩ := hB
  rw [ht] at hP1
  exact kk u r H1 locs1 hw hP1 (hD1.weaken (fun k q _ h => hF q.1 h)) hS1
theorem pret_x {v : Value} {rt : FieldType} (hexec : p.tables.exec = Jvm.exec) (hb : c.code = cc) (hr : meth.sig.returnType = some rt) (hlocks : meth.locks = false) (hrt : (∃ n, rt = .object n) ∨ ∃ t, rt = .array t) (hv : v = .null ∨ ∃ a, v = .ref a) (hdg : decode cc pc = .ok (.areturn, 1)) : W p l e R s m args below meth c s.heap [] cells slots (MQ below (vp_Sx v) args s cells slots (fun _ => False)) (F0 m pc ls [v]) :=
  W.aret hexec hb hr hrt hv (fun t ht _ => ⟨rfl, ht⟩) (fun q h => by cases h) hdg hlocks
theorem wret_r {S : Type} {wf : S → Nat → va_W} {post : S → Prop} {v : Nat} {rt : FieldType} (hexec : p.tables.exec = Jvm.exec) (hb : c.code = cc) (hr : meth.sig.returnType = some rt) (hlocks : meth.locks = false) (hrt : (∃ n, rt = .object n) ∨ ∃ t, rt = .array t) (u : S) (hv : post u) (hP : va_P D vwCl (wf u v) H) (hD : va_D A0 (wf u v)) (hS : va_S A0 s.heap H locs) (hdg : decode cc pc = .ok (.areturn, 1)) : W p l e R s m args below meth c H locs cells slots (MQ below (va_Qr post (fun u r t => va_P D vwCl (wf u r) t.heap ∧ va_D A0 (wf u r)) A0) args s cells slots A0) (F0 m pc ls [.ref v]) :=
  W.aret hexec hb hr hrt (Or.inr ⟨v, rfl⟩) (fun t ht _ => ⟨⟨u, v, rfl, hv, by rw [ht]; exact hP, hD⟩, hS.F ht⟩) hS.2.2 hdg hlocks
end KREF

