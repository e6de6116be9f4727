section KJOIN
variable {D : va_G} {A0 : Nat → Prop} {X V w1 : va_W} {H H1 : Heap}
theorem P_right (h : va_P D vwCl (X ++ V) H) : va_P D vwCl V H := fun k q hk => h (X.length + k) q (by rw [List.getElem?_append_right (Nat.le_add_right _ _), Nat.add_sub_cancel_left]; exact hk)
theorem D_right (h : va_D A0 (X ++ V)) : va_D A0 V := by
  have hR : ∀ (k : Nat) (q : Nat × va_E), V[k]? = some q → (X ++ V)[X.length + k]? = some q := fun k q hk => by
    rw [List.getElem?_append_right (Nat.le_add_right _ _), Nat.add_sub_cancel_left]; exact hk
  exact ⟨fun i j p q h1 h2 h3 => by have := h.1 _ _ p q (hR i p h1) (hR j q h2) h3; omega, fun k q hk => h.2 _ q (hR k q hk)⟩
/-- the callee had the cells behind -/
theorem join_suf (hP : va_P D vwCl (X ++ V) H) (hD : va_D A0 (X ++ V)) (hk1 : ∀ q : Nat, q < H.size → ¬ va_A V H.size q → H1[q]? = H[q]?) (hF : ∀ q, va_A V H.size q → A0 q) (hP1 : va_P D vwCl w1 H1) (hD1 : va_D (va_A V H.size) w1) : va_P D vwCl (X ++ w1) H1 ∧ va_D A0 (X ++ w1) := by
  have hx : ∀ (k : Nat) (q : Nat × va_E), X[k]? = some q → (X ++ V)[k]? = some q := fun k q hk => by
    rw [List.getElem?_append_left (List.getElem?_eq_some_iff.mp hk).1]; exact hk
  have hR : ∀ (k : Nat) (q : Nat × va_E), V[k]? = some q → (X ++ V)[X.length + k]? = some q := fun k q hk => by
    rw [List.getElem?_append_right (Nat.le_add_right _ _), Nat.add_sub_cancel_left]; exact hk
  have apart : ∀ (k : Nat) (q : Nat × va_E), X[k]? = some q → q.1 < H.size ∧ ¬ va_A V H.size q.1 := fun k q hk => by
    refine ⟨(hP k q (hx k q hk)).lt, ?_⟩
    rintro (⟨j, e', hj⟩ | hj)
    · have := hD.1 k (X.length + j) q (q.1, e') (hx k q hk) (hR j _ hj) rfl
      have h2 := (List.getElem?_eq_some_iff.mp hk).1
      omega
    · exact absurd (hP k q (hx k q hk)).lt (by omega)
  refine ⟨va_P.app (fun k q hk => ?_) hP1, va_D.app ⟨fun i j p q h1 h2 h3 => hD.1 i j p q (hx i p h1) (hx j q h2) h3, fun k q hk => hD.2 k q (hx k q hk)⟩ (hD1.weaken (fun k q _ h => hF q.1 h)) (fun i j x y hx' hy hxy => ?_)⟩
  · exact (hP k q (hx k q hk)).kept (hk1 q.1 (apart k q hk).1 (apart k q hk).2)
  · exact (apart i x hx').2 (by rw [hxy]; exact hD1.2 j y hy)
/-- the callee had the cells ahead -/
theorem join_pre (hP : va_P D vwCl (V ++ X) H) (hD : va_D A0 (V ++ X)) (hk1 : ∀ q : Nat, q < H.size → ¬ va_A V H.size q → H1[q]? = H[q]?) (hF : ∀ q, va_A V H.size q → A0 q) (hP1 : va_P D vwCl w1 H1) (hD1 : va_D (va_A V H.size) w1) : va_P D vwCl (w1 ++ X) H1 ∧ va_D A0 (w1 ++ X) := by
  have hx : ∀ (k : Nat) (q : Nat × va_E), V[k]? = some q → (V ++ X)[k]? = some q := fun k q hk => by
    rw [List.getElem?_append_left (List.getElem?_eq_some_iff.mp hk).1]; exact hk
  have hR : ∀ (k : Nat) (q : Nat × va_E), X[k]? = some q → (V ++ X)[V.length + k]? = some q := fun k q hk => by
    rw [List.getElem?_append_right (Nat.le_add_right _ _), Nat.add_sub_cancel_left]; exact hk
  have apart : ∀ (k : Nat) (q : Nat × va_E), X[k]? = some q → q.1 < H.size ∧ ¬ va_A V H.size q.1 := fun k q hk => by
    refine ⟨(hP _ q (hR k q hk)).lt, ?_⟩
    rintro (⟨j, e', hj⟩ | hj)
    · have := hD.1 j (V.length + k) (q.1, e') q (hx j _ hj) (hR k q hk) rfl
      have h2 := (List.getElem?_eq_some_iff.mp hj).1
      omega
    · exact absurd (hP _ q (hR k q hk)).lt (by omega)
  refine ⟨va_P.app hP1 (fun k q hk => ?_), va_D.app (hD1.weaken (fun k q _ h => hF q.1 h)) (D_right hD) (fun i j x y hx' hy hxy => ?_)⟩
  · exact (hP _ q (hR k q hk)).kept (hk1 q.1 (apart k q hk).1 (apart k q hk).2)
  · exact (apart j y hy).2 (by rw [← hxy]; exact hD1.2 i x hx')
end KJOIN
section KLAW
variable {p : Program} {l : Launch} {e : Env} {R : Room} {s : State} {m : MethodId} {args : Array Value} {below : List Frame} {meth : Method} {c : Code} {H : Heap} {locs : List Loc} {cells slots : Nat} {Q : State → Prop}
variable {pc : Nat} {ls : Array Slot} {rest st0 As : List Value} {cc bytes : ByteArray} {Ts wsy wsy' : List Cond} {own : String} {y : MethodName} {rm : Room} {ret : Option FieldType} {index maxL nL n mc ms : Nat}
variable {D : va_G} {cy : Nat → ClassId} {X V : va_W} {A0 : Nat → Prop} {H0 : Heap} {b : Nat}
/-- a call whose world is the cells behind -/
theorem kX_i {S : Type} {wf : S → va_W} {post : Int32 → S → Prop} {Cn : String} {Tn : u_T} {N ci q0 : Nat} {fs : List Value} (C0 : CallFix p m c cc nL s args Ts own) (hM : Met l y wsy rm (va_Pc (.ref b :: As) (PW D cy H.size V)) (va_Qi post (BW D (va_A V H.size) wf) (va_A V H.size)) mc ms (va_A V H.size)) (cw : CallW R s args own Cn index y bytes maxL ret wsy rm mc ms n)
    (hK : va_K D vwCl (tysA cy) s) (hN : NW s) (hP : va_P D vwCl (X ++ V) H) (hD : va_D A0 (X ++ V)) (hS : va_S A0 H0 H locs) (hA : ∀ q, H0.size ≤ q → A0 q) (he : V[q0]? = some (b, .inr (ci, fs))) (hc : vwCl[ci]? = some (Cn, Tn, N))
    (hn : As.length = n) (hsize : ls.size = nL) (hst : st0 = As.reverse ++ .ref b :: rest) (hW : (rest.map fun v => v.category).sum ≤ 8) (hdg : decode cc pc = .ok (.invokevirtual index, 3)) (hf : cells + mc ≤ R.cells ∧ slots + ms ≤ R.slots)
    (kk : ∀ (r : Int32) (u : S) (H1 : Heap) (locs1 : List Loc), post r u → va_P D vwCl (X ++ wf u) H1 → va_D A0 (X ++ wf u) → va_S A0 H0 H1 locs1 → W p l e R s m args below meth c H1 locs1 (cells + mc) (slots + ms) Q (F0 m (pc + 3) ls (.int r :: rest))) : W p l e R s m args below meth c H locs cells slots Q (F0 m pc ls st0) := by
  have hPv := P_right hP
  have hDv := D_right hD
  have hF := va_freeAll hDv hS hA
  refine va_calli (va_runV C0 hM cw ⟨PW_blind, va_recv hK hPv hc he, fun U hU hW => ⟨rfl, by rw [hU], by rw [hU]; exact hPv, va_K.moved hW.alike hK, hN.warm hW, hDv.weaken (fun _ _ _ _ => trivial)⟩⟩ rfl hn hsize hst (lv_room hW) hdg hf) hS (fun q _ h => hF q h) hF (fun r u t H1 locs1 ht hvm hw hB hz1 hk1 hS1 => ?_)
  obtain ⟨hP1, hD1⟩ := hB
  rw [ht] at hP1
  obtain ⟨g1, g2⟩ := join_suf hP hD hk1 hF hP1 hD1
  exact kk r u H1 locs1 hw g1 g2 hS1
/-- a call whose world is the cells ahead -/
theorem kV_i {S : Type} {wf : S → va_W} {post : Int32 → S → Prop} {Cn : String} {Tn : u_T} {N ci q0 : Nat} {fs : List Value} (C0 : CallFix p m c cc nL s args Ts own) (hM : Met l y wsy rm (va_Pc (.ref b :: As) (PW D cy H.size V)) (va_Qi post (BW D (va_A V H.size) wf) (va_A V H.size)) mc ms (va_A V H.size)) (cw : CallW R s args own Cn index y bytes maxL ret wsy rm mc ms n)
    (hK : va_K D vwCl (tysA cy) s) (hN : NW s) (hP : va_P D vwCl (V ++ X) H) (hD : va_D A0 (V ++ X)) (hS : va_S A0 H0 H locs) (hA : ∀ q, H0.size ≤ q → A0 q) (he : V[q0]? = some (b, .inr (ci, fs))) (hc : vwCl[ci]? = some (Cn, Tn, N))
    (hn : As.length = n) (hsize : ls.size = nL) (hst : st0 = As.reverse ++ .ref b :: rest) (hW : (rest.map fun v => v.category).sum ≤ 8) (hdg : decode cc pc = .ok (.invokevirtual index, 3)) (hf : cells + mc ≤ R.cells ∧ slots + ms ≤ R.slots)
    (kk : ∀ (r : Int32) (u : S) (H1 : Heap) (locs1 : List Loc), post r u → va_P D vwCl (wf u ++ X) H1 → va_D A0 (wf u ++ X) → va_S A0 H0 H1 locs1 → W p l e R s m args below meth c H1 locs1 (cells + mc) (slots + ms) Q (F0 m (pc + 3) ls (.int r :: rest))) : W p l e R s m args below meth c H locs cells slots Q (F0 m pc ls st0) := by
  have hPv := P_left hP
  have hDv := D_left hD
  have hF := va_freeAll hDv hS hA
  refine va_calli (va_runV C0 hM cw ⟨PW_blind, va_recv hK hPv hc he, fun U hU hW => ⟨rfl, by rw [hU], by rw [hU]; exact hPv, va_K.moved hW.alike hK, hN.warm hW, hDv.weaken (fun _ _ _ _ => trivial)⟩⟩ rfl hn hsize hst (lv_room hW) hdg hf) hS (fun q _ h => hF q h) hF (fun r u t H1 locs1 ht hvm hw hB hz1 hk1 hS1 => ?_)
  obtain ⟨hP1, hD1⟩ := hB
  rw [ht] at hP1
  obtain ⟨g1, g2⟩ := join_pre hP hD hk1 hF hP1 hD1
  exact kk r u H1 locs1 hw g1 g2 hS1
end KLAW
