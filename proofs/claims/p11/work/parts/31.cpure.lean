section KRA
variable {p : Program} {l : Launch} {e : Env} {R : Room} {s : State} {m : MethodId} {args : Array Value} {below : List Frame} {meth : Method} {c : Code} {H : Heap} {locs : List Loc} {cells slots : Nat} {Q : State → Prop}
variable {pc : Nat} {ls : Array Slot} {rest st0 As : List Value} {cc bytes : ByteArray} {Ts wsy wsy' : List Cond} {own : String} {y : MethodName} {rm : Room} {ret : Option FieldType} {index maxL nL n mc ms : Nat}
variable {D : va_G} {cy : Nat → ClassId} {ws : va_W} {A0 : Nat → Prop} {H0 : Heap} {b : Nat}
theorem kRa_i {Cn : String} {Tn : u_T} {N ci q0 : Nat} {fs : List Value} {post : Int32 → Prop} (C0 : CallFix p m c cc nL s args Ts own) (hM : Met l y wsy rm (va_Pc (.ref b :: As) (PW D cy H.size ws)) (vp_Si post) 0 0 (fun _ => False)) (cw : CallW R s args own Cn index y bytes maxL ret wsy rm 0 0 n)
    (hK : va_K D vwCl (tysA cy) s) (hN : NW s) (hP : va_P D vwCl ws H) (hD : va_D A0 ws) (he : ws[q0]? = some (b, .inr (ci, fs))) (hc : vwCl[ci]? = some (Cn, Tn, N))
    (hn : As.length = n) (hsize : ls.size = nL) (hst : st0 = As.reverse ++ .ref b :: rest) (hW : (rest.map fun v => v.category).sum ≤ 8) (hdg : decode cc pc = .ok (.invokevirtual index, 3)) (hf : cells ≤ R.cells ∧ slots ≤ R.slots)
    (kk : ∀ r : Int32, post r → W p l e R s m args below meth c H locs cells slots Q (F0 m (pc + 3) ls (.int r :: rest))) : W p l e R s m args below meth c H locs cells slots Q (F0 m pc ls st0) :=
  kgo_i (va_runV C0 hM cw ⟨PW_blind, va_recv hK hP hc he, fun U hU hW => ⟨rfl, by rw [hU], by rw [hU]; exact hP, va_K.moved hW.alike hK, hN.warm hW, hD.weaken (fun _ _ _ _ => trivial)⟩⟩ rfl hn hsize hst (lv_room hW) hdg hf) kk
theorem kRa_l {Cn : String} {Tn : u_T} {N ci q0 : Nat} {fs : List Value} {post : Int64 → Prop} (C0 : CallFix p m c cc nL s args Ts own) (hM : Met l y wsy rm (va_Pc (.ref b :: As) (PW D cy H.size ws)) (vp_Sl post) 0 0 (fun _ => False)) (cw : CallW R s args own Cn index y bytes maxL ret wsy rm 0 0 n)
    (hK : va_K D vwCl (tysA cy) s) (hN : NW s) (hP : va_P D vwCl ws H) (hD : va_D A0 ws) (he : ws[q0]? = some (b, .inr (ci, fs))) (hc : vwCl[ci]? = some (Cn, Tn, N))
    (hn : As.length = n) (hsize : ls.size = nL) (hst : st0 = As.reverse ++ .ref b :: rest) (hW : (rest.map fun v => v.category).sum ≤ 8) (hdg : decode cc pc = .ok (.invokevirtual index, 3)) (hf : cells ≤ R.cells ∧ slots ≤ R.slots)
    (kk : ∀ r : Int64, post r → W p l e R s m args below meth c H locs cells slots Q (F0 m (pc + 3) ls (.long r :: rest))) : W p l e R s m args below meth c H locs cells slots Q (F0 m pc ls st0) :=
  kgo_l (va_runV C0 hM cw ⟨PW_blind, va_recv hK hP hc he, fun U hU hW => ⟨rfl, by rw [hU], by rw [hU]; exact hP, va_K.moved hW.alike hK, hN.warm hW, hD.weaken (fun _ _ _ _ => trivial)⟩⟩ rfl hn hsize hst (lv_room hW) hdg hf) kk
theorem kWRa_i {post : Int32 → Prop} (C0 : CallFix p m c cc nL s args Ts own) (hM : Met l y wsy rm (va_Pc As (PW D cy H.size ws)) (vp_Si post) 0 0 (fun _ => False)) (cw : CallB R s args own index y bytes maxL ret wsy rm 0 0 n ∧ (Cond.static y).before args s = true)
    (hK : va_K D vwCl (tysA cy) s) (hN : NW s) (hP : va_P D vwCl ws H) (hD : va_D A0 ws)
    (hn : As.length = n) (hsize : ls.size = nL) (hst : st0 = As.reverse ++ rest) (hW : (rest.map fun v => v.category).sum ≤ 8) (hdg : decode cc pc = .ok (.invokestatic index, 3)) (hf : cells ≤ R.cells ∧ slots ≤ R.slots)
    (kk : ∀ r : Int32, post r → W p l e R s m args below meth c H locs cells slots Q (F0 m (pc + 3) ls (.int r :: rest))) : W p l e R s m args below meth c H locs cells slots Q (F0 m pc ls st0) :=
  kgo_i (va_runS C0 hM cw ⟨PW_blind, fun U hU hW => ⟨rfl, by rw [hU], by rw [hU]; exact hP, va_K.moved hW.alike hK, hN.warm hW, hD.weaken (fun _ _ _ _ => trivial)⟩⟩ rfl hn hsize hst (lv_room hW) hdg hf) kk
end KRA
theorem dX9_finding_0 : decode cX9_finding 0 = .ok (.aload_n 0, 1) := by decide +kernel
theorem dX9_finding_1 : decode cX9_finding 1 = .ok (.dup, 1) := by decide +kernel
theorem dX9_finding_2 : decode cX9_finding 2 = .ok (.getfield 323, 3) := by decide +kernel
theorem dX9_finding_5 : decode cX9_finding 5 = .ok (.iconst 1, 1) := by decide +kernel
theorem dX9_finding_6 : decode cX9_finding 6 = .ok (.iadd, 1) := by decide +kernel
theorem dX9_finding_7 : decode cX9_finding 7 = .ok (.putfield 323, 3) := by decide +kernel
theorem dX9_finding_10 : decode cX9_finding 10 = .ok (.iload_n 1, 1) := by decide +kernel
theorem dX9_finding_11 : decode cX9_finding 11 = .ok (.ireturn, 1) := by decide +kernel
set_option maxRecDepth 20000 in
theorem ihX9_finding_9 : ∀ w ∈ u_ws RX9 TX9 11, w ∈ wsX9_finding := fun _ h => List.mem_cons_of_mem _ (List.mem_append_right _ h)
set_option maxHeartbeats 4000000 in
set_option maxRecDepth 100000 in
theorem t_X9_finding (l : Launch) (D : va_G) (cy : Nat → ClassId) (a : Nat → Nat) (sz : Nat) (J : Nat → Int64) (I : Nat → Int32) (O : Nat → Option Nat) (R : Nat → Nat → Int32) (RO : Nat → Nat → Option Nat) (LL : va_W) (Y : va_W) (x0 : Int32) : Met l yX9_finding wsX9_finding ({ frames := 0, cells := 0, slots := 0, locals := 0 }) (va_Pc [.ref (a 0), .int x0] (PW D cy sz (CT cy a J I O R RO (LL ++ Y)))) (va_Qi (fun r (u : TS) => ∃ (w0 : Int32), (r = x0) ∧ u = (J, (va_up I 10 w0), O, R, RO, LL, Y)) (BW D (va_A (CT cy a J I O R RO (LL ++ Y)) sz) (CTu cy a)) (va_A (CT cy a J I O R RO (LL ++ Y)) sz)) 0 0 (va_A (CT cy a J I O R RO (LL ++ Y)) sz) := by
  refine Met.ofW (cc := cX9_finding) (maxL := 2) (ret := (some .int)) (by decide) rfl ?_
  intro p e s m args below meth c s₁ B hml hv
  obtain ⟨rfl, rfl, hP, hK, hN, hD0⟩ := hv
  have hx := B.exec
  have hb := B.bytes
  have hr := B.returns
  have hts := atoms_spec (ws := wsX9_finding) B.pre
  have hown : s.vm.findClass RX9 = some m.cls := findClass_of_methodNamed B.named
  have hlocks := B.notSynchronized
  have hw0 := hts (.fieldLink RX9 323 "ParquetLayer" "findings" "I") (by decide +kernel)
  have hi9 := ihX9_finding_9
  have hD := hD0.self (sz := s.heap.size)
  generalize hAe : va_A (CT cy a J I O R RO (LL ++ Y)) s.heap.size = A at hD ⊢
  have hA : ∀ q : Nat, s.heap.size ≤ q → A q := fun q h => by rw [← hAe]; exact Or.inr h
  have hS : va_S A s.heap s.heap [] := va_S.rf
  have hl := lv_entry ([.ref (a 0), .int x0]) (n := 2) (Nat.le_of_ble_eq_true rfl)
  rw [lg_entry_eq]
  generalize (lg_sl ([.ref (a 0), .int x0]) ++ List.replicate (2 - (lg_sl ([.ref (a 0), .int x0])).length) Slot.unset).toArray = ls at hl ⊢
  have hl : lv_has ls 2 [(0, .ref (a 0)), (1, .int x0)] := hl
  have hP : va_P D vwCl (CT cy a J (va_up I 10 (I 10)) O R RO (LL ++ Y)) s.heap := hP
  have hD : va_D A (CT cy a J (va_up I 10 (I 10)) O R RO (LL ++ Y)) := hD
  refine lv_aload_n hx hb dX9_finding_0 rfl (lv_at hl 0 rfl) ?_
  refine lv_dup hx hb dX9_finding_1 rfl ?_
  refine va_get (D := D) (ci := 8) (v := .int (I 10)) (C := RX9) (T := TX9) (N := 11) hx hb hts hi9 hown hK hP 0 rfl rfl 10 (by decide) hw0 (fun _ h9 => h9) rfl dX9_finding_2 ?_
  refine lv_iconst (v := 1) hx hb dX9_finding_5 (by decide) ?_
  refine lv_iadd hx hb dX9_finding_6 ?_
  refine va_put (D := D) (ci := 8) (v := .int ((I 10) + 1)) (ty := .int) (C := RX9) (T := TX9) (N := 11) hx hb hts hi9 tyX9 tyX9_ok nmX9 hown hK hP hD hS 0 rfl rfl 10 (by decide) hw0 (fun _ h9 => h9) rfl (by decide +kernel) rfl rfl (Nat.le_of_ble_eq_true rfl) dX9_finding_7 (fun H locs hP hD hS => ?_)
  have hP : va_P D vwCl (CT cy a J (va_up I 10 ((I 10) + 1)) O R RO (LL ++ Y)) H := hP
  have hD : va_D A (CT cy a J (va_up I 10 ((I 10) + 1)) O R RO (LL ++ Y)) := hD
  refine lv_iload_n hx hb dX9_finding_10 rfl (lv_at hl 1 rfl) ?_
  exact wret_i hx hb hr hlocks (J, (va_up I 10 ((I 10) + 1)), O, R, RO, LL, Y) ⟨((I 10) + 1), rfl, rfl⟩ hP hD hS dX9_finding_11
def g_under (k ab : Int32) : Bool := decide (ab = 0) || (decide (k = ab) || (decide (ab = 1) && decide (k = 2)))
def g_holdsAt (set : Int64) (x y : Int32) : Bool := !decide (x < 0) && (decide (x < 8) && (!decide (y < 0) && (decide (y < 8) && g_holds set (8 * y + x))))
theorem dX9_isUnder_0 : decode cX9_isUnder 0 = .ok (.iload_n 1, 1) := by decide +kernel
theorem dX9_isUnder_1 : decode cX9_isUnder 1 = .ok (.ifCond .eq 18, 3) := by decide +kernel
theorem dX9_isUnder_19 : decode cX9_isUnder 19 = .ok (.iconst 1, 1) := by decide +kernel
theorem dX9_isUnder_20 : decode cX9_isUnder 20 = .ok (.goto 4, 3) := by decide +kernel
theorem dX9_isUnder_24 : decode cX9_isUnder 24 = .ok (.ireturn, 1) := by decide +kernel
theorem dX9_isUnder_4 : decode cX9_isUnder 4 = .ok (.iload_n 0, 1) := by decide +kernel
theorem dX9_isUnder_5 : decode cX9_isUnder 5 = .ok (.iload_n 1, 1) := by decide +kernel
theorem dX9_isUnder_6 : decode cX9_isUnder 6 = .ok (.if_icmp .eq 13, 3) := by decide +kernel
theorem dX9_isUnder_9 : decode cX9_isUnder 9 = .ok (.iload_n 1, 1) := by decide +kernel
theorem dX9_isUnder_10 : decode cX9_isUnder 10 = .ok (.iconst 1, 1) := by decide +kernel
theorem dX9_isUnder_11 : decode cX9_isUnder 11 = .ok (.if_icmp .ne 12, 3) := by decide +kernel
theorem dX9_isUnder_23 : decode cX9_isUnder 23 = .ok (.iconst 0, 1) := by decide +kernel
theorem dX9_isUnder_14 : decode cX9_isUnder 14 = .ok (.iload_n 0, 1) := by decide +kernel
theorem dX9_isUnder_15 : decode cX9_isUnder 15 = .ok (.iconst 2, 1) := by decide +kernel
theorem dX9_isUnder_16 : decode cX9_isUnder 16 = .ok (.if_icmp .ne 7, 3) := by decide +kernel
set_option maxHeartbeats 4000000 in
set_option maxRecDepth 100000 in
theorem c_X9_isUnder (l : Launch) (x0 : Int32) (x1 : Int32) : Met l yX9_isUnder wsX9_isUnder ({ frames := 0, cells := 0, slots := 0, locals := 0 }) (va_Pc [.int x0, .int x1] (fun _ => True)) (vp_Si (fun r => r = bI (g_under x0 x1))) 0 0 (fun _ => False) := by
  refine Met.ofW (cc := cX9_isUnder) (maxL := 2) (ret := (some .boolean)) (by decide) rfl ?_
  intro p e s m args below meth c s₁ B hml hv
  obtain ⟨rfl, -⟩ := hv
  have hx := B.exec
  have hb := B.bytes
  have hr := B.returns
  have hts := atoms_spec (ws := wsX9_isUnder) B.pre
  have hown : s.vm.findClass RX9 = some m.cls := findClass_of_methodNamed B.named
  have hlocks := B.notSynchronized
  have hl := lv_entry ([.int x0, .int x1]) (n := 2) (Nat.le_of_ble_eq_true rfl)
  rw [lg_entry_eq]
  generalize (lg_sl ([.int x0, .int x1]) ++ List.replicate (2 - (lg_sl ([.int x0, .int x1])).length) Slot.unset).toArray = ls at hl ⊢
  have hl : lv_has ls 2 [(0, .int x0), (1, .int x1)] := hl
  refine lv_iload_n hx hb dX9_isUnder_0 rfl (lv_at hl 1 rfl) ?_
  refine lv_if_eq (tgt := 19) hx hb dX9_isUnder_1 (by decide) (fun c_1 => ?_) (fun c_1 => ?_)
  · refine lv_iconst (v := 1) hx hb dX9_isUnder_19 (by decide) ?_
    refine lv_goto (tgt := 24) hx hb dX9_isUnder_20 (by decide) ?_
    exact pret_z hx hb hr hlocks (by simp_all [bI, g_under]) dX9_isUnder_24
  · refine lv_iload_n hx hb dX9_isUnder_4 rfl (lv_at hl 0 rfl) ?_
    refine lv_iload_n hx hb dX9_isUnder_5 rfl (lv_at hl 1 rfl) ?_
    refine lv_icmp_eq (tgt := 19) hx hb dX9_isUnder_6 (by decide) (fun c_2 => ?_) (fun c_2 => ?_)
    · refine lv_iconst (v := 1) hx hb dX9_isUnder_19 (by decide) ?_
      refine lv_goto (tgt := 24) hx hb dX9_isUnder_20 (by decide) ?_
      exact pret_z hx hb hr hlocks (by simp_all [bI, g_under]) dX9_isUnder_24
    · refine lv_iload_n hx hb dX9_isUnder_9 rfl (lv_at hl 1 rfl) ?_
      refine lv_iconst (v := 1) hx hb dX9_isUnder_10 (by decide) ?_
      refine lv_icmp_ne (tgt := 23) hx hb dX9_isUnder_11 (by decide) (fun c_3 => ?_) (fun c_3 => ?_)
      · refine lv_iconst (v := 0) hx hb dX9_isUnder_23 (by decide) ?_
        exact pret_z hx hb hr hlocks (by simp_all [bI, g_under]) dX9_isUnder_24
      · refine lv_iload_n hx hb dX9_isUnder_14 rfl (lv_at hl 0 rfl) ?_
        refine lv_iconst (v := 2) hx hb dX9_isUnder_15 (by decide) ?_
        refine lv_icmp_ne (tgt := 23) hx hb dX9_isUnder_16 (by decide) (fun c_4 => ?_) (fun c_4 => ?_)
        · refine lv_iconst (v := 0) hx hb dX9_isUnder_23 (by decide) ?_
          exact pret_z hx hb hr hlocks (by simp_all [bI, g_under]) dX9_isUnder_24
        · refine lv_iconst (v := 1) hx hb dX9_isUnder_19 (by decide) ?_
          refine lv_goto (tgt := 24) hx hb dX9_isUnder_20 (by decide) ?_
          exact pret_z hx hb hr hlocks (by simp_all [bI, g_under]) dX9_isUnder_24
theorem dX1_holdsAt_0 : decode cX1_holdsAt 0 = .ok (.iload_n 2, 1) := by decide +kernel
theorem dX1_holdsAt_1 : decode cX1_holdsAt 1 = .ok (.ifCond .lt 36, 3) := by decide +kernel
theorem dX1_holdsAt_37 : decode cX1_holdsAt 37 = .ok (.iconst 0, 1) := by decide +kernel
theorem dX1_holdsAt_38 : decode cX1_holdsAt 38 = .ok (.ireturn, 1) := by decide +kernel
theorem dX1_holdsAt_4 : decode cX1_holdsAt 4 = .ok (.iload_n 2, 1) := by decide +kernel
theorem dX1_holdsAt_5 : decode cX1_holdsAt 5 = .ok (.bipush 8, 2) := by decide +kernel
theorem dX1_holdsAt_7 : decode cX1_holdsAt 7 = .ok (.if_icmp .ge 30, 3) := by decide +kernel
theorem dX1_holdsAt_10 : decode cX1_holdsAt 10 = .ok (.iload_n 3, 1) := by decide +kernel
theorem dX1_holdsAt_11 : decode cX1_holdsAt 11 = .ok (.ifCond .lt 26, 3) := by decide +kernel
theorem dX1_holdsAt_14 : decode cX1_holdsAt 14 = .ok (.iload_n 3, 1) := by decide +kernel
theorem dX1_holdsAt_15 : decode cX1_holdsAt 15 = .ok (.bipush 8, 2) := by decide +kernel
theorem dX1_holdsAt_17 : decode cX1_holdsAt 17 = .ok (.if_icmp .ge 20, 3) := by decide +kernel
theorem dX1_holdsAt_20 : decode cX1_holdsAt 20 = .ok (.lload_n 0, 1) := by decide +kernel
theorem dX1_holdsAt_21 : decode cX1_holdsAt 21 = .ok (.bipush 8, 2) := by decide +kernel
theorem dX1_holdsAt_23 : decode cX1_holdsAt 23 = .ok (.iload_n 3, 1) := by decide +kernel
theorem dX1_holdsAt_24 : decode cX1_holdsAt 24 = .ok (.imul, 1) := by decide +kernel
theorem dX1_holdsAt_25 : decode cX1_holdsAt 25 = .ok (.iload_n 2, 1) := by decide +kernel
theorem dX1_holdsAt_26 : decode cX1_holdsAt 26 = .ok (.iadd, 1) := by decide +kernel
set_option maxRecDepth 20000 in
theorem ggX1_holdsAt_X1_holds : GoodIn wsX1_holdsAt wsX1_holds := goodIn_r _ [4] rfl (by decide +kernel)
set_option maxRecDepth 20000 in
theorem gX1_holdsAt_X1_holds : GoodIn wsX1_holdsAt (va_wsS RX1 7 yX1_holds wsX1_holds) := goodIn_app (goodIn_r _ [1, 2, 3] rfl (by decide +kernel)) ggX1_holdsAt_X1_holds
theorem dX1_holdsAt_27 : decode cX1_holdsAt 27 = .ok (.invokestatic 7, 3) := by decide +kernel
theorem dX1_holdsAt_30 : decode cX1_holdsAt 30 = .ok (.ifCond .eq 7, 3) := by decide +kernel
theorem dX1_holdsAt_33 : decode cX1_holdsAt 33 = .ok (.iconst 1, 1) := by decide +kernel
theorem dX1_holdsAt_34 : decode cX1_holdsAt 34 = .ok (.goto 4, 3) := by decide +kernel
set_option maxHeartbeats 4000000 in
set_option maxRecDepth 100000 in
theorem c_X1_holdsAt (l : Launch) (x0 : Int64) (x1 : Int32) (x2 : Int32) : Met l yX1_holdsAt wsX1_holdsAt ({ frames := 1, cells := 0, slots := 0, locals := 22 }) (va_Pc [.long x0, .int x1, .int x2] (fun _ => True)) (vp_Si (fun r => r = bI (g_holdsAt x0 x1 x2))) 0 0 (fun _ => False) := by
  refine Met.ofW (cc := cX1_holdsAt) (maxL := 4) (ret := (some .boolean)) (by decide) rfl ?_
  intro p e s m args below meth c s₁ B hml hv
  obtain ⟨rfl, -⟩ := hv
  have hx := B.exec
  have hb := B.bytes
  have hr := B.returns
  have hts := atoms_spec (ws := wsX1_holdsAt) B.pre
  have hown : s.vm.findClass RX1 = some m.cls := findClass_of_methodNamed B.named
  have hlocks := B.notSynchronized
  have hl := lv_entry ([.long x0, .int x1, .int x2]) (n := 4) (Nat.le_of_ble_eq_true rfl)
  rw [lg_entry_eq]
  generalize (lg_sl ([.long x0, .int x1, .int x2]) ++ List.replicate (4 - (lg_sl ([.long x0, .int x1, .int x2])).length) Slot.unset).toArray = ls at hl ⊢
  have hl : lv_has ls 4 [(0, .long x0), (2, .int x1), (3, .int x2)] := hl
  refine lv_iload_n hx hb dX1_holdsAt_0 rfl (lv_at hl 1 rfl) ?_
  refine lv_if_lt (tgt := 37) hx hb dX1_holdsAt_1 (by decide) (fun c_1 => ?_) (fun c_1 => ?_)
  · refine lv_iconst (v := 0) hx hb dX1_holdsAt_37 (by decide) ?_
    exact pret_z hx hb hr hlocks (by simp_all [bI, i32_nlt, i32_lt, g_holdsAt]) dX1_holdsAt_38
  · refine lv_iload_n hx hb dX1_holdsAt_4 rfl (lv_at hl 1 rfl) ?_
    refine lv_bipush (v := 8) hx hb dX1_holdsAt_5 (by decide) ?_
    refine lv_icmp_ge (tgt := 37) hx hb dX1_holdsAt_7 (by decide) (fun c_2 => ?_) (fun c_2 => ?_)
    · refine lv_iconst (v := 0) hx hb dX1_holdsAt_37 (by decide) ?_
      exact pret_z hx hb hr hlocks (by simp_all [bI, i32_nlt, i32_lt, g_holdsAt]) dX1_holdsAt_38
    · refine lv_iload_n hx hb dX1_holdsAt_10 rfl (lv_at hl 2 rfl) ?_
      refine lv_if_lt (tgt := 37) hx hb dX1_holdsAt_11 (by decide) (fun c_3 => ?_) (fun c_3 => ?_)
      · refine lv_iconst (v := 0) hx hb dX1_holdsAt_37 (by decide) ?_
        exact pret_z hx hb hr hlocks (by simp_all [bI, i32_nlt, i32_lt, g_holdsAt]) dX1_holdsAt_38
      · refine lv_iload_n hx hb dX1_holdsAt_14 rfl (lv_at hl 2 rfl) ?_
        refine lv_bipush (v := 8) hx hb dX1_holdsAt_15 (by decide) ?_
        refine lv_icmp_ge (tgt := 37) hx hb dX1_holdsAt_17 (by decide) (fun c_4 => ?_) (fun c_4 => ?_)
        · refine lv_iconst (v := 0) hx hb dX1_holdsAt_37 (by decide) ?_
          exact pret_z hx hb hr hlocks (by simp_all [bI, i32_nlt, i32_lt, g_holdsAt]) dX1_holdsAt_38
        · refine lv_lload_n hx hb dX1_holdsAt_20 rfl (lv_at hl 0 rfl) ?_
          refine lv_bipush (v := 8) hx hb dX1_holdsAt_21 (by decide) ?_
          refine lv_iload_n hx hb dX1_holdsAt_23 rfl (lv_at hl 2 rfl) ?_
          refine lv_imul hx hb dX1_holdsAt_24 ?_
          refine lv_iload_n hx hb dX1_holdsAt_25 rfl (lv_at hl 1 rfl) ?_
          refine lv_iadd hx hb dX1_holdsAt_26 ?_
          refine kS_i (As := [.long x0, .int ((8 * x2) + x1)]) (rest := []) ⟨hx, hb, hml, hown, hts⟩ (c_X1_holds l x0 ((8 * x2) + x1)) (va_cwS 2 hts gX1_holdsAt_X1_holds rfl rfl rfl (by decide +kernel) ⟨Nat.le_of_ble_eq_true rfl, Nat.le_of_ble_eq_true rfl⟩) rfl hl.1 rfl (Nat.le_of_ble_eq_true rfl) dX1_holdsAt_27 ⟨Nat.le_of_ble_eq_true rfl, Nat.le_of_ble_eq_true rfl⟩ ?_
          refine lv_if_eq (tgt := 37) hx hb dX1_holdsAt_30 (by decide) (fun c_5 => ?_) (fun c_5 => ?_)
          · replace c_5 := bI_f c_5
            refine lv_iconst (v := 0) hx hb dX1_holdsAt_37 (by decide) ?_
            exact pret_z hx hb hr hlocks (by simp_all [bI, i32_nlt, i32_lt, g_holdsAt]) dX1_holdsAt_38
          · replace c_5 := bI_t c_5
            refine lv_iconst (v := 1) hx hb dX1_holdsAt_33 (by decide) ?_
            refine lv_goto (tgt := 38) hx hb dX1_holdsAt_34 (by decide) ?_
            exact pret_z hx hb hr hlocks (by simp_all [bI, i32_nlt, i32_lt, g_holdsAt]) dX1_holdsAt_38
theorem dX2_pointOf_0 : decode cX2_pointOf 0 = .ok (.bipush 9, 2) := by decide +kernel
theorem dX2_pointOf_2 : decode cX2_pointOf 2 = .ok (.iload_n 1, 1) := by decide +kernel
theorem dX2_pointOf_3 : decode cX2_pointOf 3 = .ok (.imul, 1) := by decide +kernel
theorem dX2_pointOf_4 : decode cX2_pointOf 4 = .ok (.iload_n 0, 1) := by decide +kernel
theorem dX2_pointOf_5 : decode cX2_pointOf 5 = .ok (.iadd, 1) := by decide +kernel
theorem dX2_pointOf_6 : decode cX2_pointOf 6 = .ok (.ireturn, 1) := by decide +kernel
set_option maxHeartbeats 4000000 in
set_option maxRecDepth 100000 in
theorem c_X2_pointOf (l : Launch) (x0 : Int32) (x1 : Int32) : Met l yX2_pointOf wsX2_pointOf ({ frames := 0, cells := 0, slots := 0, locals := 0 }) (va_Pc [.int x0, .int x1] (fun _ => True)) (vp_Si (fun r => r = 9 * x1 + x0)) 0 0 (fun _ => False) := by
  refine Met.ofW (cc := cX2_pointOf) (maxL := 2) (ret := (some .int)) (by decide) rfl ?_
  intro p e s m args below meth c s₁ B hml hv
  obtain ⟨rfl, -⟩ := hv
  have hx := B.exec
  have hb := B.bytes
  have hr := B.returns
  have hts := atoms_spec (ws := wsX2_pointOf) B.pre
  have hown : s.vm.findClass RX2 = some m.cls := findClass_of_methodNamed B.named
  have hlocks := B.notSynchronized
  have hl := lv_entry ([.int x0, .int x1]) (n := 2) (Nat.le_of_ble_eq_true rfl)
  rw [lg_entry_eq]
  generalize (lg_sl ([.int x0, .int x1]) ++ List.replicate (2 - (lg_sl ([.int x0, .int x1])).length) Slot.unset).toArray = ls at hl ⊢
  have hl : lv_has ls 2 [(0, .int x0), (1, .int x1)] := hl
  refine lv_bipush (v := 9) hx hb dX2_pointOf_0 (by decide) ?_
  refine lv_iload_n hx hb dX2_pointOf_2 rfl (lv_at hl 1 rfl) ?_
  refine lv_imul hx hb dX2_pointOf_3 ?_
  refine lv_iload_n hx hb dX2_pointOf_4 rfl (lv_at hl 0 rfl) ?_
  refine lv_iadd hx hb dX2_pointOf_5 ?_
  exact pret_i hx hb hr hlocks rfl dX2_pointOf_6
theorem dX2_pointAmid_0 : decode cX2_pointAmid 0 = .ok (.iload_n 0, 1) := by decide +kernel
theorem dX2_pointAmid_1 : decode cX2_pointAmid 1 = .ok (.bipush 8, 2) := by decide +kernel
theorem dX2_pointAmid_3 : decode cX2_pointAmid 3 = .ok (.irem, 1) := by decide +kernel
theorem dX2_pointAmid_4 : decode cX2_pointAmid 4 = .ok (.iconst 1, 1) := by decide +kernel
theorem dX2_pointAmid_5 : decode cX2_pointAmid 5 = .ok (.iadd, 1) := by decide +kernel
theorem dX2_pointAmid_6 : decode cX2_pointAmid 6 = .ok (.iload_n 0, 1) := by decide +kernel
theorem dX2_pointAmid_7 : decode cX2_pointAmid 7 = .ok (.bipush 8, 2) := by decide +kernel
theorem dX2_pointAmid_9 : decode cX2_pointAmid 9 = .ok (.idiv, 1) := by decide +kernel
theorem dX2_pointAmid_10 : decode cX2_pointAmid 10 = .ok (.iconst 1, 1) := by decide +kernel
theorem dX2_pointAmid_11 : decode cX2_pointAmid 11 = .ok (.iadd, 1) := by decide +kernel
set_option maxRecDepth 20000 in
theorem ggX2_pointAmid_X2_pointOf : GoodIn wsX2_pointAmid wsX2_pointOf := goodIn_r _ [4] rfl (by decide +kernel)
set_option maxRecDepth 20000 in
theorem gX2_pointAmid_X2_pointOf : GoodIn wsX2_pointAmid (va_wsS RX2 22 yX2_pointOf wsX2_pointOf) := goodIn_app (goodIn_r _ [1, 2, 3] rfl (by decide +kernel)) ggX2_pointAmid_X2_pointOf
theorem dX2_pointAmid_12 : decode cX2_pointAmid 12 = .ok (.invokestatic 22, 3) := by decide +kernel
theorem dX2_pointAmid_15 : decode cX2_pointAmid 15 = .ok (.ireturn, 1) := by decide +kernel
set_option maxHeartbeats 4000000 in
set_option maxRecDepth 100000 in
theorem c_X2_pointAmid (l : Launch) (x0 : Int32) : Met l yX2_pointAmid wsX2_pointAmid ({ frames := 1, cells := 0, slots := 0, locals := 21 }) (va_Pc [.int x0] (fun _ => True)) (vp_Si (fun r => r = 9 * (x0 / 8 + 1) + (x0 - x0 / 8 * 8 + 1))) 0 0 (fun _ => False) := by
  refine Met.ofW (cc := cX2_pointAmid) (maxL := 1) (ret := (some .int)) (by decide) rfl ?_
  intro p e s m args below meth c s₁ B hml hv
  obtain ⟨rfl, -⟩ := hv
  have hx := B.exec
  have hb := B.bytes
  have hr := B.returns
  have hts := atoms_spec (ws := wsX2_pointAmid) B.pre
  have hown : s.vm.findClass RX2 = some m.cls := findClass_of_methodNamed B.named
  have hlocks := B.notSynchronized
  have hl := lv_entry ([.int x0]) (n := 1) (Nat.le_of_ble_eq_true rfl)
  rw [lg_entry_eq]
  generalize (lg_sl ([.int x0]) ++ List.replicate (1 - (lg_sl ([.int x0])).length) Slot.unset).toArray = ls at hl ⊢
  have hl : lv_has ls 1 [(0, .int x0)] := hl
  refine lv_iload_n hx hb dX2_pointAmid_0 rfl (lv_at hl 0 rfl) ?_
  refine lv_bipush (v := 8) hx hb dX2_pointAmid_1 (by decide) ?_
  refine lv_irem hx hb dX2_pointAmid_3 (by decide) ?_
  refine lv_iconst (v := 1) hx hb dX2_pointAmid_4 (by decide) ?_
  refine lv_iadd hx hb dX2_pointAmid_5 ?_
  refine lv_iload_n hx hb dX2_pointAmid_6 rfl (lv_at hl 0 rfl) ?_
  refine lv_bipush (v := 8) hx hb dX2_pointAmid_7 (by decide) ?_
  refine lv_idiv hx hb dX2_pointAmid_9 (by decide) ?_
  refine lv_iconst (v := 1) hx hb dX2_pointAmid_10 (by decide) ?_
  refine lv_iadd hx hb dX2_pointAmid_11 ?_
  refine kS_i (As := [.int ((x0 - x0 / 8 * 8) + 1), .int ((x0 / 8) + 1)]) (rest := []) ⟨hx, hb, hml, hown, hts⟩ (c_X2_pointOf l ((x0 - x0 / 8 * 8) + 1) ((x0 / 8) + 1)) (va_cwS 2 hts gX2_pointAmid_X2_pointOf rfl rfl rfl (by decide +kernel) ⟨Nat.le_of_ble_eq_true rfl, Nat.le_of_ble_eq_true rfl⟩) rfl hl.1 rfl (Nat.le_of_ble_eq_true rfl) dX2_pointAmid_12 ⟨Nat.le_of_ble_eq_true rfl, Nat.le_of_ble_eq_true rfl⟩ ?_
  exact pret_i hx hb hr hlocks rfl dX2_pointAmid_15
theorem dX1_beside_0 : decode cX1_beside 0 = .ok (.lload_n 0, 1) := by decide +kernel
theorem dX1_beside_1 : decode cX1_beside 1 = .ok (.ldc2_w 13, 3) := by decide +kernel
theorem dX1_beside_4 : decode cX1_beside 4 = .ok (.land, 1) := by decide +kernel
theorem dX1_beside_5 : decode cX1_beside 5 = .ok (.iconst 1, 1) := by decide +kernel
theorem dX1_beside_6 : decode cX1_beside 6 = .ok (.lshl, 1) := by decide +kernel
theorem dX1_beside_7 : decode cX1_beside 7 = .ok (.lload_n 0, 1) := by decide +kernel
theorem dX1_beside_8 : decode cX1_beside 8 = .ok (.ldc2_w 15, 3) := by decide +kernel
theorem dX1_beside_11 : decode cX1_beside 11 = .ok (.land, 1) := by decide +kernel
theorem dX1_beside_12 : decode cX1_beside 12 = .ok (.iconst 1, 1) := by decide +kernel
theorem dX1_beside_13 : decode cX1_beside 13 = .ok (.lushr, 1) := by decide +kernel
theorem dX1_beside_14 : decode cX1_beside 14 = .ok (.lor, 1) := by decide +kernel
theorem dX1_beside_15 : decode cX1_beside 15 = .ok (.lload_n 0, 1) := by decide +kernel
theorem dX1_beside_16 : decode cX1_beside 16 = .ok (.bipush 8, 2) := by decide +kernel
theorem dX1_beside_18 : decode cX1_beside 18 = .ok (.lshl, 1) := by decide +kernel
theorem dX1_beside_19 : decode cX1_beside 19 = .ok (.lor, 1) := by decide +kernel
theorem dX1_beside_20 : decode cX1_beside 20 = .ok (.lload_n 0, 1) := by decide +kernel
theorem dX1_beside_21 : decode cX1_beside 21 = .ok (.bipush 8, 2) := by decide +kernel
theorem dX1_beside_23 : decode cX1_beside 23 = .ok (.lushr, 1) := by decide +kernel
theorem dX1_beside_24 : decode cX1_beside 24 = .ok (.lor, 1) := by decide +kernel
theorem dX1_beside_25 : decode cX1_beside 25 = .ok (.lreturn, 1) := by decide +kernel
set_option maxHeartbeats 4000000 in
set_option maxRecDepth 100000 in
theorem t_X1_beside (l : Launch) (x0 : Int64) : Met l yX1_beside wsX1_beside ({ frames := 0, cells := 0, slots := 0, locals := 0 }) (va_Pc [.long x0] (fun _ => True)) (vp_Sl (fun r => True)) 0 0 (fun _ => False) := by
  refine Met.ofW (cc := cX1_beside) (maxL := 2) (ret := (some .long)) (by decide) rfl ?_
  intro p e s m args below meth c s₁ B hml hv
  obtain ⟨rfl, -⟩ := hv
  have hx := B.exec
  have hb := B.bytes
  have hr := B.returns
  have hts := atoms_spec (ws := wsX1_beside) B.pre
  have hown : s.vm.findClass RX1 = some m.cls := findClass_of_methodNamed B.named
  have hlocks := B.notSynchronized
  have hw0 := hts (.constantLong RX1 13 (9187201950435737471)) (by decide +kernel)
  have hw1 := hts (.constantLong RX1 15 (-72340172838076674)) (by decide +kernel)
  have hl := lv_entry ([.long x0]) (n := 2) (Nat.le_of_ble_eq_true rfl)
  rw [lg_entry_eq]
  generalize (lg_sl ([.long x0]) ++ List.replicate (2 - (lg_sl ([.long x0])).length) Slot.unset).toArray = ls at hl ⊢
  have hl : lv_has ls 2 [(0, .long x0)] := hl
  refine lv_lload_n hx hb dX1_beside_0 rfl (lv_at hl 0 rfl) ?_
  refine lv_ldc2 (v := 9187201950435737471) hx hb hown hw0 dX1_beside_1 ?_
  refine lv_land hx hb dX1_beside_4 ?_
  refine lv_iconst (v := 1) hx hb dX1_beside_5 (by decide) ?_
  refine lv_lshl (v := (x0 &&& 9187201950435737471) <<< ((1 : Int32).toInt64 &&& 63)) hx hb dX1_beside_6 rfl ?_
  refine lv_lload_n hx hb dX1_beside_7 rfl (lv_at hl 0 rfl) ?_
  refine lv_ldc2 (v := (-72340172838076674)) hx hb hown hw1 dX1_beside_8 ?_
  refine lv_land hx hb dX1_beside_11 ?_
  refine lv_iconst (v := 1) hx hb dX1_beside_12 (by decide) ?_
  refine lv_lushr (v := ((x0 &&& (-72340172838076674)).toUInt64 >>> ((1 : Int32).toInt64.toUInt64 &&& Int64.toUInt64 63)).toInt64) hx hb dX1_beside_13 rfl ?_
  refine lv_lor hx hb dX1_beside_14 ?_
  refine lv_lload_n hx hb dX1_beside_15 rfl (lv_at hl 0 rfl) ?_
  refine lv_bipush (v := 8) hx hb dX1_beside_16 (by decide) ?_
  refine lv_lshl (v := x0 <<< ((8 : Int32).toInt64 &&& 63)) hx hb dX1_beside_18 rfl ?_
  refine lv_lor hx hb dX1_beside_19 ?_
  refine lv_lload_n hx hb dX1_beside_20 rfl (lv_at hl 0 rfl) ?_
  refine lv_bipush (v := 8) hx hb dX1_beside_21 (by decide) ?_
  refine lv_lushr (v := (x0.toUInt64 >>> ((8 : Int32).toInt64.toUInt64 &&& Int64.toUInt64 63)).toInt64) hx hb dX1_beside_23 rfl ?_
  refine lv_lor hx hb dX1_beside_24 ?_
  exact aret_l hx hb hr hlocks trivial dX1_beside_25
theorem dX1_hangingTogether_8 : decode cX1_hangingTogether 8 = .ok (.iload 6, 2) := by decide +kernel
theorem dX1_hangingTogether_10 : decode cX1_hangingTogether 10 = .ok (.bipush 64, 2) := by decide +kernel
theorem dX1_hangingTogether_12 : decode cX1_hangingTogether 12 = .ok (.if_icmp .ge 36, 3) := by decide +kernel
theorem dX1_hangingTogether_48 : decode cX1_hangingTogether 48 = .ok (.lload 4, 2) := by decide +kernel
theorem dX1_hangingTogether_50 : decode cX1_hangingTogether 50 = .ok (.lreturn, 1) := by decide +kernel
theorem dX1_hangingTogether_15 : decode cX1_hangingTogether 15 = .ok (.lload 4, 2) := by decide +kernel
theorem dX1_hangingTogether_17 : decode cX1_hangingTogether 17 = .ok (.lload 4, 2) := by decide +kernel
set_option maxRecDepth 20000 in
theorem ggX1_hangingTogether_X1_beside : GoodIn wsX1_hangingTogether wsX1_beside := goodIn_r _ [4, 5, 6] rfl (by decide +kernel)
set_option maxRecDepth 20000 in
theorem gX1_hangingTogether_X1_beside : GoodIn wsX1_hangingTogether (va_wsS RX1 17 yX1_beside wsX1_beside) := goodIn_app (goodIn_r _ [1, 2, 3] rfl (by decide +kernel)) ggX1_hangingTogether_X1_beside
theorem dX1_hangingTogether_19 : decode cX1_hangingTogether 19 = .ok (.invokestatic 17, 3) := by decide +kernel
theorem dX1_hangingTogether_22 : decode cX1_hangingTogether 22 = .ok (.lor, 1) := by decide +kernel
theorem dX1_hangingTogether_23 : decode cX1_hangingTogether 23 = .ok (.lload_n 2, 1) := by decide +kernel
theorem dX1_hangingTogether_24 : decode cX1_hangingTogether 24 = .ok (.land, 1) := by decide +kernel
theorem dX1_hangingTogether_25 : decode cX1_hangingTogether 25 = .ok (.lstore 7, 2) := by decide +kernel
theorem dX1_hangingTogether_27 : decode cX1_hangingTogether 27 = .ok (.lload 7, 2) := by decide +kernel
theorem dX1_hangingTogether_29 : decode cX1_hangingTogether 29 = .ok (.lload 4, 2) := by decide +kernel
theorem dX1_hangingTogether_31 : decode cX1_hangingTogether 31 = .ok (.lcmp, 1) := by decide +kernel
theorem dX1_hangingTogether_32 : decode cX1_hangingTogether 32 = .ok (.ifCond .ne 6, 3) := by decide +kernel
theorem dX1_hangingTogether_38 : decode cX1_hangingTogether 38 = .ok (.lload 7, 2) := by decide +kernel
theorem dX1_hangingTogether_40 : decode cX1_hangingTogether 40 = .ok (.lstore 4, 2) := by decide +kernel
theorem dX1_hangingTogether_42 : decode cX1_hangingTogether 42 = .ok (.iinc 6 1, 3) := by decide +kernel
theorem dX1_hangingTogether_45 : decode cX1_hangingTogether 45 = .ok (.goto (-37), 3) := by decide +kernel
theorem dX1_hangingTogether_35 : decode cX1_hangingTogether 35 = .ok (.goto 13, 3) := by decide +kernel
theorem dX1_hangingTogether_0 : decode cX1_hangingTogether 0 = .ok (.lload_n 0, 1) := by decide +kernel
theorem dX1_hangingTogether_1 : decode cX1_hangingTogether 1 = .ok (.lload_n 2, 1) := by decide +kernel
theorem dX1_hangingTogether_2 : decode cX1_hangingTogether 2 = .ok (.land, 1) := by decide +kernel
theorem dX1_hangingTogether_3 : decode cX1_hangingTogether 3 = .ok (.lstore 4, 2) := by decide +kernel
theorem dX1_hangingTogether_5 : decode cX1_hangingTogether 5 = .ok (.iconst 0, 1) := by decide +kernel
theorem dX1_hangingTogether_6 : decode cX1_hangingTogether 6 = .ok (.istore 6, 2) := by decide +kernel
set_option maxHeartbeats 4000000 in
set_option maxRecDepth 100000 in
theorem t_X1_hangingTogether (l : Launch) (x0 : Int64) (x1 : Int64) : Met l yX1_hangingTogether wsX1_hangingTogether ({ frames := 1, cells := 0, slots := 0, locals := 21 }) (va_Pc [.long x0, .long x1] (fun _ => True)) (vp_Sl (fun r => True)) 0 0 (fun _ => False) := by
  refine Met.ofW (cc := cX1_hangingTogether) (maxL := 9) (ret := (some .long)) (by decide) rfl ?_
  intro p e s m args below meth c s₁ B hml hv
  obtain ⟨rfl, -⟩ := hv
  have hx := B.exec
  have hb := B.bytes
  have hr := B.returns
  have hts := atoms_spec (ws := wsX1_hangingTogether) B.pre
  have hown : s.vm.findClass RX1 = some m.cls := findClass_of_methodNamed B.named
  have hlocks := B.notSynchronized
  have hl := lv_entry ([.long x0, .long x1]) (n := 9) (Nat.le_of_ble_eq_true rfl)
  rw [lg_entry_eq]
  generalize (lg_sl ([.long x0, .long x1]) ++ List.replicate (9 - (lg_sl ([.long x0, .long x1])).length) Slot.unset).toArray = ls at hl ⊢
  have hl : lv_has ls 9 [(0, .long x0), (2, .long x1)] := hl
  have lp : ∀ (n8 : Nat), ∀ (i : Nat) (v : Int64), (i ≤ 64) → (64 - i) < n8 → ∀ (ls : Array Slot), lv_has ls 9 [(0, .long x0), (2, .long x1), (4, .long v), (6, .int (nI i))] → W p l e (headSpec wsX1_hangingTogether ({ frames := 1, cells := 0, slots := 0, locals := 21 })).room s m ([.long x0, .long x1] : List Value).toArray below meth c s.heap [] 0 0 (MQ below (vp_Sl (fun r => True)) ([.long x0, .long x1] : List Value).toArray s 0 0 (fun _ => False)) (F0 m 8 ls []) := by
    intro n8
    induction n8 with
    | zero => intro i v hi hn; exact absurd hn (Nat.not_lt_zero _)
    | succ n8 ih8 =>
      intro i v hi hn8 ls hl
      refine lv_iload hx hb dX1_hangingTogether_8 (lv_at hl 3 rfl) ?_
      refine lv_bipush (v := 64) hx hb dX1_hangingTogether_10 (by decide) ?_
      refine lv_icmp_ge (tgt := 48) hx hb dX1_hangingTogether_12 (by decide) (fun c_1 => ?_) (fun c_1 => ?_)
      · refine lv_lload hx hb dX1_hangingTogether_48 (lv_at hl 2 rfl) ?_
        exact aret_l hx hb hr hlocks trivial dX1_hangingTogether_50
      · have hlt_i := ctr_lt (N := 64) (by decide) hi c_1
        refine lv_lload hx hb dX1_hangingTogether_15 (lv_at hl 2 rfl) ?_
        refine lv_lload hx hb dX1_hangingTogether_17 (lv_at hl 2 rfl) ?_
        refine kSa_l (As := [.long v]) (rest := [.long v]) ⟨hx, hb, hml, hown, hts⟩ (t_X1_beside l v ) (va_cwS 1 hts gX1_hangingTogether_X1_beside rfl rfl rfl (by decide +kernel) ⟨Nat.le_of_ble_eq_true rfl, Nat.le_of_ble_eq_true rfl⟩) rfl hl.1 rfl (Nat.le_of_ble_eq_true rfl) dX1_hangingTogether_19 ⟨Nat.le_of_ble_eq_true rfl, Nat.le_of_ble_eq_true rfl⟩ (fun r_2 hr_3 => ?_)
        refine lv_lor hx hb dX1_hangingTogether_22 ?_
        refine lv_lload_n hx hb dX1_hangingTogether_23 rfl (lv_at hl 1 rfl) ?_
        refine lv_land hx hb dX1_hangingTogether_24 ?_
        refine lv_lstore (lv' := [(7, .long ((v ||| r_2) &&& x1)), (0, .long x0), (2, .long x1), (4, .long v), (6, .int (nI i))]) hx hb dX1_hangingTogether_25 hl (by decide) rfl (fun ls hl => ?_)
        refine lv_lload hx hb dX1_hangingTogether_27 (lv_at hl 0 rfl) ?_
        refine lv_lload hx hb dX1_hangingTogether_29 (lv_at hl 3 rfl) ?_
        refine W.lcmp hx hb dX1_hangingTogether_31 ?_
        refine lv_if_ne (tgt := 38) hx hb dX1_hangingTogether_32 (by decide) (fun c_4 => ?_) (fun c_4 => ?_)
        · replace c_4 := fun z => c_4 ((lg_cmp_eq _ _).mpr z)
          refine lv_lload hx hb dX1_hangingTogether_38 (lv_at hl 0 rfl) ?_
          refine lv_lstore (lv' := [(4, .long ((v ||| r_2) &&& x1)), (7, .long ((v ||| r_2) &&& x1)), (0, .long x0), (2, .long x1), (6, .int (nI i))]) hx hb dX1_hangingTogether_40 hl (by decide) rfl (fun ls hl => ?_)
          refine lv_iinc (v := nI (i + 1)) (lv' := [(6, .int (nI (i + 1))), (4, .long ((v ||| r_2) &&& x1)), (7, .long ((v ||| r_2) &&& x1)), (0, .long x0), (2, .long x1)]) hx hb dX1_hangingTogether_42 hl (k := 4) rfl (nI_1 _) (by decide) rfl (fun ls hl => ?_)
          refine lv_goto (tgt := 8) hx hb dX1_hangingTogether_45 (by decide) ?_
          exact ih8 (i + 1) ((v ||| r_2) &&& x1) (by omega) (by omega) ls (lv_sub hl [3, 4, 1, 0] rfl)
        · replace c_4 := (lg_cmp_eq _ _).mp c_4
          refine lv_goto (tgt := 48) hx hb dX1_hangingTogether_35 (by decide) ?_
          refine lv_lload hx hb dX1_hangingTogether_48 (lv_at hl 3 rfl) ?_
          exact aret_l hx hb hr hlocks trivial dX1_hangingTogether_50
  refine lv_lload_n hx hb dX1_hangingTogether_0 rfl (lv_at hl 0 rfl) ?_
  refine lv_lload_n hx hb dX1_hangingTogether_1 rfl (lv_at hl 1 rfl) ?_
  refine lv_land hx hb dX1_hangingTogether_2 ?_
  refine lv_lstore (lv' := [(4, .long (x0 &&& x1)), (0, .long x0), (2, .long x1)]) hx hb dX1_hangingTogether_3 hl (by decide) rfl (fun ls hl => ?_)
  refine lv_iconst (v := 0) hx hb dX1_hangingTogether_5 (by decide) ?_
  refine lv_istore (lv' := [(6, .int 0), (4, .long (x0 &&& x1)), (0, .long x0), (2, .long x1)]) hx hb dX1_hangingTogether_6 hl (by decide) rfl (fun ls hl => ?_)
  exact lp _ 0 (x0 &&& x1) (by omega) (Nat.lt_succ_self _) ls (lv_sub hl [2, 3, 1, 0] rfl)
theorem dX1_pieces_7 : decode cX1_pieces 7 = .ok (.iload 5, 2) := by decide +kernel
theorem dX1_pieces_9 : decode cX1_pieces 9 = .ok (.bipush 64, 2) := by decide +kernel
theorem dX1_pieces_11 : decode cX1_pieces 11 = .ok (.if_icmp .ge 36, 3) := by decide +kernel
theorem dX1_pieces_47 : decode cX1_pieces 47 = .ok (.iload_n 2, 1) := by decide +kernel
theorem dX1_pieces_48 : decode cX1_pieces 48 = .ok (.ireturn, 1) := by decide +kernel
theorem dX1_pieces_14 : decode cX1_pieces 14 = .ok (.lload_n 3, 1) := by decide +kernel
theorem dX1_pieces_15 : decode cX1_pieces 15 = .ok (.iload 5, 2) := by decide +kernel
set_option maxRecDepth 20000 in
theorem ggX1_pieces_X1_holds : GoodIn wsX1_pieces wsX1_holds := goodIn_r _ [5] rfl (by decide +kernel)
set_option maxRecDepth 20000 in
theorem gX1_pieces_X1_holds : GoodIn wsX1_pieces (va_wsS RX1 7 yX1_holds wsX1_holds) := goodIn_app (goodIn_r _ [2, 3, 4] rfl (by decide +kernel)) ggX1_pieces_X1_holds
theorem dX1_pieces_17 : decode cX1_pieces 17 = .ok (.invokestatic 7, 3) := by decide +kernel
theorem dX1_pieces_20 : decode cX1_pieces 20 = .ok (.ifCond .eq 21, 3) := by decide +kernel
theorem dX1_pieces_41 : decode cX1_pieces 41 = .ok (.iinc 5 1, 3) := by decide +kernel
theorem dX1_pieces_44 : decode cX1_pieces 44 = .ok (.goto (-37), 3) := by decide +kernel
theorem dX1_pieces_23 : decode cX1_pieces 23 = .ok (.lload_n 3, 1) := by decide +kernel
theorem dX1_pieces_24 : decode cX1_pieces 24 = .ok (.lconst 1, 1) := by decide +kernel
theorem dX1_pieces_25 : decode cX1_pieces 25 = .ok (.iload 5, 2) := by decide +kernel
theorem dX1_pieces_27 : decode cX1_pieces 27 = .ok (.lshl, 1) := by decide +kernel
theorem dX1_pieces_28 : decode cX1_pieces 28 = .ok (.lload_n 3, 1) := by decide +kernel
set_option maxRecDepth 20000 in
theorem ggX1_pieces_X1_hangingTogether : GoodIn wsX1_pieces wsX1_hangingTogether := goodIn_r _ [8, 9, 10, 4, 11, 12, 13] rfl (by decide +kernel)
set_option maxRecDepth 20000 in
theorem gX1_pieces_X1_hangingTogether : GoodIn wsX1_pieces (va_wsS RX1 21 yX1_hangingTogether wsX1_hangingTogether) := goodIn_app (goodIn_r _ [6, 7, 4] rfl (by decide +kernel)) ggX1_pieces_X1_hangingTogether
theorem dX1_pieces_29 : decode cX1_pieces 29 = .ok (.invokestatic 21, 3) := by decide +kernel
theorem dX1_pieces_32 : decode cX1_pieces 32 = .ok (.ldc2_w 25, 3) := by decide +kernel
theorem dX1_pieces_35 : decode cX1_pieces 35 = .ok (.lxor, 1) := by decide +kernel
theorem dX1_pieces_36 : decode cX1_pieces 36 = .ok (.land, 1) := by decide +kernel
theorem dX1_pieces_37 : decode cX1_pieces 37 = .ok (.lstore_n 3, 1) := by decide +kernel
theorem dX1_pieces_38 : decode cX1_pieces 38 = .ok (.iinc 2 1, 3) := by decide +kernel
theorem dX1_pieces_0 : decode cX1_pieces 0 = .ok (.iconst 0, 1) := by decide +kernel
theorem dX1_pieces_1 : decode cX1_pieces 1 = .ok (.istore_n 2, 1) := by decide +kernel
theorem dX1_pieces_2 : decode cX1_pieces 2 = .ok (.lload_n 0, 1) := by decide +kernel
theorem dX1_pieces_3 : decode cX1_pieces 3 = .ok (.lstore_n 3, 1) := by decide +kernel
theorem dX1_pieces_4 : decode cX1_pieces 4 = .ok (.iconst 0, 1) := by decide +kernel
theorem dX1_pieces_5 : decode cX1_pieces 5 = .ok (.istore 5, 2) := by decide +kernel
set_option maxHeartbeats 4000000 in
set_option maxRecDepth 100000 in
theorem t_X1_pieces (l : Launch) (x0 : Int64) : Met l yX1_pieces wsX1_pieces ({ frames := 2, cells := 0, slots := 0, locals := 49 }) (va_Pc [.long x0] (fun _ => True)) (vp_Si (fun r => True)) 0 0 (fun _ => False) := by
  refine Met.ofW (cc := cX1_pieces) (maxL := 6) (ret := (some .int)) (by decide) rfl ?_
  intro p e s m args below meth c s₁ B hml hv
  obtain ⟨rfl, -⟩ := hv
  have hx := B.exec
  have hb := B.bytes
  have hr := B.returns
  have hts := atoms_spec (ws := wsX1_pieces) B.pre
  have hown : s.vm.findClass RX1 = some m.cls := findClass_of_methodNamed B.named
  have hlocks := B.notSynchronized
  have hw0 := hts (.constantLong RX1 25 (-1)) (by decide +kernel)
  have hl := lv_entry ([.long x0]) (n := 6) (Nat.le_of_ble_eq_true rfl)
  rw [lg_entry_eq]
  generalize (lg_sl ([.long x0]) ++ List.replicate (6 - (lg_sl ([.long x0])).length) Slot.unset).toArray = ls at hl ⊢
  have hl : lv_has ls 6 [(0, .long x0)] := hl
  have lp : ∀ (n7 : Nat), ∀ (i : Nat) (w : Int32) (v : Int64), (i ≤ 64) → (64 - i) < n7 → ∀ (ls : Array Slot), lv_has ls 6 [(0, .long x0), (2, .int w), (3, .long v), (5, .int (nI i))] → W p l e (headSpec wsX1_pieces ({ frames := 2, cells := 0, slots := 0, locals := 49 })).room s m ([.long x0] : List Value).toArray below meth c s.heap [] 0 0 (MQ below (vp_Si (fun r => True)) ([.long x0] : List Value).toArray s 0 0 (fun _ => False)) (F0 m 7 ls []) := by
    intro n7
    induction n7 with
    | zero => intro i w v hi hn; exact absurd hn (Nat.not_lt_zero _)
    | succ n7 ih7 =>
      intro i w v hi hn7 ls hl
      refine lv_iload hx hb dX1_pieces_7 (lv_at hl 3 rfl) ?_
      refine lv_bipush (v := 64) hx hb dX1_pieces_9 (by decide) ?_
      refine lv_icmp_ge (tgt := 47) hx hb dX1_pieces_11 (by decide) (fun c_1 => ?_) (fun c_1 => ?_)
      · refine lv_iload_n hx hb dX1_pieces_47 rfl (lv_at hl 1 rfl) ?_
        exact aret_i hx hb hr hlocks trivial dX1_pieces_48
      · have hlt_i := ctr_lt (N := 64) (by decide) hi c_1
        refine lv_lload_n hx hb dX1_pieces_14 rfl (lv_at hl 2 rfl) ?_
        refine lv_iload hx hb dX1_pieces_15 (lv_at hl 3 rfl) ?_
        refine kS_i (As := [.long v, .int (nI i)]) (rest := []) ⟨hx, hb, hml, hown, hts⟩ (c_X1_holds l v (nI i)) (va_cwS 2 hts gX1_pieces_X1_holds rfl rfl rfl (by decide +kernel) ⟨Nat.le_of_ble_eq_true rfl, Nat.le_of_ble_eq_true rfl⟩) rfl hl.1 rfl (Nat.le_of_ble_eq_true rfl) dX1_pieces_17 ⟨Nat.le_of_ble_eq_true rfl, Nat.le_of_ble_eq_true rfl⟩ ?_
        refine lv_if_eq (tgt := 41) hx hb dX1_pieces_20 (by decide) (fun c_2 => ?_) (fun c_2 => ?_)
        · replace c_2 := bI_f c_2
          refine lv_iinc (v := nI (i + 1)) (lv' := [(5, .int (nI (i + 1))), (0, .long x0), (2, .int w), (3, .long v)]) hx hb dX1_pieces_41 hl (k := 3) rfl (nI_1 _) (by decide) rfl (fun ls hl => ?_)
          refine lv_goto (tgt := 7) hx hb dX1_pieces_44 (by decide) ?_
          exact ih7 (i + 1) w v (by omega) (by omega) ls (lv_sub hl [1, 2, 3, 0] rfl)
        · replace c_2 := bI_t c_2
          refine lv_lload_n hx hb dX1_pieces_23 rfl (lv_at hl 2 rfl) ?_
          refine lv_lconst (v := 1) hx hb dX1_pieces_24 (by decide) ?_
          refine lv_iload hx hb dX1_pieces_25 (lv_at hl 3 rfl) ?_
          refine lv_lshl (v := (1 : Int64) <<< ((nI i : Int32).toInt64 &&& 63)) hx hb dX1_pieces_27 rfl ?_
          refine lv_lload_n hx hb dX1_pieces_28 rfl (lv_at hl 2 rfl) ?_
          refine kSa_l (As := [.long ((1 : Int64) <<< ((nI i : Int32).toInt64 &&& 63)), .long v]) (rest := [.long v]) ⟨hx, hb, hml, hown, hts⟩ (t_X1_hangingTogether l ((1 : Int64) <<< ((nI i : Int32).toInt64 &&& 63)) v ) (va_cwS 2 hts gX1_pieces_X1_hangingTogether rfl rfl rfl (by decide +kernel) ⟨Nat.le_of_ble_eq_true rfl, Nat.le_of_ble_eq_true rfl⟩) rfl hl.1 rfl (Nat.le_of_ble_eq_true rfl) dX1_pieces_29 ⟨Nat.le_of_ble_eq_true rfl, Nat.le_of_ble_eq_true rfl⟩ (fun r_3 hr_4 => ?_)
          refine lv_ldc2 (v := (-1)) hx hb hown hw0 dX1_pieces_32 ?_
          refine lv_lxor hx hb dX1_pieces_35 ?_
          refine lv_land hx hb dX1_pieces_36 ?_
          refine lv_lstore_n (lv' := [(3, .long (v &&& (r_3 ^^^ (-1)))), (0, .long x0), (2, .int w), (5, .int (nI i))]) hx hb dX1_pieces_37 rfl hl (by decide) rfl (fun ls hl => ?_)
          refine lv_iinc (v := w + 1) (lv' := [(2, .int (w + 1)), (3, .long (v &&& (r_3 ^^^ (-1)))), (0, .long x0), (5, .int (nI i))]) hx hb dX1_pieces_38 hl (k := 2) rfl rfl (by decide) rfl (fun ls hl => ?_)
          refine lv_iinc (v := nI (i + 1)) (lv' := [(5, .int (nI (i + 1))), (2, .int (w + 1)), (3, .long (v &&& (r_3 ^^^ (-1)))), (0, .long x0)]) hx hb dX1_pieces_41 hl (k := 3) rfl (nI_1 _) (by decide) rfl (fun ls hl => ?_)
          refine lv_goto (tgt := 7) hx hb dX1_pieces_44 (by decide) ?_
          exact ih7 (i + 1) (w + 1) (v &&& (r_3 ^^^ (-1))) (by omega) (by omega) ls (lv_sub hl [3, 1, 2, 0] rfl)
  refine lv_iconst (v := 0) hx hb dX1_pieces_0 (by decide) ?_
  refine lv_istore_n (lv' := [(2, .int 0), (0, .long x0)]) hx hb dX1_pieces_1 rfl hl (by decide) rfl (fun ls hl => ?_)
  refine lv_lload_n hx hb dX1_pieces_2 rfl (lv_at hl 1 rfl) ?_
  refine lv_lstore_n (lv' := [(3, .long x0), (2, .int 0), (0, .long x0)]) hx hb dX1_pieces_3 rfl hl (by decide) rfl (fun ls hl => ?_)
  refine lv_iconst (v := 0) hx hb dX1_pieces_4 (by decide) ?_
  refine lv_istore (lv' := [(5, .int 0), (3, .long x0), (2, .int 0), (0, .long x0)]) hx hb dX1_pieces_5 hl (by decide) rfl (fun ls hl => ?_)
  exact lp _ 0 0 x0 (by omega) (Nat.lt_succ_self _) ls (lv_sub hl [3, 2, 1, 0] rfl)
theorem dX1_isDisc_0 : decode cX1_isDisc 0 = .ok (.lload_n 0, 1) := by decide +kernel
set_option maxRecDepth 20000 in
theorem ggX1_isDisc_X1_pieces : GoodIn wsX1_isDisc wsX1_pieces := goodIn_r _ [6, 2, 7, 8, 5, 9, 10, 11, 12, 13, 14, 15, 16, 17] rfl (by decide +kernel)
set_option maxRecDepth 20000 in
theorem gX1_isDisc_X1_pieces : GoodIn wsX1_isDisc (va_wsS RX1 27 yX1_pieces wsX1_pieces) := goodIn_app (goodIn_r _ [3, 4, 5] rfl (by decide +kernel)) ggX1_isDisc_X1_pieces
theorem dX1_isDisc_1 : decode cX1_isDisc 1 = .ok (.invokestatic 27, 3) := by decide +kernel
theorem dX1_isDisc_4 : decode cX1_isDisc 4 = .ok (.iconst 1, 1) := by decide +kernel
theorem dX1_isDisc_5 : decode cX1_isDisc 5 = .ok (.if_icmp .ne 27, 3) := by decide +kernel
theorem dX1_isDisc_32 : decode cX1_isDisc 32 = .ok (.iconst 0, 1) := by decide +kernel
theorem dX1_isDisc_33 : decode cX1_isDisc 33 = .ok (.ireturn, 1) := by decide +kernel
theorem dX1_isDisc_8 : decode cX1_isDisc 8 = .ok (.ldc2_w 31, 3) := by decide +kernel
theorem dX1_isDisc_11 : decode cX1_isDisc 11 = .ok (.lload_n 0, 1) := by decide +kernel
theorem dX1_isDisc_12 : decode cX1_isDisc 12 = .ok (.ldc2_w 25, 3) := by decide +kernel
theorem dX1_isDisc_15 : decode cX1_isDisc 15 = .ok (.lxor, 1) := by decide +kernel
set_option maxRecDepth 20000 in
theorem ggX1_isDisc_X1_hangingTogether : GoodIn wsX1_isDisc wsX1_hangingTogether := goodIn_r _ [12, 13, 14, 5, 15, 16, 17] rfl (by decide +kernel)
set_option maxRecDepth 20000 in
theorem gX1_isDisc_X1_hangingTogether : GoodIn wsX1_isDisc (va_wsS RX1 21 yX1_hangingTogether wsX1_hangingTogether) := goodIn_app (goodIn_r _ [10, 11, 5] rfl (by decide +kernel)) ggX1_isDisc_X1_hangingTogether
theorem dX1_isDisc_16 : decode cX1_isDisc 16 = .ok (.invokestatic 21, 3) := by decide +kernel
theorem dX1_isDisc_19 : decode cX1_isDisc 19 = .ok (.lload_n 0, 1) := by decide +kernel
theorem dX1_isDisc_20 : decode cX1_isDisc 20 = .ok (.ldc2_w 25, 3) := by decide +kernel
theorem dX1_isDisc_23 : decode cX1_isDisc 23 = .ok (.lxor, 1) := by decide +kernel
theorem dX1_isDisc_24 : decode cX1_isDisc 24 = .ok (.lcmp, 1) := by decide +kernel
theorem dX1_isDisc_25 : decode cX1_isDisc 25 = .ok (.ifCond .ne 7, 3) := by decide +kernel
theorem dX1_isDisc_28 : decode cX1_isDisc 28 = .ok (.iconst 1, 1) := by decide +kernel
theorem dX1_isDisc_29 : decode cX1_isDisc 29 = .ok (.goto 4, 3) := by decide +kernel
set_option maxHeartbeats 4000000 in
set_option maxRecDepth 100000 in
theorem t_X1_isDisc (l : Launch) (x0 : Int64) : Met l yX1_isDisc wsX1_isDisc ({ frames := 3, cells := 0, slots := 0, locals := 74 }) (va_Pc [.long x0] (fun _ => True)) (vp_Si (fun r => ∃ b, r = bI b)) 0 0 (fun _ => False) := by
  refine Met.ofW (cc := cX1_isDisc) (maxL := 2) (ret := (some .boolean)) (by decide) rfl ?_
  intro p e s m args below meth c s₁ B hml hv
  obtain ⟨rfl, -⟩ := hv
  have hx := B.exec
  have hb := B.bytes
  have hr := B.returns
  have hts := atoms_spec (ws := wsX1_isDisc) B.pre
  have hown : s.vm.findClass RX1 = some m.cls := findClass_of_methodNamed B.named
  have hlocks := B.notSynchronized
  have hw0 := hts (.constantLong RX1 31 (-35604928818740737)) (by decide +kernel)
  have hw1 := hts (.constantLong RX1 25 (-1)) (by decide +kernel)
  have hl := lv_entry ([.long x0]) (n := 2) (Nat.le_of_ble_eq_true rfl)
  rw [lg_entry_eq]
  generalize (lg_sl ([.long x0]) ++ List.replicate (2 - (lg_sl ([.long x0])).length) Slot.unset).toArray = ls at hl ⊢
  have hl : lv_has ls 2 [(0, .long x0)] := hl
  refine lv_lload_n hx hb dX1_isDisc_0 rfl (lv_at hl 0 rfl) ?_
  refine kSa_i (As := [.long x0]) (rest := []) ⟨hx, hb, hml, hown, hts⟩ (t_X1_pieces l x0 ) (va_cwS 1 hts gX1_isDisc_X1_pieces rfl rfl rfl (by decide +kernel) ⟨Nat.le_of_ble_eq_true rfl, Nat.le_of_ble_eq_true rfl⟩) rfl hl.1 rfl (Nat.le_of_ble_eq_true rfl) dX1_isDisc_1 ⟨Nat.le_of_ble_eq_true rfl, Nat.le_of_ble_eq_true rfl⟩ (fun r_1 hr_2 => ?_)
  refine lv_iconst (v := 1) hx hb dX1_isDisc_4 (by decide) ?_
  refine lv_icmp_ne (tgt := 32) hx hb dX1_isDisc_5 (by decide) (fun c_3 => ?_) (fun c_3 => ?_)
  · refine lv_iconst (v := 0) hx hb dX1_isDisc_32 (by decide) ?_
    exact aret_z hx hb hr hlocks rfl ⟨false, rfl⟩ dX1_isDisc_33
  · refine lv_ldc2 (v := (-35604928818740737)) hx hb hown hw0 dX1_isDisc_8 ?_
    refine lv_lload_n hx hb dX1_isDisc_11 rfl (lv_at hl 0 rfl) ?_
    refine lv_ldc2 (v := (-1)) hx hb hown hw1 dX1_isDisc_12 ?_
    refine lv_lxor hx hb dX1_isDisc_15 ?_
    refine kSa_l (As := [.long (-35604928818740737), .long (x0 ^^^ (-1))]) (rest := []) ⟨hx, hb, hml, hown, hts⟩ (t_X1_hangingTogether l ((-35604928818740737) : Int64) (x0 ^^^ (-1)) ) (va_cwS 2 hts gX1_isDisc_X1_hangingTogether rfl rfl rfl (by decide +kernel) ⟨Nat.le_of_ble_eq_true rfl, Nat.le_of_ble_eq_true rfl⟩) rfl hl.1 rfl (Nat.le_of_ble_eq_true rfl) dX1_isDisc_16 ⟨Nat.le_of_ble_eq_true rfl, Nat.le_of_ble_eq_true rfl⟩ (fun r_4 hr_5 => ?_)
    refine lv_lload_n hx hb dX1_isDisc_19 rfl (lv_at hl 0 rfl) ?_
    refine lv_ldc2 (v := (-1)) hx hb hown hw1 dX1_isDisc_20 ?_
    refine lv_lxor hx hb dX1_isDisc_23 ?_
    refine W.lcmp hx hb dX1_isDisc_24 ?_
    refine lv_if_ne (tgt := 32) hx hb dX1_isDisc_25 (by decide) (fun c_6 => ?_) (fun c_6 => ?_)
    · replace c_6 := fun z => c_6 ((lg_cmp_eq _ _).mpr z)
      refine lv_iconst (v := 0) hx hb dX1_isDisc_32 (by decide) ?_
      exact aret_z hx hb hr hlocks rfl ⟨false, rfl⟩ dX1_isDisc_33
    · replace c_6 := (lg_cmp_eq _ _).mp c_6
      refine lv_iconst (v := 1) hx hb dX1_isDisc_28 (by decide) ?_
      refine lv_goto (tgt := 33) hx hb dX1_isDisc_29 (by decide) ?_
      exact aret_z hx hb hr hlocks rfl ⟨true, rfl⟩ dX1_isDisc_33
theorem dX1_touchesOutside_0 : decode cX1_touchesOutside 0 = .ok (.lload_n 0, 1) := by decide +kernel
theorem dX1_touchesOutside_1 : decode cX1_touchesOutside 1 = .ok (.ldc2_w 31, 3) := by decide +kernel
theorem dX1_touchesOutside_4 : decode cX1_touchesOutside 4 = .ok (.land, 1) := by decide +kernel
theorem dX1_touchesOutside_5 : decode cX1_touchesOutside 5 = .ok (.lconst 0, 1) := by decide +kernel
theorem dX1_touchesOutside_6 : decode cX1_touchesOutside 6 = .ok (.lcmp, 1) := by decide +kernel
theorem dX1_touchesOutside_7 : decode cX1_touchesOutside 7 = .ok (.ifCond .ne 18, 3) := by decide +kernel
theorem dX1_touchesOutside_25 : decode cX1_touchesOutside 25 = .ok (.iconst 1, 1) := by decide +kernel
theorem dX1_touchesOutside_26 : decode cX1_touchesOutside 26 = .ok (.goto 4, 3) := by decide +kernel
theorem dX1_touchesOutside_30 : decode cX1_touchesOutside 30 = .ok (.ireturn, 1) := by decide +kernel
theorem dX1_touchesOutside_10 : decode cX1_touchesOutside 10 = .ok (.lload_n 0, 1) := by decide +kernel
set_option maxRecDepth 20000 in
theorem ggX1_touchesOutside_X1_beside : GoodIn wsX1_touchesOutside wsX1_beside := goodIn_r _ [6, 7, 8] rfl (by decide +kernel)
set_option maxRecDepth 20000 in
theorem gX1_touchesOutside_X1_beside : GoodIn wsX1_touchesOutside (va_wsS RX1 17 yX1_beside wsX1_beside) := goodIn_app (goodIn_r _ [3, 4, 5] rfl (by decide +kernel)) ggX1_touchesOutside_X1_beside
theorem dX1_touchesOutside_11 : decode cX1_touchesOutside 11 = .ok (.invokestatic 17, 3) := by decide +kernel
theorem dX1_touchesOutside_14 : decode cX1_touchesOutside 14 = .ok (.lload_n 2, 1) := by decide +kernel
theorem dX1_touchesOutside_15 : decode cX1_touchesOutside 15 = .ok (.ldc2_w 25, 3) := by decide +kernel
theorem dX1_touchesOutside_18 : decode cX1_touchesOutside 18 = .ok (.lxor, 1) := by decide +kernel
theorem dX1_touchesOutside_19 : decode cX1_touchesOutside 19 = .ok (.land, 1) := by decide +kernel
theorem dX1_touchesOutside_20 : decode cX1_touchesOutside 20 = .ok (.lconst 0, 1) := by decide +kernel
theorem dX1_touchesOutside_21 : decode cX1_touchesOutside 21 = .ok (.lcmp, 1) := by decide +kernel
theorem dX1_touchesOutside_22 : decode cX1_touchesOutside 22 = .ok (.ifCond .eq 7, 3) := by decide +kernel
theorem dX1_touchesOutside_29 : decode cX1_touchesOutside 29 = .ok (.iconst 0, 1) := by decide +kernel
set_option maxHeartbeats 4000000 in
set_option maxRecDepth 100000 in
theorem t_X1_touchesOutside (l : Launch) (x0 : Int64) (x1 : Int64) : Met l yX1_touchesOutside wsX1_touchesOutside ({ frames := 1, cells := 0, slots := 0, locals := 21 }) (va_Pc [.long x0, .long x1] (fun _ => True)) (vp_Si (fun r => ∃ b, r = bI b)) 0 0 (fun _ => False) := by
  refine Met.ofW (cc := cX1_touchesOutside) (maxL := 4) (ret := (some .boolean)) (by decide) rfl ?_
  intro p e s m args below meth c s₁ B hml hv
  obtain ⟨rfl, -⟩ := hv
  have hx := B.exec
  have hb := B.bytes
  have hr := B.returns
  have hts := atoms_spec (ws := wsX1_touchesOutside) B.pre
  have hown : s.vm.findClass RX1 = some m.cls := findClass_of_methodNamed B.named
  have hlocks := B.notSynchronized
  have hw0 := hts (.constantLong RX1 31 (-35604928818740737)) (by decide +kernel)
  have hw1 := hts (.constantLong RX1 25 (-1)) (by decide +kernel)
  have hl := lv_entry ([.long x0, .long x1]) (n := 4) (Nat.le_of_ble_eq_true rfl)
  rw [lg_entry_eq]
  generalize (lg_sl ([.long x0, .long x1]) ++ List.replicate (4 - (lg_sl ([.long x0, .long x1])).length) Slot.unset).toArray = ls at hl ⊢
  have hl : lv_has ls 4 [(0, .long x0), (2, .long x1)] := hl
  refine lv_lload_n hx hb dX1_touchesOutside_0 rfl (lv_at hl 0 rfl) ?_
  refine lv_ldc2 (v := (-35604928818740737)) hx hb hown hw0 dX1_touchesOutside_1 ?_
  refine lv_land hx hb dX1_touchesOutside_4 ?_
  refine lv_lconst (v := 0) hx hb dX1_touchesOutside_5 (by decide) ?_
  refine W.lcmp hx hb dX1_touchesOutside_6 ?_
  refine lv_if_ne (tgt := 25) hx hb dX1_touchesOutside_7 (by decide) (fun c_1 => ?_) (fun c_1 => ?_)
  · replace c_1 := fun z => c_1 ((lg_cmp_eq _ _).mpr z)
    refine lv_iconst (v := 1) hx hb dX1_touchesOutside_25 (by decide) ?_
    refine lv_goto (tgt := 30) hx hb dX1_touchesOutside_26 (by decide) ?_
    exact aret_z hx hb hr hlocks rfl ⟨true, rfl⟩ dX1_touchesOutside_30
  · replace c_1 := (lg_cmp_eq _ _).mp c_1
    refine lv_lload_n hx hb dX1_touchesOutside_10 rfl (lv_at hl 0 rfl) ?_
    refine kSa_l (As := [.long x0]) (rest := []) ⟨hx, hb, hml, hown, hts⟩ (t_X1_beside l x0 ) (va_cwS 1 hts gX1_touchesOutside_X1_beside rfl rfl rfl (by decide +kernel) ⟨Nat.le_of_ble_eq_true rfl, Nat.le_of_ble_eq_true rfl⟩) rfl hl.1 rfl (Nat.le_of_ble_eq_true rfl) dX1_touchesOutside_11 ⟨Nat.le_of_ble_eq_true rfl, Nat.le_of_ble_eq_true rfl⟩ (fun r_2 hr_3 => ?_)
    refine lv_lload_n hx hb dX1_touchesOutside_14 rfl (lv_at hl 1 rfl) ?_
    refine lv_ldc2 (v := (-1)) hx hb hown hw1 dX1_touchesOutside_15 ?_
    refine lv_lxor hx hb dX1_touchesOutside_18 ?_
    refine lv_land hx hb dX1_touchesOutside_19 ?_
    refine lv_lconst (v := 0) hx hb dX1_touchesOutside_20 (by decide) ?_
    refine W.lcmp hx hb dX1_touchesOutside_21 ?_
    refine lv_if_eq (tgt := 29) hx hb dX1_touchesOutside_22 (by decide) (fun c_4 => ?_) (fun c_4 => ?_)
    · replace c_4 := (lg_cmp_eq _ _).mp c_4
      refine lv_iconst (v := 0) hx hb dX1_touchesOutside_29 (by decide) ?_
      exact aret_z hx hb hr hlocks rfl ⟨false, rfl⟩ dX1_touchesOutside_30
    · replace c_4 := fun z => c_4 ((lg_cmp_eq _ _).mpr z)
      refine lv_iconst (v := 1) hx hb dX1_touchesOutside_25 (by decide) ?_
      refine lv_goto (tgt := 30) hx hb dX1_touchesOutside_26 (by decide) ?_
      exact aret_z hx hb hr hlocks rfl ⟨true, rfl⟩ dX1_touchesOutside_30
theorem dX2_firstPoint_2 : decode cX2_firstPoint 2 = .ok (.iload_n 2, 1) := by decide +kernel
theorem dX2_firstPoint_3 : decode cX2_firstPoint 3 = .ok (.bipush 63, 2) := by decide +kernel
theorem dX2_firstPoint_5 : decode cX2_firstPoint 5 = .ok (.if_icmp .ge 17, 3) := by decide +kernel
theorem dX2_firstPoint_22 : decode cX2_firstPoint 22 = .ok (.iload_n 2, 1) := by decide +kernel
theorem dX2_firstPoint_23 : decode cX2_firstPoint 23 = .ok (.bipush 8, 2) := by decide +kernel
theorem dX2_firstPoint_25 : decode cX2_firstPoint 25 = .ok (.irem, 1) := by decide +kernel
theorem dX2_firstPoint_26 : decode cX2_firstPoint 26 = .ok (.iload_n 2, 1) := by decide +kernel
theorem dX2_firstPoint_27 : decode cX2_firstPoint 27 = .ok (.bipush 8, 2) := by decide +kernel
theorem dX2_firstPoint_29 : decode cX2_firstPoint 29 = .ok (.idiv, 1) := by decide +kernel
set_option maxRecDepth 20000 in
theorem ggX2_firstPoint_X2_pointOf : GoodIn wsX2_firstPoint wsX2_pointOf := goodIn_r _ [8] rfl (by decide +kernel)
set_option maxRecDepth 20000 in
theorem gX2_firstPoint_X2_pointOf : GoodIn wsX2_firstPoint (va_wsS RX2 22 yX2_pointOf wsX2_pointOf) := goodIn_app (goodIn_r _ [5, 6, 7] rfl (by decide +kernel)) ggX2_firstPoint_X2_pointOf
theorem dX2_firstPoint_30 : decode cX2_firstPoint 30 = .ok (.invokestatic 22, 3) := by decide +kernel
theorem dX2_firstPoint_33 : decode cX2_firstPoint 33 = .ok (.ireturn, 1) := by decide +kernel
theorem dX2_firstPoint_8 : decode cX2_firstPoint 8 = .ok (.lload_n 0, 1) := by decide +kernel
theorem dX2_firstPoint_9 : decode cX2_firstPoint 9 = .ok (.iload_n 2, 1) := by decide +kernel
set_option maxRecDepth 20000 in
theorem ggX2_firstPoint_X1_holds : GoodIn wsX2_firstPoint wsX1_holds := goodIn_r _ [4] rfl (by decide +kernel)
set_option maxRecDepth 20000 in
theorem gX2_firstPoint_X1_holds : GoodIn wsX2_firstPoint (va_wsS RX2 60 yX1_holds wsX1_holds) := goodIn_app (goodIn_r _ [1, 2, 3] rfl (by decide +kernel)) ggX2_firstPoint_X1_holds
theorem dX2_firstPoint_10 : decode cX2_firstPoint 10 = .ok (.invokestatic 60, 3) := by decide +kernel
theorem dX2_firstPoint_13 : decode cX2_firstPoint 13 = .ok (.ifCond .ne 9, 3) := by decide +kernel
theorem dX2_firstPoint_16 : decode cX2_firstPoint 16 = .ok (.iinc 2 1, 3) := by decide +kernel
theorem dX2_firstPoint_19 : decode cX2_firstPoint 19 = .ok (.goto (-17), 3) := by decide +kernel
theorem dX2_firstPoint_0 : decode cX2_firstPoint 0 = .ok (.iconst 0, 1) := by decide +kernel
theorem dX2_firstPoint_1 : decode cX2_firstPoint 1 = .ok (.istore_n 2, 1) := by decide +kernel
set_option maxHeartbeats 4000000 in
set_option maxRecDepth 100000 in
theorem t_X2_firstPoint (l : Launch) (x0 : Int64) : Met l yX2_firstPoint wsX2_firstPoint ({ frames := 1, cells := 0, slots := 0, locals := 22 }) (va_Pc [.long x0] (fun _ => True)) (vp_Si (fun r => True)) 0 0 (fun _ => False) := by
  refine Met.ofW (cc := cX2_firstPoint) (maxL := 3) (ret := (some .int)) (by decide) rfl ?_
  intro p e s m args below meth c s₁ B hml hv
  obtain ⟨rfl, -⟩ := hv
  have hx := B.exec
  have hb := B.bytes
  have hr := B.returns
  have hts := atoms_spec (ws := wsX2_firstPoint) B.pre
  have hown : s.vm.findClass RX2 = some m.cls := findClass_of_methodNamed B.named
  have hlocks := B.notSynchronized
  have hl := lv_entry ([.long x0]) (n := 3) (Nat.le_of_ble_eq_true rfl)
  rw [lg_entry_eq]
  generalize (lg_sl ([.long x0]) ++ List.replicate (3 - (lg_sl ([.long x0])).length) Slot.unset).toArray = ls at hl ⊢
  have hl : lv_has ls 3 [(0, .long x0)] := hl
  have lp : ∀ (n2 : Nat), ∀ (i : Nat), (i ≤ 63) → (63 - i) < n2 → ∀ (ls : Array Slot), lv_has ls 3 [(0, .long x0), (2, .int (nI i))] → W p l e (headSpec wsX2_firstPoint ({ frames := 1, cells := 0, slots := 0, locals := 22 })).room s m ([.long x0] : List Value).toArray below meth c s.heap [] 0 0 (MQ below (vp_Si (fun r => True)) ([.long x0] : List Value).toArray s 0 0 (fun _ => False)) (F0 m 2 ls []) := by
    intro n2
    induction n2 with
    | zero => intro i hi hn; exact absurd hn (Nat.not_lt_zero _)
    | succ n2 ih2 =>
      intro i hi hn2 ls hl
      refine lv_iload_n hx hb dX2_firstPoint_2 rfl (lv_at hl 1 rfl) ?_
      refine lv_bipush (v := 63) hx hb dX2_firstPoint_3 (by decide) ?_
      refine lv_icmp_ge (tgt := 22) hx hb dX2_firstPoint_5 (by decide) (fun c_1 => ?_) (fun c_1 => ?_)
      · refine lv_iload_n hx hb dX2_firstPoint_22 rfl (lv_at hl 1 rfl) ?_
        refine lv_bipush (v := 8) hx hb dX2_firstPoint_23 (by decide) ?_
        refine lv_irem hx hb dX2_firstPoint_25 (by decide) ?_
        refine lv_iload_n hx hb dX2_firstPoint_26 rfl (lv_at hl 1 rfl) ?_
        refine lv_bipush (v := 8) hx hb dX2_firstPoint_27 (by decide) ?_
        refine lv_idiv hx hb dX2_firstPoint_29 (by decide) ?_
        refine kS_i (As := [.int ((nI i) - (nI i) / 8 * 8), .int ((nI i) / 8)]) (rest := []) ⟨hx, hb, hml, hown, hts⟩ (c_X2_pointOf l ((nI i) - (nI i) / 8 * 8) ((nI i) / 8)) (va_cwS 2 hts gX2_firstPoint_X2_pointOf rfl rfl rfl (by decide +kernel) ⟨Nat.le_of_ble_eq_true rfl, Nat.le_of_ble_eq_true rfl⟩) rfl hl.1 rfl (Nat.le_of_ble_eq_true rfl) dX2_firstPoint_30 ⟨Nat.le_of_ble_eq_true rfl, Nat.le_of_ble_eq_true rfl⟩ ?_
        exact aret_i hx hb hr hlocks trivial dX2_firstPoint_33
      · have hlt_i := ctr_lt (N := 63) (by decide) hi c_1
        refine lv_lload_n hx hb dX2_firstPoint_8 rfl (lv_at hl 0 rfl) ?_
        refine lv_iload_n hx hb dX2_firstPoint_9 rfl (lv_at hl 1 rfl) ?_
        refine kS_i (As := [.long x0, .int (nI i)]) (rest := []) ⟨hx, hb, hml, hown, hts⟩ (c_X1_holds l x0 (nI i)) (va_cwS 2 hts gX2_firstPoint_X1_holds rfl rfl rfl (by decide +kernel) ⟨Nat.le_of_ble_eq_true rfl, Nat.le_of_ble_eq_true rfl⟩) rfl hl.1 rfl (Nat.le_of_ble_eq_true rfl) dX2_firstPoint_10 ⟨Nat.le_of_ble_eq_true rfl, Nat.le_of_ble_eq_true rfl⟩ ?_
        refine lv_if_ne (tgt := 22) hx hb dX2_firstPoint_13 (by decide) (fun c_2 => ?_) (fun c_2 => ?_)
        · replace c_2 := bI_t c_2
          refine lv_iload_n hx hb dX2_firstPoint_22 rfl (lv_at hl 1 rfl) ?_
          refine lv_bipush (v := 8) hx hb dX2_firstPoint_23 (by decide) ?_
          refine lv_irem hx hb dX2_firstPoint_25 (by decide) ?_
          refine lv_iload_n hx hb dX2_firstPoint_26 rfl (lv_at hl 1 rfl) ?_
          refine lv_bipush (v := 8) hx hb dX2_firstPoint_27 (by decide) ?_
          refine lv_idiv hx hb dX2_firstPoint_29 (by decide) ?_
          refine kS_i (As := [.int ((nI i) - (nI i) / 8 * 8), .int ((nI i) / 8)]) (rest := []) ⟨hx, hb, hml, hown, hts⟩ (c_X2_pointOf l ((nI i) - (nI i) / 8 * 8) ((nI i) / 8)) (va_cwS 2 hts gX2_firstPoint_X2_pointOf rfl rfl rfl (by decide +kernel) ⟨Nat.le_of_ble_eq_true rfl, Nat.le_of_ble_eq_true rfl⟩) rfl hl.1 rfl (Nat.le_of_ble_eq_true rfl) dX2_firstPoint_30 ⟨Nat.le_of_ble_eq_true rfl, Nat.le_of_ble_eq_true rfl⟩ ?_
          exact aret_i hx hb hr hlocks trivial dX2_firstPoint_33
        · replace c_2 := bI_f c_2
          refine lv_iinc (v := nI (i + 1)) (lv' := [(2, .int (nI (i + 1))), (0, .long x0)]) hx hb dX2_firstPoint_16 hl (k := 1) rfl (nI_1 _) (by decide) rfl (fun ls hl => ?_)
          refine lv_goto (tgt := 2) hx hb dX2_firstPoint_19 (by decide) ?_
          exact ih2 (i + 1) (by omega) (by omega) ls (lv_sub hl [1, 0] rfl)
  refine lv_iconst (v := 0) hx hb dX2_firstPoint_0 (by decide) ?_
  refine lv_istore_n (lv' := [(2, .int 0), (0, .long x0)]) hx hb dX2_firstPoint_1 rfl hl (by decide) rfl (fun ls hl => ?_)
  exact lp _ 0 (by omega) (Nat.lt_succ_self _) ls (lv_sub hl [1, 0] rfl)
theorem dX2_riseRight_0 : decode cX2_riseRight 0 = .ok (.iload_n 0, 1) := by decide +kernel
theorem dX2_riseRight_1 : decode cX2_riseRight 1 = .ok (.iload_n 1, 1) := by decide +kernel
theorem dX2_riseRight_2 : decode cX2_riseRight 2 = .ok (.iadd, 1) := by decide +kernel
theorem dX2_riseRight_3 : decode cX2_riseRight 3 = .ok (.iconst 1, 1) := by decide +kernel
theorem dX2_riseRight_4 : decode cX2_riseRight 4 = .ok (.iand, 1) := by decide +kernel
theorem dX2_riseRight_5 : decode cX2_riseRight 5 = .ok (.iconst 1, 1) := by decide +kernel
theorem dX2_riseRight_6 : decode cX2_riseRight 6 = .ok (.if_icmp .ne 7, 3) := by decide +kernel
theorem dX2_riseRight_13 : decode cX2_riseRight 13 = .ok (.iconst (-1), 1) := by decide +kernel
theorem dX2_riseRight_14 : decode cX2_riseRight 14 = .ok (.ireturn, 1) := by decide +kernel
theorem dX2_riseRight_9 : decode cX2_riseRight 9 = .ok (.iconst 1, 1) := by decide +kernel
theorem dX2_riseRight_10 : decode cX2_riseRight 10 = .ok (.goto 4, 3) := by decide +kernel
set_option maxHeartbeats 4000000 in
set_option maxRecDepth 100000 in
theorem t_X2_riseRight (l : Launch) (x0 : Int32) (x1 : Int32) : Met l yX2_riseRight wsX2_riseRight ({ frames := 0, cells := 0, slots := 0, locals := 0 }) (va_Pc [.int x0, .int x1] (fun _ => True)) (vp_Si (fun r => True)) 0 0 (fun _ => False) := by
  refine Met.ofW (cc := cX2_riseRight) (maxL := 2) (ret := (some .int)) (by decide) rfl ?_
  intro p e s m args below meth c s₁ B hml hv
  obtain ⟨rfl, -⟩ := hv
  have hx := B.exec
  have hb := B.bytes
  have hr := B.returns
  have hts := atoms_spec (ws := wsX2_riseRight) B.pre
  have hown : s.vm.findClass RX2 = some m.cls := findClass_of_methodNamed B.named
  have hlocks := B.notSynchronized
  have hl := lv_entry ([.int x0, .int x1]) (n := 2) (Nat.le_of_ble_eq_true rfl)
  rw [lg_entry_eq]
  generalize (lg_sl ([.int x0, .int x1]) ++ List.replicate (2 - (lg_sl ([.int x0, .int x1])).length) Slot.unset).toArray = ls at hl ⊢
  have hl : lv_has ls 2 [(0, .int x0), (1, .int x1)] := hl
  refine lv_iload_n hx hb dX2_riseRight_0 rfl (lv_at hl 0 rfl) ?_
  refine lv_iload_n hx hb dX2_riseRight_1 rfl (lv_at hl 1 rfl) ?_
  refine lv_iadd hx hb dX2_riseRight_2 ?_
  refine lv_iconst (v := 1) hx hb dX2_riseRight_3 (by decide) ?_
  refine lv_iand hx hb dX2_riseRight_4 ?_
  refine lv_iconst (v := 1) hx hb dX2_riseRight_5 (by decide) ?_
  refine lv_icmp_ne (tgt := 13) hx hb dX2_riseRight_6 (by decide) (fun c_1 => ?_) (fun c_1 => ?_)
  · refine lv_iconst (v := (-1)) hx hb dX2_riseRight_13 (by decide) ?_
    exact aret_i hx hb hr hlocks trivial dX2_riseRight_14
  · refine lv_iconst (v := 1) hx hb dX2_riseRight_9 (by decide) ?_
    refine lv_goto (tgt := 14) hx hb dX2_riseRight_10 (by decide) ?_
    exact aret_i hx hb hr hlocks trivial dX2_riseRight_14
theorem in9 {x : Int32} (h1 : ¬ x < 0) (h2 : ¬ 9 ≤ x) : ∃ j, j < 9 ∧ x = nI j := by
  obtain ⟨j, hj, ej⟩ := nI_ofn h1
  rw [Int32.le_iff_toInt_le] at h2
  have e : (9 : Int32).toInt = 9 := rfl
  exact ⟨j, by omega, hj⟩
theorem pt81 {x y : Int32} (h1 : ¬ x < 0) (h2 : ¬ 9 ≤ x) (h3 : ¬ y < 0) (h4 : y < 9) : vp_in (9 * y + x) 81 := by
  obtain ⟨a, ha, rfl⟩ := in9 h1 h2
  obtain ⟨b, hb, rfl⟩ := in9 h3 (Int32.not_le.mpr h4)
  exact h81_t ⟨a, ha⟩ ⟨b, hb⟩
theorem shr_dec {v : Int32} {n : Nat} (q : ¬ v ≤ 0) (hn : v.toNatClampNeg < n + 1) : (v >>> ((1 : Int32) &&& 31)).toNatClampNeg < n := by
  obtain ⟨j, hj, ej⟩ := nI_ofn (x := v) (fun z => q (Int32.le_of_lt z))
  have hr := i32_rng v
  have hj2 : j < 2 ^ 31 := by omega
  have hc : v.toNatClampNeg = j := by rw [hj, nI_clamp hj2]
  have hj0 : j ≠ 0 := fun z => q (by rw [hj, z]; decide)
  have e : v >>> ((1 : Int32) &&& 31) = nI (j / 2) := by
    rw [hj]
    exact pk_shrN hj2 _ 1 (by decide)
  rw [e, nI_clamp (by omega)]
  omega
theorem cl_lt {v : Int32} {k : Nat} (hk : k ≤ v.toNatClampNeg) (q : ¬ v ≤ nI k) : k < v.toNatClampNeg := by
  have hr := i32_rng v
  have hc : v.toNatClampNeg = v.toInt.toNat := rfl
  rw [Int32.le_iff_toInt_le] at q
  by_cases z : k < v.toNatClampNeg
  · exact z
  · exfalso
    have hk2 : k < 2147483648 := by omega
    by_cases z2 : k < 2147483647
    · rw [nI_int z2] at q
      omega
    · have : k = 2147483647 := by omega
      subst this
      exact q (by rw [show (nI 2147483647).toInt = 2147483647 from rfl]; omega)
theorem dX2_isPoint_0 : decode cX2_isPoint 0 = .ok (.iload_n 2, 1) := by decide +kernel
theorem dX2_isPoint_1 : decode cX2_isPoint 1 = .ok (.ifCond .lt 19, 3) := by decide +kernel
theorem dX2_isPoint_20 : decode cX2_isPoint 20 = .ok (.iconst 0, 1) := by decide +kernel
theorem dX2_isPoint_21 : decode cX2_isPoint 21 = .ok (.ireturn, 1) := by decide +kernel
theorem dX2_isPoint_4 : decode cX2_isPoint 4 = .ok (.iload_n 2, 1) := by decide +kernel
theorem dX2_isPoint_5 : decode cX2_isPoint 5 = .ok (.bipush 9, 2) := by decide +kernel
theorem dX2_isPoint_7 : decode cX2_isPoint 7 = .ok (.if_icmp .ge 13, 3) := by decide +kernel
theorem dX2_isPoint_10 : decode cX2_isPoint 10 = .ok (.iload_n 3, 1) := by decide +kernel
theorem dX2_isPoint_11 : decode cX2_isPoint 11 = .ok (.ifCond .lt 9, 3) := by decide +kernel
theorem dX2_isPoint_14 : decode cX2_isPoint 14 = .ok (.iload_n 3, 1) := by decide +kernel
theorem dX2_isPoint_15 : decode cX2_isPoint 15 = .ok (.bipush 9, 2) := by decide +kernel
theorem dX2_isPoint_17 : decode cX2_isPoint 17 = .ok (.if_icmp .lt 5, 3) := by decide +kernel
theorem dX2_isPoint_22 : decode cX2_isPoint 22 = .ok (.lload_n 0, 1) := by decide +kernel
theorem dX2_isPoint_23 : decode cX2_isPoint 23 = .ok (.iload_n 2, 1) := by decide +kernel
theorem dX2_isPoint_24 : decode cX2_isPoint 24 = .ok (.iload_n 3, 1) := by decide +kernel
set_option maxRecDepth 20000 in
theorem ggX2_isPoint_X1_holdsAt : GoodIn wsX2_isPoint wsX1_holdsAt := goodIn_r _ [4, 5, 6, 3, 7] rfl (by decide +kernel)
set_option maxRecDepth 20000 in
theorem gX2_isPoint_X1_holdsAt : GoodIn wsX2_isPoint (va_wsS RX2 26 yX1_holdsAt wsX1_holdsAt) := goodIn_app (goodIn_r _ [1, 2, 3] rfl (by decide +kernel)) ggX2_isPoint_X1_holdsAt
theorem dX2_isPoint_25 : decode cX2_isPoint 25 = .ok (.invokestatic 26, 3) := by decide +kernel
theorem dX2_isPoint_28 : decode cX2_isPoint 28 = .ok (.ifCond .ne 38, 3) := by decide +kernel
theorem dX2_isPoint_66 : decode cX2_isPoint 66 = .ok (.iconst 1, 1) := by decide +kernel
theorem dX2_isPoint_67 : decode cX2_isPoint 67 = .ok (.goto 4, 3) := by decide +kernel
theorem dX2_isPoint_71 : decode cX2_isPoint 71 = .ok (.ireturn, 1) := by decide +kernel
theorem dX2_isPoint_31 : decode cX2_isPoint 31 = .ok (.lload_n 0, 1) := by decide +kernel
theorem dX2_isPoint_32 : decode cX2_isPoint 32 = .ok (.iload_n 2, 1) := by decide +kernel
theorem dX2_isPoint_33 : decode cX2_isPoint 33 = .ok (.iconst 1, 1) := by decide +kernel
theorem dX2_isPoint_34 : decode cX2_isPoint 34 = .ok (.isub, 1) := by decide +kernel
theorem dX2_isPoint_35 : decode cX2_isPoint 35 = .ok (.iload_n 3, 1) := by decide +kernel
theorem dX2_isPoint_36 : decode cX2_isPoint 36 = .ok (.invokestatic 26, 3) := by decide +kernel
theorem dX2_isPoint_39 : decode cX2_isPoint 39 = .ok (.ifCond .ne 27, 3) := by decide +kernel
theorem dX2_isPoint_42 : decode cX2_isPoint 42 = .ok (.lload_n 0, 1) := by decide +kernel
theorem dX2_isPoint_43 : decode cX2_isPoint 43 = .ok (.iload_n 2, 1) := by decide +kernel
theorem dX2_isPoint_44 : decode cX2_isPoint 44 = .ok (.iload_n 3, 1) := by decide +kernel
theorem dX2_isPoint_45 : decode cX2_isPoint 45 = .ok (.iconst 1, 1) := by decide +kernel
theorem dX2_isPoint_46 : decode cX2_isPoint 46 = .ok (.isub, 1) := by decide +kernel
theorem dX2_isPoint_47 : decode cX2_isPoint 47 = .ok (.invokestatic 26, 3) := by decide +kernel
theorem dX2_isPoint_50 : decode cX2_isPoint 50 = .ok (.ifCond .ne 16, 3) := by decide +kernel
theorem dX2_isPoint_53 : decode cX2_isPoint 53 = .ok (.lload_n 0, 1) := by decide +kernel
theorem dX2_isPoint_54 : decode cX2_isPoint 54 = .ok (.iload_n 2, 1) := by decide +kernel
theorem dX2_isPoint_55 : decode cX2_isPoint 55 = .ok (.iconst 1, 1) := by decide +kernel
theorem dX2_isPoint_56 : decode cX2_isPoint 56 = .ok (.isub, 1) := by decide +kernel
theorem dX2_isPoint_57 : decode cX2_isPoint 57 = .ok (.iload_n 3, 1) := by decide +kernel
theorem dX2_isPoint_58 : decode cX2_isPoint 58 = .ok (.iconst 1, 1) := by decide +kernel
theorem dX2_isPoint_59 : decode cX2_isPoint 59 = .ok (.isub, 1) := by decide +kernel
theorem dX2_isPoint_60 : decode cX2_isPoint 60 = .ok (.invokestatic 26, 3) := by decide +kernel
theorem dX2_isPoint_63 : decode cX2_isPoint 63 = .ok (.ifCond .eq 7, 3) := by decide +kernel
theorem dX2_isPoint_70 : decode cX2_isPoint 70 = .ok (.iconst 0, 1) := by decide +kernel
set_option maxHeartbeats 4000000 in
set_option maxRecDepth 100000 in
theorem t_X2_isPoint (l : Launch) (x0 : Int64) (x1 : Int32) (x2 : Int32) : Met l yX2_isPoint wsX2_isPoint ({ frames := 2, cells := 0, slots := 0, locals := 45 }) (va_Pc [.long x0, .int x1, .int x2] (fun _ => True)) (vp_Si (fun r => isB r ∧ (¬ r = 0 → vp_in (9 * x2 + x1) 81))) 0 0 (fun _ => False) := by
  refine Met.ofW (cc := cX2_isPoint) (maxL := 4) (ret := (some .boolean)) (by decide) rfl ?_
  intro p e s m args below meth c s₁ B hml hv
  obtain ⟨rfl, -⟩ := hv
  have hx := B.exec
  have hb := B.bytes
  have hr := B.returns
  have hts := atoms_spec (ws := wsX2_isPoint) B.pre
  have hown : s.vm.findClass RX2 = some m.cls := findClass_of_methodNamed B.named
  have hlocks := B.notSynchronized
  have hl := lv_entry ([.long x0, .int x1, .int x2]) (n := 4) (Nat.le_of_ble_eq_true rfl)
  rw [lg_entry_eq]
  generalize (lg_sl ([.long x0, .int x1, .int x2]) ++ List.replicate (4 - (lg_sl ([.long x0, .int x1, .int x2])).length) Slot.unset).toArray = ls at hl ⊢
  have hl : lv_has ls 4 [(0, .long x0), (2, .int x1), (3, .int x2)] := hl
  refine lv_iload_n hx hb dX2_isPoint_0 rfl (lv_at hl 1 rfl) ?_
  refine lv_if_lt (tgt := 20) hx hb dX2_isPoint_1 (by decide) (fun c_1 => ?_) (fun c_1 => ?_)
  · refine lv_iconst (v := 0) hx hb dX2_isPoint_20 (by decide) ?_
    exact aret_z hx hb hr hlocks rfl ⟨Or.inl rfl, fun z => absurd rfl z⟩ dX2_isPoint_21
  · refine lv_iload_n hx hb dX2_isPoint_4 rfl (lv_at hl 1 rfl) ?_
    refine lv_bipush (v := 9) hx hb dX2_isPoint_5 (by decide) ?_
    refine lv_icmp_ge (tgt := 20) hx hb dX2_isPoint_7 (by decide) (fun c_2 => ?_) (fun c_2 => ?_)
    · refine lv_iconst (v := 0) hx hb dX2_isPoint_20 (by decide) ?_
      exact aret_z hx hb hr hlocks rfl ⟨Or.inl rfl, fun z => absurd rfl z⟩ dX2_isPoint_21
    · refine lv_iload_n hx hb dX2_isPoint_10 rfl (lv_at hl 2 rfl) ?_
      refine lv_if_lt (tgt := 20) hx hb dX2_isPoint_11 (by decide) (fun c_3 => ?_) (fun c_3 => ?_)
      · refine lv_iconst (v := 0) hx hb dX2_isPoint_20 (by decide) ?_
        exact aret_z hx hb hr hlocks rfl ⟨Or.inl rfl, fun z => absurd rfl z⟩ dX2_isPoint_21
      · refine lv_iload_n hx hb dX2_isPoint_14 rfl (lv_at hl 2 rfl) ?_
        refine lv_bipush (v := 9) hx hb dX2_isPoint_15 (by decide) ?_
        refine lv_icmp_lt (tgt := 22) hx hb dX2_isPoint_17 (by decide) (fun c_4 => ?_) (fun c_4 => ?_)
        · refine lv_lload_n hx hb dX2_isPoint_22 rfl (lv_at hl 0 rfl) ?_
          refine lv_iload_n hx hb dX2_isPoint_23 rfl (lv_at hl 1 rfl) ?_
          refine lv_iload_n hx hb dX2_isPoint_24 rfl (lv_at hl 2 rfl) ?_
          refine kS_i (As := [.long x0, .int x1, .int x2]) (rest := []) ⟨hx, hb, hml, hown, hts⟩ (c_X1_holdsAt l x0 x1 x2) (va_cwS 3 hts gX2_isPoint_X1_holdsAt rfl rfl rfl (by decide +kernel) ⟨Nat.le_of_ble_eq_true rfl, Nat.le_of_ble_eq_true rfl⟩) rfl hl.1 rfl (Nat.le_of_ble_eq_true rfl) dX2_isPoint_25 ⟨Nat.le_of_ble_eq_true rfl, Nat.le_of_ble_eq_true rfl⟩ ?_
          refine lv_if_ne (tgt := 66) hx hb dX2_isPoint_28 (by decide) (fun c_5 => ?_) (fun c_5 => ?_)
          · replace c_5 := bI_t c_5
            refine lv_iconst (v := 1) hx hb dX2_isPoint_66 (by decide) ?_
            refine lv_goto (tgt := 71) hx hb dX2_isPoint_67 (by decide) ?_
            exact aret_z hx hb hr hlocks rfl ⟨Or.inr rfl, fun _ => pt81 c_1 c_2 c_3 c_4⟩ dX2_isPoint_71
          · replace c_5 := bI_f c_5
            refine lv_lload_n hx hb dX2_isPoint_31 rfl (lv_at hl 0 rfl) ?_
            refine lv_iload_n hx hb dX2_isPoint_32 rfl (lv_at hl 1 rfl) ?_
            refine lv_iconst (v := 1) hx hb dX2_isPoint_33 (by decide) ?_
            refine lv_isub hx hb dX2_isPoint_34 ?_
            refine lv_iload_n hx hb dX2_isPoint_35 rfl (lv_at hl 2 rfl) ?_
            refine kS_i (As := [.long x0, .int (x1 - 1), .int x2]) (rest := []) ⟨hx, hb, hml, hown, hts⟩ (c_X1_holdsAt l x0 (x1 - 1) x2) (va_cwS 3 hts gX2_isPoint_X1_holdsAt rfl rfl rfl (by decide +kernel) ⟨Nat.le_of_ble_eq_true rfl, Nat.le_of_ble_eq_true rfl⟩) rfl hl.1 rfl (Nat.le_of_ble_eq_true rfl) dX2_isPoint_36 ⟨Nat.le_of_ble_eq_true rfl, Nat.le_of_ble_eq_true rfl⟩ ?_
            refine lv_if_ne (tgt := 66) hx hb dX2_isPoint_39 (by decide) (fun c_6 => ?_) (fun c_6 => ?_)
            · replace c_6 := bI_t c_6
              refine lv_iconst (v := 1) hx hb dX2_isPoint_66 (by decide) ?_
              refine lv_goto (tgt := 71) hx hb dX2_isPoint_67 (by decide) ?_
              exact aret_z hx hb hr hlocks rfl ⟨Or.inr rfl, fun _ => pt81 c_1 c_2 c_3 c_4⟩ dX2_isPoint_71
            · replace c_6 := bI_f c_6
              refine lv_lload_n hx hb dX2_isPoint_42 rfl (lv_at hl 0 rfl) ?_
              refine lv_iload_n hx hb dX2_isPoint_43 rfl (lv_at hl 1 rfl) ?_
              refine lv_iload_n hx hb dX2_isPoint_44 rfl (lv_at hl 2 rfl) ?_
              refine lv_iconst (v := 1) hx hb dX2_isPoint_45 (by decide) ?_
              refine lv_isub hx hb dX2_isPoint_46 ?_
              refine kS_i (As := [.long x0, .int x1, .int (x2 - 1)]) (rest := []) ⟨hx, hb, hml, hown, hts⟩ (c_X1_holdsAt l x0 x1 (x2 - 1)) (va_cwS 3 hts gX2_isPoint_X1_holdsAt rfl rfl rfl (by decide +kernel) ⟨Nat.le_of_ble_eq_true rfl, Nat.le_of_ble_eq_true rfl⟩) rfl hl.1 rfl (Nat.le_of_ble_eq_true rfl) dX2_isPoint_47 ⟨Nat.le_of_ble_eq_true rfl, Nat.le_of_ble_eq_true rfl⟩ ?_
              refine lv_if_ne (tgt := 66) hx hb dX2_isPoint_50 (by decide) (fun c_7 => ?_) (fun c_7 => ?_)
              · replace c_7 := bI_t c_7
                refine lv_iconst (v := 1) hx hb dX2_isPoint_66 (by decide) ?_
                refine lv_goto (tgt := 71) hx hb dX2_isPoint_67 (by decide) ?_
                exact aret_z hx hb hr hlocks rfl ⟨Or.inr rfl, fun _ => pt81 c_1 c_2 c_3 c_4⟩ dX2_isPoint_71
              · replace c_7 := bI_f c_7
                refine lv_lload_n hx hb dX2_isPoint_53 rfl (lv_at hl 0 rfl) ?_
                refine lv_iload_n hx hb dX2_isPoint_54 rfl (lv_at hl 1 rfl) ?_
                refine lv_iconst (v := 1) hx hb dX2_isPoint_55 (by decide) ?_
                refine lv_isub hx hb dX2_isPoint_56 ?_
                refine lv_iload_n hx hb dX2_isPoint_57 rfl (lv_at hl 2 rfl) ?_
                refine lv_iconst (v := 1) hx hb dX2_isPoint_58 (by decide) ?_
                refine lv_isub hx hb dX2_isPoint_59 ?_
                refine kS_i (As := [.long x0, .int (x1 - 1), .int (x2 - 1)]) (rest := []) ⟨hx, hb, hml, hown, hts⟩ (c_X1_holdsAt l x0 (x1 - 1) (x2 - 1)) (va_cwS 3 hts gX2_isPoint_X1_holdsAt rfl rfl rfl (by decide +kernel) ⟨Nat.le_of_ble_eq_true rfl, Nat.le_of_ble_eq_true rfl⟩) rfl hl.1 rfl (Nat.le_of_ble_eq_true rfl) dX2_isPoint_60 ⟨Nat.le_of_ble_eq_true rfl, Nat.le_of_ble_eq_true rfl⟩ ?_
                refine lv_if_eq (tgt := 70) hx hb dX2_isPoint_63 (by decide) (fun c_8 => ?_) (fun c_8 => ?_)
                · replace c_8 := bI_f c_8
                  refine lv_iconst (v := 0) hx hb dX2_isPoint_70 (by decide) ?_
                  exact aret_z hx hb hr hlocks rfl ⟨Or.inl rfl, fun z => absurd rfl z⟩ dX2_isPoint_71
                · replace c_8 := bI_t c_8
                  refine lv_iconst (v := 1) hx hb dX2_isPoint_66 (by decide) ?_
                  refine lv_goto (tgt := 71) hx hb dX2_isPoint_67 (by decide) ?_
                  exact aret_z hx hb hr hlocks rfl ⟨Or.inr rfl, fun _ => pt81 c_1 c_2 c_3 c_4⟩ dX2_isPoint_71
        · refine lv_iconst (v := 0) hx hb dX2_isPoint_20 (by decide) ?_
          exact aret_z hx hb hr hlocks rfl ⟨Or.inl rfl, fun z => absurd rfl z⟩ dX2_isPoint_21
theorem dX9_drawnNumber_39 : decode cX9_drawnNumber 39 = .ok (.iload 6, 2) := by decide +kernel
theorem dX9_drawnNumber_41 : decode cX9_drawnNumber 41 = .ok (.iload_n 2, 1) := by decide +kernel
theorem dX9_drawnNumber_42 : decode cX9_drawnNumber 42 = .ok (.if_icmp .ge 30, 3) := by decide +kernel
theorem dX9_drawnNumber_72 : decode cX9_drawnNumber 72 = .ok (.iload 5, 2) := by decide +kernel
theorem dX9_drawnNumber_74 : decode cX9_drawnNumber 74 = .ok (.iload_n 1, 1) := by decide +kernel
theorem dX9_drawnNumber_75 : decode cX9_drawnNumber 75 = .ok (.if_icmp .ge 6, 3) := by decide +kernel
theorem dX9_drawnNumber_81 : decode cX9_drawnNumber 81 = .ok (.iinc 4 1, 3) := by decide +kernel
theorem dX9_drawnNumber_84 : decode cX9_drawnNumber 84 = .ok (.goto (-59), 3) := by decide +kernel
theorem dX9_drawnNumber_78 : decode cX9_drawnNumber 78 = .ok (.iload 5, 2) := by decide +kernel
theorem dX9_drawnNumber_80 : decode cX9_drawnNumber 80 = .ok (.ireturn, 1) := by decide +kernel
theorem dX9_drawnNumber_45 : decode cX9_drawnNumber 45 = .ok (.ldc_w 356, 3) := by decide +kernel
theorem dX9_drawnNumber_48 : decode cX9_drawnNumber 48 = .ok (.iload_n 3, 1) := by decide +kernel
theorem dX9_drawnNumber_49 : decode cX9_drawnNumber 49 = .ok (.imul, 1) := by decide +kernel
theorem dX9_drawnNumber_50 : decode cX9_drawnNumber 50 = .ok (.sipush 12345, 3) := by decide +kernel
theorem dX9_drawnNumber_53 : decode cX9_drawnNumber 53 = .ok (.iadd, 1) := by decide +kernel
theorem dX9_drawnNumber_54 : decode cX9_drawnNumber 54 = .ok (.istore_n 3, 1) := by decide +kernel
theorem dX9_drawnNumber_55 : decode cX9_drawnNumber 55 = .ok (.iconst 2, 1) := by decide +kernel
theorem dX9_drawnNumber_56 : decode cX9_drawnNumber 56 = .ok (.iload 5, 2) := by decide +kernel
theorem dX9_drawnNumber_58 : decode cX9_drawnNumber 58 = .ok (.imul, 1) := by decide +kernel
theorem dX9_drawnNumber_59 : decode cX9_drawnNumber 59 = .ok (.iload_n 3, 1) := by decide +kernel
theorem dX9_drawnNumber_60 : decode cX9_drawnNumber 60 = .ok (.bipush 31, 2) := by decide +kernel
theorem dX9_drawnNumber_62 : decode cX9_drawnNumber 62 = .ok (.iushr, 1) := by decide +kernel
theorem dX9_drawnNumber_63 : decode cX9_drawnNumber 63 = .ok (.iadd, 1) := by decide +kernel
theorem dX9_drawnNumber_64 : decode cX9_drawnNumber 64 = .ok (.istore 5, 2) := by decide +kernel
theorem dX9_drawnNumber_66 : decode cX9_drawnNumber 66 = .ok (.iinc 6 1, 3) := by decide +kernel
theorem dX9_drawnNumber_69 : decode cX9_drawnNumber 69 = .ok (.goto (-30), 3) := by decide +kernel
theorem dX9_drawnNumber_25 : decode cX9_drawnNumber 25 = .ok (.iload 4, 2) := by decide +kernel
theorem dX9_drawnNumber_27 : decode cX9_drawnNumber 27 = .ok (.ldc_w 355, 3) := by decide +kernel
theorem dX9_drawnNumber_30 : decode cX9_drawnNumber 30 = .ok (.if_icmp .ge 57, 3) := by decide +kernel
theorem dX9_drawnNumber_87 : decode cX9_drawnNumber 87 = .ok (.iconst 0, 1) := by decide +kernel
theorem dX9_drawnNumber_88 : decode cX9_drawnNumber 88 = .ok (.ireturn, 1) := by decide +kernel
theorem dX9_drawnNumber_33 : decode cX9_drawnNumber 33 = .ok (.iconst 0, 1) := by decide +kernel
theorem dX9_drawnNumber_34 : decode cX9_drawnNumber 34 = .ok (.istore 5, 2) := by decide +kernel
theorem dX9_drawnNumber_36 : decode cX9_drawnNumber 36 = .ok (.iconst 0, 1) := by decide +kernel
theorem dX9_drawnNumber_37 : decode cX9_drawnNumber 37 = .ok (.istore 6, 2) := by decide +kernel
theorem dX9_drawnNumber_6 : decode cX9_drawnNumber 6 = .ok (.iload_n 3, 1) := by decide +kernel
theorem dX9_drawnNumber_7 : decode cX9_drawnNumber 7 = .ok (.ifCond .le 13, 3) := by decide +kernel
theorem dX9_drawnNumber_20 : decode cX9_drawnNumber 20 = .ok (.iload_n 0, 1) := by decide +kernel
theorem dX9_drawnNumber_21 : decode cX9_drawnNumber 21 = .ok (.istore_n 3, 1) := by decide +kernel
theorem dX9_drawnNumber_22 : decode cX9_drawnNumber 22 = .ok (.iconst 0, 1) := by decide +kernel
theorem dX9_drawnNumber_23 : decode cX9_drawnNumber 23 = .ok (.istore 4, 2) := by decide +kernel
theorem dX9_drawnNumber_10 : decode cX9_drawnNumber 10 = .ok (.iinc 2 1, 3) := by decide +kernel
theorem dX9_drawnNumber_13 : decode cX9_drawnNumber 13 = .ok (.iload_n 3, 1) := by decide +kernel
theorem dX9_drawnNumber_14 : decode cX9_drawnNumber 14 = .ok (.iconst 1, 1) := by decide +kernel
theorem dX9_drawnNumber_15 : decode cX9_drawnNumber 15 = .ok (.ishr, 1) := by decide +kernel
theorem dX9_drawnNumber_16 : decode cX9_drawnNumber 16 = .ok (.istore_n 3, 1) := by decide +kernel
theorem dX9_drawnNumber_17 : decode cX9_drawnNumber 17 = .ok (.goto (-11), 3) := by decide +kernel
theorem dX9_drawnNumber_0 : decode cX9_drawnNumber 0 = .ok (.iconst 0, 1) := by decide +kernel
theorem dX9_drawnNumber_1 : decode cX9_drawnNumber 1 = .ok (.istore_n 2, 1) := by decide +kernel
theorem dX9_drawnNumber_2 : decode cX9_drawnNumber 2 = .ok (.iload_n 1, 1) := by decide +kernel
theorem dX9_drawnNumber_3 : decode cX9_drawnNumber 3 = .ok (.iconst 1, 1) := by decide +kernel
theorem dX9_drawnNumber_4 : decode cX9_drawnNumber 4 = .ok (.isub, 1) := by decide +kernel
theorem dX9_drawnNumber_5 : decode cX9_drawnNumber 5 = .ok (.istore_n 3, 1) := by decide +kernel
set_option maxHeartbeats 4000000 in
set_option maxRecDepth 100000 in
theorem t_X9_drawnNumber (l : Launch) (x0 : Int32) (x1 : Int32) : Met l yX9_drawnNumber wsX9_drawnNumber ({ frames := 0, cells := 0, slots := 0, locals := 0 }) (va_Pc [.int x0, .int x1] (fun _ => True)) (vp_Si (fun r => True)) 0 0 (fun _ => False) := by
  refine Met.ofW (cc := cX9_drawnNumber) (maxL := 7) (ret := (some .int)) (by decide) rfl ?_
  intro p e s m args below meth c s₁ B hml hv
  obtain ⟨rfl, -⟩ := hv
  have hx := B.exec
  have hb := B.bytes
  have hr := B.returns
  have hts := atoms_spec (ws := wsX9_drawnNumber) B.pre
  have hown : s.vm.findClass RX9 = some m.cls := findClass_of_methodNamed B.named
  have hlocks := B.notSynchronized
  have hw0 := hts (.constant RX9 356 (1103515245)) (by decide +kernel)
  have hw1 := hts (.constant RX9 355 (1000000)) (by decide +kernel)
  have hl := lv_entry ([.int x0, .int x1]) (n := 7) (Nat.le_of_ble_eq_true rfl)
  rw [lg_entry_eq]
  generalize (lg_sl ([.int x0, .int x1]) ++ List.replicate (7 - (lg_sl ([.int x0, .int x1])).length) Slot.unset).toArray = ls at hl ⊢
  have hl : lv_has ls 7 [(0, .int x0), (1, .int x1)] := hl
  have lp25 : ∀ (n25 : Nat), ∀ (t9 : Nat) (w2 : Int32) (v3 : Int32), (t9 ≤ 1000000) → (1000000 - t9) < n25 → ∀ (ls : Array Slot), lv_has ls 7 [(1, .int x1), (2, .int w2), (3, .int v3), (4, .int (nI t9))] → W p l e (headSpec wsX9_drawnNumber ({ frames := 0, cells := 0, slots := 0, locals := 0 })).room s m ([.int x0, .int x1] : List Value).toArray below meth c s.heap [] 0 0 (MQ below (vp_Si (fun r => True)) ([.int x0, .int x1] : List Value).toArray s 0 0 (fun _ => False)) (F0 m 25 ls []) := by
    intro n25
    induction n25 with
    | zero => intro t9 w2 v3 ht9 hn; exact absurd hn (Nat.not_lt_zero _)
    | succ n25 ih25 =>
      intro t9 w2 v3 ht9 hn25 ls hl
      have lp39 : ∀ (n39 : Nat), ∀ (k9 : Nat) (v4 : Int32) (v5 : Int32), (k9 ≤ w2.toNatClampNeg) → (t9 < 1000000) → (w2.toNatClampNeg - k9) < n39 → ∀ (ls : Array Slot), lv_has ls 7 [(1, .int x1), (2, .int w2), (3, .int v4), (4, .int (nI t9)), (5, .int v5), (6, .int (nI k9))] → W p l e (headSpec wsX9_drawnNumber ({ frames := 0, cells := 0, slots := 0, locals := 0 })).room s m ([.int x0, .int x1] : List Value).toArray below meth c s.heap [] 0 0 (MQ below (vp_Si (fun r => True)) ([.int x0, .int x1] : List Value).toArray s 0 0 (fun _ => False)) (F0 m 39 ls []) := by
        intro n39
        induction n39 with
        | zero => intro k9 v4 v5 hk9 hlt_t9 hn; exact absurd hn (Nat.not_lt_zero _)
        | succ n39 ih39 =>
          intro k9 v4 v5 hk9 hlt_t9 hn39 ls hl
          refine lv_iload hx hb dX9_drawnNumber_39 (lv_at hl 5 rfl) ?_
          refine lv_iload_n hx hb dX9_drawnNumber_41 rfl (lv_at hl 1 rfl) ?_
          refine lv_icmp_ge (tgt := 72) hx hb dX9_drawnNumber_42 (by decide) (fun c_1 => ?_) (fun c_1 => ?_)
          · refine lv_iload hx hb dX9_drawnNumber_72 (lv_at hl 4 rfl) ?_
            refine lv_iload_n hx hb dX9_drawnNumber_74 rfl (lv_at hl 0 rfl) ?_
            refine lv_icmp_ge (tgt := 81) hx hb dX9_drawnNumber_75 (by decide) (fun c_2 => ?_) (fun c_2 => ?_)
            · refine lv_iinc (v := nI (t9 + 1)) (lv' := [(4, .int (nI (t9 + 1))), (1, .int x1), (2, .int w2), (3, .int v4), (5, .int v5), (6, .int (nI k9))]) hx hb dX9_drawnNumber_81 hl (k := 3) rfl (nI_1 _) (by decide) rfl (fun ls hl => ?_)
              refine lv_goto (tgt := 25) hx hb dX9_drawnNumber_84 (by decide) ?_
              exact ih25 (t9 + 1) w2 v4 (by omega) (by omega) ls (lv_sub hl [1, 2, 3, 0] rfl)
            · refine lv_iload hx hb dX9_drawnNumber_78 (lv_at hl 4 rfl) ?_
              exact aret_i hx hb hr hlocks trivial dX9_drawnNumber_80
          · have hlt_k9 := cl_lt hk9 c_1
            refine lv_ldcw (v := 1103515245) hx hb hown hw0 dX9_drawnNumber_45 ?_
            refine lv_iload_n hx hb dX9_drawnNumber_48 rfl (lv_at hl 2 rfl) ?_
            refine lv_imul hx hb dX9_drawnNumber_49 ?_
            refine lv_sipush (v := 12345) hx hb dX9_drawnNumber_50 (by decide) ?_
            refine lv_iadd hx hb dX9_drawnNumber_53 ?_
            refine lv_istore_n (lv' := [(3, .int ((1103515245 * v4) + 12345)), (1, .int x1), (2, .int w2), (4, .int (nI t9)), (5, .int v5), (6, .int (nI k9))]) hx hb dX9_drawnNumber_54 rfl hl (by decide) rfl (fun ls hl => ?_)
            refine lv_iconst (v := 2) hx hb dX9_drawnNumber_55 (by decide) ?_
            refine lv_iload hx hb dX9_drawnNumber_56 (lv_at hl 4 rfl) ?_
            refine lv_imul hx hb dX9_drawnNumber_58 ?_
            refine lv_iload_n hx hb dX9_drawnNumber_59 rfl (lv_at hl 0 rfl) ?_
            refine lv_bipush (v := 31) hx hb dX9_drawnNumber_60 (by decide) ?_
            refine lv_iushr (v := (((1103515245 * v4) + 12345).toUInt32 >>> ((31 : Int32).toUInt32 &&& Int32.toUInt32 31)).toInt32) hx hb dX9_drawnNumber_62 rfl ?_
            refine lv_iadd hx hb dX9_drawnNumber_63 ?_
            refine lv_istore (lv' := [(5, .int ((2 * v5) + ((((1103515245 * v4) + 12345).toUInt32 >>> ((31 : Int32).toUInt32 &&& Int32.toUInt32 31)).toInt32))), (3, .int ((1103515245 * v4) + 12345)), (1, .int x1), (2, .int w2), (4, .int (nI t9)), (6, .int (nI k9))]) hx hb dX9_drawnNumber_64 hl (by decide) rfl (fun ls hl => ?_)
            refine lv_iinc (v := nI (k9 + 1)) (lv' := [(6, .int (nI (k9 + 1))), (5, .int ((2 * v5) + ((((1103515245 * v4) + 12345).toUInt32 >>> ((31 : Int32).toUInt32 &&& Int32.toUInt32 31)).toInt32))), (3, .int ((1103515245 * v4) + 12345)), (1, .int x1), (2, .int w2), (4, .int (nI t9))]) hx hb dX9_drawnNumber_66 hl (k := 5) rfl (nI_1 _) (by decide) rfl (fun ls hl => ?_)
            refine lv_goto (tgt := 39) hx hb dX9_drawnNumber_69 (by decide) ?_
            exact ih39 (k9 + 1) ((1103515245 * v4) + 12345) ((2 * v5) + ((((1103515245 * v4) + 12345).toUInt32 >>> ((31 : Int32).toUInt32 &&& Int32.toUInt32 31)).toInt32)) (by omega) hlt_t9 (by omega) ls (lv_sub hl [3, 4, 2, 5, 1, 0] rfl)
      refine lv_iload hx hb dX9_drawnNumber_25 (lv_at hl 3 rfl) ?_
      refine lv_ldcw (v := 1000000) hx hb hown hw1 dX9_drawnNumber_27 ?_
      refine lv_icmp_ge (tgt := 87) hx hb dX9_drawnNumber_30 (by decide) (fun c_3 => ?_) (fun c_3 => ?_)
      · refine lv_iconst (v := 0) hx hb dX9_drawnNumber_87 (by decide) ?_
        exact aret_i hx hb hr hlocks trivial dX9_drawnNumber_88
      · have hlt_t9 := ctr_lt (N := 1000000) (by decide) ht9 c_3
        refine lv_iconst (v := 0) hx hb dX9_drawnNumber_33 (by decide) ?_
        refine lv_istore (lv' := [(5, .int 0), (1, .int x1), (2, .int w2), (3, .int v3), (4, .int (nI t9))]) hx hb dX9_drawnNumber_34 hl (by decide) rfl (fun ls hl => ?_)
        refine lv_iconst (v := 0) hx hb dX9_drawnNumber_36 (by decide) ?_
        refine lv_istore (lv' := [(6, .int 0), (5, .int 0), (1, .int x1), (2, .int w2), (3, .int v3), (4, .int (nI t9))]) hx hb dX9_drawnNumber_37 hl (by decide) rfl (fun ls hl => ?_)
        exact lp39 _ 0 v3 0 (by omega) hlt_t9 (Nat.lt_succ_self _) ls (lv_sub hl [2, 3, 4, 5, 1, 0] rfl)
  have lp6 : ∀ (n6 : Nat), ∀ (w : Int32) (v : Int32), v.toNatClampNeg < n6 → ∀ (ls : Array Slot), lv_has ls 7 [(0, .int x0), (1, .int x1), (2, .int w), (3, .int v)] → W p l e (headSpec wsX9_drawnNumber ({ frames := 0, cells := 0, slots := 0, locals := 0 })).room s m ([.int x0, .int x1] : List Value).toArray below meth c s.heap [] 0 0 (MQ below (vp_Si (fun r => True)) ([.int x0, .int x1] : List Value).toArray s 0 0 (fun _ => False)) (F0 m 6 ls []) := by
    intro n6
    induction n6 with
    | zero => intro w v  hn; exact absurd hn (Nat.not_lt_zero _)
    | succ n6 ih6 =>
      intro w v  hn6 ls hl
      refine lv_iload_n hx hb dX9_drawnNumber_6 rfl (lv_at hl 3 rfl) ?_
      refine lv_if_le (tgt := 20) hx hb dX9_drawnNumber_7 (by decide) (fun c_4 => ?_) (fun c_4 => ?_)
      · refine lv_iload_n hx hb dX9_drawnNumber_20 rfl (lv_at hl 0 rfl) ?_
        refine lv_istore_n (lv' := [(3, .int x0), (0, .int x0), (1, .int x1), (2, .int w)]) hx hb dX9_drawnNumber_21 rfl hl (by decide) rfl (fun ls hl => ?_)
        refine lv_iconst (v := 0) hx hb dX9_drawnNumber_22 (by decide) ?_
        refine lv_istore (lv' := [(4, .int 0), (3, .int x0), (0, .int x0), (1, .int x1), (2, .int w)]) hx hb dX9_drawnNumber_23 hl (by decide) rfl (fun ls hl => ?_)
        exact lp25 _ 0 w x0 (by omega) (Nat.lt_succ_self _) ls (lv_sub hl [3, 4, 1, 0] rfl)
      · refine lv_iinc (v := w + 1) (lv' := [(2, .int (w + 1)), (0, .int x0), (1, .int x1), (3, .int v)]) hx hb dX9_drawnNumber_10 hl (k := 2) rfl rfl (by decide) rfl (fun ls hl => ?_)
        refine lv_iload_n hx hb dX9_drawnNumber_13 rfl (lv_at hl 3 rfl) ?_
        refine lv_iconst (v := 1) hx hb dX9_drawnNumber_14 (by decide) ?_
        refine lv_ishr hx hb dX9_drawnNumber_15 ?_
        refine lv_istore_n (lv' := [(3, .int (v >>> ((1 : Int32) &&& 31))), (2, .int (w + 1)), (0, .int x0), (1, .int x1)]) hx hb dX9_drawnNumber_16 rfl hl (by decide) rfl (fun ls hl => ?_)
        refine lv_goto (tgt := 6) hx hb dX9_drawnNumber_17 (by decide) ?_
        exact ih6 (w + 1) (v >>> ((1 : Int32) &&& 31))  (shr_dec c_4 hn6) ls (lv_sub hl [2, 3, 1, 0] rfl)
  refine lv_iconst (v := 0) hx hb dX9_drawnNumber_0 (by decide) ?_
  refine lv_istore_n (lv' := [(2, .int 0), (0, .int x0), (1, .int x1)]) hx hb dX9_drawnNumber_1 rfl hl (by decide) rfl (fun ls hl => ?_)
  refine lv_iload_n hx hb dX9_drawnNumber_2 rfl (lv_at hl 2 rfl) ?_
  refine lv_iconst (v := 1) hx hb dX9_drawnNumber_3 (by decide) ?_
  refine lv_isub hx hb dX9_drawnNumber_4 ?_
  refine lv_istore_n (lv' := [(3, .int (x1 - 1)), (2, .int 0), (0, .int x0), (1, .int x1)]) hx hb dX9_drawnNumber_5 rfl hl (by decide) rfl (fun ls hl => ?_)
  exact lp6 _ (0 : Int32) (x1 - 1)  (Nat.lt_succ_self _) ls (lv_sub hl [2, 3, 1, 0] rfl)
