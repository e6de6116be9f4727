theorem dJ7_fill_53178_5 : decode cJ7_fill_53178 5 = .ok (.iload_n 2, 1) := by decide +kernel
theorem dJ7_fill_53178_6 : decode cJ7_fill_53178 6 = .ok (.iload_n 3, 1) := by decide +kernel
theorem dJ7_fill_53178_7 : decode cJ7_fill_53178 7 = .ok (.if_icmp .ge 13, 3) := by decide +kernel
theorem dJ7_fill_53178_20 : decode cJ7_fill_53178 20 = .ok (.return_, 1) := by decide +kernel
theorem dJ7_fill_53178_10 : decode cJ7_fill_53178 10 = .ok (.aload_n 0, 1) := by decide +kernel
theorem dJ7_fill_53178_11 : decode cJ7_fill_53178 11 = .ok (.iload_n 2, 1) := by decide +kernel
theorem dJ7_fill_53178_12 : decode cJ7_fill_53178 12 = .ok (.iload_n 1, 1) := by decide +kernel
theorem dJ7_fill_53178_13 : decode cJ7_fill_53178 13 = .ok (.iastore, 1) := by decide +kernel
theorem dJ7_fill_53178_14 : decode cJ7_fill_53178 14 = .ok (.iinc 2 1, 3) := by decide +kernel
theorem dJ7_fill_53178_17 : decode cJ7_fill_53178 17 = .ok (.goto (-12), 3) := by decide +kernel
theorem dJ7_fill_53178_0 : decode cJ7_fill_53178 0 = .ok (.iconst 0, 1) := by decide +kernel
theorem dJ7_fill_53178_1 : decode cJ7_fill_53178 1 = .ok (.istore_n 2, 1) := by decide +kernel
theorem dJ7_fill_53178_2 : decode cJ7_fill_53178 2 = .ok (.aload_n 0, 1) := by decide +kernel
theorem dJ7_fill_53178_3 : decode cJ7_fill_53178 3 = .ok (.arraylength, 1) := by decide +kernel
theorem dJ7_fill_53178_4 : decode cJ7_fill_53178 4 = .ok (.istore_n 3, 1) := by decide +kernel
set_option maxHeartbeats 4000000 in
set_option maxRecDepth 100000 in
theorem c_fill16 (l : Launch) (D : va_G) (cy : Nat → ClassId) (b sz : Nat) (f : Nat → Int32) (x1 : Int32) : Met l yJ7_fill_53178 wsJ7_fill_53178 ({ frames := 0, cells := 0, slots := 0, locals := 0 }) (va_Pc [.ref b, .int x1] (PW D cy sz ([(b, .inl (cy 0, 16, .inl (f)))]))) (va_Qv (fun _ : Nat → Int32 => True) (BW D (va_A ([(b, .inl (cy 0, 16, .inl (f)))]) sz) (fun u : Nat → Int32 => [(b, .inl (cy 0, 16, .inl u))])) (va_A ([(b, .inl (cy 0, 16, .inl (f)))]) sz)) 0 0 (va_A ([(b, .inl (cy 0, 16, .inl (f)))]) sz) := by
  refine Met.ofW (cc := cJ7_fill_53178) (maxL := 4) (ret := none) (by decide) rfl ?_
  intro p e s m args below meth c s₁ B hml hv
  obtain ⟨rfl, rfl, hP, hK, hN, hD0⟩ := hv
  have hx := B.exec
  have hb := B.bytes
  have hr := B.returns
  have hts := atoms_spec (ws := wsJ7_fill_53178) B.pre
  have hown : s.vm.findClass RJ7 = some m.cls := findClass_of_methodNamed B.named
  have hlocks := B.notSynchronized
  have hD := hD0.self (sz := s.heap.size)
  generalize hAe : va_A ([(b, .inl (cy 0, 16, .inl (f)))]) s.heap.size = A at hD ⊢
  have hA : ∀ q : Nat, s.heap.size ≤ q → A q := fun q h => by rw [← hAe]; exact Or.inr h
  have hS : va_S A s.heap s.heap [] := va_S.rf
  have hl := lv_entry ([.ref b, .int x1]) (n := 4) (Nat.le_of_ble_eq_true rfl)
  rw [lg_entry_eq]
  generalize (lg_sl ([.ref b, .int x1]) ++ List.replicate (4 - (lg_sl ([.ref b, .int x1])).length) Slot.unset).toArray = ls at hl ⊢
  have hl : lv_has ls 4 [(0, .ref b), (1, .int x1)] := hl
  have lp : ∀ (n5 : Nat), ∀ (i : Nat) (f1 : Nat → Int32), (i ≤ 16) → (16 - i) < n5 → ∀ (H : Heap) (locs : List Loc), va_P D vwCl ([(b, .inl (cy 0, 16, .inl (f1)))]) H → va_D A ([(b, .inl (cy 0, 16, .inl (f1)))]) → va_S A s.heap H locs → ∀ (ls : Array Slot), lv_has ls 4 [(0, .ref b), (1, .int x1), (2, .int (nI i)), (3, .int 16)] → W p l e (headSpec wsJ7_fill_53178 ({ frames := 0, cells := 0, slots := 0, locals := 0 })).room s m ([.ref b, .int x1] : List Value).toArray below meth c H locs 0 0 (MQ below (va_Qv (fun _ : Nat → Int32 => True) (BW D A (fun u : Nat → Int32 => [(b, .inl (cy 0, 16, .inl u))])) A) ([.ref b, .int x1] : List Value).toArray s 0 0 A) (F0 m 5 ls []) := by
    intro n5
    induction n5 with
    | zero => intro i f1 hi hn; exact absurd hn (Nat.not_lt_zero _)
    | succ n5 ih5 =>
      intro i f1 hi hn5 H locs hP hD hS ls hl
      refine lv_iload_n hx hb dJ7_fill_53178_5 rfl (lv_at hl 2 rfl) ?_
      refine lv_iload_n hx hb dJ7_fill_53178_6 rfl (lv_at hl 3 rfl) ?_
      refine lv_icmp_ge (tgt := 20) hx hb dJ7_fill_53178_7 (by decide) (fun c_1 => ?_) (fun c_1 => ?_)
      · have hie := ctr_ge (N := 16) (by decide) hi c_1
        subst hie
        exact wret_v hx hb hr hlocks f1 trivial hP hD hS dJ7_fill_53178_20
      · have hlt := ctr_lt (N := 16) (by decide) hi c_1
        refine lv_aload_n hx hb dJ7_fill_53178_10 rfl (lv_at hl 0 rfl) ?_
        refine lv_iload_n hx hb dJ7_fill_53178_11 rfl (lv_at hl 2 rfl) ?_
        refine lv_iload_n hx hb dJ7_fill_53178_12 rfl (lv_at hl 1 rfl) ?_
        refine va_iast hx hb hK hP hD hS 0 0 rfl rfl (vp_in_nI (by omega) (by decide)) dJ7_fill_53178_13 (fun H locs hP hD hS => ?_)
        have hP : va_P D vwCl ([(b, .inl (cy 0, 16, .inl ((upd f1 (nI i).toNatClampNeg x1))))]) H := hP
        have hD : va_D A ([(b, .inl (cy 0, 16, .inl ((upd f1 (nI i).toNatClampNeg x1))))]) := hD
        refine lv_iinc (v := nI (i + 1)) (lv' := [(2, .int (nI (i + 1))), (0, .ref b), (1, .int x1), (3, .int 16)]) hx hb dJ7_fill_53178_14 hl (k := 2) rfl (nI_1 _) (by decide) rfl (fun ls hl => ?_)
        refine lv_goto (tgt := 5) hx hb dJ7_fill_53178_17 (by decide) ?_
        exact ih5 (i + 1) (upd f1 (nI i).toNatClampNeg x1) (by omega) (by omega) _ _ hP hD hS ls (lv_sub hl [1, 2, 0, 3] rfl)
  refine lv_iconst (v := 0) hx hb dJ7_fill_53178_0 (by decide) ?_
  refine lv_istore_n (lv' := [(2, .int 0), (0, .ref b), (1, .int x1)]) hx hb dJ7_fill_53178_1 rfl hl (by decide) rfl (fun ls hl => ?_)
  refine lv_aload_n hx hb dJ7_fill_53178_2 rfl (lv_at hl 1 rfl) ?_
  refine va_alen hx hb hK hP 0 0 rfl rfl (v := 16) rfl dJ7_fill_53178_3 ?_
  refine lv_istore_n (lv' := [(3, .int 16), (2, .int 0), (0, .ref b), (1, .int x1)]) hx hb dJ7_fill_53178_4 rfl hl (by decide) rfl (fun ls hl => ?_)
  exact lp _ 0 f (by omega) (Nat.lt_succ_self _) _ _ hP hD hS ls (lv_sub hl [2, 3, 1, 0] rfl)
set_option maxHeartbeats 4000000 in
set_option maxRecDepth 100000 in
theorem c_fill64 (l : Launch) (D : va_G) (cy : Nat → ClassId) (b sz : Nat) (f : Nat → Int32) (x1 : Int32) : Met l yJ7_fill_53178 wsJ7_fill_53178 ({ frames := 0, cells := 0, slots := 0, locals := 0 }) (va_Pc [.ref b, .int x1] (PW D cy sz ([(b, .inl (cy 0, 64, .inl (f)))]))) (va_Qv (fun _ : Nat → Int32 => True) (BW D (va_A ([(b, .inl (cy 0, 64, .inl (f)))]) sz) (fun u : Nat → Int32 => [(b, .inl (cy 0, 64, .inl u))])) (va_A ([(b, .inl (cy 0, 64, .inl (f)))]) sz)) 0 0 (va_A ([(b, .inl (cy 0, 64, .inl (f)))]) sz) := by
  refine Met.ofW (cc := cJ7_fill_53178) (maxL := 4) (ret := none) (by decide) rfl ?_
  intro p e s m args below meth c s₁ B hml hv
  obtain ⟨rfl, rfl, hP, hK, hN, hD0⟩ := hv
  have hx := B.exec
  have hb := B.bytes
  have hr := B.returns
  have hts := atoms_spec (ws := wsJ7_fill_53178) B.pre
  have hown : s.vm.findClass RJ7 = some m.cls := findClass_of_methodNamed B.named
  have hlocks := B.notSynchronized
  have hD := hD0.self (sz := s.heap.size)
  generalize hAe : va_A ([(b, .inl (cy 0, 64, .inl (f)))]) s.heap.size = A at hD ⊢
  have hA : ∀ q : Nat, s.heap.size ≤ q → A q := fun q h => by rw [← hAe]; exact Or.inr h
  have hS : va_S A s.heap s.heap [] := va_S.rf
  have hl := lv_entry ([.ref b, .int x1]) (n := 4) (Nat.le_of_ble_eq_true rfl)
  rw [lg_entry_eq]
  generalize (lg_sl ([.ref b, .int x1]) ++ List.replicate (4 - (lg_sl ([.ref b, .int x1])).length) Slot.unset).toArray = ls at hl ⊢
  have hl : lv_has ls 4 [(0, .ref b), (1, .int x1)] := hl
  have lp : ∀ (n5 : Nat), ∀ (i : Nat) (f1 : Nat → Int32), (i ≤ 64) → (64 - i) < n5 → ∀ (H : Heap) (locs : List Loc), va_P D vwCl ([(b, .inl (cy 0, 64, .inl (f1)))]) H → va_D A ([(b, .inl (cy 0, 64, .inl (f1)))]) → va_S A s.heap H locs → ∀ (ls : Array Slot), lv_has ls 4 [(0, .ref b), (1, .int x1), (2, .int (nI i)), (3, .int 64)] → W p l e (headSpec wsJ7_fill_53178 ({ frames := 0, cells := 0, slots := 0, locals := 0 })).room s m ([.ref b, .int x1] : List Value).toArray below meth c H locs 0 0 (MQ below (va_Qv (fun _ : Nat → Int32 => True) (BW D A (fun u : Nat → Int32 => [(b, .inl (cy 0, 64, .inl u))])) A) ([.ref b, .int x1] : List Value).toArray s 0 0 A) (F0 m 5 ls []) := by
    intro n5
    induction n5 with
    | zero => intro i f1 hi hn; exact absurd hn (Nat.not_lt_zero _)
    | succ n5 ih5 =>
      intro i f1 hi hn5 H locs hP hD hS ls hl
      refine lv_iload_n hx hb dJ7_fill_53178_5 rfl (lv_at hl 2 rfl) ?_
      refine lv_iload_n hx hb dJ7_fill_53178_6 rfl (lv_at hl 3 rfl) ?_
      refine lv_icmp_ge (tgt := 20) hx hb dJ7_fill_53178_7 (by decide) (fun c_1 => ?_) (fun c_1 => ?_)
      · have hie := ctr_ge (N := 64) (by decide) hi c_1
        subst hie
        exact wret_v hx hb hr hlocks f1 trivial hP hD hS dJ7_fill_53178_20
      · have hlt := ctr_lt (N := 64) (by decide) hi c_1
        refine lv_aload_n hx hb dJ7_fill_53178_10 rfl (lv_at hl 0 rfl) ?_
        refine lv_iload_n hx hb dJ7_fill_53178_11 rfl (lv_at hl 2 rfl) ?_
        refine lv_iload_n hx hb dJ7_fill_53178_12 rfl (lv_at hl 1 rfl) ?_
        refine va_iast hx hb hK hP hD hS 0 0 rfl rfl (vp_in_nI (by omega) (by decide)) dJ7_fill_53178_13 (fun H locs hP hD hS => ?_)
        have hP : va_P D vwCl ([(b, .inl (cy 0, 64, .inl ((upd f1 (nI i).toNatClampNeg x1))))]) H := hP
        have hD : va_D A ([(b, .inl (cy 0, 64, .inl ((upd f1 (nI i).toNatClampNeg x1))))]) := hD
        refine lv_iinc (v := nI (i + 1)) (lv' := [(2, .int (nI (i + 1))), (0, .ref b), (1, .int x1), (3, .int 64)]) hx hb dJ7_fill_53178_14 hl (k := 2) rfl (nI_1 _) (by decide) rfl (fun ls hl => ?_)
        refine lv_goto (tgt := 5) hx hb dJ7_fill_53178_17 (by decide) ?_
        exact ih5 (i + 1) (upd f1 (nI i).toNatClampNeg x1) (by omega) (by omega) _ _ hP hD hS ls (lv_sub hl [1, 2, 0, 3] rfl)
  refine lv_iconst (v := 0) hx hb dJ7_fill_53178_0 (by decide) ?_
  refine lv_istore_n (lv' := [(2, .int 0), (0, .ref b), (1, .int x1)]) hx hb dJ7_fill_53178_1 rfl hl (by decide) rfl (fun ls hl => ?_)
  refine lv_aload_n hx hb dJ7_fill_53178_2 rfl (lv_at hl 1 rfl) ?_
  refine va_alen hx hb hK hP 0 0 rfl rfl (v := 64) rfl dJ7_fill_53178_3 ?_
  refine lv_istore_n (lv' := [(3, .int 64), (2, .int 0), (0, .ref b), (1, .int x1)]) hx hb dJ7_fill_53178_4 rfl hl (by decide) rfl (fun ls hl => ?_)
  exact lp _ 0 f (by omega) (Nat.lt_succ_self _) _ _ hP hD hS ls (lv_sub hl [2, 3, 1, 0] rfl)
theorem win0 (x : UInt64) : (((0 : Int64).toUInt64 >>> x).toInt64).toInt32 &&& 255 = 0 := by
  have h : Int64.toUInt64 0 = 0 := rfl
  rw [h, UInt64.zero_shiftRight]
  rfl
theorem g_along0 (f : Int32) : g_alongFits 0 f = false := by simp [g_alongFits, g_holds0]
theorem g_across0 (f : Int32) : g_acrossFits 0 f = false := by simp [g_acrossFits, g_holds0]
theorem kx {j : Nat} (h : j < 65) : vp_in (nI j * 256) 16640 := by
  have e : nI j * 256 = nI (j * 256) := by rw [← pk_mul]; rfl
  rw [e]; exact vp_in_nI (by omega) (by decide)
theorem kxc {j : Nat} (h : j < 65) : (nI j * 256).toNatClampNeg = 256 * j := by
  have e : nI j * 256 = nI (j * 256) := by rw [← pk_mul]; rfl
  rw [e, nI_clamp (by omega), Nat.mul_comm]
theorem dX4_fill_0 : decode cX4_fill 0 = .ok (.lload_n 3, 1) := by decide +kernel
theorem dX4_fill_1 : decode cX4_fill 1 = .ok (.iload 5, 2) := by decide +kernel
theorem dX4_fill_3 : decode cX4_fill 3 = .ok (.lushr, 1) := by decide +kernel
theorem dX4_fill_4 : decode cX4_fill 4 = .ok (.l2i, 1) := by decide +kernel
theorem dX4_fill_5 : decode cX4_fill 5 = .ok (.sipush 255, 3) := by decide +kernel
theorem dX4_fill_8 : decode cX4_fill 8 = .ok (.iand, 1) := by decide +kernel
theorem dX4_fill_9 : decode cX4_fill 9 = .ok (.istore 6, 2) := by decide +kernel
theorem dX4_fill_11 : decode cX4_fill 11 = .ok (.lload_n 3, 1) := by decide +kernel
theorem dX4_fill_12 : decode cX4_fill 12 = .ok (.iload 5, 2) := by decide +kernel
set_option maxRecDepth 20000 in
theorem ggX4_fill_X4_alongFits : GoodIn wsX4_fill wsX4_alongFits := goodIn_r _ [4, 5, 6, 7, 8] (by decide +kernel) (by decide +kernel)
set_option maxRecDepth 20000 in
theorem gX4_fill_X4_alongFits : GoodIn wsX4_fill (va_wsS RX4 30 yX4_alongFits wsX4_alongFits) := goodIn_app (goodIn_of _ (by decide +kernel)) ggX4_fill_X4_alongFits
theorem dX4_fill_14 : decode cX4_fill 14 = .ok (.invokestatic 30, 3) := by decide +kernel
theorem dX4_fill_17 : decode cX4_fill 17 = .ok (.istore 7, 2) := by decide +kernel
theorem dX4_fill_19 : decode cX4_fill 19 = .ok (.lload_n 3, 1) := by decide +kernel
theorem dX4_fill_20 : decode cX4_fill 20 = .ok (.iload 5, 2) := by decide +kernel
set_option maxRecDepth 20000 in
theorem ggX4_fill_X4_acrossFits : GoodIn wsX4_fill wsX4_acrossFits := goodIn_r _ [11, 5, 6, 7, 8] (by decide +kernel) (by decide +kernel)
set_option maxRecDepth 20000 in
theorem gX4_fill_X4_acrossFits : GoodIn wsX4_fill (va_wsS RX4 34 yX4_acrossFits wsX4_acrossFits) := goodIn_app (goodIn_of _ (by decide +kernel)) ggX4_fill_X4_acrossFits
theorem dX4_fill_22 : decode cX4_fill 22 = .ok (.invokestatic 34, 3) := by decide +kernel
theorem dX4_fill_25 : decode cX4_fill 25 = .ok (.istore 8, 2) := by decide +kernel
theorem dX4_fill_27 : decode cX4_fill 27 = .ok (.iload 6, 2) := by decide +kernel
theorem dX4_fill_29 : decode cX4_fill 29 = .ok (.istore 9, 2) := by decide +kernel
theorem dX4_fill_31 : decode cX4_fill 31 = .ok (.sipush 256, 3) := by decide +kernel
theorem dX4_fill_34 : decode cX4_fill 34 = .ok (.istore 10, 2) := by decide +kernel
theorem dX4_fill_36 : decode cX4_fill 36 = .ok (.iload 10, 2) := by decide +kernel
theorem dX4_fill_38 : decode cX4_fill 38 = .ok (.ifCond .le 113, 3) := by decide +kernel
theorem dX4_fill_41 : decode cX4_fill 41 = .ok (.iload 9, 2) := by decide +kernel
theorem dX4_fill_43 : decode cX4_fill 43 = .ok (.iconst 1, 1) := by decide +kernel
theorem dX4_fill_44 : decode cX4_fill 44 = .ok (.ishr, 1) := by decide +kernel
theorem dX4_fill_45 : decode cX4_fill 45 = .ok (.istore 11, 2) := by decide +kernel
theorem dX4_fill_47 : decode cX4_fill 47 = .ok (.iconst 0, 1) := by decide +kernel
theorem dX4_fill_48 : decode cX4_fill 48 = .ok (.istore 12, 2) := by decide +kernel
theorem dX4_fill_50 : decode cX4_fill 50 = .ok (.iload 6, 2) := by decide +kernel
theorem dX4_fill_52 : decode cX4_fill 52 = .ok (.iconst 1, 1) := by decide +kernel
theorem dX4_fill_53 : decode cX4_fill 53 = .ok (.iand, 1) := by decide +kernel
theorem dX4_fill_54 : decode cX4_fill 54 = .ok (.ifCond .eq 10, 3) := by decide +kernel
theorem dX4_fill_64 : decode cX4_fill 64 = .ok (.aload_n 0, 1) := by decide +kernel
theorem dX4_fill_65 : decode cX4_fill 65 = .ok (.iload_n 2, 1) := by decide +kernel
theorem dX4_fill_66 : decode cX4_fill 66 = .ok (.iload 11, 2) := by decide +kernel
theorem dX4_fill_68 : decode cX4_fill 68 = .ok (.iadd, 1) := by decide +kernel
theorem dX4_fill_69 : decode cX4_fill 69 = .ok (.iaload, 1) := by decide +kernel
theorem dX4_fill_70 : decode cX4_fill 70 = .ok (.istore 12, 2) := by decide +kernel
theorem dX4_fill_72 : decode cX4_fill 72 = .ok (.goto 48, 3) := by decide +kernel
theorem dX4_fill_120 : decode cX4_fill 120 = .ok (.aload_n 0, 1) := by decide +kernel
theorem dX4_fill_121 : decode cX4_fill 121 = .ok (.iload_n 1, 1) := by decide +kernel
theorem dX4_fill_122 : decode cX4_fill 122 = .ok (.iload 9, 2) := by decide +kernel
theorem dX4_fill_124 : decode cX4_fill 124 = .ok (.iadd, 1) := by decide +kernel
theorem dX4_fill_125 : decode cX4_fill 125 = .ok (.iload 12, 2) := by decide +kernel
theorem dX4_fill_127 : decode cX4_fill 127 = .ok (.iastore, 1) := by decide +kernel
theorem dX4_fill_128 : decode cX4_fill 128 = .ok (.iload 9, 2) := by decide +kernel
theorem dX4_fill_130 : decode cX4_fill 130 = .ok (.ifCond .ne 6, 3) := by decide +kernel
theorem dX4_fill_133 : decode cX4_fill 133 = .ok (.goto 18, 3) := by decide +kernel
theorem dX4_fill_151 : decode cX4_fill 151 = .ok (.return_, 1) := by decide +kernel
set_option maxHeartbeats 4000000 in
set_option maxRecDepth 100000 in
theorem c_X4_fill0 (l : Launch) (D : va_G) (cy : Nat → ClassId) (b sz : Nat) (f : Nat → Int32) (x1 : Int32) (x2 : Int32) (x4 : Int32) (hx1 : vp_in x1 16640) (hx2 : vp_in x2 16640) : Met l yX4_fill wsX4_fill ({ frames := 2, cells := 0, slots := 0, locals := 44 }) (va_Pc [.ref b, .int x1, .int x2, .long 0, .int x4] (PW D cy sz ([(b, .inl (cy 0, 16640, .inl (f)))]))) (va_Qv (fun u : Nat → Int32 => u = upd f x1.toNatClampNeg (f x2.toNatClampNeg)) (BW D (va_A ([(b, .inl (cy 0, 16640, .inl (f)))]) sz) (fun u : Nat → Int32 => [(b, .inl (cy 0, 16640, .inl u))])) (va_A ([(b, .inl (cy 0, 16640, .inl (f)))]) sz)) 0 0 (va_A ([(b, .inl (cy 0, 16640, .inl (f)))]) sz) := by
  refine Met.ofW (cc := cX4_fill) (maxL := 13) (ret := none) (by decide) rfl ?_
  intro p e s m args below meth c s₁ B hml hv
  obtain ⟨rfl, rfl, hP, hK, hN, hD0⟩ := hv
  have hx := B.exec
  have hb := B.bytes
  have hr := B.returns
  have hts := atoms_spec (ws := wsX4_fill) B.pre
  have hown : s.vm.findClass RX4 = some m.cls := findClass_of_methodNamed B.named
  have hlocks := B.notSynchronized
  have hD := hD0.self (sz := s.heap.size)
  generalize hAe : va_A ([(b, .inl (cy 0, 16640, .inl (f)))]) s.heap.size = A at hD ⊢
  have hA : ∀ q : Nat, s.heap.size ≤ q → A q := fun q h => by rw [← hAe]; exact Or.inr h
  have hS : va_S A s.heap s.heap [] := va_S.rf
  have hl := lv_entry ([.ref b, .int x1, .int x2, .long 0, .int x4]) (n := 13) (Nat.le_of_ble_eq_true rfl)
  rw [lg_entry_eq]
  generalize (lg_sl ([.ref b, .int x1, .int x2, .long 0, .int x4]) ++ List.replicate (13 - (lg_sl ([.ref b, .int x1, .int x2, .long 0, .int x4])).length) Slot.unset).toArray = ls at hl ⊢
  have hl : lv_has ls 13 [(0, .ref b), (1, .int x1), (2, .int x2), (3, .long 0), (5, .int x4)] := hl
  refine lv_lload_n hx hb dX4_fill_0 rfl (lv_at hl 3 rfl) ?_
  refine lv_iload hx hb dX4_fill_1 (lv_at hl 4 rfl) ?_
  refine lv_lushr (v := ((0 : Int64).toUInt64 >>> ((x4 : Int32).toInt64.toUInt64 &&& Int64.toUInt64 63)).toInt64) hx hb dX4_fill_3 rfl ?_
  refine lv_l2i (v := (((0 : Int64).toUInt64 >>> ((x4 : Int32).toInt64.toUInt64 &&& Int64.toUInt64 63)).toInt64 : Int64).toInt32) hx hb dX4_fill_4 rfl ?_
  refine lv_sipush (v := 255) hx hb dX4_fill_5 (by decide) ?_
  refine lv_iand hx hb dX4_fill_8 ?_
  refine wtop_i (y := 0) (win0 _) ?_
  refine lv_istore (lv' := [(6, .int 0), (0, .ref b), (1, .int x1), (2, .int x2), (3, .long 0), (5, .int x4)]) hx hb dX4_fill_9 hl (by decide) rfl (fun ls hl => ?_)
  refine lv_lload_n hx hb dX4_fill_11 rfl (lv_at hl 4 rfl) ?_
  refine lv_iload hx hb dX4_fill_12 (lv_at hl 5 rfl) ?_
  refine kS_i (As := [.long 0, .int x4]) (rest := []) ⟨hx, hb, hml, hown, hts⟩ (c_X4_alongFits l 0 x4) (va_cwS 2 hts gX4_fill_X4_alongFits rfl rfl rfl (by decide +kernel) ⟨Nat.le_of_ble_eq_true rfl, Nat.le_of_ble_eq_true rfl⟩) rfl hl.1 rfl (Nat.le_of_ble_eq_true rfl) dX4_fill_14 ⟨Nat.le_of_ble_eq_true rfl, Nat.le_of_ble_eq_true rfl⟩ ?_
  refine wtop_i (y := 0) (by rw [g_along0]; rfl) ?_
  refine lv_istore (lv' := [(7, .int 0), (6, .int 0), (0, .ref b), (1, .int x1), (2, .int x2), (3, .long 0), (5, .int x4)]) hx hb dX4_fill_17 hl (by decide) rfl (fun ls hl => ?_)
  refine lv_lload_n hx hb dX4_fill_19 rfl (lv_at hl 5 rfl) ?_
  refine lv_iload hx hb dX4_fill_20 (lv_at hl 6 rfl) ?_
  refine kS_i (As := [.long 0, .int x4]) (rest := []) ⟨hx, hb, hml, hown, hts⟩ (c_X4_acrossFits l 0 x4) (va_cwS 2 hts gX4_fill_X4_acrossFits rfl rfl rfl (by decide +kernel) ⟨Nat.le_of_ble_eq_true rfl, Nat.le_of_ble_eq_true rfl⟩) rfl hl.1 rfl (Nat.le_of_ble_eq_true rfl) dX4_fill_22 ⟨Nat.le_of_ble_eq_true rfl, Nat.le_of_ble_eq_true rfl⟩ ?_
  refine wtop_i (y := 0) (by rw [g_across0]; rfl) ?_
  refine lv_istore (lv' := [(8, .int 0), (7, .int 0), (6, .int 0), (0, .ref b), (1, .int x1), (2, .int x2), (3, .long 0), (5, .int x4)]) hx hb dX4_fill_25 hl (by decide) rfl (fun ls hl => ?_)
  refine lv_iload hx hb dX4_fill_27 (lv_at hl 2 rfl) ?_
  refine lv_istore (lv' := [(9, .int 0), (8, .int 0), (7, .int 0), (6, .int 0), (0, .ref b), (1, .int x1), (2, .int x2), (3, .long 0), (5, .int x4)]) hx hb dX4_fill_29 hl (by decide) rfl (fun ls hl => ?_)
  refine lv_sipush (v := 256) hx hb dX4_fill_31 (by decide) ?_
  refine lv_istore (lv' := [(10, .int 256), (9, .int 0), (8, .int 0), (7, .int 0), (6, .int 0), (0, .ref b), (1, .int x1), (2, .int x2), (3, .long 0), (5, .int x4)]) hx hb dX4_fill_34 hl (by decide) rfl (fun ls hl => ?_)
  refine lv_iload hx hb dX4_fill_36 (lv_at hl 0 rfl) ?_
  refine lv_if_le (tgt := 151) hx hb dX4_fill_38 (by decide) (fun c_1 => absurd c_1 (by decide)) (fun c_1 => ?_)
  refine lv_iload hx hb dX4_fill_41 (lv_at hl 1 rfl) ?_
  refine lv_iconst (v := 1) hx hb dX4_fill_43 (by decide) ?_
  refine lv_ishr hx hb dX4_fill_44 ?_
  refine wtop_i (y := 0) (by decide) ?_
  refine lv_istore (lv' := [(11, .int 0), (10, .int 256), (9, .int 0), (8, .int 0), (7, .int 0), (6, .int 0), (0, .ref b), (1, .int x1), (2, .int x2), (3, .long 0), (5, .int x4)]) hx hb dX4_fill_45 hl (by decide) rfl (fun ls hl => ?_)
  refine lv_iconst (v := 0) hx hb dX4_fill_47 (by decide) ?_
  refine lv_istore (lv' := [(12, .int 0), (11, .int 0), (10, .int 256), (9, .int 0), (8, .int 0), (7, .int 0), (6, .int 0), (0, .ref b), (1, .int x1), (2, .int x2), (3, .long 0), (5, .int x4)]) hx hb dX4_fill_48 hl (by decide) rfl (fun ls hl => ?_)
  refine lv_iload hx hb dX4_fill_50 (lv_at hl 6 rfl) ?_
  refine lv_iconst (v := 1) hx hb dX4_fill_52 (by decide) ?_
  refine lv_iand hx hb dX4_fill_53 ?_
  refine wtop_i (y := 0) (by decide) ?_
  refine lv_if_eq (tgt := 64) hx hb dX4_fill_54 (by decide) (fun c_2 => ?_) (fun c_2 => absurd (by decide) c_2)
  refine lv_aload_n hx hb dX4_fill_64 rfl (lv_at hl 7 rfl) ?_
  refine lv_iload_n hx hb dX4_fill_65 rfl (lv_at hl 9 rfl) ?_
  refine lv_iload hx hb dX4_fill_66 (lv_at hl 1 rfl) ?_
  refine lv_iadd hx hb dX4_fill_68 ?_
  refine wtop_i (y := x2) (Int32.add_zero _) ?_
  refine va_iald hx hb hK hP 0 0 rfl rfl hx2 dX4_fill_69 ?_
  refine lv_istore (lv' := [(12, .int (f x2.toNatClampNeg)), (11, .int 0), (10, .int 256), (9, .int 0), (8, .int 0), (7, .int 0), (6, .int 0), (0, .ref b), (1, .int x1), (2, .int x2), (3, .long 0), (5, .int x4)]) hx hb dX4_fill_70 hl (by decide) rfl (fun ls hl => ?_)
  refine lv_goto (tgt := 120) hx hb dX4_fill_72 (by decide) ?_
  refine lv_aload_n hx hb dX4_fill_120 rfl (lv_at hl 7 rfl) ?_
  refine lv_iload_n hx hb dX4_fill_121 rfl (lv_at hl 8 rfl) ?_
  refine lv_iload hx hb dX4_fill_122 (lv_at hl 3 rfl) ?_
  refine lv_iadd hx hb dX4_fill_124 ?_
  refine wtop_i (y := x1) (Int32.add_zero _) ?_
  refine lv_iload hx hb dX4_fill_125 (lv_at hl 0 rfl) ?_
  refine va_iast hx hb hK hP hD hS 0 0 rfl rfl hx1 dX4_fill_127 (fun H locs hP hD hS => ?_)
  have hP : va_P D vwCl ([(b, .inl (cy 0, 16640, .inl ((upd f x1.toNatClampNeg (f x2.toNatClampNeg)))))]) H := hP
  have hD : va_D A ([(b, .inl (cy 0, 16640, .inl ((upd f x1.toNatClampNeg (f x2.toNatClampNeg)))))]) := hD
  refine lv_iload hx hb dX4_fill_128 (lv_at hl 3 rfl) ?_
  refine lv_if_ne (tgt := 136) hx hb dX4_fill_130 (by decide) (fun c_3 => absurd (by decide) c_3) (fun c_3 => ?_)
  refine lv_goto (tgt := 151) hx hb dX4_fill_133 (by decide) ?_
  exact wret_v hx hb hr hlocks (upd f x1.toNatClampNeg (f x2.toNatClampNeg)) rfl hP hD hS dX4_fill_151
theorem dX4_know_39 : decode cX4_know 39 = .ok (.iload_n 3, 1) := by decide +kernel
theorem dX4_know_40 : decode cX4_know 40 = .ok (.ifCond .lt 33, 3) := by decide +kernel
theorem dX4_know_73 : decode cX4_know 73 = .ok (.return_, 1) := by decide +kernel
theorem dX4_know_43 : decode cX4_know 43 = .ok (.aload_n 0, 1) := by decide +kernel
theorem dX4_know_44 : decode cX4_know 44 = .ok (.getfield 9, 3) := by decide +kernel
theorem dX4_know_47 : decode cX4_know 47 = .ok (.iload_n 3, 1) := by decide +kernel
theorem dX4_know_48 : decode cX4_know 48 = .ok (.sipush 256, 3) := by decide +kernel
theorem dX4_know_51 : decode cX4_know 51 = .ok (.imul, 1) := by decide +kernel
theorem dX4_know_52 : decode cX4_know 52 = .ok (.iload_n 3, 1) := by decide +kernel
theorem dX4_know_53 : decode cX4_know 53 = .ok (.iconst 1, 1) := by decide +kernel
theorem dX4_know_54 : decode cX4_know 54 = .ok (.iadd, 1) := by decide +kernel
theorem dX4_know_55 : decode cX4_know 55 = .ok (.sipush 256, 3) := by decide +kernel
theorem dX4_know_58 : decode cX4_know 58 = .ok (.imul, 1) := by decide +kernel
theorem dX4_know_59 : decode cX4_know 59 = .ok (.aload_n 0, 1) := by decide +kernel
theorem dX4_know_60 : decode cX4_know 60 = .ok (.getfield 20, 3) := by decide +kernel
theorem dX4_know_63 : decode cX4_know 63 = .ok (.iload_n 3, 1) := by decide +kernel
set_option maxRecDepth 20000 in
theorem ggX4_know_X4_fill : GoodIn wsX4_know wsX4_fill := goodIn_r _ [7, 8, 9, 6, 10, 11, 12, 13, 14, 15, 16, 17] (by decide +kernel) (by decide +kernel)
set_option maxRecDepth 20000 in
theorem gX4_know_X4_fill : GoodIn wsX4_know (va_wsS RX4 24 yX4_fill wsX4_fill) := goodIn_app (goodIn_of _ (by decide +kernel)) ggX4_know_X4_fill
theorem dX4_know_64 : decode cX4_know 64 = .ok (.invokestatic 24, 3) := by decide +kernel
theorem dX4_know_67 : decode cX4_know 67 = .ok (.iinc 3 (-1), 3) := by decide +kernel
theorem dX4_know_70 : decode cX4_know 70 = .ok (.goto (-31), 3) := by decide +kernel
theorem dX4_know_0 : decode cX4_know 0 = .ok (.aload_n 0, 1) := by decide +kernel
theorem dX4_know_1 : decode cX4_know 1 = .ok (.getfield 16, 3) := by decide +kernel
theorem dX4_know_4 : decode cX4_know 4 = .ok (.ifCond .eq 13, 3) := by decide +kernel
theorem dX4_know_17 : decode cX4_know 17 = .ok (.aload_n 0, 1) := by decide +kernel
theorem dX4_know_18 : decode cX4_know 18 = .ok (.lload_n 1, 1) := by decide +kernel
theorem dX4_know_19 : decode cX4_know 19 = .ok (.putfield 20, 3) := by decide +kernel
theorem dX4_know_22 : decode cX4_know 22 = .ok (.aload_n 0, 1) := by decide +kernel
theorem dX4_know_23 : decode cX4_know 23 = .ok (.iconst 1, 1) := by decide +kernel
theorem dX4_know_24 : decode cX4_know 24 = .ok (.putfield 16, 3) := by decide +kernel
theorem dX4_know_27 : decode cX4_know 27 = .ok (.aload_n 0, 1) := by decide +kernel
theorem dX4_know_28 : decode cX4_know 28 = .ok (.getfield 9, 3) := by decide +kernel
theorem dX4_know_31 : decode cX4_know 31 = .ok (.sipush 16384, 3) := by decide +kernel
theorem dX4_know_34 : decode cX4_know 34 = .ok (.iconst 1, 1) := by decide +kernel
theorem dX4_know_35 : decode cX4_know 35 = .ok (.iastore, 1) := by decide +kernel
theorem dX4_know_36 : decode cX4_know 36 = .ok (.bipush 63, 2) := by decide +kernel
theorem dX4_know_38 : decode cX4_know 38 = .ok (.istore_n 3, 1) := by decide +kernel
set_option maxRecDepth 20000 in
theorem ihX4_know_4 : ∀ w ∈ u_ws RX4 TX4 4, w ∈ wsX4_know := by decide +kernel
set_option maxHeartbeats 4000000 in
set_option maxRecDepth 100000 in
theorem hv_know0 (l : Launch) (D : va_G) (cy : Nat → ClassId) (a : Nat → Nat) (sz : Nat) (RO : Nat → Nat → Option Nat)  : Met l yX4_know wsX4_know ({ frames := 3, cells := 0, slots := 0, locals := 76 }) (va_Pc [.ref (a 20), .long 0] (PW D cy sz (CL cy a (fun _ => 0) (fun _ => 0) (va_up (va_up (fun _ => none) 100 (some (a 4))) 5 (some (a 20))) (fun _ _ => 0) RO))) (va_Qv (fun (u : CS) => ∃ W0 : Nat → Int32, W0 0 = 1 ∧ u = ((fun _ => 0), va_up (fun _ => 0) 643 1, (va_up (va_up (fun _ => none) 100 (some (a 4))) 5 (some (a 20))), va_up (fun _ _ => 0) 21 W0, RO)) (BW D (va_A (CL cy a (fun _ => 0) (fun _ => 0) (va_up (va_up (fun _ => none) 100 (some (a 4))) 5 (some (a 20))) (fun _ _ => 0) RO) sz) (CLu cy a)) (va_A (CL cy a (fun _ => 0) (fun _ => 0) (va_up (va_up (fun _ => none) 100 (some (a 4))) 5 (some (a 20))) (fun _ _ => 0) RO) sz)) 0 0 (va_A (CL cy a (fun _ => 0) (fun _ => 0) (va_up (va_up (fun _ => none) 100 (some (a 4))) 5 (some (a 20))) (fun _ _ => 0) RO) sz) := by
  refine Met.ofW (cc := cX4_know) (maxL := 4) (ret := none) (by decide) rfl ?_
  intro p e s m args below meth c s₁ B hml hv
  obtain ⟨rfl, rfl, hP, hK, hN, hD0⟩ := hv
  have hx := B.exec
  have hb := B.bytes
  have hr := B.returns
  have hts := atoms_spec (ws := wsX4_know) B.pre
  have hown : s.vm.findClass RX4 = some m.cls := findClass_of_methodNamed B.named
  have hlocks := B.notSynchronized
  have hw0 := hts (.fieldLink RX4 9 "ParquetLayer$Layings" "ways" "[I") (by decide +kernel)
  have hw1 := hts (.fieldLink RX4 20 "ParquetLayer$Layings" "free" "J") (by decide +kernel)
  have hw2 := hts (.fieldLink RX4 16 "ParquetLayer$Layings" "known" "Z") (by decide +kernel)
  have hi4 := ihX4_know_4
  have hD := hD0.self (sz := s.heap.size)
  generalize hAe : va_A (CL cy a (fun _ => 0) (fun _ => 0) (va_up (va_up (fun _ => none) 100 (some (a 4))) 5 (some (a 20))) (fun _ _ => 0) RO) s.heap.size = A at hD ⊢
  have hA : ∀ q : Nat, s.heap.size ≤ q → A q := fun q h => by rw [← hAe]; exact Or.inr h
  have hS : va_S A s.heap s.heap [] := va_S.rf
  have hl := lv_entry ([.ref (a 20), .long 0]) (n := 4) (Nat.le_of_ble_eq_true rfl)
  rw [lg_entry_eq]
  generalize (lg_sl ([.ref (a 20), .long 0]) ++ List.replicate (4 - (lg_sl ([.ref (a 20), .long 0])).length) Slot.unset).toArray = ls at hl ⊢
  have hl : lv_has ls 4 [(0, .ref (a 20)), (1, .long 0)] := hl
  have lp : ∀ (n39 : Nat), ∀ (k : Nat) (W0 : Nat → Int32), (k ≤ 64) → (W0 (256 * k) = 1) → k < n39 → ∀ (H : Heap) (locs : List Loc), va_P D vwCl (CL cy a (fun _ => 0) (va_up (fun _ => 0) 643 1) (va_up (va_up (fun _ => none) 100 (some (a 4))) 5 (some (a 20))) (va_up (fun _ _ => 0) 21 W0) RO) H → va_D A (CL cy a (fun _ => 0) (va_up (fun _ => 0) 643 1) (va_up (va_up (fun _ => none) 100 (some (a 4))) 5 (some (a 20))) (va_up (fun _ _ => 0) 21 W0) RO) → va_S A s.heap H locs → ∀ (ls : Array Slot), lv_has ls 4 [(0, .ref (a 20)), (1, .long 0), (3, .int (dn k))] → W p l e (headSpec wsX4_know ({ frames := 3, cells := 0, slots := 0, locals := 76 })).room s m ([.ref (a 20), .long 0] : List Value).toArray below meth c H locs 0 0 (MQ below (va_Qv (fun (u : CS) => ∃ W0 : Nat → Int32, W0 0 = 1 ∧ u = ((fun _ => 0), va_up (fun _ => 0) 643 1, (va_up (va_up (fun _ => none) 100 (some (a 4))) 5 (some (a 20))), va_up (fun _ _ => 0) 21 W0, RO)) (BW D A (CLu cy a)) A) ([.ref (a 20), .long 0] : List Value).toArray s 0 0 A) (F0 m 39 ls []) := by
    intro n39
    induction n39 with
    | zero => intro k W0 hk hw hn; exact absurd hn (Nat.not_lt_zero _)
    | succ n39 ih39 =>
      intro k W0 hk hw hn39 H locs hP hD hS ls hl
      refine lv_iload_n hx hb dX4_know_39 rfl (lv_at hl 2 rfl) ?_
      refine lv_if_lt (tgt := 73) hx hb dX4_know_40 (by decide) (fun c_1 => ?_) (fun c_1 => ?_)
      · obtain rfl := dn_zero hk c_1
        exact wret_v hx hb hr hlocks ((fun _ => 0), (va_up (fun _ => 0) 643 1), (va_up (va_up (fun _ => none) 100 (some (a 4))) 5 (some (a 20))), (va_up (fun _ _ => 0) 21 W0), RO) ⟨W0, hw, rfl⟩ hP hD hS dX4_know_73
      · obtain ⟨j, rfl⟩ := dn_pos c_1
        rw [dn_s] at hl
        refine lv_aload_n hx hb dX4_know_43 rfl (lv_at hl 0 rfl) ?_
        refine va_get (D := D) (ci := 3) (v := .ref (a 21)) (C := RX4) (T := TX4) (N := 4) hx hb hts hi4 hown hK hP 20 rfl rfl 0 (by decide) hw0 (fun _ h9 => h9) rfl dX4_know_44 ?_
        refine lv_iload_n hx hb dX4_know_47 rfl (lv_at hl 2 rfl) ?_
        refine lv_sipush (v := 256) hx hb dX4_know_48 (by decide) ?_
        refine lv_imul hx hb dX4_know_51 ?_
        refine lv_iload_n hx hb dX4_know_52 rfl (lv_at hl 2 rfl) ?_
        refine lv_iconst (v := 1) hx hb dX4_know_53 (by decide) ?_
        refine lv_iadd hx hb dX4_know_54 ?_
        refine lv_sipush (v := 256) hx hb dX4_know_55 (by decide) ?_
        refine lv_imul hx hb dX4_know_58 ?_
        refine lv_aload_n hx hb dX4_know_59 rfl (lv_at hl 0 rfl) ?_
        refine va_get (D := D) (ci := 3) (v := .long 0) (C := RX4) (T := TX4) (N := 4) hx hb hts hi4 hown hK hP 20 rfl rfl 2 (by decide) hw1 (fun _ h9 => h9) rfl dX4_know_60 ?_
        refine lv_iload_n hx hb dX4_know_63 rfl (lv_at hl 2 rfl) ?_
        refine kO_v (As := [.ref (a 21), .int ((nI j) * 256), .int (((nI j) + 1) * 256), .long 0, .int (nI j)]) (rest := []) (q0 := 21) ⟨hx, hb, hml, hown, hts⟩ (c_X4_fill0 l D cy (a 21) _ W0 ((nI j) * 256) (((nI j) + 1) * 256) (nI j) (kx (by omega)) (by rw [nI_1]; exact kx (by omega))) (va_cwS 5 hts gX4_know_X4_fill rfl rfl rfl (by decide +kernel) ⟨Nat.le_of_ble_eq_true rfl, Nat.le_of_ble_eq_true rfl⟩) hK hN hP hD hS hA rfl rfl hl.1 rfl (Nat.le_of_ble_eq_true rfl) dX4_know_64 ⟨Nat.le_of_ble_eq_true rfl, Nat.le_of_ble_eq_true rfl⟩ (fun u H locs hw hP hD hS => ?_)
        obtain rfl := hw
        have hP : va_P D vwCl (CL cy a (fun _ => 0) (va_up (fun _ => 0) 643 1) (va_up (va_up (fun _ => none) 100 (some (a 4))) 5 (some (a 20))) (va_up (fun _ _ => 0) 21 (upd W0 ((nI j) * 256).toNatClampNeg (W0 (((nI j) + 1) * 256).toNatClampNeg))) RO) H := hP
        have hD : va_D A (CL cy a (fun _ => 0) (va_up (fun _ => 0) 643 1) (va_up (va_up (fun _ => none) 100 (some (a 4))) 5 (some (a 20))) (va_up (fun _ _ => 0) 21 (upd W0 ((nI j) * 256).toNatClampNeg (W0 (((nI j) + 1) * 256).toNatClampNeg))) RO) := hD
        refine lv_iinc (v := (nI j) + (-1)) (lv' := [(3, .int ((nI j) + (-1))), (0, .ref (a 20)), (1, .long 0)]) hx hb dX4_know_67 hl (k := 2) rfl rfl (by decide) rfl (fun ls hl => ?_)
        refine lv_goto (tgt := 39) hx hb dX4_know_70 (by decide) ?_
        exact ih39 j (upd W0 ((nI j) * 256).toNatClampNeg (W0 (((nI j) + 1) * 256).toNatClampNeg)) (by omega) (by rw [kxc (j := j) (by omega), pk_us, nI_1, kxc (j := j + 1) (by omega)]; exact hw) (by omega) _ _ hP hD hS ls (lv_sub hl [1, 2, 0] rfl)
  refine lv_aload_n hx hb dX4_know_0 rfl (lv_at hl 0 rfl) ?_
  refine va_get (D := D) (ci := 3) (v := .int 0) (C := RX4) (T := TX4) (N := 4) hx hb hts hi4 hown hK hP 20 rfl rfl 3 (by decide) hw2 (fun _ h9 => h9) rfl dX4_know_1 ?_
  refine lv_if_eq (tgt := 17) hx hb dX4_know_4 (by decide) (fun c_2 => ?_) (fun c_2 => absurd (by decide) c_2)
  refine lv_aload_n hx hb dX4_know_17 rfl (lv_at hl 0 rfl) ?_
  refine lv_lload_n hx hb dX4_know_18 rfl (lv_at hl 1 rfl) ?_
  refine va_put (D := D) (ci := 3) (v := .long 0) (ty := .long) (C := RX4) (T := TX4) (N := 4) hx hb hts hi4 tyX4 tyX4_ok nmX4 hown hK hP hD hS 20 rfl rfl 2 (by decide) hw1 (fun _ h9 => h9) rfl (by decide +kernel) rfl rfl (Nat.le_of_ble_eq_true rfl) dX4_know_19 (fun H locs hP hD hS => ?_)
  have hP : va_P D vwCl (CL cy a (fun _ => 0) (fun _ => 0) (va_up (va_up (fun _ => none) 100 (some (a 4))) 5 (some (a 20))) (fun _ _ => 0) RO) H := hP
  have hD : va_D A (CL cy a (fun _ => 0) (fun _ => 0) (va_up (va_up (fun _ => none) 100 (some (a 4))) 5 (some (a 20))) (fun _ _ => 0) RO) := hD
  refine lv_aload_n hx hb dX4_know_22 rfl (lv_at hl 0 rfl) ?_
  refine lv_iconst (v := 1) hx hb dX4_know_23 (by decide) ?_
  refine va_put (D := D) (ci := 3) (v := .int 1) (ty := .boolean) (C := RX4) (T := TX4) (N := 4) hx hb hts hi4 tyX4 tyX4_ok nmX4 hown hK hP hD hS 20 rfl rfl 3 (by decide) hw2 (fun _ h9 => h9) rfl (by decide +kernel) rfl rfl (Nat.le_of_ble_eq_true rfl) dX4_know_24 (fun H locs hP hD hS => ?_)
  have hP : va_P D vwCl (CL cy a (fun _ => 0) (va_up (fun _ => 0) 643 1) (va_up (va_up (fun _ => none) 100 (some (a 4))) 5 (some (a 20))) (fun _ _ => 0) RO) H := hP
  have hD : va_D A (CL cy a (fun _ => 0) (va_up (fun _ => 0) 643 1) (va_up (va_up (fun _ => none) 100 (some (a 4))) 5 (some (a 20))) (fun _ _ => 0) RO) := hD
  refine lv_aload_n hx hb dX4_know_27 rfl (lv_at hl 0 rfl) ?_
  refine va_get (D := D) (ci := 3) (v := .ref (a 21)) (C := RX4) (T := TX4) (N := 4) hx hb hts hi4 hown hK hP 20 rfl rfl 0 (by decide) hw0 (fun _ h9 => h9) rfl dX4_know_28 ?_
  refine lv_sipush (v := 16384) hx hb dX4_know_31 (by decide) ?_
  refine lv_iconst (v := 1) hx hb dX4_know_34 (by decide) ?_
  refine va_iast hx hb hK hP hD hS 21 0 rfl rfl (by unfold vp_in; decide) dX4_know_35 (fun H locs hP hD hS => ?_)
  have hP : va_P D vwCl (CL cy a (fun _ => 0) (va_up (fun _ => 0) 643 1) (va_up (va_up (fun _ => none) 100 (some (a 4))) 5 (some (a 20))) (va_up (fun _ _ => 0) 21 (upd (fun _ => 0) (16384 : Int32).toNatClampNeg 1)) RO) H := hP
  have hD : va_D A (CL cy a (fun _ => 0) (va_up (fun _ => 0) 643 1) (va_up (va_up (fun _ => none) 100 (some (a 4))) 5 (some (a 20))) (va_up (fun _ _ => 0) 21 (upd (fun _ => 0) (16384 : Int32).toNatClampNeg 1)) RO) := hD
  refine lv_bipush (v := 63) hx hb dX4_know_36 (by decide) ?_
  refine lv_istore_n (lv' := [(3, .int 63), (0, .ref (a 20)), (1, .long 0)]) hx hb dX4_know_38 rfl hl (by decide) rfl (fun ls hl => ?_)
  exact lp _ 64 (upd (fun _ => 0) (16384 : Int32).toNatClampNeg 1) (by omega) (by decide) (Nat.lt_succ_self _) _ _ hP hD hS ls (lv_sub hl [1, 2, 0] rfl)
