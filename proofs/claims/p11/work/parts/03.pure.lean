abbrev MW (cy : Nat → ClassId) (a : Nat → Nat) (J : Nat → Int64) (I : Nat → Int32) (R : Nat → Nat → Int32) (RJ : Nat → Nat → Int64) : va_W := [(a 0, .inr (9, [.long (J 0), .int (I 1), .ref (a 1), .int (I 3), .long (J 4), .long (J 5), .ref (a 2), .ref (a 3), .ref (a 4), .ref (a 5), .ref (a 6), .ref (a 7), .int (I 12), .int (I 13), .ref (a 8), .ref (a 9), .ref (a 10), .ref (a 11), .ref (a 12), .long (J 19), .long (J 20), .long (J 21), .long (J 22), .long (J 23), .ref (a 13), .ref (a 14), .ref (a 15), .ref (a 16), .ref (a 17), .ref (a 18)])), (a 1, .inl (cy 0, 20, .inl (R 1))), (a 2, .inl (cy 1, 20, .inr (.inl (RJ 2)))), (a 3, .inl (cy 0, 20, .inl (R 3))), (a 4, .inl (cy 0, 400, .inl (R 4))), (a 5, .inl (cy 2, 20, .inl (R 5))), (a 6, .inl (cy 1, 20, .inr (.inl (RJ 6)))), (a 7, .inl (cy 1, 20, .inr (.inl (RJ 7)))), (a 8, .inl (cy 0, 4, .inl (R 8))), (a 9, .inl (cy 0, 4, .inl (R 9))), (a 10, .inl (cy 0, 64, .inl (R 10))), (a 11, .inl (cy 2, 100, .inl (R 11))), (a 12, .inl (cy 0, 16640, .inl (R 12))), (a 13, .inl (cy 0, 81, .inl (R 13))), (a 14, .inl (cy 0, 81, .inl (R 14))), (a 15, .inl (cy 0, 64, .inl (R 15))), (a 16, .inl (cy 2, 64, .inl (R 16))), (a 17, .inl (cy 0, 64, .inl (R 17))), (a 18, .inl (cy 0, 16, .inl (R 18)))]

abbrev CW (cy : Nat → ClassId) (a : Nat → Nat) (J : Nat → Int64) (I : Nat → Int32) (O : Nat → Option Nat) (R : Nat → Nat → Int32) (RO : Nat → Nat → Option Nat) : va_W := [(a 0, .inr (8, [.ref (a 1), .ref (a 2), .ref (a 3), .ref (a 7), .ref (a 8), va_rf (O 5), .long (J 6), va_rf (O 7), va_rf (O 8), .int (I 9), .int (I 10)])), (a 1, .inl (cy 4, 4, .inr (.inr (.inr (.inr (RO 1)))))), (a 2, .inl (cy 3, 20, .inr (.inr (.inr (.inr (RO 2)))))), (a 3, .inr (1, [.ref (a 4), .ref (a 5), .ref (a 6), .int (I 99), va_rf (O 100)])), (a 4, .inl (cy 0, 81, .inl (R 4))), (a 5, .inl (cy 0, 81, .inl (R 5))), (a 6, .inl (cy 0, 81, .inl (R 6))), (a 7, .inr (7, [.long (J 224), .long (J 225)])), (a 8, .inr (0, [.ref (a 9), .ref (a 10), .ref (a 11), .int (I 259), .long (J 260), .long (J 261), .long (J 262)])), (a 9, .inl (cy 0, 64, .inl (R 9))), (a 10, .inl (cy 0, 64, .inl (R 10))), (a 11, .inl (cy 0, 64, .inl (R 11))), (a 12, .inr (5, [.ref (a 13), .int (I 385), .int (I 386)])), (a 13, .inl (cy 0, 16, .inl (R 13))), (a 14, .inr (5, [.ref (a 15), .int (I 449), .int (I 450)])), (a 15, .inl (cy 0, 16, .inl (R 15))), (a 16, .inr (5, [.ref (a 17), .int (I 513), .int (I 514)])), (a 17, .inl (cy 0, 16, .inl (R 17))), (a 18, .inr (5, [.ref (a 19), .int (I 577), .int (I 578)])), (a 19, .inl (cy 0, 16, .inl (R 19)))]

theorem wtop_i {p : Program} {l : Launch} {e : Env} {R : Room} {s : State} {m : MethodId} {args : Array Value} {below : List Frame} {meth : Method} {c : Code} {H : Heap} {locs : List Loc} {cells slots : Nat} {Q : State → Prop} {pc : Nat} {ls : Array Slot} {rest : List Value} {x y : Int32} (h : x = y) (k : W p l e R s m args below meth c H locs cells slots Q (F0 m pc ls (.int y :: rest))) : W p l e R s m args below meth c H locs cells slots Q (F0 m pc ls (.int x :: rest)) := h ▸ k
theorem wtop_l {p : Program} {l : Launch} {e : Env} {R : Room} {s : State} {m : MethodId} {args : Array Value} {below : List Frame} {meth : Method} {c : Code} {H : Heap} {locs : List Loc} {cells slots : Nat} {Q : State → Prop} {pc : Nat} {ls : Array Slot} {rest : List Value} {x y : Int64} (h : x = y) (k : W p l e R s m args below meth c H locs cells slots Q (F0 m pc ls (.long y :: rest))) : W p l e R s m args below meth c H locs cells slots Q (F0 m pc ls (.long x :: rest)) := h ▸ k
theorem sw_out {x : Int32} (lo hi : Int) (h1 : -2147483648 ≤ lo) (h2 : hi < 2147483648) (h : ∀ k : Int, lo ≤ k → k ≤ hi → ¬ x = Int32.ofInt k) : x.toInt < lo ∨ hi < x.toInt := by
  rcases Int.lt_or_le x.toInt lo with q | q
  · exact Or.inl q
  · rcases Int.lt_or_le hi x.toInt with r | r
    · exact Or.inr r
    · exact absurd (Int32.ofInt_toInt x).symm (h x.toInt q r)
def m_within (v lo hi : Int32) : Bool := !decide (v < lo) && !decide (hi < v)
def m_hasBit (set : Int64) (f : Int32) : Bool := decide ((set >>> (f.toInt64 &&& 63)) &&& 1 = 1)
def m_isOn (set : Int64) (x y : Int32) : Bool := m_within x 0 7 && (m_within y 0 7 && m_hasBit set (8 * y + x))
def m_isDark (x y : Int32) : Bool := decide ((x + y) &&& 1 = 0)
def m_isOf (set : Int64) (q : Int32) (b : Bool) : Bool := m_isOn set (q - q / 10 * 10 - 1) (q / 10 - 1) == b
def m_cnt (set : Int64) : Nat → Nat
  | 0 => 0
  | n + 1 => m_cnt set n + if m_hasBit set (nI n) then 1 else 0
def m_place (f : Int32) (b : Bool) : Int64 := if b then (if f < 56 then (1 : Int64) <<< (f.toInt64 &&& 63) ||| (1 : Int64) <<< ((f + 8).toInt64 &&& 63) else 0) else if f - f / 8 * 8 < 7 then (3 : Int64) <<< (f.toInt64 &&& 63) else 0
def g_isField (f : Int32) : Bool := !decide (f < 0) && decide (f < 64)
def g_holds (set : Int64) (f : Int32) : Bool := !decide ((set.toUInt64 >>> (f.toInt64.toUInt64 &&& Int64.toUInt64 63)).toInt64 &&& 1 = 0)
def g_place (f : Int32) (b : Bool) : Int64 := if b then (if f / 8 = 7 then 0 else (1 : Int64) <<< (f.toInt64 &&& 63) ||| (1 : Int64) <<< ((f + 8).toInt64 &&& 63)) else if f - f / 8 * 8 = 7 then 0 else (1 : Int64) <<< (f.toInt64 &&& 63) ||| (1 : Int64) <<< ((f + 1).toInt64 &&& 63)
def g_isKind (k : Int32) : Bool := !decide (k < 0) && decide (k < 4)
def g_fits (k c : Int32) : Bool := if k = 2 then !decide (c < 1) && !decide (99 < c) else decide (c = 0)
def g_isCorner (f : Int32) : Bool := !decide (f < 0) && (decide (f < 55) && decide (f - f / 8 * 8 < 7))
def g_alongFits (free : Int64) (f : Int32) : Bool := decide (f - f / 8 * 8 < 7) && g_holds free (f + 1)
def g_acrossFits (free : Int64) (f : Int32) : Bool := decide (f < 56) && g_holds free (f + 8)
theorem i32_nlt {a b : Int32} (h : b ≤ a) : ¬ a < b := Int32.not_lt.mpr h
theorem i32_lt {a b : Int32} (h : ¬ b ≤ a) : a < b := Int32.not_le.mp h
theorem g_holds0 (f : Int32) : g_holds 0 f = false := by
  have h : Int64.toUInt64 0 = 0 := rfl
  rw [g_holds, h, UInt64.zero_shiftRight]
  rfl
theorem bI_inj {a b : Bool} : bI a = bI b ↔ a = b := by cases a <;> cases b <;> decide
theorem m_hasBit0 (f : Int32) : m_hasBit 0 f = false := by
  simp [m_hasBit]
theorem m_isOn0 (x y : Int32) : m_isOn 0 x y = false := by simp [m_isOn, m_hasBit0]

theorem dX10_within_0 : decode cX10_within 0 = .ok (.iload_n 0, 1) := by decide +kernel
theorem dX10_within_1 : decode cX10_within 1 = .ok (.iload_n 1, 1) := by decide +kernel
theorem dX10_within_2 : decode cX10_within 2 = .ok (.if_icmp .lt 12, 3) := by decide +kernel
theorem dX10_within_14 : decode cX10_within 14 = .ok (.iconst 0, 1) := by decide +kernel
theorem dX10_within_15 : decode cX10_within 15 = .ok (.ireturn, 1) := by decide +kernel
theorem dX10_within_5 : decode cX10_within 5 = .ok (.iload_n 0, 1) := by decide +kernel
theorem dX10_within_6 : decode cX10_within 6 = .ok (.iload_n 2, 1) := by decide +kernel
theorem dX10_within_7 : decode cX10_within 7 = .ok (.if_icmp .gt 7, 3) := by decide +kernel
theorem dX10_within_10 : decode cX10_within 10 = .ok (.iconst 1, 1) := by decide +kernel
theorem dX10_within_11 : decode cX10_within 11 = .ok (.goto 4, 3) := by decide +kernel
set_option maxHeartbeats 4000000 in
set_option maxRecDepth 100000 in
theorem c_X10_within (l : Launch) (x0 : Int32) (x1 : Int32) (x2 : Int32) : Met l yX10_within wsX10_within ({ frames := 0, cells := 0, slots := 0, locals := 0 }) (va_Pc [.int x0, .int x1, .int x2] (fun _ => True)) (vp_Si (fun r => r = bI (m_within x0 x1 x2))) 0 0 (fun _ => False) := by
  refine Met.ofW (cc := cX10_within) (maxL := 3) (ret := (some .boolean)) (by decide) rfl ?_
  intro p e s m args below meth c s₁ B hml hv
  obtain ⟨rfl, -⟩ := hv
  have hx := B.exec
  have hb := B.bytes
  have hr := B.returns
  have hts := atoms_spec (ws := wsX10_within) B.pre
  have hown : s.vm.findClass RX10 = some m.cls := findClass_of_methodNamed B.named
  have hlocks := B.notSynchronized
  have hl := lv_entry ([.int x0, .int x1, .int x2]) (n := 3) (Nat.le_of_ble_eq_true rfl)
  rw [lg_entry_eq]
  generalize (lg_sl ([.int x0, .int x1, .int x2]) ++ List.replicate (3 - (lg_sl ([.int x0, .int x1, .int x2])).length) Slot.unset).toArray = ls at hl ⊢
  have hl : lv_has ls 3 [(0, .int x0), (1, .int x1), (2, .int x2)] := hl
  refine lv_iload_n hx hb dX10_within_0 rfl (lv_at hl 0 rfl) ?_
  refine lv_iload_n hx hb dX10_within_1 rfl (lv_at hl 1 rfl) ?_
  refine lv_icmp_lt (tgt := 14) hx hb dX10_within_2 (by decide) (fun c_1 => ?_) (fun c_1 => ?_)
  · refine lv_iconst (v := 0) hx hb dX10_within_14 (by decide) ?_
    exact pret_z hx hb hr hlocks (by simp_all [bI, i32_nlt, i32_lt, m_within]) dX10_within_15
  · refine lv_iload_n hx hb dX10_within_5 rfl (lv_at hl 0 rfl) ?_
    refine lv_iload_n hx hb dX10_within_6 rfl (lv_at hl 2 rfl) ?_
    refine lv_icmp_gt (tgt := 14) hx hb dX10_within_7 (by decide) (fun c_2 => ?_) (fun c_2 => ?_)
    · refine lv_iconst (v := 0) hx hb dX10_within_14 (by decide) ?_
      exact pret_z hx hb hr hlocks (by simp_all [bI, i32_nlt, i32_lt, m_within]) dX10_within_15
    · refine lv_iconst (v := 1) hx hb dX10_within_10 (by decide) ?_
      refine lv_goto (tgt := 15) hx hb dX10_within_11 (by decide) ?_
      exact pret_z hx hb hr hlocks (by simp_all [bI, i32_nlt, i32_lt, m_within]) dX10_within_15
theorem dX10_isField_0 : decode cX10_isField 0 = .ok (.iload_n 0, 1) := by decide +kernel
theorem dX10_isField_1 : decode cX10_isField 1 = .ok (.iconst 0, 1) := by decide +kernel
theorem dX10_isField_2 : decode cX10_isField 2 = .ok (.bipush 63, 2) := by decide +kernel
set_option maxRecDepth 20000 in
theorem ggX10_isField_X10_within : GoodIn wsX10_isField wsX10_within := goodIn_r _ [4] rfl (by decide +kernel)
set_option maxRecDepth 20000 in
theorem gX10_isField_X10_within : GoodIn wsX10_isField (va_wsS RX10 70 yX10_within wsX10_within) := goodIn_app (goodIn_r _ [1, 2, 3] rfl (by decide +kernel)) ggX10_isField_X10_within
theorem dX10_isField_4 : decode cX10_isField 4 = .ok (.invokestatic 70, 3) := by decide +kernel
theorem dX10_isField_7 : decode cX10_isField 7 = .ok (.ireturn, 1) := by decide +kernel
set_option maxHeartbeats 4000000 in
set_option maxRecDepth 100000 in
theorem c_X10_isField (l : Launch) (x0 : Int32) : Met l yX10_isField wsX10_isField ({ frames := 1, cells := 0, slots := 0, locals := 22 }) (va_Pc [.int x0] (fun _ => True)) (vp_Si (fun r => r = bI (m_within x0 0 63))) 0 0 (fun _ => False) := by
  refine Met.ofW (cc := cX10_isField) (maxL := 1) (ret := (some .boolean)) (by decide) rfl ?_
  intro p e s m args below meth c s₁ B hml hv
  obtain ⟨rfl, -⟩ := hv
  have hx := B.exec
  have hb := B.bytes
  have hr := B.returns
  have hts := atoms_spec (ws := wsX10_isField) B.pre
  have hown : s.vm.findClass RX10 = some m.cls := findClass_of_methodNamed B.named
  have hlocks := B.notSynchronized
  have hl := lv_entry ([.int x0]) (n := 1) (Nat.le_of_ble_eq_true rfl)
  rw [lg_entry_eq]
  generalize (lg_sl ([.int x0]) ++ List.replicate (1 - (lg_sl ([.int x0])).length) Slot.unset).toArray = ls at hl ⊢
  have hl : lv_has ls 1 [(0, .int x0)] := hl
  refine lv_iload_n hx hb dX10_isField_0 rfl (lv_at hl 0 rfl) ?_
  refine lv_iconst (v := 0) hx hb dX10_isField_1 (by decide) ?_
  refine lv_bipush (v := 63) hx hb dX10_isField_2 (by decide) ?_
  refine kS_i (As := [.int x0, .int 0, .int 63]) (rest := []) ⟨hx, hb, hml, hown, hts⟩ (c_X10_within l x0 0 63) (va_cwS 3 hts gX10_isField_X10_within rfl rfl rfl (by decide +kernel) ⟨Nat.le_of_ble_eq_true rfl, Nat.le_of_ble_eq_true rfl⟩) rfl hl.1 rfl (Nat.le_of_ble_eq_true rfl) dX10_isField_4 ⟨Nat.le_of_ble_eq_true rfl, Nat.le_of_ble_eq_true rfl⟩ ?_
  exact pret_z hx hb hr hlocks rfl dX10_isField_7
theorem dX10_hasBit_0 : decode cX10_hasBit 0 = .ok (.lload_n 0, 1) := by decide +kernel
theorem dX10_hasBit_1 : decode cX10_hasBit 1 = .ok (.iload_n 2, 1) := by decide +kernel
theorem dX10_hasBit_2 : decode cX10_hasBit 2 = .ok (.lshr, 1) := by decide +kernel
theorem dX10_hasBit_3 : decode cX10_hasBit 3 = .ok (.lconst 1, 1) := by decide +kernel
theorem dX10_hasBit_4 : decode cX10_hasBit 4 = .ok (.land, 1) := by decide +kernel
theorem dX10_hasBit_5 : decode cX10_hasBit 5 = .ok (.lconst 1, 1) := by decide +kernel
theorem dX10_hasBit_6 : decode cX10_hasBit 6 = .ok (.lcmp, 1) := by decide +kernel
theorem dX10_hasBit_7 : decode cX10_hasBit 7 = .ok (.ifCond .ne 7, 3) := by decide +kernel
theorem dX10_hasBit_14 : decode cX10_hasBit 14 = .ok (.iconst 0, 1) := by decide +kernel
theorem dX10_hasBit_15 : decode cX10_hasBit 15 = .ok (.ireturn, 1) := by decide +kernel
theorem dX10_hasBit_10 : decode cX10_hasBit 10 = .ok (.iconst 1, 1) := by decide +kernel
theorem dX10_hasBit_11 : decode cX10_hasBit 11 = .ok (.goto 4, 3) := by decide +kernel
set_option maxHeartbeats 4000000 in
set_option maxRecDepth 100000 in
theorem c_X10_hasBit (l : Launch) (x0 : Int64) (x1 : Int32) : Met l yX10_hasBit wsX10_hasBit ({ frames := 0, cells := 0, slots := 0, locals := 0 }) (va_Pc [.long x0, .int x1] (fun _ => True)) (vp_Si (fun r => r = bI (m_hasBit x0 x1))) 0 0 (fun _ => False) := by
  refine Met.ofW (cc := cX10_hasBit) (maxL := 3) (ret := (some .boolean)) (by decide) rfl ?_
  intro p e s m args below meth c s₁ B hml hv
  obtain ⟨rfl, -⟩ := hv
  have hx := B.exec
  have hb := B.bytes
  have hr := B.returns
  have hts := atoms_spec (ws := wsX10_hasBit) B.pre
  have hown : s.vm.findClass RX10 = some m.cls := findClass_of_methodNamed B.named
  have hlocks := B.notSynchronized
  have hl := lv_entry ([.long x0, .int x1]) (n := 3) (Nat.le_of_ble_eq_true rfl)
  rw [lg_entry_eq]
  generalize (lg_sl ([.long x0, .int x1]) ++ List.replicate (3 - (lg_sl ([.long x0, .int x1])).length) Slot.unset).toArray = ls at hl ⊢
  have hl : lv_has ls 3 [(0, .long x0), (2, .int x1)] := hl
  refine lv_lload_n hx hb dX10_hasBit_0 rfl (lv_at hl 0 rfl) ?_
  refine lv_iload_n hx hb dX10_hasBit_1 rfl (lv_at hl 1 rfl) ?_
  refine lv_lshr (v := x0 >>> ((x1 : Int32).toInt64 &&& 63)) hx hb dX10_hasBit_2 rfl ?_
  refine lv_lconst (v := 1) hx hb dX10_hasBit_3 (by decide) ?_
  refine lv_land hx hb dX10_hasBit_4 ?_
  refine lv_lconst (v := 1) hx hb dX10_hasBit_5 (by decide) ?_
  refine W.lcmp hx hb dX10_hasBit_6 ?_
  refine lv_if_ne (tgt := 14) hx hb dX10_hasBit_7 (by decide) (fun c_1 => ?_) (fun c_1 => ?_)
  · replace c_1 := fun z => c_1 ((lg_cmp_eq _ _).mpr z)
    refine lv_iconst (v := 0) hx hb dX10_hasBit_14 (by decide) ?_
    exact pret_z hx hb hr hlocks (by simp_all [bI, i32_nlt, i32_lt, m_hasBit]) dX10_hasBit_15
  · replace c_1 := (lg_cmp_eq _ _).mp c_1
    refine lv_iconst (v := 1) hx hb dX10_hasBit_10 (by decide) ?_
    refine lv_goto (tgt := 15) hx hb dX10_hasBit_11 (by decide) ?_
    exact pret_z hx hb hr hlocks (by simp_all [bI, i32_nlt, i32_lt, m_hasBit]) dX10_hasBit_15
theorem dX10_isOn_0 : decode cX10_isOn 0 = .ok (.iload_n 2, 1) := by decide +kernel
theorem dX10_isOn_1 : decode cX10_isOn 1 = .ok (.iconst 0, 1) := by decide +kernel
theorem dX10_isOn_2 : decode cX10_isOn 2 = .ok (.bipush 7, 2) := by decide +kernel
set_option maxRecDepth 20000 in
theorem ggX10_isOn_X10_within : GoodIn wsX10_isOn wsX10_within := goodIn_r _ [4] rfl (by decide +kernel)
set_option maxRecDepth 20000 in
theorem gX10_isOn_X10_within : GoodIn wsX10_isOn (va_wsS RX10 70 yX10_within wsX10_within) := goodIn_app (goodIn_r _ [1, 2, 3] rfl (by decide +kernel)) ggX10_isOn_X10_within
theorem dX10_isOn_4 : decode cX10_isOn 4 = .ok (.invokestatic 70, 3) := by decide +kernel
theorem dX10_isOn_7 : decode cX10_isOn 7 = .ok (.ifCond .eq 30, 3) := by decide +kernel
theorem dX10_isOn_37 : decode cX10_isOn 37 = .ok (.iconst 0, 1) := by decide +kernel
theorem dX10_isOn_38 : decode cX10_isOn 38 = .ok (.ireturn, 1) := by decide +kernel
theorem dX10_isOn_10 : decode cX10_isOn 10 = .ok (.iload_n 3, 1) := by decide +kernel
theorem dX10_isOn_11 : decode cX10_isOn 11 = .ok (.iconst 0, 1) := by decide +kernel
theorem dX10_isOn_12 : decode cX10_isOn 12 = .ok (.bipush 7, 2) := by decide +kernel
theorem dX10_isOn_14 : decode cX10_isOn 14 = .ok (.invokestatic 70, 3) := by decide +kernel
theorem dX10_isOn_17 : decode cX10_isOn 17 = .ok (.ifCond .eq 20, 3) := by decide +kernel
theorem dX10_isOn_20 : decode cX10_isOn 20 = .ok (.lload_n 0, 1) := by decide +kernel
theorem dX10_isOn_21 : decode cX10_isOn 21 = .ok (.bipush 8, 2) := by decide +kernel
theorem dX10_isOn_23 : decode cX10_isOn 23 = .ok (.iload_n 3, 1) := by decide +kernel
theorem dX10_isOn_24 : decode cX10_isOn 24 = .ok (.imul, 1) := by decide +kernel
theorem dX10_isOn_25 : decode cX10_isOn 25 = .ok (.iload_n 2, 1) := by decide +kernel
theorem dX10_isOn_26 : decode cX10_isOn 26 = .ok (.iadd, 1) := by decide +kernel
set_option maxRecDepth 20000 in
theorem ggX10_isOn_X10_hasBit : GoodIn wsX10_isOn wsX10_hasBit := goodIn_r _ [7] rfl (by decide +kernel)
set_option maxRecDepth 20000 in
theorem gX10_isOn_X10_hasBit : GoodIn wsX10_isOn (va_wsS RX10 74 yX10_hasBit wsX10_hasBit) := goodIn_app (goodIn_r _ [5, 6, 3] rfl (by decide +kernel)) ggX10_isOn_X10_hasBit
theorem dX10_isOn_27 : decode cX10_isOn 27 = .ok (.invokestatic 74, 3) := by decide +kernel
theorem dX10_isOn_30 : decode cX10_isOn 30 = .ok (.ifCond .eq 7, 3) := by decide +kernel
theorem dX10_isOn_33 : decode cX10_isOn 33 = .ok (.iconst 1, 1) := by decide +kernel
theorem dX10_isOn_34 : decode cX10_isOn 34 = .ok (.goto 4, 3) := by decide +kernel
set_option maxHeartbeats 4000000 in
set_option maxRecDepth 100000 in
theorem c_X10_isOn (l : Launch) (x0 : Int64) (x1 : Int32) (x2 : Int32) : Met l yX10_isOn wsX10_isOn ({ frames := 1, cells := 0, slots := 0, locals := 22 }) (va_Pc [.long x0, .int x1, .int x2] (fun _ => True)) (vp_Si (fun r => r = bI (m_isOn x0 x1 x2))) 0 0 (fun _ => False) := by
  refine Met.ofW (cc := cX10_isOn) (maxL := 4) (ret := (some .boolean)) (by decide) rfl ?_
  intro p e s m args below meth c s₁ B hml hv
  obtain ⟨rfl, -⟩ := hv
  have hx := B.exec
  have hb := B.bytes
  have hr := B.returns
  have hts := atoms_spec (ws := wsX10_isOn) B.pre
  have hown : s.vm.findClass RX10 = some m.cls := findClass_of_methodNamed B.named
  have hlocks := B.notSynchronized
  have hl := lv_entry ([.long x0, .int x1, .int x2]) (n := 4) (Nat.le_of_ble_eq_true rfl)
  rw [lg_entry_eq]
  generalize (lg_sl ([.long x0, .int x1, .int x2]) ++ List.replicate (4 - (lg_sl ([.long x0, .int x1, .int x2])).length) Slot.unset).toArray = ls at hl ⊢
  have hl : lv_has ls 4 [(0, .long x0), (2, .int x1), (3, .int x2)] := hl
  refine lv_iload_n hx hb dX10_isOn_0 rfl (lv_at hl 1 rfl) ?_
  refine lv_iconst (v := 0) hx hb dX10_isOn_1 (by decide) ?_
  refine lv_bipush (v := 7) hx hb dX10_isOn_2 (by decide) ?_
  refine kS_i (As := [.int x1, .int 0, .int 7]) (rest := []) ⟨hx, hb, hml, hown, hts⟩ (c_X10_within l x1 0 7) (va_cwS 3 hts gX10_isOn_X10_within rfl rfl rfl (by decide +kernel) ⟨Nat.le_of_ble_eq_true rfl, Nat.le_of_ble_eq_true rfl⟩) rfl hl.1 rfl (Nat.le_of_ble_eq_true rfl) dX10_isOn_4 ⟨Nat.le_of_ble_eq_true rfl, Nat.le_of_ble_eq_true rfl⟩ ?_
  refine lv_if_eq (tgt := 37) hx hb dX10_isOn_7 (by decide) (fun c_1 => ?_) (fun c_1 => ?_)
  · replace c_1 := bI_f c_1
    refine lv_iconst (v := 0) hx hb dX10_isOn_37 (by decide) ?_
    exact pret_z hx hb hr hlocks (by simp_all [bI, i32_nlt, i32_lt, m_isOn]) dX10_isOn_38
  · replace c_1 := bI_t c_1
    refine lv_iload_n hx hb dX10_isOn_10 rfl (lv_at hl 2 rfl) ?_
    refine lv_iconst (v := 0) hx hb dX10_isOn_11 (by decide) ?_
    refine lv_bipush (v := 7) hx hb dX10_isOn_12 (by decide) ?_
    refine kS_i (As := [.int x2, .int 0, .int 7]) (rest := []) ⟨hx, hb, hml, hown, hts⟩ (c_X10_within l x2 0 7) (va_cwS 3 hts gX10_isOn_X10_within rfl rfl rfl (by decide +kernel) ⟨Nat.le_of_ble_eq_true rfl, Nat.le_of_ble_eq_true rfl⟩) rfl hl.1 rfl (Nat.le_of_ble_eq_true rfl) dX10_isOn_14 ⟨Nat.le_of_ble_eq_true rfl, Nat.le_of_ble_eq_true rfl⟩ ?_
    refine lv_if_eq (tgt := 37) hx hb dX10_isOn_17 (by decide) (fun c_2 => ?_) (fun c_2 => ?_)
    · replace c_2 := bI_f c_2
      refine lv_iconst (v := 0) hx hb dX10_isOn_37 (by decide) ?_
      exact pret_z hx hb hr hlocks (by simp_all [bI, i32_nlt, i32_lt, m_isOn]) dX10_isOn_38
    · replace c_2 := bI_t c_2
      refine lv_lload_n hx hb dX10_isOn_20 rfl (lv_at hl 0 rfl) ?_
      refine lv_bipush (v := 8) hx hb dX10_isOn_21 (by decide) ?_
      refine lv_iload_n hx hb dX10_isOn_23 rfl (lv_at hl 2 rfl) ?_
      refine lv_imul hx hb dX10_isOn_24 ?_
      refine lv_iload_n hx hb dX10_isOn_25 rfl (lv_at hl 1 rfl) ?_
      refine lv_iadd hx hb dX10_isOn_26 ?_
      refine kS_i (As := [.long x0, .int ((8 * x2) + x1)]) (rest := []) ⟨hx, hb, hml, hown, hts⟩ (c_X10_hasBit l x0 ((8 * x2) + x1)) (va_cwS 2 hts gX10_isOn_X10_hasBit rfl rfl rfl (by decide +kernel) ⟨Nat.le_of_ble_eq_true rfl, Nat.le_of_ble_eq_true rfl⟩) rfl hl.1 rfl (Nat.le_of_ble_eq_true rfl) dX10_isOn_27 ⟨Nat.le_of_ble_eq_true rfl, Nat.le_of_ble_eq_true rfl⟩ ?_
      refine lv_if_eq (tgt := 37) hx hb dX10_isOn_30 (by decide) (fun c_3 => ?_) (fun c_3 => ?_)
      · replace c_3 := bI_f c_3
        refine lv_iconst (v := 0) hx hb dX10_isOn_37 (by decide) ?_
        exact pret_z hx hb hr hlocks (by simp_all [bI, i32_nlt, i32_lt, m_isOn]) dX10_isOn_38
      · replace c_3 := bI_t c_3
        refine lv_iconst (v := 1) hx hb dX10_isOn_33 (by decide) ?_
        refine lv_goto (tgt := 38) hx hb dX10_isOn_34 (by decide) ?_
        exact pret_z hx hb hr hlocks (by simp_all [bI, i32_nlt, i32_lt, m_isOn]) dX10_isOn_38
theorem dX10_isDark_0 : decode cX10_isDark 0 = .ok (.iload_n 0, 1) := by decide +kernel
theorem dX10_isDark_1 : decode cX10_isDark 1 = .ok (.iload_n 1, 1) := by decide +kernel
theorem dX10_isDark_2 : decode cX10_isDark 2 = .ok (.iadd, 1) := by decide +kernel
theorem dX10_isDark_3 : decode cX10_isDark 3 = .ok (.iconst 1, 1) := by decide +kernel
theorem dX10_isDark_4 : decode cX10_isDark 4 = .ok (.iand, 1) := by decide +kernel
theorem dX10_isDark_5 : decode cX10_isDark 5 = .ok (.ifCond .ne 7, 3) := by decide +kernel
theorem dX10_isDark_12 : decode cX10_isDark 12 = .ok (.iconst 0, 1) := by decide +kernel
theorem dX10_isDark_13 : decode cX10_isDark 13 = .ok (.ireturn, 1) := by decide +kernel
theorem dX10_isDark_8 : decode cX10_isDark 8 = .ok (.iconst 1, 1) := by decide +kernel
theorem dX10_isDark_9 : decode cX10_isDark 9 = .ok (.goto 4, 3) := by decide +kernel
set_option maxHeartbeats 4000000 in
set_option maxRecDepth 100000 in
theorem c_X10_isDark (l : Launch) (x0 : Int32) (x1 : Int32) : Met l yX10_isDark wsX10_isDark ({ frames := 0, cells := 0, slots := 0, locals := 0 }) (va_Pc [.int x0, .int x1] (fun _ => True)) (vp_Si (fun r => r = bI (m_isDark x0 x1))) 0 0 (fun _ => False) := by
  refine Met.ofW (cc := cX10_isDark) (maxL := 2) (ret := (some .boolean)) (by decide) rfl ?_
  intro p e s m args below meth c s₁ B hml hv
  obtain ⟨rfl, -⟩ := hv
  have hx := B.exec
  have hb := B.bytes
  have hr := B.returns
  have hts := atoms_spec (ws := wsX10_isDark) B.pre
  have hown : s.vm.findClass RX10 = some m.cls := findClass_of_methodNamed B.named
  have hlocks := B.notSynchronized
  have hl := lv_entry ([.int x0, .int x1]) (n := 2) (Nat.le_of_ble_eq_true rfl)
  rw [lg_entry_eq]
  generalize (lg_sl ([.int x0, .int x1]) ++ List.replicate (2 - (lg_sl ([.int x0, .int x1])).length) Slot.unset).toArray = ls at hl ⊢
  have hl : lv_has ls 2 [(0, .int x0), (1, .int x1)] := hl
  refine lv_iload_n hx hb dX10_isDark_0 rfl (lv_at hl 0 rfl) ?_
  refine lv_iload_n hx hb dX10_isDark_1 rfl (lv_at hl 1 rfl) ?_
  refine lv_iadd hx hb dX10_isDark_2 ?_
  refine lv_iconst (v := 1) hx hb dX10_isDark_3 (by decide) ?_
  refine lv_iand hx hb dX10_isDark_4 ?_
  refine lv_if_ne (tgt := 12) hx hb dX10_isDark_5 (by decide) (fun c_1 => ?_) (fun c_1 => ?_)
  · refine lv_iconst (v := 0) hx hb dX10_isDark_12 (by decide) ?_
    exact pret_z hx hb hr hlocks (by simp_all [bI, i32_nlt, i32_lt, m_isDark]) dX10_isDark_13
  · refine lv_iconst (v := 1) hx hb dX10_isDark_8 (by decide) ?_
    refine lv_goto (tgt := 13) hx hb dX10_isDark_9 (by decide) ?_
    exact pret_z hx hb hr hlocks (by simp_all [bI, i32_nlt, i32_lt, m_isDark]) dX10_isDark_13
theorem dX10_isSheet_0 : decode cX10_isSheet 0 = .ok (.iload_n 0, 1) := by decide +kernel
theorem dX10_isSheet_1 : decode cX10_isSheet 1 = .ok (.iconst 0, 1) := by decide +kernel
theorem dX10_isSheet_2 : decode cX10_isSheet 2 = .ok (.iconst 3, 1) := by decide +kernel
set_option maxRecDepth 20000 in
theorem ggX10_isSheet_X10_within : GoodIn wsX10_isSheet wsX10_within := goodIn_r _ [4] rfl (by decide +kernel)
set_option maxRecDepth 20000 in
theorem gX10_isSheet_X10_within : GoodIn wsX10_isSheet (va_wsS RX10 70 yX10_within wsX10_within) := goodIn_app (goodIn_r _ [1, 2, 3] rfl (by decide +kernel)) ggX10_isSheet_X10_within
theorem dX10_isSheet_3 : decode cX10_isSheet 3 = .ok (.invokestatic 70, 3) := by decide +kernel
theorem dX10_isSheet_6 : decode cX10_isSheet 6 = .ok (.ireturn, 1) := by decide +kernel
set_option maxHeartbeats 4000000 in
set_option maxRecDepth 100000 in
theorem c_X10_isSheet (l : Launch) (x0 : Int32) : Met l yX10_isSheet wsX10_isSheet ({ frames := 1, cells := 0, slots := 0, locals := 22 }) (va_Pc [.int x0] (fun _ => True)) (vp_Si (fun r => r = bI (m_within x0 0 3))) 0 0 (fun _ => False) := by
  refine Met.ofW (cc := cX10_isSheet) (maxL := 1) (ret := (some .boolean)) (by decide) rfl ?_
  intro p e s m args below meth c s₁ B hml hv
  obtain ⟨rfl, -⟩ := hv
  have hx := B.exec
  have hb := B.bytes
  have hr := B.returns
  have hts := atoms_spec (ws := wsX10_isSheet) B.pre
  have hown : s.vm.findClass RX10 = some m.cls := findClass_of_methodNamed B.named
  have hlocks := B.notSynchronized
  have hl := lv_entry ([.int x0]) (n := 1) (Nat.le_of_ble_eq_true rfl)
  rw [lg_entry_eq]
  generalize (lg_sl ([.int x0]) ++ List.replicate (1 - (lg_sl ([.int x0])).length) Slot.unset).toArray = ls at hl ⊢
  have hl : lv_has ls 1 [(0, .int x0)] := hl
  refine lv_iload_n hx hb dX10_isSheet_0 rfl (lv_at hl 0 rfl) ?_
  refine lv_iconst (v := 0) hx hb dX10_isSheet_1 (by decide) ?_
  refine lv_iconst (v := 3) hx hb dX10_isSheet_2 (by decide) ?_
  refine kS_i (As := [.int x0, .int 0, .int 3]) (rest := []) ⟨hx, hb, hml, hown, hts⟩ (c_X10_within l x0 0 3) (va_cwS 3 hts gX10_isSheet_X10_within rfl rfl rfl (by decide +kernel) ⟨Nat.le_of_ble_eq_true rfl, Nat.le_of_ble_eq_true rfl⟩) rfl hl.1 rfl (Nat.le_of_ble_eq_true rfl) dX10_isSheet_3 ⟨Nat.le_of_ble_eq_true rfl, Nat.le_of_ble_eq_true rfl⟩ ?_
  exact pret_z hx hb hr hlocks rfl dX10_isSheet_6
theorem dX10_place_0 : decode cX10_place 0 = .ok (.iload_n 1, 1) := by decide +kernel
theorem dX10_place_1 : decode cX10_place 1 = .ok (.ifCond .eq 24, 3) := by decide +kernel
theorem dX10_place_25 : decode cX10_place 25 = .ok (.iload_n 0, 1) := by decide +kernel
theorem dX10_place_26 : decode cX10_place 26 = .ok (.bipush 8, 2) := by decide +kernel
theorem dX10_place_28 : decode cX10_place 28 = .ok (.irem, 1) := by decide +kernel
theorem dX10_place_29 : decode cX10_place 29 = .ok (.bipush 7, 2) := by decide +kernel
theorem dX10_place_31 : decode cX10_place 31 = .ok (.if_icmp .ge 11, 3) := by decide +kernel
theorem dX10_place_42 : decode cX10_place 42 = .ok (.lconst 0, 1) := by decide +kernel
theorem dX10_place_43 : decode cX10_place 43 = .ok (.lreturn, 1) := by decide +kernel
theorem dX10_place_34 : decode cX10_place 34 = .ok (.ldc2_w 106, 3) := by decide +kernel
theorem dX10_place_37 : decode cX10_place 37 = .ok (.iload_n 0, 1) := by decide +kernel
theorem dX10_place_38 : decode cX10_place 38 = .ok (.lshl, 1) := by decide +kernel
theorem dX10_place_39 : decode cX10_place 39 = .ok (.goto 4, 3) := by decide +kernel
theorem dX10_place_4 : decode cX10_place 4 = .ok (.iload_n 0, 1) := by decide +kernel
theorem dX10_place_5 : decode cX10_place 5 = .ok (.bipush 56, 2) := by decide +kernel
theorem dX10_place_7 : decode cX10_place 7 = .ok (.if_icmp .ge 16, 3) := by decide +kernel
theorem dX10_place_23 : decode cX10_place 23 = .ok (.lconst 0, 1) := by decide +kernel
theorem dX10_place_24 : decode cX10_place 24 = .ok (.lreturn, 1) := by decide +kernel
theorem dX10_place_10 : decode cX10_place 10 = .ok (.lconst 1, 1) := by decide +kernel
theorem dX10_place_11 : decode cX10_place 11 = .ok (.iload_n 0, 1) := by decide +kernel
theorem dX10_place_12 : decode cX10_place 12 = .ok (.lshl, 1) := by decide +kernel
theorem dX10_place_13 : decode cX10_place 13 = .ok (.lconst 1, 1) := by decide +kernel
theorem dX10_place_14 : decode cX10_place 14 = .ok (.iload_n 0, 1) := by decide +kernel
theorem dX10_place_15 : decode cX10_place 15 = .ok (.bipush 8, 2) := by decide +kernel
theorem dX10_place_17 : decode cX10_place 17 = .ok (.iadd, 1) := by decide +kernel
theorem dX10_place_18 : decode cX10_place 18 = .ok (.lshl, 1) := by decide +kernel
theorem dX10_place_19 : decode cX10_place 19 = .ok (.lor, 1) := by decide +kernel
theorem dX10_place_20 : decode cX10_place 20 = .ok (.goto 4, 3) := by decide +kernel
set_option maxHeartbeats 4000000 in
set_option maxRecDepth 100000 in
theorem c_X10_place (l : Launch) (x0 : Int32) (x1 : Bool) : Met l yX10_place wsX10_place ({ frames := 0, cells := 0, slots := 0, locals := 0 }) (va_Pc [.int x0, .int (bI x1)] (fun _ => True)) (vp_Sl (fun r => r = m_place x0 x1)) 0 0 (fun _ => False) := by
  refine Met.ofW (cc := cX10_place) (maxL := 2) (ret := (some .long)) (by decide) rfl ?_
  intro p e s m args below meth c s₁ B hml hv
  obtain ⟨rfl, -⟩ := hv
  have hx := B.exec
  have hb := B.bytes
  have hr := B.returns
  have hts := atoms_spec (ws := wsX10_place) B.pre
  have hown : s.vm.findClass RX10 = some m.cls := findClass_of_methodNamed B.named
  have hlocks := B.notSynchronized
  have hw0 := hts (.constantLong RX10 106 (3)) (by decide +kernel)
  have hl := lv_entry ([.int x0, .int (bI x1)]) (n := 2) (Nat.le_of_ble_eq_true rfl)
  rw [lg_entry_eq]
  generalize (lg_sl ([.int x0, .int (bI x1)]) ++ List.replicate (2 - (lg_sl ([.int x0, .int (bI x1)])).length) Slot.unset).toArray = ls at hl ⊢
  have hl : lv_has ls 2 [(0, .int x0), (1, .int (bI x1))] := hl
  refine lv_iload_n hx hb dX10_place_0 rfl (lv_at hl 1 rfl) ?_
  refine lv_if_eq (tgt := 25) hx hb dX10_place_1 (by decide) (fun c_1 => ?_) (fun c_1 => ?_)
  · replace c_1 := bI_f c_1
    refine lv_iload_n hx hb dX10_place_25 rfl (lv_at hl 0 rfl) ?_
    refine lv_bipush (v := 8) hx hb dX10_place_26 (by decide) ?_
    refine lv_irem hx hb dX10_place_28 (by decide) ?_
    refine lv_bipush (v := 7) hx hb dX10_place_29 (by decide) ?_
    refine lv_icmp_ge (tgt := 42) hx hb dX10_place_31 (by decide) (fun c_2 => ?_) (fun c_2 => ?_)
    · refine lv_lconst (v := 0) hx hb dX10_place_42 (by decide) ?_
      exact pret_l hx hb hr hlocks (by simp_all [bI, i32_nlt, i32_lt, m_place]) dX10_place_43
    · refine lv_ldc2 (v := 3) hx hb hown hw0 dX10_place_34 ?_
      refine lv_iload_n hx hb dX10_place_37 rfl (lv_at hl 0 rfl) ?_
      refine lv_lshl (v := (3 : Int64) <<< ((x0 : Int32).toInt64 &&& 63)) hx hb dX10_place_38 rfl ?_
      refine lv_goto (tgt := 43) hx hb dX10_place_39 (by decide) ?_
      exact pret_l hx hb hr hlocks (by simp_all [bI, i32_nlt, i32_lt, m_place]) dX10_place_43
  · replace c_1 := bI_t c_1
    refine lv_iload_n hx hb dX10_place_4 rfl (lv_at hl 0 rfl) ?_
    refine lv_bipush (v := 56) hx hb dX10_place_5 (by decide) ?_
    refine lv_icmp_ge (tgt := 23) hx hb dX10_place_7 (by decide) (fun c_3 => ?_) (fun c_3 => ?_)
    · refine lv_lconst (v := 0) hx hb dX10_place_23 (by decide) ?_
      exact pret_l hx hb hr hlocks (by simp_all [bI, i32_nlt, i32_lt, m_place]) dX10_place_24
    · refine lv_lconst (v := 1) hx hb dX10_place_10 (by decide) ?_
      refine lv_iload_n hx hb dX10_place_11 rfl (lv_at hl 0 rfl) ?_
      refine lv_lshl (v := (1 : Int64) <<< ((x0 : Int32).toInt64 &&& 63)) hx hb dX10_place_12 rfl ?_
      refine lv_lconst (v := 1) hx hb dX10_place_13 (by decide) ?_
      refine lv_iload_n hx hb dX10_place_14 rfl (lv_at hl 0 rfl) ?_
      refine lv_bipush (v := 8) hx hb dX10_place_15 (by decide) ?_
      refine lv_iadd hx hb dX10_place_17 ?_
      refine lv_lshl (v := (1 : Int64) <<< ((x0 + 8 : Int32).toInt64 &&& 63)) hx hb dX10_place_18 rfl ?_
      refine lv_lor hx hb dX10_place_19 ?_
      refine lv_goto (tgt := 24) hx hb dX10_place_20 (by decide) ?_
      exact pret_l hx hb hr hlocks (by simp_all [bI, i32_nlt, i32_lt, m_place]) dX10_place_24
theorem dX1_isField_0 : decode cX1_isField 0 = .ok (.iload_n 0, 1) := by decide +kernel
theorem dX1_isField_1 : decode cX1_isField 1 = .ok (.ifCond .lt 13, 3) := by decide +kernel
theorem dX1_isField_14 : decode cX1_isField 14 = .ok (.iconst 0, 1) := by decide +kernel
theorem dX1_isField_15 : decode cX1_isField 15 = .ok (.ireturn, 1) := by decide +kernel
theorem dX1_isField_4 : decode cX1_isField 4 = .ok (.iload_n 0, 1) := by decide +kernel
theorem dX1_isField_5 : decode cX1_isField 5 = .ok (.bipush 64, 2) := by decide +kernel
theorem dX1_isField_7 : decode cX1_isField 7 = .ok (.if_icmp .ge 7, 3) := by decide +kernel
theorem dX1_isField_10 : decode cX1_isField 10 = .ok (.iconst 1, 1) := by decide +kernel
theorem dX1_isField_11 : decode cX1_isField 11 = .ok (.goto 4, 3) := by decide +kernel
set_option maxHeartbeats 4000000 in
set_option maxRecDepth 100000 in
theorem c_X1_isField (l : Launch) (x0 : Int32) : Met l yX1_isField wsX1_isField ({ frames := 0, cells := 0, slots := 0, locals := 0 }) (va_Pc [.int x0] (fun _ => True)) (vp_Si (fun r => r = bI (g_isField x0))) 0 0 (fun _ => False) := by
  refine Met.ofW (cc := cX1_isField) (maxL := 1) (ret := (some .boolean)) (by decide) rfl ?_
  intro p e s m args below meth c s₁ B hml hv
  obtain ⟨rfl, -⟩ := hv
  have hx := B.exec
  have hb := B.bytes
  have hr := B.returns
  have hts := atoms_spec (ws := wsX1_isField) B.pre
  have hown : s.vm.findClass RX1 = some m.cls := findClass_of_methodNamed B.named
  have hlocks := B.notSynchronized
  have hl := lv_entry ([.int x0]) (n := 1) (Nat.le_of_ble_eq_true rfl)
  rw [lg_entry_eq]
  generalize (lg_sl ([.int x0]) ++ List.replicate (1 - (lg_sl ([.int x0])).length) Slot.unset).toArray = ls at hl ⊢
  have hl : lv_has ls 1 [(0, .int x0)] := hl
  refine lv_iload_n hx hb dX1_isField_0 rfl (lv_at hl 0 rfl) ?_
  refine lv_if_lt (tgt := 14) hx hb dX1_isField_1 (by decide) (fun c_1 => ?_) (fun c_1 => ?_)
  · refine lv_iconst (v := 0) hx hb dX1_isField_14 (by decide) ?_
    exact pret_z hx hb hr hlocks (by simp_all [bI, i32_nlt, i32_lt, g_isField]) dX1_isField_15
  · refine lv_iload_n hx hb dX1_isField_4 rfl (lv_at hl 0 rfl) ?_
    refine lv_bipush (v := 64) hx hb dX1_isField_5 (by decide) ?_
    refine lv_icmp_ge (tgt := 14) hx hb dX1_isField_7 (by decide) (fun c_2 => ?_) (fun c_2 => ?_)
    · refine lv_iconst (v := 0) hx hb dX1_isField_14 (by decide) ?_
      exact pret_z hx hb hr hlocks (by simp_all [bI, i32_nlt, i32_lt, g_isField]) dX1_isField_15
    · refine lv_iconst (v := 1) hx hb dX1_isField_10 (by decide) ?_
      refine lv_goto (tgt := 15) hx hb dX1_isField_11 (by decide) ?_
      exact pret_z hx hb hr hlocks (by simp_all [bI, i32_nlt, i32_lt, g_isField]) dX1_isField_15
theorem dX1_holds_0 : decode cX1_holds 0 = .ok (.lload_n 0, 1) := by decide +kernel
theorem dX1_holds_1 : decode cX1_holds 1 = .ok (.iload_n 2, 1) := by decide +kernel
theorem dX1_holds_2 : decode cX1_holds 2 = .ok (.lushr, 1) := by decide +kernel
theorem dX1_holds_3 : decode cX1_holds 3 = .ok (.lconst 1, 1) := by decide +kernel
theorem dX1_holds_4 : decode cX1_holds 4 = .ok (.land, 1) := by decide +kernel
theorem dX1_holds_5 : decode cX1_holds 5 = .ok (.lconst 0, 1) := by decide +kernel
theorem dX1_holds_6 : decode cX1_holds 6 = .ok (.lcmp, 1) := by decide +kernel
theorem dX1_holds_7 : decode cX1_holds 7 = .ok (.ifCond .eq 7, 3) := by decide +kernel
theorem dX1_holds_14 : decode cX1_holds 14 = .ok (.iconst 0, 1) := by decide +kernel
theorem dX1_holds_15 : decode cX1_holds 15 = .ok (.ireturn, 1) := by decide +kernel
theorem dX1_holds_10 : decode cX1_holds 10 = .ok (.iconst 1, 1) := by decide +kernel
theorem dX1_holds_11 : decode cX1_holds 11 = .ok (.goto 4, 3) := by decide +kernel
set_option maxHeartbeats 4000000 in
set_option maxRecDepth 100000 in
theorem c_X1_holds (l : Launch) (x0 : Int64) (x1 : Int32) : Met l yX1_holds wsX1_holds ({ frames := 0, cells := 0, slots := 0, locals := 0 }) (va_Pc [.long x0, .int x1] (fun _ => True)) (vp_Si (fun r => r = bI (g_holds x0 x1))) 0 0 (fun _ => False) := by
  refine Met.ofW (cc := cX1_holds) (maxL := 3) (ret := (some .boolean)) (by decide) rfl ?_
  intro p e s m args below meth c s₁ B hml hv
  obtain ⟨rfl, -⟩ := hv
  have hx := B.exec
  have hb := B.bytes
  have hr := B.returns
  have hts := atoms_spec (ws := wsX1_holds) B.pre
  have hown : s.vm.findClass RX1 = some m.cls := findClass_of_methodNamed B.named
  have hlocks := B.notSynchronized
  have hl := lv_entry ([.long x0, .int x1]) (n := 3) (Nat.le_of_ble_eq_true rfl)
  rw [lg_entry_eq]
  generalize (lg_sl ([.long x0, .int x1]) ++ List.replicate (3 - (lg_sl ([.long x0, .int x1])).length) Slot.unset).toArray = ls at hl ⊢
  have hl : lv_has ls 3 [(0, .long x0), (2, .int x1)] := hl
  refine lv_lload_n hx hb dX1_holds_0 rfl (lv_at hl 0 rfl) ?_
  refine lv_iload_n hx hb dX1_holds_1 rfl (lv_at hl 1 rfl) ?_
  refine lv_lushr (v := (x0.toUInt64 >>> ((x1 : Int32).toInt64.toUInt64 &&& Int64.toUInt64 63)).toInt64) hx hb dX1_holds_2 rfl ?_
  refine lv_lconst (v := 1) hx hb dX1_holds_3 (by decide) ?_
  refine lv_land hx hb dX1_holds_4 ?_
  refine lv_lconst (v := 0) hx hb dX1_holds_5 (by decide) ?_
  refine W.lcmp hx hb dX1_holds_6 ?_
  refine lv_if_eq (tgt := 14) hx hb dX1_holds_7 (by decide) (fun c_1 => ?_) (fun c_1 => ?_)
  · replace c_1 := (lg_cmp_eq _ _).mp c_1
    refine lv_iconst (v := 0) hx hb dX1_holds_14 (by decide) ?_
    exact pret_z hx hb hr hlocks (by simp_all [bI, i32_nlt, i32_lt, g_holds]) dX1_holds_15
  · replace c_1 := fun z => c_1 ((lg_cmp_eq _ _).mpr z)
    refine lv_iconst (v := 1) hx hb dX1_holds_10 (by decide) ?_
    refine lv_goto (tgt := 15) hx hb dX1_holds_11 (by decide) ?_
    exact pret_z hx hb hr hlocks (by simp_all [bI, i32_nlt, i32_lt, g_holds]) dX1_holds_15
theorem dX1_place_0 : decode cX1_place 0 = .ok (.iload_n 1, 1) := by decide +kernel
theorem dX1_place_1 : decode cX1_place 1 = .ok (.ifCond .eq 27, 3) := by decide +kernel
theorem dX1_place_28 : decode cX1_place 28 = .ok (.iload_n 0, 1) := by decide +kernel
theorem dX1_place_29 : decode cX1_place 29 = .ok (.bipush 8, 2) := by decide +kernel
theorem dX1_place_31 : decode cX1_place 31 = .ok (.irem, 1) := by decide +kernel
theorem dX1_place_32 : decode cX1_place 32 = .ok (.bipush 7, 2) := by decide +kernel
theorem dX1_place_34 : decode cX1_place 34 = .ok (.if_icmp .ne 7, 3) := by decide +kernel
theorem dX1_place_41 : decode cX1_place 41 = .ok (.lconst 1, 1) := by decide +kernel
theorem dX1_place_42 : decode cX1_place 42 = .ok (.iload_n 0, 1) := by decide +kernel
theorem dX1_place_43 : decode cX1_place 43 = .ok (.lshl, 1) := by decide +kernel
theorem dX1_place_44 : decode cX1_place 44 = .ok (.lconst 1, 1) := by decide +kernel
theorem dX1_place_45 : decode cX1_place 45 = .ok (.iload_n 0, 1) := by decide +kernel
theorem dX1_place_46 : decode cX1_place 46 = .ok (.iconst 1, 1) := by decide +kernel
theorem dX1_place_47 : decode cX1_place 47 = .ok (.iadd, 1) := by decide +kernel
theorem dX1_place_48 : decode cX1_place 48 = .ok (.lshl, 1) := by decide +kernel
theorem dX1_place_49 : decode cX1_place 49 = .ok (.lor, 1) := by decide +kernel
theorem dX1_place_50 : decode cX1_place 50 = .ok (.lreturn, 1) := by decide +kernel
theorem dX1_place_37 : decode cX1_place 37 = .ok (.lconst 0, 1) := by decide +kernel
theorem dX1_place_38 : decode cX1_place 38 = .ok (.goto 12, 3) := by decide +kernel
theorem dX1_place_4 : decode cX1_place 4 = .ok (.iload_n 0, 1) := by decide +kernel
theorem dX1_place_5 : decode cX1_place 5 = .ok (.bipush 8, 2) := by decide +kernel
theorem dX1_place_7 : decode cX1_place 7 = .ok (.idiv, 1) := by decide +kernel
theorem dX1_place_8 : decode cX1_place 8 = .ok (.bipush 7, 2) := by decide +kernel
theorem dX1_place_10 : decode cX1_place 10 = .ok (.if_icmp .ne 7, 3) := by decide +kernel
theorem dX1_place_17 : decode cX1_place 17 = .ok (.lconst 1, 1) := by decide +kernel
theorem dX1_place_18 : decode cX1_place 18 = .ok (.iload_n 0, 1) := by decide +kernel
theorem dX1_place_19 : decode cX1_place 19 = .ok (.lshl, 1) := by decide +kernel
theorem dX1_place_20 : decode cX1_place 20 = .ok (.lconst 1, 1) := by decide +kernel
theorem dX1_place_21 : decode cX1_place 21 = .ok (.iload_n 0, 1) := by decide +kernel
theorem dX1_place_22 : decode cX1_place 22 = .ok (.bipush 8, 2) := by decide +kernel
theorem dX1_place_24 : decode cX1_place 24 = .ok (.iadd, 1) := by decide +kernel
theorem dX1_place_25 : decode cX1_place 25 = .ok (.lshl, 1) := by decide +kernel
theorem dX1_place_26 : decode cX1_place 26 = .ok (.lor, 1) := by decide +kernel
theorem dX1_place_27 : decode cX1_place 27 = .ok (.lreturn, 1) := by decide +kernel
theorem dX1_place_13 : decode cX1_place 13 = .ok (.lconst 0, 1) := by decide +kernel
theorem dX1_place_14 : decode cX1_place 14 = .ok (.goto 13, 3) := by decide +kernel
set_option maxHeartbeats 4000000 in
set_option maxRecDepth 100000 in
theorem c_X1_place (l : Launch) (x0 : Int32) (x1 : Bool) : Met l yX1_place wsX1_place ({ frames := 0, cells := 0, slots := 0, locals := 0 }) (va_Pc [.int x0, .int (bI x1)] (fun _ => True)) (vp_Sl (fun r => r = g_place x0 x1)) 0 0 (fun _ => False) := by
  refine Met.ofW (cc := cX1_place) (maxL := 2) (ret := (some .long)) (by decide) rfl ?_
  intro p e s m args below meth c s₁ B hml hv
  obtain ⟨rfl, -⟩ := hv
  have hx := B.exec
  have hb := B.bytes
  have hr := B.returns
  have hts := atoms_spec (ws := wsX1_place) B.pre
  have hown : s.vm.findClass RX1 = some m.cls := findClass_of_methodNamed B.named
  have hlocks := B.notSynchronized
  have hl := lv_entry ([.int x0, .int (bI x1)]) (n := 2) (Nat.le_of_ble_eq_true rfl)
  rw [lg_entry_eq]
  generalize (lg_sl ([.int x0, .int (bI x1)]) ++ List.replicate (2 - (lg_sl ([.int x0, .int (bI x1)])).length) Slot.unset).toArray = ls at hl ⊢
  have hl : lv_has ls 2 [(0, .int x0), (1, .int (bI x1))] := hl
  refine lv_iload_n hx hb dX1_place_0 rfl (lv_at hl 1 rfl) ?_
  refine lv_if_eq (tgt := 28) hx hb dX1_place_1 (by decide) (fun c_1 => ?_) (fun c_1 => ?_)
  · replace c_1 := bI_f c_1
    refine lv_iload_n hx hb dX1_place_28 rfl (lv_at hl 0 rfl) ?_
    refine lv_bipush (v := 8) hx hb dX1_place_29 (by decide) ?_
    refine lv_irem hx hb dX1_place_31 (by decide) ?_
    refine lv_bipush (v := 7) hx hb dX1_place_32 (by decide) ?_
    refine lv_icmp_ne (tgt := 41) hx hb dX1_place_34 (by decide) (fun c_2 => ?_) (fun c_2 => ?_)
    · refine lv_lconst (v := 1) hx hb dX1_place_41 (by decide) ?_
      refine lv_iload_n hx hb dX1_place_42 rfl (lv_at hl 0 rfl) ?_
      refine lv_lshl (v := (1 : Int64) <<< ((x0 : Int32).toInt64 &&& 63)) hx hb dX1_place_43 rfl ?_
      refine lv_lconst (v := 1) hx hb dX1_place_44 (by decide) ?_
      refine lv_iload_n hx hb dX1_place_45 rfl (lv_at hl 0 rfl) ?_
      refine lv_iconst (v := 1) hx hb dX1_place_46 (by decide) ?_
      refine lv_iadd hx hb dX1_place_47 ?_
      refine lv_lshl (v := (1 : Int64) <<< ((x0 + 1 : Int32).toInt64 &&& 63)) hx hb dX1_place_48 rfl ?_
      refine lv_lor hx hb dX1_place_49 ?_
      exact pret_l hx hb hr hlocks (by simp_all [bI, i32_nlt, i32_lt, g_place]) dX1_place_50
    · refine lv_lconst (v := 0) hx hb dX1_place_37 (by decide) ?_
      refine lv_goto (tgt := 50) hx hb dX1_place_38 (by decide) ?_
      exact pret_l hx hb hr hlocks (by simp_all [bI, i32_nlt, i32_lt, g_place]) dX1_place_50
  · replace c_1 := bI_t c_1
    refine lv_iload_n hx hb dX1_place_4 rfl (lv_at hl 0 rfl) ?_
    refine lv_bipush (v := 8) hx hb dX1_place_5 (by decide) ?_
    refine lv_idiv hx hb dX1_place_7 (by decide) ?_
    refine lv_bipush (v := 7) hx hb dX1_place_8 (by decide) ?_
    refine lv_icmp_ne (tgt := 17) hx hb dX1_place_10 (by decide) (fun c_3 => ?_) (fun c_3 => ?_)
    · refine lv_lconst (v := 1) hx hb dX1_place_17 (by decide) ?_
      refine lv_iload_n hx hb dX1_place_18 rfl (lv_at hl 0 rfl) ?_
      refine lv_lshl (v := (1 : Int64) <<< ((x0 : Int32).toInt64 &&& 63)) hx hb dX1_place_19 rfl ?_
      refine lv_lconst (v := 1) hx hb dX1_place_20 (by decide) ?_
      refine lv_iload_n hx hb dX1_place_21 rfl (lv_at hl 0 rfl) ?_
      refine lv_bipush (v := 8) hx hb dX1_place_22 (by decide) ?_
      refine lv_iadd hx hb dX1_place_24 ?_
      refine lv_lshl (v := (1 : Int64) <<< ((x0 + 8 : Int32).toInt64 &&& 63)) hx hb dX1_place_25 rfl ?_
      refine lv_lor hx hb dX1_place_26 ?_
      exact pret_l hx hb hr hlocks (by simp_all [bI, i32_nlt, i32_lt, g_place]) dX1_place_27
    · refine lv_lconst (v := 0) hx hb dX1_place_13 (by decide) ?_
      refine lv_goto (tgt := 27) hx hb dX1_place_14 (by decide) ?_
      exact pret_l hx hb hr hlocks (by simp_all [bI, i32_nlt, i32_lt, g_place]) dX1_place_27
theorem dX9_asNumber_0 : decode cX9_asNumber 0 = .ok (.iload_n 0, 1) := by decide +kernel
theorem dX9_asNumber_1 : decode cX9_asNumber 1 = .ok (.ifCond .eq 7, 3) := by decide +kernel
theorem dX9_asNumber_8 : decode cX9_asNumber 8 = .ok (.iconst 0, 1) := by decide +kernel
theorem dX9_asNumber_9 : decode cX9_asNumber 9 = .ok (.ireturn, 1) := by decide +kernel
theorem dX9_asNumber_4 : decode cX9_asNumber 4 = .ok (.iconst 1, 1) := by decide +kernel
theorem dX9_asNumber_5 : decode cX9_asNumber 5 = .ok (.goto 4, 3) := by decide +kernel
set_option maxHeartbeats 4000000 in
set_option maxRecDepth 100000 in
theorem c_X9_asNumber (l : Launch) (x0 : Bool) : Met l yX9_asNumber wsX9_asNumber ({ frames := 0, cells := 0, slots := 0, locals := 0 }) (va_Pc [.int (bI x0)] (fun _ => True)) (vp_Si (fun r => r = bI x0)) 0 0 (fun _ => False) := by
  refine Met.ofW (cc := cX9_asNumber) (maxL := 1) (ret := (some .int)) (by decide) rfl ?_
  intro p e s m args below meth c s₁ B hml hv
  obtain ⟨rfl, -⟩ := hv
  have hx := B.exec
  have hb := B.bytes
  have hr := B.returns
  have hts := atoms_spec (ws := wsX9_asNumber) B.pre
  have hown : s.vm.findClass RX9 = some m.cls := findClass_of_methodNamed B.named
  have hlocks := B.notSynchronized
  have hl := lv_entry ([.int (bI x0)]) (n := 1) (Nat.le_of_ble_eq_true rfl)
  rw [lg_entry_eq]
  generalize (lg_sl ([.int (bI x0)]) ++ List.replicate (1 - (lg_sl ([.int (bI x0)])).length) Slot.unset).toArray = ls at hl ⊢
  have hl : lv_has ls 1 [(0, .int (bI x0))] := hl
  refine lv_iload_n hx hb dX9_asNumber_0 rfl (lv_at hl 0 rfl) ?_
  refine lv_if_eq (tgt := 8) hx hb dX9_asNumber_1 (by decide) (fun c_1 => ?_) (fun c_1 => ?_)
  · replace c_1 := bI_f c_1
    refine lv_iconst (v := 0) hx hb dX9_asNumber_8 (by decide) ?_
    exact pret_i hx hb hr hlocks (by simp_all [bI]) dX9_asNumber_9
  · replace c_1 := bI_t c_1
    refine lv_iconst (v := 1) hx hb dX9_asNumber_4 (by decide) ?_
    refine lv_goto (tgt := 9) hx hb dX9_asNumber_5 (by decide) ?_
    exact pret_i hx hb hr hlocks (by simp_all [bI]) dX9_asNumber_9
theorem dX9_isKind_0 : decode cX9_isKind 0 = .ok (.iload_n 0, 1) := by decide +kernel
theorem dX9_isKind_1 : decode cX9_isKind 1 = .ok (.ifCond .lt 12, 3) := by decide +kernel
theorem dX9_isKind_13 : decode cX9_isKind 13 = .ok (.iconst 0, 1) := by decide +kernel
theorem dX9_isKind_14 : decode cX9_isKind 14 = .ok (.ireturn, 1) := by decide +kernel
theorem dX9_isKind_4 : decode cX9_isKind 4 = .ok (.iload_n 0, 1) := by decide +kernel
theorem dX9_isKind_5 : decode cX9_isKind 5 = .ok (.iconst 4, 1) := by decide +kernel
theorem dX9_isKind_6 : decode cX9_isKind 6 = .ok (.if_icmp .ge 7, 3) := by decide +kernel
theorem dX9_isKind_9 : decode cX9_isKind 9 = .ok (.iconst 1, 1) := by decide +kernel
theorem dX9_isKind_10 : decode cX9_isKind 10 = .ok (.goto 4, 3) := by decide +kernel
set_option maxHeartbeats 4000000 in
set_option maxRecDepth 100000 in
theorem c_X9_isKind (l : Launch) (x0 : Int32) : Met l yX9_isKind wsX9_isKind ({ frames := 0, cells := 0, slots := 0, locals := 0 }) (va_Pc [.int x0] (fun _ => True)) (vp_Si (fun r => r = bI (g_isKind x0))) 0 0 (fun _ => False) := by
  refine Met.ofW (cc := cX9_isKind) (maxL := 1) (ret := (some .boolean)) (by decide) rfl ?_
  intro p e s m args below meth c s₁ B hml hv
  obtain ⟨rfl, -⟩ := hv
  have hx := B.exec
  have hb := B.bytes
  have hr := B.returns
  have hts := atoms_spec (ws := wsX9_isKind) B.pre
  have hown : s.vm.findClass RX9 = some m.cls := findClass_of_methodNamed B.named
  have hlocks := B.notSynchronized
  have hl := lv_entry ([.int x0]) (n := 1) (Nat.le_of_ble_eq_true rfl)
  rw [lg_entry_eq]
  generalize (lg_sl ([.int x0]) ++ List.replicate (1 - (lg_sl ([.int x0])).length) Slot.unset).toArray = ls at hl ⊢
  have hl : lv_has ls 1 [(0, .int x0)] := hl
  refine lv_iload_n hx hb dX9_isKind_0 rfl (lv_at hl 0 rfl) ?_
  refine lv_if_lt (tgt := 13) hx hb dX9_isKind_1 (by decide) (fun c_1 => ?_) (fun c_1 => ?_)
  · refine lv_iconst (v := 0) hx hb dX9_isKind_13 (by decide) ?_
    exact pret_z hx hb hr hlocks (by simp_all [bI, i32_nlt, i32_lt, g_isKind]) dX9_isKind_14
  · refine lv_iload_n hx hb dX9_isKind_4 rfl (lv_at hl 0 rfl) ?_
    refine lv_iconst (v := 4) hx hb dX9_isKind_5 (by decide) ?_
    refine lv_icmp_ge (tgt := 13) hx hb dX9_isKind_6 (by decide) (fun c_2 => ?_) (fun c_2 => ?_)
    · refine lv_iconst (v := 0) hx hb dX9_isKind_13 (by decide) ?_
      exact pret_z hx hb hr hlocks (by simp_all [bI, i32_nlt, i32_lt, g_isKind]) dX9_isKind_14
    · refine lv_iconst (v := 1) hx hb dX9_isKind_9 (by decide) ?_
      refine lv_goto (tgt := 14) hx hb dX9_isKind_10 (by decide) ?_
      exact pret_z hx hb hr hlocks (by simp_all [bI, i32_nlt, i32_lt, g_isKind]) dX9_isKind_14
theorem dX9_fitsColour_0 : decode cX9_fitsColour 0 = .ok (.iload_n 0, 1) := by decide +kernel
theorem dX9_fitsColour_1 : decode cX9_fitsColour 1 = .ok (.iconst 2, 1) := by decide +kernel
theorem dX9_fitsColour_2 : decode cX9_fitsColour 2 = .ok (.if_icmp .ne 22, 3) := by decide +kernel
theorem dX9_fitsColour_24 : decode cX9_fitsColour 24 = .ok (.iload_n 1, 1) := by decide +kernel
theorem dX9_fitsColour_25 : decode cX9_fitsColour 25 = .ok (.ifCond .ne 7, 3) := by decide +kernel
theorem dX9_fitsColour_32 : decode cX9_fitsColour 32 = .ok (.iconst 0, 1) := by decide +kernel
theorem dX9_fitsColour_33 : decode cX9_fitsColour 33 = .ok (.ireturn, 1) := by decide +kernel
theorem dX9_fitsColour_28 : decode cX9_fitsColour 28 = .ok (.iconst 1, 1) := by decide +kernel
theorem dX9_fitsColour_29 : decode cX9_fitsColour 29 = .ok (.goto 4, 3) := by decide +kernel
theorem dX9_fitsColour_5 : decode cX9_fitsColour 5 = .ok (.iload_n 1, 1) := by decide +kernel
theorem dX9_fitsColour_6 : decode cX9_fitsColour 6 = .ok (.iconst 1, 1) := by decide +kernel
theorem dX9_fitsColour_7 : decode cX9_fitsColour 7 = .ok (.if_icmp .lt 13, 3) := by decide +kernel
theorem dX9_fitsColour_20 : decode cX9_fitsColour 20 = .ok (.iconst 0, 1) := by decide +kernel
theorem dX9_fitsColour_21 : decode cX9_fitsColour 21 = .ok (.goto 12, 3) := by decide +kernel
theorem dX9_fitsColour_10 : decode cX9_fitsColour 10 = .ok (.iload_n 1, 1) := by decide +kernel
theorem dX9_fitsColour_11 : decode cX9_fitsColour 11 = .ok (.bipush 99, 2) := by decide +kernel
theorem dX9_fitsColour_13 : decode cX9_fitsColour 13 = .ok (.if_icmp .gt 7, 3) := by decide +kernel
theorem dX9_fitsColour_16 : decode cX9_fitsColour 16 = .ok (.iconst 1, 1) := by decide +kernel
theorem dX9_fitsColour_17 : decode cX9_fitsColour 17 = .ok (.goto 16, 3) := by decide +kernel
set_option maxHeartbeats 4000000 in
set_option maxRecDepth 100000 in
theorem c_X9_fitsColour (l : Launch) (x0 : Int32) (x1 : Int32) : Met l yX9_fitsColour wsX9_fitsColour ({ frames := 0, cells := 0, slots := 0, locals := 0 }) (va_Pc [.int x0, .int x1] (fun _ => True)) (vp_Si (fun r => r = bI (g_fits x0 x1))) 0 0 (fun _ => False) := by
  refine Met.ofW (cc := cX9_fitsColour) (maxL := 2) (ret := (some .boolean)) (by decide) rfl ?_
  intro p e s m args below meth c s₁ B hml hv
  obtain ⟨rfl, -⟩ := hv
  have hx := B.exec
  have hb := B.bytes
  have hr := B.returns
  have hts := atoms_spec (ws := wsX9_fitsColour) B.pre
  have hown : s.vm.findClass RX9 = some m.cls := findClass_of_methodNamed B.named
  have hlocks := B.notSynchronized
  have hl := lv_entry ([.int x0, .int x1]) (n := 2) (Nat.le_of_ble_eq_true rfl)
  rw [lg_entry_eq]
  generalize (lg_sl ([.int x0, .int x1]) ++ List.replicate (2 - (lg_sl ([.int x0, .int x1])).length) Slot.unset).toArray = ls at hl ⊢
  have hl : lv_has ls 2 [(0, .int x0), (1, .int x1)] := hl
  refine lv_iload_n hx hb dX9_fitsColour_0 rfl (lv_at hl 0 rfl) ?_
  refine lv_iconst (v := 2) hx hb dX9_fitsColour_1 (by decide) ?_
  refine lv_icmp_ne (tgt := 24) hx hb dX9_fitsColour_2 (by decide) (fun c_1 => ?_) (fun c_1 => ?_)
  · refine lv_iload_n hx hb dX9_fitsColour_24 rfl (lv_at hl 1 rfl) ?_
    refine lv_if_ne (tgt := 32) hx hb dX9_fitsColour_25 (by decide) (fun c_2 => ?_) (fun c_2 => ?_)
    · refine lv_iconst (v := 0) hx hb dX9_fitsColour_32 (by decide) ?_
      exact pret_z hx hb hr hlocks (by simp_all [bI, i32_nlt, i32_lt, g_fits]) dX9_fitsColour_33
    · refine lv_iconst (v := 1) hx hb dX9_fitsColour_28 (by decide) ?_
      refine lv_goto (tgt := 33) hx hb dX9_fitsColour_29 (by decide) ?_
      exact pret_z hx hb hr hlocks (by simp_all [bI, i32_nlt, i32_lt, g_fits]) dX9_fitsColour_33
  · refine lv_iload_n hx hb dX9_fitsColour_5 rfl (lv_at hl 1 rfl) ?_
    refine lv_iconst (v := 1) hx hb dX9_fitsColour_6 (by decide) ?_
    refine lv_icmp_lt (tgt := 20) hx hb dX9_fitsColour_7 (by decide) (fun c_3 => ?_) (fun c_3 => ?_)
    · refine lv_iconst (v := 0) hx hb dX9_fitsColour_20 (by decide) ?_
      refine lv_goto (tgt := 33) hx hb dX9_fitsColour_21 (by decide) ?_
      exact pret_z hx hb hr hlocks (by simp_all [bI, i32_nlt, i32_lt, g_fits]) dX9_fitsColour_33
    · refine lv_iload_n hx hb dX9_fitsColour_10 rfl (lv_at hl 1 rfl) ?_
      refine lv_bipush (v := 99) hx hb dX9_fitsColour_11 (by decide) ?_
      refine lv_icmp_gt (tgt := 20) hx hb dX9_fitsColour_13 (by decide) (fun c_4 => ?_) (fun c_4 => ?_)
      · refine lv_iconst (v := 0) hx hb dX9_fitsColour_20 (by decide) ?_
        refine lv_goto (tgt := 33) hx hb dX9_fitsColour_21 (by decide) ?_
        exact pret_z hx hb hr hlocks (by simp_all [bI, i32_nlt, i32_lt, g_fits]) dX9_fitsColour_33
      · refine lv_iconst (v := 1) hx hb dX9_fitsColour_16 (by decide) ?_
        refine lv_goto (tgt := 33) hx hb dX9_fitsColour_17 (by decide) ?_
        exact pret_z hx hb hr hlocks (by simp_all [bI, i32_nlt, i32_lt, g_fits]) dX9_fitsColour_33
theorem dX8_isCorner_0 : decode cX8_isCorner 0 = .ok (.iload_n 0, 1) := by decide +kernel
theorem dX8_isCorner_1 : decode cX8_isCorner 1 = .ok (.ifCond .lt 22, 3) := by decide +kernel
theorem dX8_isCorner_23 : decode cX8_isCorner 23 = .ok (.iconst 0, 1) := by decide +kernel
theorem dX8_isCorner_24 : decode cX8_isCorner 24 = .ok (.ireturn, 1) := by decide +kernel
theorem dX8_isCorner_4 : decode cX8_isCorner 4 = .ok (.iload_n 0, 1) := by decide +kernel
theorem dX8_isCorner_5 : decode cX8_isCorner 5 = .ok (.bipush 55, 2) := by decide +kernel
theorem dX8_isCorner_7 : decode cX8_isCorner 7 = .ok (.if_icmp .ge 16, 3) := by decide +kernel
theorem dX8_isCorner_10 : decode cX8_isCorner 10 = .ok (.iload_n 0, 1) := by decide +kernel
theorem dX8_isCorner_11 : decode cX8_isCorner 11 = .ok (.bipush 8, 2) := by decide +kernel
theorem dX8_isCorner_13 : decode cX8_isCorner 13 = .ok (.irem, 1) := by decide +kernel
theorem dX8_isCorner_14 : decode cX8_isCorner 14 = .ok (.bipush 7, 2) := by decide +kernel
theorem dX8_isCorner_16 : decode cX8_isCorner 16 = .ok (.if_icmp .ge 7, 3) := by decide +kernel
theorem dX8_isCorner_19 : decode cX8_isCorner 19 = .ok (.iconst 1, 1) := by decide +kernel
theorem dX8_isCorner_20 : decode cX8_isCorner 20 = .ok (.goto 4, 3) := by decide +kernel
set_option maxHeartbeats 4000000 in
set_option maxRecDepth 100000 in
theorem c_X8_isCorner (l : Launch) (x0 : Int32) : Met l yX8_isCorner wsX8_isCorner ({ frames := 0, cells := 0, slots := 0, locals := 0 }) (va_Pc [.int x0] (fun _ => True)) (vp_Si (fun r => r = bI (g_isCorner x0))) 0 0 (fun _ => False) := by
  refine Met.ofW (cc := cX8_isCorner) (maxL := 1) (ret := (some .boolean)) (by decide) rfl ?_
  intro p e s m args below meth c s₁ B hml hv
  obtain ⟨rfl, -⟩ := hv
  have hx := B.exec
  have hb := B.bytes
  have hr := B.returns
  have hts := atoms_spec (ws := wsX8_isCorner) B.pre
  have hown : s.vm.findClass RX8 = some m.cls := findClass_of_methodNamed B.named
  have hlocks := B.notSynchronized
  have hl := lv_entry ([.int x0]) (n := 1) (Nat.le_of_ble_eq_true rfl)
  rw [lg_entry_eq]
  generalize (lg_sl ([.int x0]) ++ List.replicate (1 - (lg_sl ([.int x0])).length) Slot.unset).toArray = ls at hl ⊢
  have hl : lv_has ls 1 [(0, .int x0)] := hl
  refine lv_iload_n hx hb dX8_isCorner_0 rfl (lv_at hl 0 rfl) ?_
  refine lv_if_lt (tgt := 23) hx hb dX8_isCorner_1 (by decide) (fun c_1 => ?_) (fun c_1 => ?_)
  · refine lv_iconst (v := 0) hx hb dX8_isCorner_23 (by decide) ?_
    exact pret_z hx hb hr hlocks (by simp_all [bI, i32_nlt, i32_lt, g_isCorner]) dX8_isCorner_24
  · refine lv_iload_n hx hb dX8_isCorner_4 rfl (lv_at hl 0 rfl) ?_
    refine lv_bipush (v := 55) hx hb dX8_isCorner_5 (by decide) ?_
    refine lv_icmp_ge (tgt := 23) hx hb dX8_isCorner_7 (by decide) (fun c_2 => ?_) (fun c_2 => ?_)
    · refine lv_iconst (v := 0) hx hb dX8_isCorner_23 (by decide) ?_
      exact pret_z hx hb hr hlocks (by simp_all [bI, i32_nlt, i32_lt, g_isCorner]) dX8_isCorner_24
    · refine lv_iload_n hx hb dX8_isCorner_10 rfl (lv_at hl 0 rfl) ?_
      refine lv_bipush (v := 8) hx hb dX8_isCorner_11 (by decide) ?_
      refine lv_irem hx hb dX8_isCorner_13 (by decide) ?_
      refine lv_bipush (v := 7) hx hb dX8_isCorner_14 (by decide) ?_
      refine lv_icmp_ge (tgt := 23) hx hb dX8_isCorner_16 (by decide) (fun c_3 => ?_) (fun c_3 => ?_)
      · refine lv_iconst (v := 0) hx hb dX8_isCorner_23 (by decide) ?_
        exact pret_z hx hb hr hlocks (by simp_all [bI, i32_nlt, i32_lt, g_isCorner]) dX8_isCorner_24
      · refine lv_iconst (v := 1) hx hb dX8_isCorner_19 (by decide) ?_
        refine lv_goto (tgt := 24) hx hb dX8_isCorner_20 (by decide) ?_
        exact pret_z hx hb hr hlocks (by simp_all [bI, i32_nlt, i32_lt, g_isCorner]) dX8_isCorner_24
theorem dX4_alongFits_0 : decode cX4_alongFits 0 = .ok (.iload_n 2, 1) := by decide +kernel
theorem dX4_alongFits_1 : decode cX4_alongFits 1 = .ok (.bipush 8, 2) := by decide +kernel
theorem dX4_alongFits_3 : decode cX4_alongFits 3 = .ok (.irem, 1) := by decide +kernel
theorem dX4_alongFits_4 : decode cX4_alongFits 4 = .ok (.bipush 7, 2) := by decide +kernel
theorem dX4_alongFits_6 : decode cX4_alongFits 6 = .ok (.if_icmp .ge 17, 3) := by decide +kernel
theorem dX4_alongFits_23 : decode cX4_alongFits 23 = .ok (.iconst 0, 1) := by decide +kernel
theorem dX4_alongFits_24 : decode cX4_alongFits 24 = .ok (.ireturn, 1) := by decide +kernel
theorem dX4_alongFits_9 : decode cX4_alongFits 9 = .ok (.lload_n 0, 1) := by decide +kernel
theorem dX4_alongFits_10 : decode cX4_alongFits 10 = .ok (.iload_n 2, 1) := by decide +kernel
theorem dX4_alongFits_11 : decode cX4_alongFits 11 = .ok (.iconst 1, 1) := by decide +kernel
theorem dX4_alongFits_12 : decode cX4_alongFits 12 = .ok (.iadd, 1) := by decide +kernel
set_option maxRecDepth 20000 in
theorem ggX4_alongFits_X1_holds : GoodIn wsX4_alongFits wsX1_holds := goodIn_r _ [4] rfl (by decide +kernel)
set_option maxRecDepth 20000 in
theorem gX4_alongFits_X1_holds : GoodIn wsX4_alongFits (va_wsS RX4 37 yX1_holds wsX1_holds) := goodIn_app (goodIn_r _ [1, 2, 3] rfl (by decide +kernel)) ggX4_alongFits_X1_holds
theorem dX4_alongFits_13 : decode cX4_alongFits 13 = .ok (.invokestatic 37, 3) := by decide +kernel
theorem dX4_alongFits_16 : decode cX4_alongFits 16 = .ok (.ifCond .eq 7, 3) := by decide +kernel
theorem dX4_alongFits_19 : decode cX4_alongFits 19 = .ok (.iconst 1, 1) := by decide +kernel
theorem dX4_alongFits_20 : decode cX4_alongFits 20 = .ok (.goto 4, 3) := by decide +kernel
set_option maxHeartbeats 4000000 in
set_option maxRecDepth 100000 in
theorem c_X4_alongFits (l : Launch) (x0 : Int64) (x1 : Int32) : Met l yX4_alongFits wsX4_alongFits ({ frames := 1, cells := 0, slots := 0, locals := 22 }) (va_Pc [.long x0, .int x1] (fun _ => True)) (vp_Si (fun r => r = bI (g_alongFits x0 x1))) 0 0 (fun _ => False) := by
  refine Met.ofW (cc := cX4_alongFits) (maxL := 3) (ret := (some .boolean)) (by decide) rfl ?_
  intro p e s m args below meth c s₁ B hml hv
  obtain ⟨rfl, -⟩ := hv
  have hx := B.exec
  have hb := B.bytes
  have hr := B.returns
  have hts := atoms_spec (ws := wsX4_alongFits) B.pre
  have hown : s.vm.findClass RX4 = some m.cls := findClass_of_methodNamed B.named
  have hlocks := B.notSynchronized
  have hl := lv_entry ([.long x0, .int x1]) (n := 3) (Nat.le_of_ble_eq_true rfl)
  rw [lg_entry_eq]
  generalize (lg_sl ([.long x0, .int x1]) ++ List.replicate (3 - (lg_sl ([.long x0, .int x1])).length) Slot.unset).toArray = ls at hl ⊢
  have hl : lv_has ls 3 [(0, .long x0), (2, .int x1)] := hl
  refine lv_iload_n hx hb dX4_alongFits_0 rfl (lv_at hl 1 rfl) ?_
  refine lv_bipush (v := 8) hx hb dX4_alongFits_1 (by decide) ?_
  refine lv_irem hx hb dX4_alongFits_3 (by decide) ?_
  refine lv_bipush (v := 7) hx hb dX4_alongFits_4 (by decide) ?_
  refine lv_icmp_ge (tgt := 23) hx hb dX4_alongFits_6 (by decide) (fun c_1 => ?_) (fun c_1 => ?_)
  · refine lv_iconst (v := 0) hx hb dX4_alongFits_23 (by decide) ?_
    exact pret_z hx hb hr hlocks (by simp_all [bI, i32_nlt, i32_lt, g_alongFits]) dX4_alongFits_24
  · refine lv_lload_n hx hb dX4_alongFits_9 rfl (lv_at hl 0 rfl) ?_
    refine lv_iload_n hx hb dX4_alongFits_10 rfl (lv_at hl 1 rfl) ?_
    refine lv_iconst (v := 1) hx hb dX4_alongFits_11 (by decide) ?_
    refine lv_iadd hx hb dX4_alongFits_12 ?_
    refine kS_i (As := [.long x0, .int (x1 + 1)]) (rest := []) ⟨hx, hb, hml, hown, hts⟩ (c_X1_holds l x0 (x1 + 1)) (va_cwS 2 hts gX4_alongFits_X1_holds rfl rfl rfl (by decide +kernel) ⟨Nat.le_of_ble_eq_true rfl, Nat.le_of_ble_eq_true rfl⟩) rfl hl.1 rfl (Nat.le_of_ble_eq_true rfl) dX4_alongFits_13 ⟨Nat.le_of_ble_eq_true rfl, Nat.le_of_ble_eq_true rfl⟩ ?_
    refine lv_if_eq (tgt := 23) hx hb dX4_alongFits_16 (by decide) (fun c_2 => ?_) (fun c_2 => ?_)
    · replace c_2 := bI_f c_2
      refine lv_iconst (v := 0) hx hb dX4_alongFits_23 (by decide) ?_
      exact pret_z hx hb hr hlocks (by simp_all [bI, i32_nlt, i32_lt, g_alongFits]) dX4_alongFits_24
    · replace c_2 := bI_t c_2
      refine lv_iconst (v := 1) hx hb dX4_alongFits_19 (by decide) ?_
      refine lv_goto (tgt := 24) hx hb dX4_alongFits_20 (by decide) ?_
      exact pret_z hx hb hr hlocks (by simp_all [bI, i32_nlt, i32_lt, g_alongFits]) dX4_alongFits_24
theorem dX4_acrossFits_0 : decode cX4_acrossFits 0 = .ok (.iload_n 2, 1) := by decide +kernel
theorem dX4_acrossFits_1 : decode cX4_acrossFits 1 = .ok (.bipush 56, 2) := by decide +kernel
theorem dX4_acrossFits_3 : decode cX4_acrossFits 3 = .ok (.if_icmp .ge 18, 3) := by decide +kernel
theorem dX4_acrossFits_21 : decode cX4_acrossFits 21 = .ok (.iconst 0, 1) := by decide +kernel
theorem dX4_acrossFits_22 : decode cX4_acrossFits 22 = .ok (.ireturn, 1) := by decide +kernel
theorem dX4_acrossFits_6 : decode cX4_acrossFits 6 = .ok (.lload_n 0, 1) := by decide +kernel
theorem dX4_acrossFits_7 : decode cX4_acrossFits 7 = .ok (.iload_n 2, 1) := by decide +kernel
theorem dX4_acrossFits_8 : decode cX4_acrossFits 8 = .ok (.bipush 8, 2) := by decide +kernel
theorem dX4_acrossFits_10 : decode cX4_acrossFits 10 = .ok (.iadd, 1) := by decide +kernel
set_option maxRecDepth 20000 in
theorem ggX4_acrossFits_X1_holds : GoodIn wsX4_acrossFits wsX1_holds := goodIn_r _ [4] rfl (by decide +kernel)
set_option maxRecDepth 20000 in
theorem gX4_acrossFits_X1_holds : GoodIn wsX4_acrossFits (va_wsS RX4 37 yX1_holds wsX1_holds) := goodIn_app (goodIn_r _ [1, 2, 3] rfl (by decide +kernel)) ggX4_acrossFits_X1_holds
theorem dX4_acrossFits_11 : decode cX4_acrossFits 11 = .ok (.invokestatic 37, 3) := by decide +kernel
theorem dX4_acrossFits_14 : decode cX4_acrossFits 14 = .ok (.ifCond .eq 7, 3) := by decide +kernel
theorem dX4_acrossFits_17 : decode cX4_acrossFits 17 = .ok (.iconst 1, 1) := by decide +kernel
theorem dX4_acrossFits_18 : decode cX4_acrossFits 18 = .ok (.goto 4, 3) := by decide +kernel
set_option maxHeartbeats 4000000 in
set_option maxRecDepth 100000 in
theorem c_X4_acrossFits (l : Launch) (x0 : Int64) (x1 : Int32) : Met l yX4_acrossFits wsX4_acrossFits ({ frames := 1, cells := 0, slots := 0, locals := 22 }) (va_Pc [.long x0, .int x1] (fun _ => True)) (vp_Si (fun r => r = bI (g_acrossFits x0 x1))) 0 0 (fun _ => False) := by
  refine Met.ofW (cc := cX4_acrossFits) (maxL := 3) (ret := (some .boolean)) (by decide) rfl ?_
  intro p e s m args below meth c s₁ B hml hv
  obtain ⟨rfl, -⟩ := hv
  have hx := B.exec
  have hb := B.bytes
  have hr := B.returns
  have hts := atoms_spec (ws := wsX4_acrossFits) B.pre
  have hown : s.vm.findClass RX4 = some m.cls := findClass_of_methodNamed B.named
  have hlocks := B.notSynchronized
  have hl := lv_entry ([.long x0, .int x1]) (n := 3) (Nat.le_of_ble_eq_true rfl)
  rw [lg_entry_eq]
  generalize (lg_sl ([.long x0, .int x1]) ++ List.replicate (3 - (lg_sl ([.long x0, .int x1])).length) Slot.unset).toArray = ls at hl ⊢
  have hl : lv_has ls 3 [(0, .long x0), (2, .int x1)] := hl
  refine lv_iload_n hx hb dX4_acrossFits_0 rfl (lv_at hl 1 rfl) ?_
  refine lv_bipush (v := 56) hx hb dX4_acrossFits_1 (by decide) ?_
  refine lv_icmp_ge (tgt := 21) hx hb dX4_acrossFits_3 (by decide) (fun c_1 => ?_) (fun c_1 => ?_)
  · refine lv_iconst (v := 0) hx hb dX4_acrossFits_21 (by decide) ?_
    exact pret_z hx hb hr hlocks (by simp_all [bI, i32_nlt, i32_lt, g_acrossFits]) dX4_acrossFits_22
  · refine lv_lload_n hx hb dX4_acrossFits_6 rfl (lv_at hl 0 rfl) ?_
    refine lv_iload_n hx hb dX4_acrossFits_7 rfl (lv_at hl 1 rfl) ?_
    refine lv_bipush (v := 8) hx hb dX4_acrossFits_8 (by decide) ?_
    refine lv_iadd hx hb dX4_acrossFits_10 ?_
    refine kS_i (As := [.long x0, .int (x1 + 8)]) (rest := []) ⟨hx, hb, hml, hown, hts⟩ (c_X1_holds l x0 (x1 + 8)) (va_cwS 2 hts gX4_acrossFits_X1_holds rfl rfl rfl (by decide +kernel) ⟨Nat.le_of_ble_eq_true rfl, Nat.le_of_ble_eq_true rfl⟩) rfl hl.1 rfl (Nat.le_of_ble_eq_true rfl) dX4_acrossFits_11 ⟨Nat.le_of_ble_eq_true rfl, Nat.le_of_ble_eq_true rfl⟩ ?_
    refine lv_if_eq (tgt := 21) hx hb dX4_acrossFits_14 (by decide) (fun c_2 => ?_) (fun c_2 => ?_)
    · replace c_2 := bI_f c_2
      refine lv_iconst (v := 0) hx hb dX4_acrossFits_21 (by decide) ?_
      exact pret_z hx hb hr hlocks (by simp_all [bI, i32_nlt, i32_lt, g_acrossFits]) dX4_acrossFits_22
    · replace c_2 := bI_t c_2
      refine lv_iconst (v := 1) hx hb dX4_acrossFits_17 (by decide) ?_
      refine lv_goto (tgt := 22) hx hb dX4_acrossFits_18 (by decide) ?_
      exact pret_z hx hb hr hlocks (by simp_all [bI, i32_nlt, i32_lt, g_acrossFits]) dX4_acrossFits_22
theorem dX10_isOf_0 : decode cX10_isOf 0 = .ok (.lload_n 0, 1) := by decide +kernel
theorem dX10_isOf_1 : decode cX10_isOf 1 = .ok (.iload_n 2, 1) := by decide +kernel
theorem dX10_isOf_2 : decode cX10_isOf 2 = .ok (.bipush 10, 2) := by decide +kernel
theorem dX10_isOf_4 : decode cX10_isOf 4 = .ok (.irem, 1) := by decide +kernel
theorem dX10_isOf_5 : decode cX10_isOf 5 = .ok (.iconst 1, 1) := by decide +kernel
theorem dX10_isOf_6 : decode cX10_isOf 6 = .ok (.isub, 1) := by decide +kernel
theorem dX10_isOf_7 : decode cX10_isOf 7 = .ok (.iload_n 2, 1) := by decide +kernel
theorem dX10_isOf_8 : decode cX10_isOf 8 = .ok (.bipush 10, 2) := by decide +kernel
theorem dX10_isOf_10 : decode cX10_isOf 10 = .ok (.idiv, 1) := by decide +kernel
theorem dX10_isOf_11 : decode cX10_isOf 11 = .ok (.iconst 1, 1) := by decide +kernel
theorem dX10_isOf_12 : decode cX10_isOf 12 = .ok (.isub, 1) := by decide +kernel
set_option maxRecDepth 20000 in
theorem ggX10_isOf_X10_isOn : GoodIn wsX10_isOf wsX10_isOn := goodIn_r _ [4, 5, 6, 3, 7, 8, 9, 10] rfl (by decide +kernel)
set_option maxRecDepth 20000 in
theorem gX10_isOf_X10_isOn : GoodIn wsX10_isOf (va_wsS RX10 108 yX10_isOn wsX10_isOn) := goodIn_app (goodIn_r _ [1, 2, 3] rfl (by decide +kernel)) ggX10_isOf_X10_isOn
theorem dX10_isOf_13 : decode cX10_isOf 13 = .ok (.invokestatic 108, 3) := by decide +kernel
theorem dX10_isOf_16 : decode cX10_isOf 16 = .ok (.iload_n 3, 1) := by decide +kernel
theorem dX10_isOf_17 : decode cX10_isOf 17 = .ok (.if_icmp .ne 7, 3) := by decide +kernel
theorem dX10_isOf_24 : decode cX10_isOf 24 = .ok (.iconst 0, 1) := by decide +kernel
theorem dX10_isOf_25 : decode cX10_isOf 25 = .ok (.ireturn, 1) := by decide +kernel
theorem dX10_isOf_20 : decode cX10_isOf 20 = .ok (.iconst 1, 1) := by decide +kernel
theorem dX10_isOf_21 : decode cX10_isOf 21 = .ok (.goto 4, 3) := by decide +kernel
set_option maxHeartbeats 4000000 in
set_option maxRecDepth 100000 in
theorem c_X10_isOf (l : Launch) (x0 : Int64) (x1 : Int32) (x2 : Bool) : Met l yX10_isOf wsX10_isOf ({ frames := 2, cells := 0, slots := 0, locals := 45 }) (va_Pc [.long x0, .int x1, .int (bI x2)] (fun _ => True)) (vp_Si (fun r => r = bI (m_isOf x0 x1 x2))) 0 0 (fun _ => False) := by
  refine Met.ofW (cc := cX10_isOf) (maxL := 4) (ret := (some .boolean)) (by decide) rfl ?_
  intro p e s m args below meth c s₁ B hml hv
  obtain ⟨rfl, -⟩ := hv
  have hx := B.exec
  have hb := B.bytes
  have hr := B.returns
  have hts := atoms_spec (ws := wsX10_isOf) B.pre
  have hown : s.vm.findClass RX10 = some m.cls := findClass_of_methodNamed B.named
  have hlocks := B.notSynchronized
  have hl := lv_entry ([.long x0, .int x1, .int (bI x2)]) (n := 4) (Nat.le_of_ble_eq_true rfl)
  rw [lg_entry_eq]
  generalize (lg_sl ([.long x0, .int x1, .int (bI x2)]) ++ List.replicate (4 - (lg_sl ([.long x0, .int x1, .int (bI x2)])).length) Slot.unset).toArray = ls at hl ⊢
  have hl : lv_has ls 4 [(0, .long x0), (2, .int x1), (3, .int (bI x2))] := hl
  refine lv_lload_n hx hb dX10_isOf_0 rfl (lv_at hl 0 rfl) ?_
  refine lv_iload_n hx hb dX10_isOf_1 rfl (lv_at hl 1 rfl) ?_
  refine lv_bipush (v := 10) hx hb dX10_isOf_2 (by decide) ?_
  refine lv_irem hx hb dX10_isOf_4 (by decide) ?_
  refine lv_iconst (v := 1) hx hb dX10_isOf_5 (by decide) ?_
  refine lv_isub hx hb dX10_isOf_6 ?_
  refine lv_iload_n hx hb dX10_isOf_7 rfl (lv_at hl 1 rfl) ?_
  refine lv_bipush (v := 10) hx hb dX10_isOf_8 (by decide) ?_
  refine lv_idiv hx hb dX10_isOf_10 (by decide) ?_
  refine lv_iconst (v := 1) hx hb dX10_isOf_11 (by decide) ?_
  refine lv_isub hx hb dX10_isOf_12 ?_
  refine kS_i (As := [.long x0, .int ((x1 - x1 / 10 * 10) - 1), .int ((x1 / 10) - 1)]) (rest := []) ⟨hx, hb, hml, hown, hts⟩ (c_X10_isOn l x0 ((x1 - x1 / 10 * 10) - 1) ((x1 / 10) - 1)) (va_cwS 3 hts gX10_isOf_X10_isOn rfl rfl rfl (by decide +kernel) ⟨Nat.le_of_ble_eq_true rfl, Nat.le_of_ble_eq_true rfl⟩) rfl hl.1 rfl (Nat.le_of_ble_eq_true rfl) dX10_isOf_13 ⟨Nat.le_of_ble_eq_true rfl, Nat.le_of_ble_eq_true rfl⟩ ?_
  refine lv_iload_n hx hb dX10_isOf_16 rfl (lv_at hl 2 rfl) ?_
  refine lv_icmp_ne (tgt := 24) hx hb dX10_isOf_17 (by decide) (fun c_1 => ?_) (fun c_1 => ?_)
  · refine lv_iconst (v := 0) hx hb dX10_isOf_24 (by decide) ?_
    exact pret_z hx hb hr hlocks (by have h9 := c_1; simp only [bI_inj] at h9; simp [m_isOf, h9, bI]) dX10_isOf_25
  · refine lv_iconst (v := 1) hx hb dX10_isOf_20 (by decide) ?_
    refine lv_goto (tgt := 25) hx hb dX10_isOf_21 (by decide) ?_
    exact pret_z hx hb hr hlocks (by have h9 := c_1; simp only [bI_inj] at h9; simp [m_isOf, h9, bI]) dX10_isOf_25
