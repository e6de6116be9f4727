theorem cnt_use {J0 fl : Int64} {S : List Int32} {R1 w : Nat → Int32} {n k : Nat} {x19 x20 x21 : Int64} (eJ : J0 = fl) (h : gInv fl S) (hS : S = eL R1 n) (hk : k = n) (e : x19 = gA R1 k ∧ x20 = gC R1 k ∧ x21 = gTk R1 k) (hw : wE (bfx J0) (may J0 x21 x19 x20 false) (may J0 x21 x19 x20 true) w (64 - 64)) : w ((256 : Int32) * 0 + 0).toNatClampNeg = aCnt fl S := by
  subst eJ
  subst hk
  rw [wE_tot hw]
  exact cnt_eq h hS e
theorem wit_0 {J0 fl : Int64} {S : List Int32} {R1 : Nat → Int32} {n k : Nat} {x19 x20 x21 : Int64} {f : Int32} {b : Bool} (eJ : J0 = fl) (hS : S = eL R1 n) (hk : k = n) (e : x19 = gA R1 k ∧ x20 = gC R1 k ∧ x21 = gTk R1 k) (hf : m_within f 0 63 = true) (hp : ¬ m_place f b = 0) (hfl : m_place f b &&& (fl ^^^ (-1)) = 0) (hm : m_may J0 x21 x19 x20 f b = false) : (0 : Int32) = aWith fl S f b := by
  subst eJ
  subst hk
  rw [e.1, e.2.1, e.2.2] at hm
  exact wiM0 hS hf hp hfl hm
theorem wit_1 {J0 fl : Int64} {S : List Int32} {R1 w : Nat → Int32} {n k : Nat} {x19 x20 x21 y19 y20 y21 : Int64} {f : Int32} {b : Bool} (eJ : J0 = fl) (h : gInv fl S) (hS : S = eL R1 n) (hk : k = n) (e : x19 = gA R1 k ∧ x20 = gC R1 k ∧ x21 = gTk R1 k) (hf : m_within f 0 63 = true) (hp : ¬ m_place f b = 0) (hfl : m_place f b &&& (fl ^^^ (-1)) = 0) (hm : m_may J0 x21 x19 x20 f b = true) (k1 : y19 = x19 ||| mAl f b) (k2 : y20 = x20 ||| mAc f b) (k3 : y21 = x21 ||| m_place f b) (hw : wE (bfx J0) (may J0 y21 y19 y20 false) (may J0 y21 y19 y20 true) w (64 - 64)) : w ((256 : Int32) * 0 + 0).toNatClampNeg = aWith fl S f b := by
  subst eJ
  subst hk
  rw [e.1] at k1 hm
  rw [e.2.1] at k2 hm
  rw [e.2.2] at k3 hm
  rw [wE_tot hw]
  exact wiM h hS hf hp hfl hm k1 k2 k3
set_option maxHeartbeats 4000000 in
set_option maxRecDepth 100000 in
theorem x_X10_countAll (l : Launch) (D : va_G) (cy : Nat → ClassId) (a : Nat → Nat) (sz : Nat) (J : Nat → Int64) (I : Nat → Int32) (R : Nat → Nat → Int32) (RJ : Nat → Nat → Int64)  (fl : Int64) (S : List Int32) (P : List PE) (hRA : RMf (J 0) (I 1) (I 12) (R 1) (R 3) (R 4) (RJ 2) fl S P) (hG : gInv fl S) (hM : MI I R) : Met l yX10_countAll wsX10_countAll ({ frames := 3, cells := 0, slots := 0, locals := 73 }) (va_Pc [.ref (a 0)] (PW D cy sz (MW cy a J I R RJ))) (va_Qi (fun r (u : MS) => ∃ (w0 : Int64), ∃ (w1 : Int64), ∃ (w2 : Int64), ∃ (w3 : Nat → Int32), (r = (aCnt fl S)) ∧ u = ((va_up (va_up (va_up J 19 w0) 20 w1) 21 w2), I, (va_up R 12 w3), RJ)) (BW D (va_A (MW cy a J I R RJ) sz) (MWu cy a)) (va_A (MW cy a J I R RJ) sz)) 0 0 (va_A (MW cy a J I R RJ) sz) := by
  refine Met.ofW (cc := cX10_countAll) (maxL := 1) (ret := (some .int)) (by decide) rfl ?_
  intro p e s m args below meth c s₁ B hml hv
  obtain ⟨rfl, rfl, hP, hK, hN, hD0⟩ := hv
  have hx := B.exec
  have hb := B.bytes
  have hr := B.returns
  have hts := atoms_spec (ws := wsX10_countAll) B.pre
  have hown : s.vm.findClass RX10 = some m.cls := findClass_of_methodNamed B.named
  have hlocks := B.notSynchronized
  have hD := hD0.self (sz := s.heap.size)
  generalize hAe : va_A (MW cy a J I R RJ) s.heap.size = A at hD ⊢
  have hA : ∀ q : Nat, s.heap.size ≤ q → A q := fun q h => by rw [← hAe]; exact Or.inr h
  have hS : va_S A s.heap s.heap [] := va_S.rf
  have hl := lv_entry ([.ref (a 0)]) (n := 1) (Nat.le_of_ble_eq_true rfl)
  rw [lg_entry_eq]
  generalize (lg_sl ([.ref (a 0)]) ++ List.replicate (1 - (lg_sl ([.ref (a 0)])).length) Slot.unset).toArray = ls at hl ⊢
  have hl : lv_has ls 1 [(0, .ref (a 0))] := hl
  obtain ⟨ns, hns, hI1, hSe⟩ := hRA.2.1
  have hP : va_P D vwCl (MW cy a (va_up (va_up (va_up J 19 (J 19)) 20 (J 20)) 21 (J 21)) I (va_up R 12 (R 12)) RJ) s.heap := hP
  have hD : va_D A (MW cy a (va_up (va_up (va_up J 19 (J 19)) 20 (J 20)) 21 (J 21)) I (va_up R 12 (R 12)) RJ) := hD
  refine lv_aload_n hx hb dX10_countAll_0 rfl (lv_at hl 0 rfl) ?_
  refine kM_v (As := []) (rest := []) (q0 := 0) ⟨hx, hb, hml, hown, hts⟩ (x_X10_findGlued l D cy a _ (va_up (va_up (va_up J 19 (J 19)) 20 (J 20)) 21 (J 21)) I (va_up R 12 (R 12)) RJ   ⟨hM.1, hM.2.1, hM.2.2.1, hM.2.2.2.1, hM.2.2.2.2.1, hM.2.2.2.2.2⟩) (cwV 0 hts gX10_countAll_X10_findGlued rfl rfl rfl (by decide +kernel) ⟨Nat.le_of_ble_eq_true rfl, Nat.le_of_ble_eq_true rfl⟩) hK hN hP hD hS hA rfl rfl rfl hl.1 rfl (Nat.le_of_ble_eq_true rfl) dX10_countAll_1 ⟨Nat.le_of_ble_eq_true rfl, Nat.le_of_ble_eq_true rfl⟩ (fun u H locs hw hP hD hS => ?_)
  obtain ⟨w_2, w_3, w_4, hp_5, rfl⟩ := hw
  have hP : va_P D vwCl (MW cy a (va_up (va_up (va_up J 19 w_2) 20 w_3) 21 w_4) I (va_up R 12 (R 12)) RJ) H := hP
  have hD : va_D A (MW cy a (va_up (va_up (va_up J 19 w_2) 20 w_3) 21 w_4) I (va_up R 12 (R 12)) RJ) := hD
  refine lv_aload_n hx hb dX10_countAll_4 rfl (lv_at hl 0 rfl) ?_
  refine kM_v (As := []) (rest := []) (q0 := 0) ⟨hx, hb, hml, hown, hts⟩ (x_X10_findWays l D cy a _ (va_up (va_up (va_up J 19 w_2) 20 w_3) 21 w_4) I (va_up R 12 (R 12)) RJ   ) (cwV 0 hts gX10_countAll_X10_findWays rfl rfl rfl (by decide +kernel) ⟨Nat.le_of_ble_eq_true rfl, Nat.le_of_ble_eq_true rfl⟩) hK hN hP hD hS hA rfl rfl rfl hl.1 rfl (Nat.le_of_ble_eq_true rfl) dX10_countAll_5 ⟨Nat.le_of_ble_eq_true rfl, Nat.le_of_ble_eq_true rfl⟩ (fun u H locs hw hP hD hS => ?_)
  obtain ⟨w_7, hp_8, rfl⟩ := hw
  have hP : va_P D vwCl (MW cy a (va_up (va_up (va_up J 19 w_2) 20 w_3) 21 w_4) I (va_up R 12 w_7) RJ) H := hP
  have hD : va_D A (MW cy a (va_up (va_up (va_up J 19 w_2) 20 w_3) 21 w_4) I (va_up R 12 w_7) RJ) := hD
  refine lv_aload_n hx hb dX10_countAll_8 rfl (lv_at hl 0 rfl) ?_
  refine lv_iconst (v := 0) hx hb dX10_countAll_9 (by decide) ?_
  refine lv_iconst (v := 0) hx hb dX10_countAll_10 (by decide) ?_
  refine kR_i (As := [.int 0, .int 0]) (rest := []) (q0 := 0) ⟨hx, hb, hml, hown, hts⟩ (c_X10_waysAt l D cy a _ (va_up (va_up (va_up J 19 w_2) 20 w_3) 21 w_4) I (va_up R 12 w_7) RJ 0 0 (by unfold vp_in; decide)) (cwV 2 hts gX10_countAll_X10_waysAt rfl rfl rfl (by decide +kernel) ⟨Nat.le_of_ble_eq_true rfl, Nat.le_of_ble_eq_true rfl⟩) hK hN hP hD rfl rfl rfl hl.1 rfl (Nat.le_of_ble_eq_true rfl) dX10_countAll_11 ⟨Nat.le_of_ble_eq_true rfl, Nat.le_of_ble_eq_true rfl⟩ ?_
  exact wret_i hx hb hr hlocks ((va_up (va_up (va_up J 19 w_2) 20 w_3) 21 w_4), I, (va_up R 12 w_7), RJ) ⟨w_2, w_3, w_4, w_7, (cnt_use hRA.1 hG hSe (show (I 1).toNatClampNeg = ns by rw [hI1]; exact cl20 hns) hp_5 hp_8), rfl⟩ hP hD hS dX10_countAll_14
set_option maxHeartbeats 4000000 in
set_option maxRecDepth 100000 in
theorem x_X10_count (l : Launch) (D : va_G) (cy : Nat → ClassId) (a : Nat → Nat) (sz : Nat) (J : Nat → Int64) (I : Nat → Int32) (R : Nat → Nat → Int32) (RJ : Nat → Nat → Int64)  (fl : Int64) (S : List Int32) (P : List PE) (hRA : RMf (J 0) (I 1) (I 12) (R 1) (R 3) (R 4) (RJ 2) fl S P) (hG : gInv fl S) (hM : MI I R) : Met l yX10_count wsX10_count ({ frames := 4, cells := 0, slots := 0, locals := 93 }) (va_Pc [.ref (a 0)] (PW D cy sz (MW cy a J I R RJ))) (va_Qi (fun r (u : MS) => ∃ (w0 : Int64), ∃ (w1 : Int64), ∃ (w2 : Int64), ∃ (w3 : Nat → Int32), (r = (aCnt fl S)) ∧ u = ((va_up (va_up (va_up J 19 w0) 20 w1) 21 w2), I, (va_up R 12 w3), RJ)) (BW D (va_A (MW cy a J I R RJ) sz) (MWu cy a)) (va_A (MW cy a J I R RJ) sz)) 0 0 (va_A (MW cy a J I R RJ) sz) := by
  refine Met.ofW (cc := cX10_count) (maxL := 1) (ret := (some .int)) (by decide) rfl ?_
  intro p e s m args below meth c s₁ B hml hv
  obtain ⟨rfl, rfl, hP, hK, hN, hD0⟩ := hv
  have hx := B.exec
  have hb := B.bytes
  have hr := B.returns
  have hts := atoms_spec (ws := wsX10_count) B.pre
  have hown : s.vm.findClass RX10 = some m.cls := findClass_of_methodNamed B.named
  have hlocks := B.notSynchronized
  have hD := hD0.self (sz := s.heap.size)
  generalize hAe : va_A (MW cy a J I R RJ) s.heap.size = A at hD ⊢
  have hA : ∀ q : Nat, s.heap.size ≤ q → A q := fun q h => by rw [← hAe]; exact Or.inr h
  have hS : va_S A s.heap s.heap [] := va_S.rf
  have hl := lv_entry ([.ref (a 0)]) (n := 1) (Nat.le_of_ble_eq_true rfl)
  rw [lg_entry_eq]
  generalize (lg_sl ([.ref (a 0)]) ++ List.replicate (1 - (lg_sl ([.ref (a 0)])).length) Slot.unset).toArray = ls at hl ⊢
  have hl : lv_has ls 1 [(0, .ref (a 0))] := hl
  have hP : va_P D vwCl (MW cy a (va_up (va_up (va_up J 19 (J 19)) 20 (J 20)) 21 (J 21)) I (va_up R 12 (R 12)) RJ) s.heap := hP
  have hD : va_D A (MW cy a (va_up (va_up (va_up J 19 (J 19)) 20 (J 20)) 21 (J 21)) I (va_up R 12 (R 12)) RJ) := hD
  refine lv_aload_n hx hb dX10_count_0 rfl (lv_at hl 0 rfl) ?_
  refine kM_i (As := []) (rest := []) (q0 := 0) ⟨hx, hb, hml, hown, hts⟩ (x_X10_countAll l D cy a _ (va_up (va_up (va_up J 19 (J 19)) 20 (J 20)) 21 (J 21)) I (va_up R 12 (R 12)) RJ  fl S P hRA hG ⟨hM.1, hM.2.1, hM.2.2.1, hM.2.2.2.1, hM.2.2.2.2.1, hM.2.2.2.2.2⟩) (cwV 0 hts gX10_count_X10_countAll rfl rfl rfl (by decide +kernel) ⟨Nat.le_of_ble_eq_true rfl, Nat.le_of_ble_eq_true rfl⟩) hK hN hP hD hS hA rfl rfl rfl hl.1 rfl (Nat.le_of_ble_eq_true rfl) dX10_count_1 ⟨Nat.le_of_ble_eq_true rfl, Nat.le_of_ble_eq_true rfl⟩ (fun r_1 u H locs hw hP hD hS => ?_)
  obtain ⟨w_2, w_3, w_4, w_5, rfl, rfl⟩ := hw
  have hP : va_P D vwCl (MW cy a (va_up (va_up (va_up J 19 w_2) 20 w_3) 21 w_4) I (va_up R 12 w_5) RJ) H := hP
  have hD : va_D A (MW cy a (va_up (va_up (va_up J 19 w_2) 20 w_3) 21 w_4) I (va_up R 12 w_5) RJ) := hD
  exact wret_i hx hb hr hlocks ((va_up (va_up (va_up J 19 w_2) 20 w_3) 21 w_4), I, (va_up R 12 w_5), RJ) ⟨w_2, w_3, w_4, w_5, rfl, rfl⟩ hP hD hS dX10_count_4
set_option maxHeartbeats 4000000 in
set_option maxRecDepth 100000 in
theorem x_X10_lay (l : Launch) (D : va_G) (cy : Nat → ClassId) (a : Nat → Nat) (sz : Nat) (J : Nat → Int64) (I : Nat → Int32) (R : Nat → Nat → Int32) (RJ : Nat → Nat → Int64) (x0 : Int32) (fl : Int64) (S : List Int32) (P : List PE) (hRA : RMf (J 0) (I 1) (I 12) (R 1) (R 3) (R 4) (RJ 2) fl S P) (hG : gInv fl S) (hM : MI I R) : Met l yX10_lay wsX10_lay ({ frames := 4, cells := 0, slots := 0, locals := 94 }) (va_Pc [.ref (a 0), .int x0] (PW D cy sz (MW cy a J I R RJ))) (va_Qi (fun r (u : MS) => ∃ (w0 : Int64), ∃ (w1 : Int64), ∃ (w2 : Int64), ∃ (w3 : Int64), ∃ (w4 : Int64), ∃ (w5 : Int64), ∃ (w6 : Int64), ∃ (w7 : Int32), ∃ (w8 : Int32), ∃ (w9 : Nat → Int32), (r = (aLay fl S x0) ∧ (isB w7)) ∧ u = ((va_up (va_up (va_up (va_up (va_up (va_up (va_up J 4 w0) 5 w1) 19 w2) 20 w3) 21 w4) 22 w5) 23 w6), (va_up (va_up I 3 w7) 13 w8), (va_up R 12 w9), RJ)) (BW D (va_A (MW cy a J I R RJ) sz) (MWu cy a)) (va_A (MW cy a J I R RJ) sz)) 0 0 (va_A (MW cy a J I R RJ) sz) := by
  refine Met.ofW (cc := cX10_lay) (maxL := 2) (ret := (some .int)) (by decide) rfl ?_
  intro p e s m args below meth c s₁ B hml hv
  obtain ⟨rfl, rfl, hP, hK, hN, hD0⟩ := hv
  have hx := B.exec
  have hb := B.bytes
  have hr := B.returns
  have hts := atoms_spec (ws := wsX10_lay) B.pre
  have hown : s.vm.findClass RX10 = some m.cls := findClass_of_methodNamed B.named
  have hlocks := B.notSynchronized
  have hw0 := hts (.constant RX10 141 (-100001)) (by decide +kernel)
  have hD := hD0.self (sz := s.heap.size)
  generalize hAe : va_A (MW cy a J I R RJ) s.heap.size = A at hD ⊢
  have hA : ∀ q : Nat, s.heap.size ≤ q → A q := fun q h => by rw [← hAe]; exact Or.inr h
  have hS : va_S A s.heap s.heap [] := va_S.rf
  have hl := lv_entry ([.ref (a 0), .int x0]) (n := 2) (Nat.le_of_ble_eq_true rfl)
  rw [lg_entry_eq]
  generalize (lg_sl ([.ref (a 0), .int x0]) ++ List.replicate (2 - (lg_sl ([.ref (a 0), .int x0])).length) Slot.unset).toArray = ls at hl ⊢
  have hl : lv_has ls 2 [(0, .ref (a 0)), (1, .int x0)] := hl
  have hP : va_P D vwCl (MW cy a (va_up (va_up (va_up (va_up (va_up (va_up (va_up J 4 (J 4)) 5 (J 5)) 19 (J 19)) 20 (J 20)) 21 (J 21)) 22 (J 22)) 23 (J 23)) (va_up (va_up I 3 (I 3)) 13 (I 13)) (va_up R 12 (R 12)) RJ) s.heap := hP
  have hD : va_D A (MW cy a (va_up (va_up (va_up (va_up (va_up (va_up (va_up J 4 (J 4)) 5 (J 5)) 19 (J 19)) 20 (J 20)) 21 (J 21)) 22 (J 22)) 23 (J 23)) (va_up (va_up I 3 (I 3)) 13 (I 13)) (va_up R 12 (R 12)) RJ) := hD
  refine lv_iload_n hx hb dX10_lay_0 rfl (lv_at hl 1 rfl) ?_
  refine lv_if_lt (tgt := 12) hx hb dX10_lay_1 (by decide) (fun c_1 => ?_) (fun c_1 => ?_)
  · refine lv_aload_n hx hb dX10_lay_12 rfl (lv_at hl 0 rfl) ?_
    refine lv_ldc (v := (-100001)) hx hb hown hw0 dX10_lay_13 ?_
    refine kM_i (As := [.int (-100001)]) (rest := []) (q0 := 0) ⟨hx, hb, hml, hown, hts⟩ (c_X10_finding l D cy a _ (va_up (va_up (va_up (va_up (va_up (va_up (va_up J 4 (J 4)) 5 (J 5)) 19 (J 19)) 20 (J 20)) 21 (J 21)) 22 (J 22)) 23 (J 23)) (va_up (va_up I 3 (I 3)) 13 (I 13)) (va_up R 12 (R 12)) RJ (-100001) ) (cwV 1 hts gX10_lay_X10_finding rfl rfl rfl (by decide +kernel) ⟨Nat.le_of_ble_eq_true rfl, Nat.le_of_ble_eq_true rfl⟩) hK hN hP hD hS hA rfl rfl rfl hl.1 rfl (Nat.le_of_ble_eq_true rfl) dX10_lay_15 ⟨Nat.le_of_ble_eq_true rfl, Nat.le_of_ble_eq_true rfl⟩ (fun r_2 u H locs hw hP hD hS => ?_)
    obtain ⟨rfl, rfl⟩ := hw
    have hP : va_P D vwCl (MW cy a (va_up (va_up (va_up (va_up (va_up (va_up (va_up J 4 (J 4)) 5 (J 5)) 19 (J 19)) 20 (J 20)) 21 (J 21)) 22 (J 22)) 23 (J 23)) (va_up (va_up I 3 (I 3)) 13 ((I 13) + 1)) (va_up R 12 (R 12)) RJ) H := hP
    have hD : va_D A (MW cy a (va_up (va_up (va_up (va_up (va_up (va_up (va_up J 4 (J 4)) 5 (J 5)) 19 (J 19)) 20 (J 20)) 21 (J 21)) 22 (J 22)) 23 (J 23)) (va_up (va_up I 3 (I 3)) 13 ((I 13) + 1)) (va_up R 12 (R 12)) RJ) := hD
    exact wret_i hx hb hr hlocks ((va_up (va_up (va_up (va_up (va_up (va_up (va_up J 4 (J 4)) 5 (J 5)) 19 (J 19)) 20 (J 20)) 21 (J 21)) 22 (J 22)) 23 (J 23)), (va_up (va_up I 3 (I 3)) 13 ((I 13) + 1)), (va_up R 12 (R 12)), RJ) ⟨(J 4), (J 5), (J 19), (J 20), (J 21), (J 22), (J 23), (I 3), ((I 13) + 1), (R 12), ⟨(ly_f (ic_1 c_1)), hM.2.1⟩, rfl⟩ hP hD hS dX10_lay_18
  · refine lv_iload_n hx hb dX10_lay_4 rfl (lv_at hl 1 rfl) ?_
    refine lv_aload_n hx hb dX10_lay_5 rfl (lv_at hl 0 rfl) ?_
    refine kM_i (As := []) (rest := [.int x0]) (q0 := 0) ⟨hx, hb, hml, hown, hts⟩ (x_X10_countAll l D cy a _ (va_up (va_up (va_up (va_up (va_up (va_up (va_up J 4 (J 4)) 5 (J 5)) 19 (J 19)) 20 (J 20)) 21 (J 21)) 22 (J 22)) 23 (J 23)) (va_up (va_up I 3 (I 3)) 13 (I 13)) (va_up R 12 (R 12)) RJ  fl S P hRA hG ⟨hM.1, hM.2.1, hM.2.2.1, hM.2.2.2.1, hM.2.2.2.2.1, hM.2.2.2.2.2⟩) (cwV 0 hts gX10_lay_X10_countAll rfl rfl rfl (by decide +kernel) ⟨Nat.le_of_ble_eq_true rfl, Nat.le_of_ble_eq_true rfl⟩) hK hN hP hD hS hA rfl rfl rfl hl.1 rfl (Nat.le_of_ble_eq_true rfl) dX10_lay_6 ⟨Nat.le_of_ble_eq_true rfl, Nat.le_of_ble_eq_true rfl⟩ (fun r_3 u H locs hw hP hD hS => ?_)
    obtain ⟨w_4, w_5, w_6, w_7, rfl, rfl⟩ := hw
    have hP : va_P D vwCl (MW cy a (va_up (va_up (va_up (va_up (va_up (va_up (va_up J 4 (J 4)) 5 (J 5)) 19 w_4) 20 w_5) 21 w_6) 22 (J 22)) 23 (J 23)) (va_up (va_up I 3 (I 3)) 13 (I 13)) (va_up R 12 w_7) RJ) H := hP
    have hD : va_D A (MW cy a (va_up (va_up (va_up (va_up (va_up (va_up (va_up J 4 (J 4)) 5 (J 5)) 19 w_4) 20 w_5) 21 w_6) 22 (J 22)) 23 (J 23)) (va_up (va_up I 3 (I 3)) 13 (I 13)) (va_up R 12 w_7) RJ) := hD
    refine lv_icmp_lt (tgt := 19) hx hb dX10_lay_9 (by decide) (fun c_8 => ?_) (fun c_8 => ?_)
    · refine lv_aload_n hx hb dX10_lay_19 rfl (lv_at hl 0 rfl) ?_
      refine lv_iload_n hx hb dX10_lay_20 rfl (lv_at hl 1 rfl) ?_
      refine kM_v (As := [.int x0]) (rest := []) (q0 := 0) ⟨hx, hb, hml, hown, hts⟩ (t_X10_take l D cy a _ (va_up (va_up (va_up (va_up (va_up (va_up (va_up J 4 (J 4)) 5 (J 5)) 19 w_4) 20 w_5) 21 w_6) 22 (J 22)) 23 (J 23)) (va_up (va_up I 3 (I 3)) 13 (I 13)) (va_up R 12 w_7) RJ x0  ⟨hM.1, hM.2.1, hM.2.2.1, hM.2.2.2.1, hM.2.2.2.2.1, hM.2.2.2.2.2⟩) (cwV 1 hts gX10_lay_X10_take rfl rfl rfl (by decide +kernel) ⟨Nat.le_of_ble_eq_true rfl, Nat.le_of_ble_eq_true rfl⟩) hK hN hP hD hS hA rfl rfl rfl hl.1 rfl (Nat.le_of_ble_eq_true rfl) dX10_lay_21 ⟨Nat.le_of_ble_eq_true rfl, Nat.le_of_ble_eq_true rfl⟩ (fun u H locs hw hP hD hS => ?_)
      obtain ⟨w_10, w_11, w_12, w_13, w_14, hi_15, rfl⟩ := hw
      have hP : va_P D vwCl (MW cy a (va_up (va_up (va_up (va_up (va_up (va_up (va_up J 4 w_10) 5 w_11) 19 w_4) 20 w_5) 21 w_6) 22 w_12) 23 w_13) (va_up (va_up I 3 w_14) 13 (I 13)) (va_up R 12 w_7) RJ) H := hP
      have hD : va_D A (MW cy a (va_up (va_up (va_up (va_up (va_up (va_up (va_up J 4 w_10) 5 w_11) 19 w_4) 20 w_5) 21 w_6) 22 w_12) 23 w_13) (va_up (va_up I 3 w_14) 13 (I 13)) (va_up R 12 w_7) RJ) := hD
      refine lv_iconst (v := 1) hx hb dX10_lay_24 (by decide) ?_
      exact wret_i hx hb hr hlocks ((va_up (va_up (va_up (va_up (va_up (va_up (va_up J 4 w_10) 5 w_11) 19 w_4) 20 w_5) 21 w_6) 22 w_12) 23 w_13), (va_up (va_up I 3 w_14) 13 (I 13)), (va_up R 12 w_7), RJ) ⟨w_10, w_11, w_4, w_5, w_6, w_12, w_13, w_14, (I 13), w_7, ⟨(ly_t (ic_3 rfl c_1 c_8)), hi_15⟩, rfl⟩ hP hD hS dX10_lay_25
    · refine lv_aload_n hx hb dX10_lay_12 rfl (lv_at hl 0 rfl) ?_
      refine lv_ldc (v := (-100001)) hx hb hown hw0 dX10_lay_13 ?_
      refine kM_i (As := [.int (-100001)]) (rest := []) (q0 := 0) ⟨hx, hb, hml, hown, hts⟩ (c_X10_finding l D cy a _ (va_up (va_up (va_up (va_up (va_up (va_up (va_up J 4 (J 4)) 5 (J 5)) 19 w_4) 20 w_5) 21 w_6) 22 (J 22)) 23 (J 23)) (va_up (va_up I 3 (I 3)) 13 (I 13)) (va_up R 12 w_7) RJ (-100001) ) (cwV 1 hts gX10_lay_X10_finding rfl rfl rfl (by decide +kernel) ⟨Nat.le_of_ble_eq_true rfl, Nat.le_of_ble_eq_true rfl⟩) hK hN hP hD hS hA rfl rfl rfl hl.1 rfl (Nat.le_of_ble_eq_true rfl) dX10_lay_15 ⟨Nat.le_of_ble_eq_true rfl, Nat.le_of_ble_eq_true rfl⟩ (fun r_16 u H locs hw hP hD hS => ?_)
      obtain ⟨rfl, rfl⟩ := hw
      have hP : va_P D vwCl (MW cy a (va_up (va_up (va_up (va_up (va_up (va_up (va_up J 4 (J 4)) 5 (J 5)) 19 w_4) 20 w_5) 21 w_6) 22 (J 22)) 23 (J 23)) (va_up (va_up I 3 (I 3)) 13 ((I 13) + 1)) (va_up R 12 w_7) RJ) H := hP
      have hD : va_D A (MW cy a (va_up (va_up (va_up (va_up (va_up (va_up (va_up J 4 (J 4)) 5 (J 5)) 19 w_4) 20 w_5) 21 w_6) 22 (J 22)) 23 (J 23)) (va_up (va_up I 3 (I 3)) 13 ((I 13) + 1)) (va_up R 12 w_7) RJ) := hD
      exact wret_i hx hb hr hlocks ((va_up (va_up (va_up (va_up (va_up (va_up (va_up J 4 (J 4)) 5 (J 5)) 19 w_4) 20 w_5) 21 w_6) 22 (J 22)) 23 (J 23)), (va_up (va_up I 3 (I 3)) 13 ((I 13) + 1)), (va_up R 12 w_7), RJ) ⟨(J 4), (J 5), w_4, w_5, w_6, (J 22), (J 23), (I 3), ((I 13) + 1), w_7, ⟨(ly_f (ic_2 rfl c_8)), hM.2.1⟩, rfl⟩ hP hD hS dX10_lay_18
set_option maxHeartbeats 4000000 in
set_option maxRecDepth 100000 in
theorem x_X10_with (l : Launch) (D : va_G) (cy : Nat → ClassId) (a : Nat → Nat) (sz : Nat) (J : Nat → Int64) (I : Nat → Int32) (R : Nat → Nat → Int32) (RJ : Nat → Nat → Int64) (x0 : Int32) (x1 : Bool) (fl : Int64) (S : List Int32) (P : List PE) (hRA : RMf (J 0) (I 1) (I 12) (R 1) (R 3) (R 4) (RJ 2) fl S P) (hG : gInv fl S) (hM : MI I R) : Met l yX10_with wsX10_with ({ frames := 3, cells := 0, slots := 0, locals := 73 }) (va_Pc [.ref (a 0), .int x0, .int (bI x1)] (PW D cy sz (MW cy a J I R RJ))) (va_Qi (fun r (u : MS) => ∃ (w0 : Int64), ∃ (w1 : Int64), ∃ (w2 : Int64), ∃ (w3 : Int32), ∃ (w4 : Nat → Int32), (r = (aWith fl S x0 x1)) ∧ u = ((va_up (va_up (va_up J 19 w0) 20 w1) 21 w2), (va_up I 13 w3), (va_up R 12 w4), RJ)) (BW D (va_A (MW cy a J I R RJ) sz) (MWu cy a)) (va_A (MW cy a J I R RJ) sz)) 0 0 (va_A (MW cy a J I R RJ) sz) := by
  refine Met.ofW (cc := cX10_with) (maxL := 5) (ret := (some .int)) (by decide) rfl ?_
  intro p e s m args below meth c s₁ B hml hv
  obtain ⟨rfl, rfl, hP, hK, hN, hD0⟩ := hv
  have hx := B.exec
  have hb := B.bytes
  have hr := B.returns
  have hts := atoms_spec (ws := wsX10_with) B.pre
  have hown : s.vm.findClass RX10 = some m.cls := findClass_of_methodNamed B.named
  have hlocks := B.notSynchronized
  have hw0 := hts (.constant RX10 176 (-100003)) (by decide +kernel)
  have hw1 := hts (.fieldLink RX10 81 "ParquetLayerModel" "floor" "J") (by decide +kernel)
  have hw2 := hts (.constantLong RX10 126 (-1)) (by decide +kernel)
  have hw3 := hts (.constant RX10 141 (-100001)) (by decide +kernel)
  have hi10 := ihX10_with_10
  have hD := hD0.self (sz := s.heap.size)
  generalize hAe : va_A (MW cy a J I R RJ) s.heap.size = A at hD ⊢
  have hA : ∀ q : Nat, s.heap.size ≤ q → A q := fun q h => by rw [← hAe]; exact Or.inr h
  have hS : va_S A s.heap s.heap [] := va_S.rf
  have hl := lv_entry ([.ref (a 0), .int x0, .int (bI x1)]) (n := 5) (Nat.le_of_ble_eq_true rfl)
  rw [lg_entry_eq]
  generalize (lg_sl ([.ref (a 0), .int x0, .int (bI x1)]) ++ List.replicate (5 - (lg_sl ([.ref (a 0), .int x0, .int (bI x1)])).length) Slot.unset).toArray = ls at hl ⊢
  have hl : lv_has ls 5 [(0, .ref (a 0)), (1, .int x0), (2, .int (bI x1))] := hl
  obtain ⟨ns, hns, hI1, hSe⟩ := hRA.2.1
  have hP : va_P D vwCl (MW cy a (va_up (va_up (va_up J 19 (J 19)) 20 (J 20)) 21 (J 21)) (va_up I 13 (I 13)) (va_up R 12 (R 12)) RJ) s.heap := hP
  have hD : va_D A (MW cy a (va_up (va_up (va_up J 19 (J 19)) 20 (J 20)) 21 (J 21)) (va_up I 13 (I 13)) (va_up R 12 (R 12)) RJ) := hD
  refine lv_iload_n hx hb dX10_with_0 rfl (lv_at hl 1 rfl) ?_
  refine kS_i (As := [.int x0]) (rest := []) ⟨hx, hb, hml, hown, hts⟩ (c_X10_isField l x0) (va_cwS 1 hts gX10_with_X10_isField rfl rfl rfl (by decide +kernel) ⟨Nat.le_of_ble_eq_true rfl, Nat.le_of_ble_eq_true rfl⟩) rfl hl.1 rfl (Nat.le_of_ble_eq_true rfl) dX10_with_1 ⟨Nat.le_of_ble_eq_true rfl, Nat.le_of_ble_eq_true rfl⟩ ?_
  refine lv_if_ne (tgt := 14) hx hb dX10_with_4 (by decide) (fun c_1 => ?_) (fun c_1 => ?_)
  · replace c_1 := bI_t c_1
    refine lv_iload_n hx hb dX10_with_14 rfl (lv_at hl 1 rfl) ?_
    refine lv_iload_n hx hb dX10_with_15 rfl (lv_at hl 2 rfl) ?_
    refine kS_l (As := [.int x0, .int (bI x1)]) (rest := []) ⟨hx, hb, hml, hown, hts⟩ (c_X10_place l x0 x1) (va_cwS 2 hts gX10_with_X10_place rfl rfl rfl (by decide +kernel) ⟨Nat.le_of_ble_eq_true rfl, Nat.le_of_ble_eq_true rfl⟩) rfl hl.1 rfl (Nat.le_of_ble_eq_true rfl) dX10_with_16 ⟨Nat.le_of_ble_eq_true rfl, Nat.le_of_ble_eq_true rfl⟩ ?_
    refine lv_lstore_n (lv' := [(3, .long (m_place x0 x1)), (0, .ref (a 0)), (1, .int x0), (2, .int (bI x1))]) hx hb dX10_with_19 rfl hl (by decide) rfl (fun ls hl => ?_)
    refine lv_lload_n hx hb dX10_with_20 rfl (lv_at hl 0 rfl) ?_
    refine lv_lconst (v := 0) hx hb dX10_with_21 (by decide) ?_
    refine W.lcmp hx hb dX10_with_22 ?_
    refine lv_if_eq (tgt := 41) hx hb dX10_with_23 (by decide) (fun c_2 => ?_) (fun c_2 => ?_)
    · replace c_2 := (lg_cmp_eq _ _).mp c_2
      refine lv_aload_n hx hb dX10_with_41 rfl (lv_at hl 1 rfl) ?_
      refine lv_ldc (v := (-100003)) hx hb hown hw0 dX10_with_42 ?_
      refine kM_i (As := [.int (-100003)]) (rest := []) (q0 := 0) ⟨hx, hb, hml, hown, hts⟩ (c_X10_finding l D cy a _ (va_up (va_up (va_up J 19 (J 19)) 20 (J 20)) 21 (J 21)) (va_up I 13 (I 13)) (va_up R 12 (R 12)) RJ (-100003) ) (cwV 1 hts gX10_with_X10_finding rfl rfl rfl (by decide +kernel) ⟨Nat.le_of_ble_eq_true rfl, Nat.le_of_ble_eq_true rfl⟩) hK hN hP hD hS hA rfl rfl rfl hl.1 rfl (Nat.le_of_ble_eq_true rfl) dX10_with_44 ⟨Nat.le_of_ble_eq_true rfl, Nat.le_of_ble_eq_true rfl⟩ (fun r_3 u H locs hw hP hD hS => ?_)
      obtain ⟨rfl, rfl⟩ := hw
      have hP : va_P D vwCl (MW cy a (va_up (va_up (va_up J 19 (J 19)) 20 (J 20)) 21 (J 21)) (va_up I 13 ((I 13) + 1)) (va_up R 12 (R 12)) RJ) H := hP
      have hD : va_D A (MW cy a (va_up (va_up (va_up J 19 (J 19)) 20 (J 20)) 21 (J 21)) (va_up I 13 ((I 13) + 1)) (va_up R 12 (R 12)) RJ) := hD
      exact wret_i hx hb hr hlocks ((va_up (va_up (va_up J 19 (J 19)) 20 (J 20)) 21 (J 21)), (va_up I 13 ((I 13) + 1)), (va_up R 12 (R 12)), RJ) ⟨(J 19), (J 20), (J 21), ((I 13) + 1), (R 12), (aw2 c_1 (Or.inl c_2)), rfl⟩ hP hD hS dX10_with_47
    · replace c_2 := fun z => c_2 ((lg_cmp_eq _ _).mpr z)
      refine lv_lload_n hx hb dX10_with_26 rfl (lv_at hl 0 rfl) ?_
      refine lv_aload_n hx hb dX10_with_27 rfl (lv_at hl 1 rfl) ?_
      refine va_get (D := D) (ci := 9) (v := .long (J 0)) (C := RX10) (T := TX10) (N := 30) hx hb hts hi10 hown hK hP 0 rfl rfl 0 (by decide) hw1 (fun _ h9 => h9) rfl dX10_with_28 ?_
      refine lv_ldc2 (v := (-1)) hx hb hown hw2 dX10_with_31 ?_
      refine lv_lxor hx hb dX10_with_34 ?_
      refine lv_land hx hb dX10_with_35 ?_
      refine lv_lconst (v := 0) hx hb dX10_with_36 (by decide) ?_
      refine W.lcmp hx hb dX10_with_37 ?_
      refine lv_if_eq (tgt := 48) hx hb dX10_with_38 (by decide) (fun c_4 => ?_) (fun c_4 => ?_)
      · replace c_4 := (lg_cmp_eq _ _).mp c_4
        refine lv_aload_n hx hb dX10_with_48 rfl (lv_at hl 1 rfl) ?_
        refine kM_v (As := []) (rest := []) (q0 := 0) ⟨hx, hb, hml, hown, hts⟩ (x_X10_findGlued l D cy a _ (va_up (va_up (va_up J 19 (J 19)) 20 (J 20)) 21 (J 21)) (va_up I 13 (I 13)) (va_up R 12 (R 12)) RJ   ⟨hM.1, hM.2.1, hM.2.2.1, hM.2.2.2.1, hM.2.2.2.2.1, hM.2.2.2.2.2⟩) (cwV 0 hts gX10_with_X10_findGlued rfl rfl rfl (by decide +kernel) ⟨Nat.le_of_ble_eq_true rfl, Nat.le_of_ble_eq_true rfl⟩) hK hN hP hD hS hA rfl rfl rfl hl.1 rfl (Nat.le_of_ble_eq_true rfl) dX10_with_49 ⟨Nat.le_of_ble_eq_true rfl, Nat.le_of_ble_eq_true rfl⟩ (fun u H locs hw hP hD hS => ?_)
        obtain ⟨w_6, w_7, w_8, hp_9, rfl⟩ := hw
        have hP : va_P D vwCl (MW cy a (va_up (va_up (va_up J 19 w_6) 20 w_7) 21 w_8) (va_up I 13 (I 13)) (va_up R 12 (R 12)) RJ) H := hP
        have hD : va_D A (MW cy a (va_up (va_up (va_up J 19 w_6) 20 w_7) 21 w_8) (va_up I 13 (I 13)) (va_up R 12 (R 12)) RJ) := hD
        refine lv_aload_n hx hb dX10_with_52 rfl (lv_at hl 1 rfl) ?_
        refine lv_iload_n hx hb dX10_with_53 rfl (lv_at hl 2 rfl) ?_
        refine lv_iload_n hx hb dX10_with_54 rfl (lv_at hl 3 rfl) ?_
        refine kR_i (As := [.int x0, .int (bI x1)]) (rest := []) (q0 := 0) ⟨hx, hb, hml, hown, hts⟩ (c_X10_mayLie l D cy a _ (va_up (va_up (va_up J 19 w_6) 20 w_7) 21 w_8) (va_up I 13 (I 13)) (va_up R 12 (R 12)) RJ x0 x1 ) (cwV 2 hts gX10_with_X10_mayLie rfl rfl rfl (by decide +kernel) ⟨Nat.le_of_ble_eq_true rfl, Nat.le_of_ble_eq_true rfl⟩) hK hN hP hD rfl rfl rfl hl.1 rfl (Nat.le_of_ble_eq_true rfl) dX10_with_55 ⟨Nat.le_of_ble_eq_true rfl, Nat.le_of_ble_eq_true rfl⟩ ?_
        refine lv_if_ne (tgt := 63) hx hb dX10_with_58 (by decide) (fun c_10 => ?_) (fun c_10 => ?_)
        · replace c_10 := bI_t c_10
          refine lv_aload_n hx hb dX10_with_63 rfl (lv_at hl 1 rfl) ?_
          refine lv_iload_n hx hb dX10_with_64 rfl (lv_at hl 2 rfl) ?_
          refine lv_iload_n hx hb dX10_with_65 rfl (lv_at hl 3 rfl) ?_
          refine kM_v (As := [.int x0, .int (bI x1)]) (rest := []) (q0 := 0) ⟨hx, hb, hml, hown, hts⟩ (x_X10_must l D cy a _ (va_up (va_up (va_up J 19 w_6) 20 w_7) 21 w_8) (va_up I 13 (I 13)) (va_up R 12 (R 12)) RJ x0 x1  ) (cwV 2 hts gX10_with_X10_must rfl rfl rfl (by decide +kernel) ⟨Nat.le_of_ble_eq_true rfl, Nat.le_of_ble_eq_true rfl⟩) hK hN hP hD hS hA rfl rfl rfl hl.1 rfl (Nat.le_of_ble_eq_true rfl) dX10_with_66 ⟨Nat.le_of_ble_eq_true rfl, Nat.le_of_ble_eq_true rfl⟩ (fun u H locs hw hP hD hS => ?_)
          obtain ⟨w_12, w_13, w_14, ⟨hp_15, hp_16, hp_17⟩, rfl⟩ := hw
          have hP : va_P D vwCl (MW cy a (va_up (va_up (va_up J 19 w_12) 20 w_13) 21 w_14) (va_up I 13 (I 13)) (va_up R 12 (R 12)) RJ) H := hP
          have hD : va_D A (MW cy a (va_up (va_up (va_up J 19 w_12) 20 w_13) 21 w_14) (va_up I 13 (I 13)) (va_up R 12 (R 12)) RJ) := hD
          refine lv_aload_n hx hb dX10_with_69 rfl (lv_at hl 1 rfl) ?_
          refine kM_v (As := []) (rest := []) (q0 := 0) ⟨hx, hb, hml, hown, hts⟩ (x_X10_findWays l D cy a _ (va_up (va_up (va_up J 19 w_12) 20 w_13) 21 w_14) (va_up I 13 (I 13)) (va_up R 12 (R 12)) RJ   ) (cwV 0 hts gX10_with_X10_findWays rfl rfl rfl (by decide +kernel) ⟨Nat.le_of_ble_eq_true rfl, Nat.le_of_ble_eq_true rfl⟩) hK hN hP hD hS hA rfl rfl rfl hl.1 rfl (Nat.le_of_ble_eq_true rfl) dX10_with_70 ⟨Nat.le_of_ble_eq_true rfl, Nat.le_of_ble_eq_true rfl⟩ (fun u H locs hw hP hD hS => ?_)
          obtain ⟨w_19, hp_20, rfl⟩ := hw
          have hP : va_P D vwCl (MW cy a (va_up (va_up (va_up J 19 w_12) 20 w_13) 21 w_14) (va_up I 13 (I 13)) (va_up R 12 w_19) RJ) H := hP
          have hD : va_D A (MW cy a (va_up (va_up (va_up J 19 w_12) 20 w_13) 21 w_14) (va_up I 13 (I 13)) (va_up R 12 w_19) RJ) := hD
          refine lv_aload_n hx hb dX10_with_73 rfl (lv_at hl 1 rfl) ?_
          refine lv_iconst (v := 0) hx hb dX10_with_74 (by decide) ?_
          refine lv_iconst (v := 0) hx hb dX10_with_75 (by decide) ?_
          refine kR_i (As := [.int 0, .int 0]) (rest := []) (q0 := 0) ⟨hx, hb, hml, hown, hts⟩ (c_X10_waysAt l D cy a _ (va_up (va_up (va_up J 19 w_12) 20 w_13) 21 w_14) (va_up I 13 (I 13)) (va_up R 12 w_19) RJ 0 0 (by unfold vp_in; decide)) (cwV 2 hts gX10_with_X10_waysAt rfl rfl rfl (by decide +kernel) ⟨Nat.le_of_ble_eq_true rfl, Nat.le_of_ble_eq_true rfl⟩) hK hN hP hD rfl rfl rfl hl.1 rfl (Nat.le_of_ble_eq_true rfl) dX10_with_76 ⟨Nat.le_of_ble_eq_true rfl, Nat.le_of_ble_eq_true rfl⟩ ?_
          exact wret_i hx hb hr hlocks ((va_up (va_up (va_up J 19 w_12) 20 w_13) 21 w_14), (va_up I 13 (I 13)), (va_up R 12 w_19), RJ) ⟨w_12, w_13, w_14, (I 13), w_19, (wit_1 hRA.1 hG hSe (show (I 1).toNatClampNeg = ns by rw [hI1]; exact cl20 hns) hp_9 c_1 c_2 (by rw [← hRA.1]; exact c_4) c_10 hp_15 hp_16 hp_17 hp_20), rfl⟩ hP hD hS dX10_with_79
        · replace c_10 := bI_f c_10
          refine lv_iconst (v := 0) hx hb dX10_with_61 (by decide) ?_
          exact wret_i hx hb hr hlocks ((va_up (va_up (va_up J 19 w_6) 20 w_7) 21 w_8), (va_up I 13 (I 13)), (va_up R 12 (R 12)), RJ) ⟨w_6, w_7, w_8, (I 13), (R 12), (wit_0 hRA.1 hSe (show (I 1).toNatClampNeg = ns by rw [hI1]; exact cl20 hns) hp_9 c_1 c_2 (by rw [← hRA.1]; exact c_4) c_10), rfl⟩ hP hD hS dX10_with_62
      · replace c_4 := fun z => c_4 ((lg_cmp_eq _ _).mpr z)
        refine lv_aload_n hx hb dX10_with_41 rfl (lv_at hl 1 rfl) ?_
        refine lv_ldc (v := (-100003)) hx hb hown hw0 dX10_with_42 ?_
        refine kM_i (As := [.int (-100003)]) (rest := []) (q0 := 0) ⟨hx, hb, hml, hown, hts⟩ (c_X10_finding l D cy a _ (va_up (va_up (va_up J 19 (J 19)) 20 (J 20)) 21 (J 21)) (va_up I 13 (I 13)) (va_up R 12 (R 12)) RJ (-100003) ) (cwV 1 hts gX10_with_X10_finding rfl rfl rfl (by decide +kernel) ⟨Nat.le_of_ble_eq_true rfl, Nat.le_of_ble_eq_true rfl⟩) hK hN hP hD hS hA rfl rfl rfl hl.1 rfl (Nat.le_of_ble_eq_true rfl) dX10_with_44 ⟨Nat.le_of_ble_eq_true rfl, Nat.le_of_ble_eq_true rfl⟩ (fun r_21 u H locs hw hP hD hS => ?_)
        obtain ⟨rfl, rfl⟩ := hw
        have hP : va_P D vwCl (MW cy a (va_up (va_up (va_up J 19 (J 19)) 20 (J 20)) 21 (J 21)) (va_up I 13 ((I 13) + 1)) (va_up R 12 (R 12)) RJ) H := hP
        have hD : va_D A (MW cy a (va_up (va_up (va_up J 19 (J 19)) 20 (J 20)) 21 (J 21)) (va_up I 13 ((I 13) + 1)) (va_up R 12 (R 12)) RJ) := hD
        exact wret_i hx hb hr hlocks ((va_up (va_up (va_up J 19 (J 19)) 20 (J 20)) 21 (J 21)), (va_up I 13 ((I 13) + 1)), (va_up R 12 (R 12)), RJ) ⟨(J 19), (J 20), (J 21), ((I 13) + 1), (R 12), (aw2 c_1 (Or.inr (by rw [← hRA.1]; exact c_4))), rfl⟩ hP hD hS dX10_with_47
  · replace c_1 := bI_f c_1
    refine lv_aload_n hx hb dX10_with_7 rfl (lv_at hl 0 rfl) ?_
    refine lv_ldc (v := (-100001)) hx hb hown hw3 dX10_with_8 ?_
    refine kM_i (As := [.int (-100001)]) (rest := []) (q0 := 0) ⟨hx, hb, hml, hown, hts⟩ (c_X10_finding l D cy a _ (va_up (va_up (va_up J 19 (J 19)) 20 (J 20)) 21 (J 21)) (va_up I 13 (I 13)) (va_up R 12 (R 12)) RJ (-100001) ) (cwV 1 hts gX10_with_X10_finding rfl rfl rfl (by decide +kernel) ⟨Nat.le_of_ble_eq_true rfl, Nat.le_of_ble_eq_true rfl⟩) hK hN hP hD hS hA rfl rfl rfl hl.1 rfl (Nat.le_of_ble_eq_true rfl) dX10_with_10 ⟨Nat.le_of_ble_eq_true rfl, Nat.le_of_ble_eq_true rfl⟩ (fun r_22 u H locs hw hP hD hS => ?_)
    obtain ⟨rfl, rfl⟩ := hw
    have hP : va_P D vwCl (MW cy a (va_up (va_up (va_up J 19 (J 19)) 20 (J 20)) 21 (J 21)) (va_up I 13 ((I 13) + 1)) (va_up R 12 (R 12)) RJ) H := hP
    have hD : va_D A (MW cy a (va_up (va_up (va_up J 19 (J 19)) 20 (J 20)) 21 (J 21)) (va_up I 13 ((I 13) + 1)) (va_up R 12 (R 12)) RJ) := hD
    exact wret_i hx hb hr hlocks ((va_up (va_up (va_up J 19 (J 19)) 20 (J 20)) 21 (J 21)), (va_up I 13 ((I 13) + 1)), (va_up R 12 (R 12)), RJ) ⟨(J 19), (J 20), (J 21), ((I 13) + 1), (R 12), (aw1 c_1), rfl⟩ hP hD hS dX10_with_13
