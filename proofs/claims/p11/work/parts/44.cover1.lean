theorem z65 : vp_in (0 : Int32) 65 := by unfold vp_in; decide
theorem q64 {x : Int32} (h : vp_in x 65) (h2 : ¬ 64 ≤ x) : vp_in x 64 := by
  rw [vp_in_iff] at *
  rw [Int32.le_iff_toInt_le] at h2
  have e1 : (64 : Int32).toInt = 64 := rfl
  omega
theorem q65 {x : Int32} (h : vp_in x 64) : vp_in (x + 1) 65 := by
  obtain ⟨j, hj, rfl⟩ := vp_in_of h (by decide)
  rw [nI_1]
  exact vp_in_nI (by omega) (by decide)
def Q64 (f : Nat → Int32) : Prop := ∀ i, i < 64 → vp_in (f i) 64
theorem Q64_up {f : Nat → Int32} {k : Nat} {v : Int32} (h : Q64 f) (hv : vp_in v 64) : Q64 (upd f k v) := all_upd (P := fun x => vp_in x 64) h hv
theorem mn_le {y : Int32} : (if y < 63 then y else 63) ≤ (63 : Int32) := by
  split
  · exact Int32.le_of_lt (by assumption)
  · exact Int32.le_refl _
theorem mx_t : ∀ d : Fin 64, ∃ l : Fin 65, (if (0 : Int32) < nI d.val - 8 then nI d.val - 8 else 0) = nI l.val := by decide +kernel
theorem mx_ex {d : Nat} (hd : d < 64) : ∃ l, l ≤ 64 ∧ (if (0 : Int32) < nI d - 8 then nI d - 8 else 0) = nI l := by
  obtain ⟨l, e⟩ := mx_t ⟨d, hd⟩
  exact ⟨l.val, Nat.le_of_lt_succ l.isLt, e⟩
theorem lg_lt {v : Int32} {k : Nat} (hv : v ≤ 63) (hk : k ≤ 64) (q : ¬ v < nI k) : k < 64 := by
  rcases Nat.lt_or_ge k 64 with h | h
  · exact h
  · have e : k = 64 := Nat.le_antisymm hk h
    subst e
    rw [Int32.le_iff_toInt_le] at hv
    rw [Int32.lt_iff_toInt_lt] at q
    have e1 : (63 : Int32).toInt = 63 := rfl
    have e2 : (nI 64).toInt = 64 := rfl
    omega
theorem rg_in {mate : Nat → Int32} (h : RG mate) {l : Nat} (hl : l < 64) (q : ¬ mate (nI l).toNatClampNeg = -1) : vp_in (mate (nI l).toNatClampNeg) 64 := by
  rw [nI_clamp (Nat.lt_trans hl (by decide))] at *
  rcases h l hl with z | ⟨x, hx, z⟩
  · exact absurd z q
  · rw [z]
    exact vp_in_nI hx (by decide)
def m1in (v : Int32) : Prop := v = -1 ∨ vp_in v 64
theorem rg_v {mate : Nat → Int32} (h : RG mate) {l : Nat} (hl : l < 64) : m1in (mate (nI l).toNatClampNeg) := by
  rw [nI_clamp (Nat.lt_trans hl (by decide))]
  rcases h l hl with z | ⟨x, hx, z⟩
  · exact Or.inl z
  · exact Or.inr (by rw [z]; exact vp_in_nI hx (by decide))
theorem rg_up {mate : Nat → Int32} {k x : Nat} (h : RG mate) (hx : x < 64) : RG (upd mate k (nI x)) := by
  intro i hi
  by_cases z : i = k
  · rw [z, pk_us]
    exact Or.inr ⟨x, hx, rfl⟩
  · rw [pk_un z]
    exact h i hi
theorem m1_p {v : Int32} (h : m1in v) (q : ¬ v = -1) : vp_in v 64 := by
  rcases h with h | h
  · exact absurd h q
  · exact h
theorem fill_up {m : Nat → Int32} {i : Nat} {v : Int32} (hi : i < 64) (h : ∀ p, p < i → m p = v) : ∀ p, p < i + 1 → upd m (nI i).toNatClampNeg v p = v := by
  rw [nI_clamp (Nat.lt_trans hi (by decide))]
  intro p hp
  by_cases z : p = i
  · rw [z, pk_us]
  · rw [pk_un z]
    exact h p (Nat.lt_of_le_of_ne (Nat.le_of_lt_succ hp) z)
theorem rg_fill {m : Nat → Int32} {v : Int32} (e : v = -1) (h : ∀ p, p < 64 → m p = v) : RG m := fun i hi => Or.inl (by rw [h i hi, e])
set_option maxHeartbeats 4000000 in
set_option maxRecDepth 100000 in
theorem t_fill9p (l : Launch) (D : va_G) (cy : Nat → ClassId) (a : Nat → Nat) (sz : Nat) (J : Nat → Int64) (I : Nat → Int32) (O : Nat → Option Nat) (R : Nat → Nat → Int32) (RO : Nat → Nat → Option Nat) (LL : va_W) (Y : va_W) (x1 : Int32) : Met l yJ7_fill_53178 wsJ7_fill_53178 ({ frames := 0, cells := 0, slots := 0, locals := 0 }) (va_Pc [.ref (a 9), .int x1] (PW D cy sz (CT cy a J I O R RO (LL ++ Y)))) (va_Qv (fun (u : TS) => ∃ (w0 : Nat → Int32), ((∀ p, p < 64 → w0 p = x1)) ∧ u = (J, I, O, (va_up R 9 w0), RO, LL, Y)) (BW D (va_A (CT cy a J I O R RO (LL ++ Y)) sz) (CTu cy a)) (va_A (CT cy a J I O R RO (LL ++ Y)) sz)) 0 0 (va_A (CT cy a J I O R RO (LL ++ Y)) sz) := by
  refine Met.ofW (cc := cJ7_fill_53178) (maxL := 4) (ret := none) (by decide) rfl ?_
  intro p e s m args below meth c s₁ B hml hv
  obtain ⟨rfl, rfl, hP, hK, hN, hD0⟩ := hv
  have hx := B.exec
  have hb := B.bytes
  have hr := B.returns
  have hts := atoms_spec (ws := wsJ7_fill_53178) B.pre
  have hown : s.vm.findClass RJ7 = some m.cls := findClass_of_methodNamed B.named
  have hlocks := B.notSynchronized
  have hD := hD0.self (sz := s.heap.size)
  generalize hAe : va_A (CT cy a J I O R RO (LL ++ Y)) s.heap.size = A at hD ⊢
  have hA : ∀ q : Nat, s.heap.size ≤ q → A q := fun q h => by rw [← hAe]; exact Or.inr h
  have hS : va_S A s.heap s.heap [] := va_S.rf
  have hl := lv_entry ([.ref (a 9), .int x1]) (n := 4) (Nat.le_of_ble_eq_true rfl)
  rw [lg_entry_eq]
  generalize (lg_sl ([.ref (a 9), .int x1]) ++ List.replicate (4 - (lg_sl ([.ref (a 9), .int x1])).length) Slot.unset).toArray = ls at hl ⊢
  have hl : lv_has ls 4 [(0, .ref (a 9)), (1, .int x1)] := hl
  have lp5 : ∀ (n5 : Nat), ∀ (i : Nat) (m0_5 : Nat → Int32), (i ≤ 64) → (∀ p, p < i → m0_5 p = x1) → (64 - i) < n5 → ∀ (H : Heap) (locs : List Loc), va_P D vwCl (CT cy a J I O (va_up R 9 m0_5) RO (LL ++ Y)) H → va_D A (CT cy a J I O (va_up R 9 m0_5) RO (LL ++ Y)) → va_S A s.heap H locs → ∀ (ls : Array Slot), lv_has ls 4 [(0, .ref (a 9)), (1, .int x1), (2, .int (nI i)), (3, .int 64)] → W p l e (headSpec wsJ7_fill_53178 ({ frames := 0, cells := 0, slots := 0, locals := 0 })).room s m ([.ref (a 9), .int x1] : List Value).toArray below meth c H locs 0 0 (MQ below (va_Qv (fun (u : TS) => ∃ (w0 : Nat → Int32), ((∀ p, p < 64 → w0 p = x1)) ∧ u = (J, I, O, (va_up R 9 w0), RO, LL, Y)) (BW D A (CTu cy a)) A) ([.ref (a 9), .int x1] : List Value).toArray s 0 0 A) (F0 m 5 ls []) := by
    intro n5
    induction n5 with
    | zero => intro i m0_5 hi hfp hn; exact absurd hn (Nat.not_lt_zero _)
    | succ n5 ih5 =>
      intro i m0_5 hi hfp hn5 H locs hP hD hS ls hl
      refine lv_iload_n hx hb dJ7_fill_53178_5 rfl (lv_at hl 2 rfl) ?_
      refine lv_iload_n hx hb dJ7_fill_53178_6 rfl (lv_at hl 3 rfl) ?_
      refine lv_icmp_ge (tgt := 20) hx hb dJ7_fill_53178_7 (by decide) (fun c_1 => ?_) (fun c_1 => ?_)
      · have hie := ctr_ge (N := 64) (by decide) hi c_1
        exact wret_v hx hb hr hlocks (J, I, O, (va_up R 9 m0_5), RO, LL, Y) ⟨m0_5, (by rw [hie] at hfp; exact hfp), rfl⟩ hP hD hS dJ7_fill_53178_20
      · have hlt_i := ctr_lt (N := 64) (by decide) hi c_1
        refine lv_aload_n hx hb dJ7_fill_53178_10 rfl (lv_at hl 0 rfl) ?_
        refine lv_iload_n hx hb dJ7_fill_53178_11 rfl (lv_at hl 2 rfl) ?_
        refine lv_iload_n hx hb dJ7_fill_53178_12 rfl (lv_at hl 1 rfl) ?_
        refine va_iast hx hb hK hP hD hS 9 0 rfl rfl (vp_in_nI hlt_i (by decide)) dJ7_fill_53178_13 (fun H locs hP hD hS => ?_)
        have hP : va_P D vwCl (CT cy a J I O (va_up R 9 (upd m0_5 (nI i).toNatClampNeg x1)) RO (LL ++ Y)) H := hP
        have hD : va_D A (CT cy a J I O (va_up R 9 (upd m0_5 (nI i).toNatClampNeg x1)) RO (LL ++ Y)) := hD
        refine lv_iinc (v := nI (i + 1)) (lv' := [(2, .int (nI (i + 1))), (0, .ref (a 9)), (1, .int x1), (3, .int 64)]) hx hb dJ7_fill_53178_14 hl (k := 2) rfl (nI_1 _) (by decide) rfl (fun ls hl => ?_)
        refine lv_goto (tgt := 5) hx hb dJ7_fill_53178_17 (by decide) ?_
        exact ih5 (i + 1) (upd m0_5 (nI i).toNatClampNeg x1) hlt_i (fill_up hlt_i hfp) (lt_dec hlt_i hn5) _ _ hP hD hS ls (lv_sub hl [1, 2, 0, 3] rfl)
  have hP : va_P D vwCl (CT cy a J I O (va_up R 9 (R 9)) RO (LL ++ Y)) s.heap := hP
  have hD : va_D A (CT cy a J I O (va_up R 9 (R 9)) RO (LL ++ Y)) := hD
  refine lv_iconst (v := 0) hx hb dJ7_fill_53178_0 (by decide) ?_
  refine lv_istore_n (lv' := [(2, .int 0), (0, .ref (a 9)), (1, .int x1)]) hx hb dJ7_fill_53178_1 rfl hl (by decide) rfl (fun ls hl => ?_)
  refine lv_aload_n hx hb dJ7_fill_53178_2 rfl (lv_at hl 1 rfl) ?_
  refine va_alen hx hb hK hP 9 0 rfl rfl (v := 64) rfl dJ7_fill_53178_3 ?_
  refine lv_istore_n (lv' := [(3, .int 64), (2, .int 0), (0, .ref (a 9)), (1, .int x1)]) hx hb dJ7_fill_53178_4 rfl hl (by decide) rfl (fun ls hl => ?_)
  exact lp5 _ 0 (R 9) (by omega) (fun p h => absurd h (Nat.not_lt_zero _)) (Nat.lt_succ_self _) _ _ hP hD hS ls (lv_sub hl [2, 3, 1, 0] rfl)
theorem dX0_enqueue_0 : decode cX0_enqueue 0 = .ok (.aload_n 0, 1) := by decide +kernel
theorem dX0_enqueue_1 : decode cX0_enqueue 1 = .ok (.getfield 45, 3) := by decide +kernel
theorem dX0_enqueue_4 : decode cX0_enqueue 4 = .ok (.aload_n 0, 1) := by decide +kernel
theorem dX0_enqueue_5 : decode cX0_enqueue 5 = .ok (.getfield 16, 3) := by decide +kernel
theorem dX0_enqueue_8 : decode cX0_enqueue 8 = .ok (.arraylength, 1) := by decide +kernel
theorem dX0_enqueue_9 : decode cX0_enqueue 9 = .ok (.if_icmp .ge 46, 3) := by decide +kernel
theorem dX0_enqueue_55 : decode cX0_enqueue 55 = .ok (.return_, 1) := by decide +kernel
theorem dX0_enqueue_12 : decode cX0_enqueue 12 = .ok (.aload_n 0, 1) := by decide +kernel
theorem dX0_enqueue_13 : decode cX0_enqueue 13 = .ok (.getfield 71, 3) := by decide +kernel
theorem dX0_enqueue_16 : decode cX0_enqueue 16 = .ok (.iload_n 1, 1) := by decide +kernel
set_option maxRecDepth 20000 in
theorem ggX0_enqueue_X1_holds : GoodIn wsX0_enqueue wsX1_holds := goodIn_r _ [7] rfl (by decide +kernel)
set_option maxRecDepth 20000 in
theorem gX0_enqueue_X1_holds : GoodIn wsX0_enqueue (va_wsS RX0 64 yX1_holds wsX1_holds) := goodIn_app (goodIn_r _ [4, 5, 6] rfl (by decide +kernel)) ggX0_enqueue_X1_holds
theorem dX0_enqueue_17 : decode cX0_enqueue 17 = .ok (.invokestatic 64, 3) := by decide +kernel
theorem dX0_enqueue_20 : decode cX0_enqueue 20 = .ok (.ifCond .ne 35, 3) := by decide +kernel
theorem dX0_enqueue_23 : decode cX0_enqueue 23 = .ok (.aload_n 0, 1) := by decide +kernel
theorem dX0_enqueue_24 : decode cX0_enqueue 24 = .ok (.getfield 16, 3) := by decide +kernel
theorem dX0_enqueue_27 : decode cX0_enqueue 27 = .ok (.aload_n 0, 1) := by decide +kernel
theorem dX0_enqueue_28 : decode cX0_enqueue 28 = .ok (.getfield 45, 3) := by decide +kernel
theorem dX0_enqueue_31 : decode cX0_enqueue 31 = .ok (.iload_n 1, 1) := by decide +kernel
theorem dX0_enqueue_32 : decode cX0_enqueue 32 = .ok (.iastore, 1) := by decide +kernel
theorem dX0_enqueue_33 : decode cX0_enqueue 33 = .ok (.aload_n 0, 1) := by decide +kernel
theorem dX0_enqueue_34 : decode cX0_enqueue 34 = .ok (.dup, 1) := by decide +kernel
theorem dX0_enqueue_35 : decode cX0_enqueue 35 = .ok (.getfield 45, 3) := by decide +kernel
theorem dX0_enqueue_38 : decode cX0_enqueue 38 = .ok (.iconst 1, 1) := by decide +kernel
theorem dX0_enqueue_39 : decode cX0_enqueue 39 = .ok (.iadd, 1) := by decide +kernel
theorem dX0_enqueue_40 : decode cX0_enqueue 40 = .ok (.putfield 45, 3) := by decide +kernel
theorem dX0_enqueue_43 : decode cX0_enqueue 43 = .ok (.aload_n 0, 1) := by decide +kernel
theorem dX0_enqueue_44 : decode cX0_enqueue 44 = .ok (.dup, 1) := by decide +kernel
theorem dX0_enqueue_45 : decode cX0_enqueue 45 = .ok (.getfield 71, 3) := by decide +kernel
theorem dX0_enqueue_48 : decode cX0_enqueue 48 = .ok (.lconst 1, 1) := by decide +kernel
theorem dX0_enqueue_49 : decode cX0_enqueue 49 = .ok (.iload_n 1, 1) := by decide +kernel
theorem dX0_enqueue_50 : decode cX0_enqueue 50 = .ok (.lshl, 1) := by decide +kernel
theorem dX0_enqueue_51 : decode cX0_enqueue 51 = .ok (.lor, 1) := by decide +kernel
theorem dX0_enqueue_52 : decode cX0_enqueue 52 = .ok (.putfield 71, 3) := by decide +kernel
set_option maxRecDepth 20000 in
theorem ihX0_enqueue_0 : ∀ w ∈ u_ws RX0 TX0 7, w ∈ wsX0_enqueue := fun _ h => List.mem_cons_of_mem _ (List.mem_append_right _ h)
set_option maxHeartbeats 4000000 in
set_option maxRecDepth 100000 in
theorem t_X0_enqueue (l : Launch) (D : va_G) (cy : Nat → ClassId) (a : Nat → Nat) (sz : Nat) (J : Nat → Int64) (I : Nat → Int32) (O : Nat → Option Nat) (R : Nat → Nat → Int32) (RO : Nat → Nat → Option Nat) (LL : va_W) (Y : va_W) (x0 : Int32) (hx0 : vp_in x0 64) (hq : vp_in (I 259) 65) (hQ : Q64 (R 11)) : Met l yX0_enqueue wsX0_enqueue ({ frames := 1, cells := 0, slots := 0, locals := 22 }) (va_Pc [.ref (a 8), .int x0] (PW D cy sz (CT cy a J I O R RO (LL ++ Y)))) (va_Qv (fun (u : TS) => ∃ (w0 : Int64), ∃ (w1 : Int32), ∃ (w2 : Nat → Int32), ((vp_in w1 65) ∧ (Q64 w2)) ∧ u = ((va_up J 262 w0), (va_up I 259 w1), O, (va_up R 11 w2), RO, LL, Y)) (BW D (va_A (CT cy a J I O R RO (LL ++ Y)) sz) (CTu cy a)) (va_A (CT cy a J I O R RO (LL ++ Y)) sz)) 0 0 (va_A (CT cy a J I O R RO (LL ++ Y)) sz) := by
  refine Met.ofW (cc := cX0_enqueue) (maxL := 2) (ret := none) (by decide) rfl ?_
  intro p e s m args below meth c s₁ B hml hv
  obtain ⟨rfl, rfl, hP, hK, hN, hD0⟩ := hv
  have hx := B.exec
  have hb := B.bytes
  have hr := B.returns
  have hts := atoms_spec (ws := wsX0_enqueue) B.pre
  have hown : s.vm.findClass RX0 = some m.cls := findClass_of_methodNamed B.named
  have hlocks := B.notSynchronized
  have hw0 := hts (.fieldLink RX0 45 "ParquetLayer$Covering" "queued" "I") (by decide +kernel)
  have hw1 := hts (.fieldLink RX0 16 "ParquetLayer$Covering" "queue" "[I") (by decide +kernel)
  have hw2 := hts (.fieldLink RX0 71 "ParquetLayer$Covering" "reached" "J") (by decide +kernel)
  have hi0 := ihX0_enqueue_0
  have hD := hD0.self (sz := s.heap.size)
  generalize hAe : va_A (CT cy a J I O R RO (LL ++ Y)) s.heap.size = A at hD ⊢
  have hA : ∀ q : Nat, s.heap.size ≤ q → A q := fun q h => by rw [← hAe]; exact Or.inr h
  have hS : va_S A s.heap s.heap [] := va_S.rf
  have hl := lv_entry ([.ref (a 8), .int x0]) (n := 2) (Nat.le_of_ble_eq_true rfl)
  rw [lg_entry_eq]
  generalize (lg_sl ([.ref (a 8), .int x0]) ++ List.replicate (2 - (lg_sl ([.ref (a 8), .int x0])).length) Slot.unset).toArray = ls at hl ⊢
  have hl : lv_has ls 2 [(0, .ref (a 8)), (1, .int x0)] := hl
  have hP : va_P D vwCl (CT cy a (va_up J 262 (J 262)) (va_up I 259 (I 259)) O (va_up R 11 (R 11)) RO (LL ++ Y)) s.heap := hP
  have hD : va_D A (CT cy a (va_up J 262 (J 262)) (va_up I 259 (I 259)) O (va_up R 11 (R 11)) RO (LL ++ Y)) := hD
  refine lv_aload_n hx hb dX0_enqueue_0 rfl (lv_at hl 0 rfl) ?_
  refine va_get (D := D) (ci := 0) (v := .int (I 259)) (C := RX0) (T := TX0) (N := 7) hx hb hts hi0 hown hK hP 8 rfl rfl 3 (by decide) hw0 (fun _ h9 => h9) rfl dX0_enqueue_1 ?_
  refine lv_aload_n hx hb dX0_enqueue_4 rfl (lv_at hl 0 rfl) ?_
  refine va_get (D := D) (ci := 0) (v := .ref (a 11)) (C := RX0) (T := TX0) (N := 7) hx hb hts hi0 hown hK hP 8 rfl rfl 2 (by decide) hw1 (fun _ h9 => h9) rfl dX0_enqueue_5 ?_
  refine va_alen hx hb hK hP 11 0 rfl rfl (v := 64) rfl dX0_enqueue_8 ?_
  refine lv_icmp_ge (tgt := 55) hx hb dX0_enqueue_9 (by decide) (fun c_1 => ?_) (fun c_1 => ?_)
  · exact wret_v hx hb hr hlocks ((va_up J 262 (J 262)), (va_up I 259 (I 259)), O, (va_up R 11 (R 11)), RO, LL, Y) ⟨(J 262), (I 259), (R 11), ⟨hq, hQ⟩, rfl⟩ hP hD hS dX0_enqueue_55
  · refine lv_aload_n hx hb dX0_enqueue_12 rfl (lv_at hl 0 rfl) ?_
    refine va_get (D := D) (ci := 0) (v := .long (J 262)) (C := RX0) (T := TX0) (N := 7) hx hb hts hi0 hown hK hP 8 rfl rfl 6 (by decide) hw2 (fun _ h9 => h9) rfl dX0_enqueue_13 ?_
    refine lv_iload_n hx hb dX0_enqueue_16 rfl (lv_at hl 1 rfl) ?_
    refine kS_i (As := [.long (J 262), .int x0]) (rest := []) ⟨hx, hb, hml, hown, hts⟩ (c_X1_holds l (J 262) x0) (va_cwS 2 hts gX0_enqueue_X1_holds rfl rfl rfl (by decide +kernel) ⟨Nat.le_of_ble_eq_true rfl, Nat.le_of_ble_eq_true rfl⟩) rfl hl.1 rfl (Nat.le_of_ble_eq_true rfl) dX0_enqueue_17 ⟨Nat.le_of_ble_eq_true rfl, Nat.le_of_ble_eq_true rfl⟩ ?_
    refine lv_if_ne (tgt := 55) hx hb dX0_enqueue_20 (by decide) (fun c_2 => ?_) (fun c_2 => ?_)
    · replace c_2 := bI_t c_2
      exact wret_v hx hb hr hlocks ((va_up J 262 (J 262)), (va_up I 259 (I 259)), O, (va_up R 11 (R 11)), RO, LL, Y) ⟨(J 262), (I 259), (R 11), ⟨hq, hQ⟩, rfl⟩ hP hD hS dX0_enqueue_55
    · replace c_2 := bI_f c_2
      refine lv_aload_n hx hb dX0_enqueue_23 rfl (lv_at hl 0 rfl) ?_
      refine va_get (D := D) (ci := 0) (v := .ref (a 11)) (C := RX0) (T := TX0) (N := 7) hx hb hts hi0 hown hK hP 8 rfl rfl 2 (by decide) hw1 (fun _ h9 => h9) rfl dX0_enqueue_24 ?_
      refine lv_aload_n hx hb dX0_enqueue_27 rfl (lv_at hl 0 rfl) ?_
      refine va_get (D := D) (ci := 0) (v := .int (I 259)) (C := RX0) (T := TX0) (N := 7) hx hb hts hi0 hown hK hP 8 rfl rfl 3 (by decide) hw0 (fun _ h9 => h9) rfl dX0_enqueue_28 ?_
      refine lv_iload_n hx hb dX0_enqueue_31 rfl (lv_at hl 1 rfl) ?_
      refine va_iast hx hb hK hP hD hS 11 0 rfl rfl (q64 hq c_1) dX0_enqueue_32 (fun H locs hP hD hS => ?_)
      have hP : va_P D vwCl (CT cy a (va_up J 262 (J 262)) (va_up I 259 (I 259)) O (va_up R 11 (upd (R 11) (I 259).toNatClampNeg x0)) RO (LL ++ Y)) H := hP
      have hD : va_D A (CT cy a (va_up J 262 (J 262)) (va_up I 259 (I 259)) O (va_up R 11 (upd (R 11) (I 259).toNatClampNeg x0)) RO (LL ++ Y)) := hD
      refine lv_aload_n hx hb dX0_enqueue_33 rfl (lv_at hl 0 rfl) ?_
      refine lv_dup hx hb dX0_enqueue_34 rfl ?_
      refine va_get (D := D) (ci := 0) (v := .int (I 259)) (C := RX0) (T := TX0) (N := 7) hx hb hts hi0 hown hK hP 8 rfl rfl 3 (by decide) hw0 (fun _ h9 => h9) rfl dX0_enqueue_35 ?_
      refine lv_iconst (v := 1) hx hb dX0_enqueue_38 (by decide) ?_
      refine lv_iadd hx hb dX0_enqueue_39 ?_
      refine va_put (D := D) (ci := 0) (v := .int ((I 259) + 1)) (ty := .int) (C := RX0) (T := TX0) (N := 7) hx hb hts hi0 tyX0 tyX0_ok nmX0 hown hK hP hD hS 8 rfl rfl 3 (by decide) hw0 (fun _ h9 => h9) rfl (by decide +kernel) rfl rfl (Nat.le_of_ble_eq_true rfl) dX0_enqueue_40 (fun H locs hP hD hS => ?_)
      have hP : va_P D vwCl (CT cy a (va_up J 262 (J 262)) (va_up I 259 ((I 259) + 1)) O (va_up R 11 (upd (R 11) (I 259).toNatClampNeg x0)) RO (LL ++ Y)) H := hP
      have hD : va_D A (CT cy a (va_up J 262 (J 262)) (va_up I 259 ((I 259) + 1)) O (va_up R 11 (upd (R 11) (I 259).toNatClampNeg x0)) RO (LL ++ Y)) := hD
      refine lv_aload_n hx hb dX0_enqueue_43 rfl (lv_at hl 0 rfl) ?_
      refine lv_dup hx hb dX0_enqueue_44 rfl ?_
      refine va_get (D := D) (ci := 0) (v := .long (J 262)) (C := RX0) (T := TX0) (N := 7) hx hb hts hi0 hown hK hP 8 rfl rfl 6 (by decide) hw2 (fun _ h9 => h9) rfl dX0_enqueue_45 ?_
      refine lv_lconst (v := 1) hx hb dX0_enqueue_48 (by decide) ?_
      refine lv_iload_n hx hb dX0_enqueue_49 rfl (lv_at hl 1 rfl) ?_
      refine lv_lshl (v := (1 : Int64) <<< ((x0 : Int32).toInt64 &&& 63)) hx hb dX0_enqueue_50 rfl ?_
      refine lv_lor hx hb dX0_enqueue_51 ?_
      refine va_put (D := D) (ci := 0) (v := .long ((J 262) ||| ((1 : Int64) <<< ((x0 : Int32).toInt64 &&& 63)))) (ty := .long) (C := RX0) (T := TX0) (N := 7) hx hb hts hi0 tyX0 tyX0_ok nmX0 hown hK hP hD hS 8 rfl rfl 6 (by decide) hw2 (fun _ h9 => h9) rfl (by decide +kernel) rfl rfl (Nat.le_of_ble_eq_true rfl) dX0_enqueue_52 (fun H locs hP hD hS => ?_)
      have hP : va_P D vwCl (CT cy a (va_up J 262 ((J 262) ||| ((1 : Int64) <<< ((x0 : Int32).toInt64 &&& 63)))) (va_up I 259 ((I 259) + 1)) O (va_up R 11 (upd (R 11) (I 259).toNatClampNeg x0)) RO (LL ++ Y)) H := hP
      have hD : va_D A (CT cy a (va_up J 262 ((J 262) ||| ((1 : Int64) <<< ((x0 : Int32).toInt64 &&& 63)))) (va_up I 259 ((I 259) + 1)) O (va_up R 11 (upd (R 11) (I 259).toNatClampNeg x0)) RO (LL ++ Y)) := hD
      exact wret_v hx hb hr hlocks ((va_up J 262 ((J 262) ||| ((1 : Int64) <<< ((x0 : Int32).toInt64 &&& 63)))), (va_up I 259 ((I 259) + 1)), O, (va_up R 11 (upd (R 11) (I 259).toNatClampNeg x0)), RO, LL, Y) ⟨((J 262) ||| ((1 : Int64) <<< ((x0 : Int32).toInt64 &&& 63))), ((I 259) + 1), (upd (R 11) (I 259).toNatClampNeg x0), ⟨(q65 (q64 hq c_1)), (Q64_up hQ hx0)⟩, rfl⟩ hP hD hS dX0_enqueue_55
theorem dX0_queueLeft_12 : decode cX0_queueLeft 12 = .ok (.iload_n 3, 1) := by decide +kernel
theorem dX0_queueLeft_13 : decode cX0_queueLeft 13 = .ok (.bipush 64, 2) := by decide +kernel
theorem dX0_queueLeft_15 : decode cX0_queueLeft 15 = .ok (.if_icmp .ge 32, 3) := by decide +kernel
theorem dX0_queueLeft_47 : decode cX0_queueLeft 47 = .ok (.aload_n 0, 1) := by decide +kernel
theorem dX0_queueLeft_48 : decode cX0_queueLeft 48 = .ok (.aload_n 0, 1) := by decide +kernel
theorem dX0_queueLeft_49 : decode cX0_queueLeft 49 = .ok (.getfield 71, 3) := by decide +kernel
theorem dX0_queueLeft_52 : decode cX0_queueLeft 52 = .ok (.putfield 74, 3) := by decide +kernel
theorem dX0_queueLeft_55 : decode cX0_queueLeft 55 = .ok (.return_, 1) := by decide +kernel
theorem dX0_queueLeft_18 : decode cX0_queueLeft 18 = .ok (.lload_n 1, 1) := by decide +kernel
theorem dX0_queueLeft_19 : decode cX0_queueLeft 19 = .ok (.iload_n 3, 1) := by decide +kernel
set_option maxRecDepth 20000 in
theorem ggX0_queueLeft_X1_holds : GoodIn wsX0_queueLeft wsX1_holds := goodIn_r _ [8] rfl (by decide +kernel)
set_option maxRecDepth 20000 in
theorem gX0_queueLeft_X1_holds : GoodIn wsX0_queueLeft (va_wsS RX0 64 yX1_holds wsX1_holds) := goodIn_app (goodIn_r _ [5, 6, 7] rfl (by decide +kernel)) ggX0_queueLeft_X1_holds
theorem dX0_queueLeft_20 : decode cX0_queueLeft 20 = .ok (.invokestatic 64, 3) := by decide +kernel
theorem dX0_queueLeft_23 : decode cX0_queueLeft 23 = .ok (.ifCond .eq 18, 3) := by decide +kernel
theorem dX0_queueLeft_41 : decode cX0_queueLeft 41 = .ok (.iinc 3 1, 3) := by decide +kernel
theorem dX0_queueLeft_44 : decode cX0_queueLeft 44 = .ok (.goto (-32), 3) := by decide +kernel
theorem dX0_queueLeft_26 : decode cX0_queueLeft 26 = .ok (.aload_n 0, 1) := by decide +kernel
theorem dX0_queueLeft_27 : decode cX0_queueLeft 27 = .ok (.getfield 7, 3) := by decide +kernel
theorem dX0_queueLeft_30 : decode cX0_queueLeft 30 = .ok (.iload_n 3, 1) := by decide +kernel
theorem dX0_queueLeft_31 : decode cX0_queueLeft 31 = .ok (.iaload, 1) := by decide +kernel
theorem dX0_queueLeft_32 : decode cX0_queueLeft 32 = .ok (.iconst (-1), 1) := by decide +kernel
theorem dX0_queueLeft_33 : decode cX0_queueLeft 33 = .ok (.if_icmp .ne 8, 3) := by decide +kernel
theorem dX0_queueLeft_36 : decode cX0_queueLeft 36 = .ok (.aload_n 0, 1) := by decide +kernel
theorem dX0_queueLeft_37 : decode cX0_queueLeft 37 = .ok (.iload_n 3, 1) := by decide +kernel
set_option maxRecDepth 20000 in
theorem ggX0_queueLeft_X0_enqueue : GoodIn wsX0_queueLeft wsX0_enqueue := goodIn_r _ [13, 1, 14, 2, 5, 6, 7, 8, 15, 16, 17, 18, 19, 20, 21] rfl (by decide +kernel)
set_option maxRecDepth 20000 in
theorem gX0_queueLeft_X0_enqueue : GoodIn wsX0_queueLeft (wsV RX0 68 RX0 yX0_enqueue wsX0_enqueue) := goodIn_app (goodIn_r _ [9, 10, 11, 12] rfl (by decide +kernel)) ggX0_queueLeft_X0_enqueue
theorem dX0_queueLeft_38 : decode cX0_queueLeft 38 = .ok (.invokevirtual 68, 3) := by decide +kernel
theorem dX0_queueLeft_0 : decode cX0_queueLeft 0 = .ok (.aload_n 0, 1) := by decide +kernel
theorem dX0_queueLeft_1 : decode cX0_queueLeft 1 = .ok (.iconst 0, 1) := by decide +kernel
theorem dX0_queueLeft_2 : decode cX0_queueLeft 2 = .ok (.putfield 45, 3) := by decide +kernel
theorem dX0_queueLeft_5 : decode cX0_queueLeft 5 = .ok (.aload_n 0, 1) := by decide +kernel
theorem dX0_queueLeft_6 : decode cX0_queueLeft 6 = .ok (.lconst 0, 1) := by decide +kernel
theorem dX0_queueLeft_7 : decode cX0_queueLeft 7 = .ok (.putfield 71, 3) := by decide +kernel
theorem dX0_queueLeft_10 : decode cX0_queueLeft 10 = .ok (.iconst 0, 1) := by decide +kernel
theorem dX0_queueLeft_11 : decode cX0_queueLeft 11 = .ok (.istore_n 3, 1) := by decide +kernel
set_option maxRecDepth 20000 in
theorem ihX0_queueLeft_0 : ∀ w ∈ u_ws RX0 TX0 7, w ∈ wsX0_queueLeft := fun _ h => List.mem_cons_of_mem _ (List.mem_append_right _ h)
set_option maxHeartbeats 4000000 in
set_option maxRecDepth 100000 in
theorem t_X0_queueLeft (l : Launch) (D : va_G) (cy : Nat → ClassId) (a : Nat → Nat) (sz : Nat) (J : Nat → Int64) (I : Nat → Int32) (O : Nat → Option Nat) (R : Nat → Nat → Int32) (RO : Nat → Nat → Option Nat) (LL : va_W) (Y : va_W) (x0 : Int64) (hQ : Q64 (R 11)) : Met l yX0_queueLeft wsX0_queueLeft ({ frames := 2, cells := 0, slots := 0, locals := 43 }) (va_Pc [.ref (a 8), .long x0] (PW D cy sz (CT cy a J I O R RO (LL ++ Y)))) (va_Qv (fun (u : TS) => ∃ (w0 : Int64), ∃ (w1 : Int64), ∃ (w2 : Int32), ∃ (w3 : Nat → Int32), ((vp_in w2 65) ∧ (Q64 w3)) ∧ u = ((va_up (va_up J 261 w0) 262 w1), (va_up I 259 w2), O, (va_up R 11 w3), RO, LL, Y)) (BW D (va_A (CT cy a J I O R RO (LL ++ Y)) sz) (CTu cy a)) (va_A (CT cy a J I O R RO (LL ++ Y)) sz)) 0 0 (va_A (CT cy a J I O R RO (LL ++ Y)) sz) := by
  refine Met.ofW (cc := cX0_queueLeft) (maxL := 4) (ret := none) (by decide) rfl ?_
  intro p e s m args below meth c s₁ B hml hv
  obtain ⟨rfl, rfl, hP, hK, hN, hD0⟩ := hv
  have hx := B.exec
  have hb := B.bytes
  have hr := B.returns
  have hts := atoms_spec (ws := wsX0_queueLeft) B.pre
  have hown : s.vm.findClass RX0 = some m.cls := findClass_of_methodNamed B.named
  have hlocks := B.notSynchronized
  have hw0 := hts (.fieldLink RX0 71 "ParquetLayer$Covering" "reached" "J") (by decide +kernel)
  have hw1 := hts (.fieldLink RX0 74 "ParquetLayer$Covering" "left" "J") (by decide +kernel)
  have hw2 := hts (.fieldLink RX0 7 "ParquetLayer$Covering" "mate" "[I") (by decide +kernel)
  have hw3 := hts (.fieldLink RX0 45 "ParquetLayer$Covering" "queued" "I") (by decide +kernel)
  have hi0 := ihX0_queueLeft_0
  have hD := hD0.self (sz := s.heap.size)
  generalize hAe : va_A (CT cy a J I O R RO (LL ++ Y)) s.heap.size = A at hD ⊢
  have hA : ∀ q : Nat, s.heap.size ≤ q → A q := fun q h => by rw [← hAe]; exact Or.inr h
  have hS : va_S A s.heap s.heap [] := va_S.rf
  have hl := lv_entry ([.ref (a 8), .long x0]) (n := 4) (Nat.le_of_ble_eq_true rfl)
  rw [lg_entry_eq]
  generalize (lg_sl ([.ref (a 8), .long x0]) ++ List.replicate (4 - (lg_sl ([.ref (a 8), .long x0])).length) Slot.unset).toArray = ls at hl ⊢
  have hl : lv_has ls 4 [(0, .ref (a 8)), (1, .long x0)] := hl
  have lp12 : ∀ (n12 : Nat), ∀ (i : Nat) (m0_12 : Int64) (m1_12 : Int64) (m2_12 : Int32) (m3_12 : Nat → Int32), (i ≤ 64) → (vp_in m2_12 65) → (Q64 m3_12) → (64 - i) < n12 → ∀ (H : Heap) (locs : List Loc), va_P D vwCl (CT cy a (va_up (va_up J 261 m0_12) 262 m1_12) (va_up I 259 m2_12) O (va_up R 11 m3_12) RO (LL ++ Y)) H → va_D A (CT cy a (va_up (va_up J 261 m0_12) 262 m1_12) (va_up I 259 m2_12) O (va_up R 11 m3_12) RO (LL ++ Y)) → va_S A s.heap H locs → ∀ (ls : Array Slot), lv_has ls 4 [(0, .ref (a 8)), (1, .long x0), (3, .int (nI i))] → W p l e (headSpec wsX0_queueLeft ({ frames := 2, cells := 0, slots := 0, locals := 43 })).room s m ([.ref (a 8), .long x0] : List Value).toArray below meth c H locs 0 0 (MQ below (va_Qv (fun (u : TS) => ∃ (w0 : Int64), ∃ (w1 : Int64), ∃ (w2 : Int32), ∃ (w3 : Nat → Int32), ((vp_in w2 65) ∧ (Q64 w3)) ∧ u = ((va_up (va_up J 261 w0) 262 w1), (va_up I 259 w2), O, (va_up R 11 w3), RO, LL, Y)) (BW D A (CTu cy a)) A) ([.ref (a 8), .long x0] : List Value).toArray s 0 0 A) (F0 m 12 ls []) := by
    intro n12
    induction n12 with
    | zero => intro i m0_12 m1_12 m2_12 m3_12 hi hq hQ hn; exact absurd hn (Nat.not_lt_zero _)
    | succ n12 ih12 =>
      intro i m0_12 m1_12 m2_12 m3_12 hi hq hQ hn12 H locs hP hD hS ls hl
      refine lv_iload_n hx hb dX0_queueLeft_12 rfl (lv_at hl 2 rfl) ?_
      refine lv_bipush (v := 64) hx hb dX0_queueLeft_13 (by decide) ?_
      refine lv_icmp_ge (tgt := 47) hx hb dX0_queueLeft_15 (by decide) (fun c_1 => ?_) (fun c_1 => ?_)
      · refine lv_aload_n hx hb dX0_queueLeft_47 rfl (lv_at hl 0 rfl) ?_
        refine lv_aload_n hx hb dX0_queueLeft_48 rfl (lv_at hl 0 rfl) ?_
        refine va_get (D := D) (ci := 0) (v := .long m1_12) (C := RX0) (T := TX0) (N := 7) hx hb hts hi0 hown hK hP 8 rfl rfl 6 (by decide) hw0 (fun _ h9 => h9) rfl dX0_queueLeft_49 ?_
        refine va_put (D := D) (ci := 0) (v := .long m1_12) (ty := .long) (C := RX0) (T := TX0) (N := 7) hx hb hts hi0 tyX0 tyX0_ok nmX0 hown hK hP hD hS 8 rfl rfl 5 (by decide) hw1 (fun _ h9 => h9) rfl (by decide +kernel) rfl rfl (Nat.le_of_ble_eq_true rfl) dX0_queueLeft_52 (fun H locs hP hD hS => ?_)
        have hP : va_P D vwCl (CT cy a (va_up (va_up J 261 m1_12) 262 m1_12) (va_up I 259 m2_12) O (va_up R 11 m3_12) RO (LL ++ Y)) H := hP
        have hD : va_D A (CT cy a (va_up (va_up J 261 m1_12) 262 m1_12) (va_up I 259 m2_12) O (va_up R 11 m3_12) RO (LL ++ Y)) := hD
        exact wret_v hx hb hr hlocks ((va_up (va_up J 261 m1_12) 262 m1_12), (va_up I 259 m2_12), O, (va_up R 11 m3_12), RO, LL, Y) ⟨m1_12, m1_12, m2_12, m3_12, ⟨hq, hQ⟩, rfl⟩ hP hD hS dX0_queueLeft_55
      · have hlt_i := ctr_lt (N := 64) (by decide) hi c_1
        refine lv_lload_n hx hb dX0_queueLeft_18 rfl (lv_at hl 1 rfl) ?_
        refine lv_iload_n hx hb dX0_queueLeft_19 rfl (lv_at hl 2 rfl) ?_
        refine kS_i (As := [.long x0, .int (nI i)]) (rest := []) ⟨hx, hb, hml, hown, hts⟩ (c_X1_holds l x0 (nI i)) (va_cwS 2 hts gX0_queueLeft_X1_holds rfl rfl rfl (by decide +kernel) ⟨Nat.le_of_ble_eq_true rfl, Nat.le_of_ble_eq_true rfl⟩) rfl hl.1 rfl (Nat.le_of_ble_eq_true rfl) dX0_queueLeft_20 ⟨Nat.le_of_ble_eq_true rfl, Nat.le_of_ble_eq_true rfl⟩ ?_
        refine lv_if_eq (tgt := 41) hx hb dX0_queueLeft_23 (by decide) (fun c_2 => ?_) (fun c_2 => ?_)
        · replace c_2 := bI_f c_2
          refine lv_iinc (v := nI (i + 1)) (lv' := [(3, .int (nI (i + 1))), (0, .ref (a 8)), (1, .long x0)]) hx hb dX0_queueLeft_41 hl (k := 2) rfl (nI_1 _) (by decide) rfl (fun ls hl => ?_)
          refine lv_goto (tgt := 12) hx hb dX0_queueLeft_44 (by decide) ?_
          exact ih12 (i + 1) m0_12 m1_12 m2_12 m3_12 hlt_i hq hQ (lt_dec hlt_i hn12) _ _ hP hD hS ls (lv_sub hl [1, 2, 0] rfl)
        · replace c_2 := bI_t c_2
          refine lv_aload_n hx hb dX0_queueLeft_26 rfl (lv_at hl 0 rfl) ?_
          refine va_get (D := D) (ci := 0) (v := .ref (a 9)) (C := RX0) (T := TX0) (N := 7) hx hb hts hi0 hown hK hP 8 rfl rfl 0 (by decide) hw2 (fun _ h9 => h9) rfl dX0_queueLeft_27 ?_
          refine lv_iload_n hx hb dX0_queueLeft_30 rfl (lv_at hl 2 rfl) ?_
          refine va_iald hx hb hK hP 9 0 rfl rfl (vp_in_nI hlt_i (by decide)) dX0_queueLeft_31 ?_
          refine lv_iconst (v := (-1)) hx hb dX0_queueLeft_32 (by decide) ?_
          refine lv_icmp_ne (tgt := 41) hx hb dX0_queueLeft_33 (by decide) (fun c_3 => ?_) (fun c_3 => ?_)
          · refine lv_iinc (v := nI (i + 1)) (lv' := [(3, .int (nI (i + 1))), (0, .ref (a 8)), (1, .long x0)]) hx hb dX0_queueLeft_41 hl (k := 2) rfl (nI_1 _) (by decide) rfl (fun ls hl => ?_)
            refine lv_goto (tgt := 12) hx hb dX0_queueLeft_44 (by decide) ?_
            exact ih12 (i + 1) m0_12 m1_12 m2_12 m3_12 hlt_i hq hQ (lt_dec hlt_i hn12) _ _ hP hD hS ls (lv_sub hl [1, 2, 0] rfl)
          · refine lv_aload_n hx hb dX0_queueLeft_36 rfl (lv_at hl 0 rfl) ?_
            refine lv_iload_n hx hb dX0_queueLeft_37 rfl (lv_at hl 2 rfl) ?_
            refine kM_v (As := [.int (nI i)]) (rest := []) (q0 := 8) ⟨hx, hb, hml, hown, hts⟩ (t_X0_enqueue l D cy a _ (va_up (va_up J 261 m0_12) 262 m1_12) (va_up I 259 m2_12) O (va_up R 11 m3_12) RO LL Y (nI i) (vp_in_nI hlt_i (by decide)) hq hQ  ) (cwV 1 hts gX0_queueLeft_X0_enqueue rfl rfl rfl (by decide +kernel) ⟨Nat.le_of_ble_eq_true rfl, Nat.le_of_ble_eq_true rfl⟩) hK hN hP hD hS hA rfl rfl rfl hl.1 rfl (Nat.le_of_ble_eq_true rfl) dX0_queueLeft_38 ⟨Nat.le_of_ble_eq_true rfl, Nat.le_of_ble_eq_true rfl⟩ (fun u H locs hw hP hD hS => ?_)
            obtain ⟨w_5, w_6, w_7, ⟨hp_8, hp_9⟩, rfl⟩ := hw
            have hP : va_P D vwCl (CT cy a (va_up (va_up J 261 m0_12) 262 w_5) (va_up I 259 w_6) O (va_up R 11 w_7) RO (LL ++ Y)) H := hP
            have hD : va_D A (CT cy a (va_up (va_up J 261 m0_12) 262 w_5) (va_up I 259 w_6) O (va_up R 11 w_7) RO (LL ++ Y)) := hD
            refine lv_iinc (v := nI (i + 1)) (lv' := [(3, .int (nI (i + 1))), (0, .ref (a 8)), (1, .long x0)]) hx hb dX0_queueLeft_41 hl (k := 2) rfl (nI_1 _) (by decide) rfl (fun ls hl => ?_)
            refine lv_goto (tgt := 12) hx hb dX0_queueLeft_44 (by decide) ?_
            exact ih12 (i + 1) m0_12 w_5 w_6 w_7 hlt_i hp_8 hp_9 (lt_dec hlt_i hn12) _ _ hP hD hS ls (lv_sub hl [1, 2, 0] rfl)
  have hP : va_P D vwCl (CT cy a (va_up (va_up J 261 (J 261)) 262 (J 262)) (va_up I 259 (I 259)) O (va_up R 11 (R 11)) RO (LL ++ Y)) s.heap := hP
  have hD : va_D A (CT cy a (va_up (va_up J 261 (J 261)) 262 (J 262)) (va_up I 259 (I 259)) O (va_up R 11 (R 11)) RO (LL ++ Y)) := hD
  refine lv_aload_n hx hb dX0_queueLeft_0 rfl (lv_at hl 0 rfl) ?_
  refine lv_iconst (v := 0) hx hb dX0_queueLeft_1 (by decide) ?_
  refine va_put (D := D) (ci := 0) (v := .int 0) (ty := .int) (C := RX0) (T := TX0) (N := 7) hx hb hts hi0 tyX0 tyX0_ok nmX0 hown hK hP hD hS 8 rfl rfl 3 (by decide) hw3 (fun _ h9 => h9) rfl (by decide +kernel) rfl rfl (Nat.le_of_ble_eq_true rfl) dX0_queueLeft_2 (fun H locs hP hD hS => ?_)
  have hP : va_P D vwCl (CT cy a (va_up (va_up J 261 (J 261)) 262 (J 262)) (va_up I 259 0) O (va_up R 11 (R 11)) RO (LL ++ Y)) H := hP
  have hD : va_D A (CT cy a (va_up (va_up J 261 (J 261)) 262 (J 262)) (va_up I 259 0) O (va_up R 11 (R 11)) RO (LL ++ Y)) := hD
  refine lv_aload_n hx hb dX0_queueLeft_5 rfl (lv_at hl 0 rfl) ?_
  refine lv_lconst (v := 0) hx hb dX0_queueLeft_6 (by decide) ?_
  refine va_put (D := D) (ci := 0) (v := .long 0) (ty := .long) (C := RX0) (T := TX0) (N := 7) hx hb hts hi0 tyX0 tyX0_ok nmX0 hown hK hP hD hS 8 rfl rfl 6 (by decide) hw0 (fun _ h9 => h9) rfl (by decide +kernel) rfl rfl (Nat.le_of_ble_eq_true rfl) dX0_queueLeft_7 (fun H locs hP hD hS => ?_)
  have hP : va_P D vwCl (CT cy a (va_up (va_up J 261 (J 261)) 262 0) (va_up I 259 0) O (va_up R 11 (R 11)) RO (LL ++ Y)) H := hP
  have hD : va_D A (CT cy a (va_up (va_up J 261 (J 261)) 262 0) (va_up I 259 0) O (va_up R 11 (R 11)) RO (LL ++ Y)) := hD
  refine lv_iconst (v := 0) hx hb dX0_queueLeft_10 (by decide) ?_
  refine lv_istore_n (lv' := [(3, .int 0), (0, .ref (a 8)), (1, .long x0)]) hx hb dX0_queueLeft_11 rfl hl (by decide) rfl (fun ls hl => ?_)
  exact lp12 _ 0 (J 261) 0 0 (R 11) (by omega) z65 hQ (Nat.lt_succ_self _) _ _ hP hD hS ls (lv_sub hl [1, 2, 0] rfl)
