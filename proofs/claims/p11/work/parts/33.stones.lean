def stO (Y : va_W) (o : Option Nat) : Prop := o = none ∨ ∃ (b : Nat) (be : Option Nat) (n k f : Int32) (x : Bool) (c : Int32) (cv : Int64), o = some b ∧ stC b be n k f x c cv ∈ Y
theorem stq_some {Y : va_W} {o : Option Nat} (h : stO Y o) (q : ¬ o = none) : ∃ (b : Nat) (be : Option Nat) (n k f : Int32) (x : Bool) (c : Int32) (cv : Int64), o = some b ∧ stC b be n k f x c cv ∈ Y := by
  rcases h with h | h
  · exact absurd h q
  · exact h
theorem stq_mono {Y Y' : va_W} (hs : ∀ c, c ∈ Y → c ∈ Y') {o : Option Nat} (h : stO Y o) : stO Y' o := by
  rcases h with h | ⟨b, be, n, k, f, x, c, cv, e, hm⟩
  · exact Or.inl h
  · exact Or.inr ⟨b, be, n, k, f, x, c, cv, e, hs _ hm⟩
theorem sh_t {x : Int32} (h0 : ¬ x < 0) (h1 : ¬ 4 ≤ x) : (1 : Int32) = bI (m_within x 0 3) := by
  have e : m_within x 0 3 = true := by
    rw [within_iff]
    rw [Int32.lt_iff_toInt_lt] at h0
    rw [Int32.le_iff_toInt_le] at h1
    have e0 : (0 : Int32).toInt = 0 := rfl
    have e3 : (3 : Int32).toInt = 3 := rfl
    have e4 : (4 : Int32).toInt = 4 := rfl
    omega
  rw [e]
  rfl
theorem sh_f {x : Int32} (h : x < 0 ∨ 4 ≤ x) : (0 : Int32) = bI (m_within x 0 3) := by
  have e : m_within x 0 3 = false := by
    cases q : m_within x 0 3 with
    | false => rfl
    | true =>
      rw [within_iff] at q
      rw [Int32.lt_iff_toInt_lt, Int32.le_iff_toInt_le] at h
      have e0 : (0 : Int32).toInt = 0 := rfl
      have e3 : (3 : Int32).toInt = 3 := rfl
      have e4 : (4 : Int32).toInt = 4 := rfl
      omega
  rw [e]
  rfl
theorem dX9_isSheet_0 : decode cX9_isSheet 0 = .ok (.iload_n 1, 1) := by decide +kernel
theorem dX9_isSheet_1 : decode cX9_isSheet 1 = .ok (.ifCond .lt 16, 3) := by decide +kernel
theorem dX9_isSheet_17 : decode cX9_isSheet 17 = .ok (.iconst 0, 1) := by decide +kernel
theorem dX9_isSheet_18 : decode cX9_isSheet 18 = .ok (.ireturn, 1) := by decide +kernel
theorem dX9_isSheet_4 : decode cX9_isSheet 4 = .ok (.iload_n 1, 1) := by decide +kernel
theorem dX9_isSheet_5 : decode cX9_isSheet 5 = .ok (.aload_n 0, 1) := by decide +kernel
theorem dX9_isSheet_6 : decode cX9_isSheet 6 = .ok (.getfield 9, 3) := by decide +kernel
theorem dX9_isSheet_9 : decode cX9_isSheet 9 = .ok (.arraylength, 1) := by decide +kernel
theorem dX9_isSheet_10 : decode cX9_isSheet 10 = .ok (.if_icmp .ge 7, 3) := by decide +kernel
theorem dX9_isSheet_13 : decode cX9_isSheet 13 = .ok (.iconst 1, 1) := by decide +kernel
theorem dX9_isSheet_14 : decode cX9_isSheet 14 = .ok (.goto 4, 3) := by decide +kernel
set_option maxRecDepth 20000 in
theorem ihX9_isSheet_9 : ∀ w ∈ u_ws RX9 TX9 11, w ∈ wsX9_isSheet := fun _ h => List.mem_cons_of_mem _ (List.mem_append_right _ h)
set_option maxHeartbeats 4000000 in
set_option maxRecDepth 100000 in
theorem t_X9_isSheet (l : Launch) (D : va_G) (cy : Nat → ClassId) (a : Nat → Nat) (sz : Nat) (J : Nat → Int64) (I : Nat → Int32) (O : Nat → Option Nat) (R : Nat → Nat → Int32) (RO : Nat → Nat → Option Nat) (LL : va_W) (Y : va_W) (x0 : Int32) : Met l yX9_isSheet wsX9_isSheet ({ frames := 0, cells := 0, slots := 0, locals := 0 }) (va_Pc [.ref (a 0), .int x0] (PW D cy sz (CT cy a J I O R RO (LL ++ Y)))) (vp_Si (fun r => r = bI (m_within x0 0 3))) 0 0 (fun _ => False) := by
  refine Met.ofW (cc := cX9_isSheet) (maxL := 2) (ret := (some .boolean)) (by decide) rfl ?_
  intro p e s m args below meth c s₁ B hml hv
  obtain ⟨rfl, rfl, hP, hK, hN, hD0⟩ := hv
  have hx := B.exec
  have hb := B.bytes
  have hr := B.returns
  have hts := atoms_spec (ws := wsX9_isSheet) B.pre
  have hown : s.vm.findClass RX9 = some m.cls := findClass_of_methodNamed B.named
  have hlocks := B.notSynchronized
  have hw0 := hts (.fieldLink RX9 9 "ParquetLayer" "sheets" "[LParquetLayer$Sheet;") (by decide +kernel)
  have hi9 := ihX9_isSheet_9
  have hD := hD0
  have hl := lv_entry ([.ref (a 0), .int x0]) (n := 2) (Nat.le_of_ble_eq_true rfl)
  rw [lg_entry_eq]
  generalize (lg_sl ([.ref (a 0), .int x0]) ++ List.replicate (2 - (lg_sl ([.ref (a 0), .int x0])).length) Slot.unset).toArray = ls at hl ⊢
  have hl : lv_has ls 2 [(0, .ref (a 0)), (1, .int x0)] := hl
  refine lv_iload_n hx hb dX9_isSheet_0 rfl (lv_at hl 1 rfl) ?_
  refine lv_if_lt (tgt := 17) hx hb dX9_isSheet_1 (by decide) (fun c_1 => ?_) (fun c_1 => ?_)
  · refine lv_iconst (v := 0) hx hb dX9_isSheet_17 (by decide) ?_
    exact pret_z hx hb hr hlocks (sh_f (Or.inl c_1)) dX9_isSheet_18
  · refine lv_iload_n hx hb dX9_isSheet_4 rfl (lv_at hl 1 rfl) ?_
    refine lv_aload_n hx hb dX9_isSheet_5 rfl (lv_at hl 0 rfl) ?_
    refine va_get (D := D) (ci := 8) (v := .ref (a 1)) (C := RX9) (T := TX9) (N := 11) hx hb hts hi9 hown hK hP 0 rfl rfl 0 (by decide) hw0 (fun _ h9 => h9) rfl dX9_isSheet_6 ?_
    refine va_alen hx hb hK hP 1 4 rfl rfl (v := 4) rfl dX9_isSheet_9 ?_
    refine lv_icmp_ge (tgt := 17) hx hb dX9_isSheet_10 (by decide) (fun c_2 => ?_) (fun c_2 => ?_)
    · refine lv_iconst (v := 0) hx hb dX9_isSheet_17 (by decide) ?_
      exact pret_z hx hb hr hlocks (sh_f (Or.inr c_2)) dX9_isSheet_18
    · refine lv_iconst (v := 1) hx hb dX9_isSheet_13 (by decide) ?_
      refine lv_goto (tgt := 18) hx hb dX9_isSheet_14 (by decide) ?_
      exact pret_z hx hb hr hlocks (sh_t c_1 c_2) dX9_isSheet_18
theorem dX9_stoneCount_0 : decode cX9_stoneCount 0 = .ok (.aload_n 0, 1) := by decide +kernel
theorem dX9_stoneCount_1 : decode cX9_stoneCount 1 = .ok (.getfield 106, 3) := by decide +kernel
theorem dX9_stoneCount_4 : decode cX9_stoneCount 4 = .ok (.ifnonnull 7, 3) := by decide +kernel
theorem dX9_stoneCount_11 : decode cX9_stoneCount 11 = .ok (.aload_n 0, 1) := by decide +kernel
theorem dX9_stoneCount_12 : decode cX9_stoneCount 12 = .ok (.getfield 106, 3) := by decide +kernel
theorem dX9_stoneCount_15 : decode cX9_stoneCount 15 = .ok (.getfield 152, 3) := by decide +kernel
theorem dX9_stoneCount_18 : decode cX9_stoneCount 18 = .ok (.iconst 1, 1) := by decide +kernel
theorem dX9_stoneCount_19 : decode cX9_stoneCount 19 = .ok (.iadd, 1) := by decide +kernel
theorem dX9_stoneCount_20 : decode cX9_stoneCount 20 = .ok (.ireturn, 1) := by decide +kernel
theorem dX9_stoneCount_7 : decode cX9_stoneCount 7 = .ok (.iconst 0, 1) := by decide +kernel
theorem dX9_stoneCount_8 : decode cX9_stoneCount 8 = .ok (.goto 12, 3) := by decide +kernel
set_option maxRecDepth 20000 in
theorem ihX9_stoneCount_7 : ∀ w ∈ u_ws RX7 TX7 7, w ∈ wsX9_stoneCount := fun _ h => List.mem_cons_of_mem _ (List.mem_append_right _ h)
set_option maxRecDepth 20000 in
theorem ihX9_stoneCount_9 : ∀ w ∈ u_ws RX9 TX9 11, w ∈ wsX9_stoneCount := fun _ h => List.mem_cons_of_mem _ (List.mem_append_left _ (List.mem_append_right _ h))
set_option maxHeartbeats 4000000 in
set_option maxRecDepth 100000 in
theorem t_X9_stoneCount (l : Launch) (D : va_G) (cy : Nat → ClassId) (a : Nat → Nat) (sz : Nat) (J : Nat → Int64) (I : Nat → Int32) (O : Nat → Option Nat) (R : Nat → Nat → Int32) (RO : Nat → Nat → Option Nat) (LL : va_W) (Y : va_W)  (hM : CI a Y I O RO) : Met l yX9_stoneCount wsX9_stoneCount ({ frames := 0, cells := 0, slots := 0, locals := 0 }) (va_Pc [.ref (a 0)] (PW D cy sz (CT cy a J I O R RO (LL ++ Y)))) (vp_Si (fun r => ∃ n, r = nI n ∧ chain Y n (O 7))) 0 0 (fun _ => False) := by
  refine Met.ofW (cc := cX9_stoneCount) (maxL := 1) (ret := (some .int)) (by decide) rfl ?_
  intro p e s m args below meth c s₁ B hml hv
  obtain ⟨rfl, rfl, hP, hK, hN, hD0⟩ := hv
  have hx := B.exec
  have hb := B.bytes
  have hr := B.returns
  have hts := atoms_spec (ws := wsX9_stoneCount) B.pre
  have hown : s.vm.findClass RX9 = some m.cls := findClass_of_methodNamed B.named
  have hlocks := B.notSynchronized
  have hw0 := hts (.fieldLink RX9 106 "ParquetLayer" "latest" "LParquetLayer$Stone;") (by decide +kernel)
  have hw1 := hts (.fieldLink RX9 152 "ParquetLayer$Stone" "number" "I") (by decide +kernel)
  have hi7 := ihX9_stoneCount_7
  have hi9 := ihX9_stoneCount_9
  have hD := hD0
  have hl := lv_entry ([.ref (a 0)]) (n := 1) (Nat.le_of_ble_eq_true rfl)
  rw [lg_entry_eq]
  generalize (lg_sl ([.ref (a 0)]) ++ List.replicate (1 - (lg_sl ([.ref (a 0)])).length) Slot.unset).toArray = ls at hl ⊢
  have hl : lv_has ls 1 [(0, .ref (a 0))] := hl
  have hRO0 := hM.2.2.2.2.2.2.2.2.1
  have hRO1 := hM.2.2.2.2.2.2.2.2.2.1
  have hRO2 := hM.2.2.2.2.2.2.2.2.2.2.1
  have hRO3 := hM.2.2.2.2.2.2.2.2.2.2.2
  obtain ⟨n0, hn0⟩ := hM.2.1
  have hP : va_P D vwCl (CT cy a J I (va_up O 7 (O 7)) R RO (LL ++ Y)) s.heap := hP
  have hD : va_D (fun _ => True) (CT cy a J I (va_up O 7 (O 7)) R RO (LL ++ Y)) := hD
  refine lv_aload_n hx hb dX9_stoneCount_0 rfl (lv_at hl 0 rfl) ?_
  refine va_get (D := D) (ci := 8) (v := va_rf (O 7)) (C := RX9) (T := TX9) (N := 11) hx hb hts hi9 hown hK hP 0 rfl rfl 7 (by decide) hw0 (fun _ h9 => h9) rfl dX9_stoneCount_1 ?_
  refine lv_ifnonnullO (tgt := 11) hx hb dX9_stoneCount_4 (by decide) (fun c_1 => ?_) (fun c_1 => ?_)
  · obtain ⟨n_5, b_2, o_6, v_7, v_8, z_9, v_10, v_11, e_13, e_4, hm_3, hc_12⟩ := chN_some hn0 c_1
    subst e_13
    rw [e_4] at hP hD
    have hi_14 : chO Y (some b_2) := by rw [← e_4]; exact hM.2.1
    refine lv_aload_n hx hb dX9_stoneCount_11 rfl (lv_at hl 0 rfl) ?_
    refine va_get (D := D) (ci := 8) (v := .ref b_2) (C := RX9) (T := TX9) (N := 11) hx hb hts hi9 hown hK hP 0 rfl rfl 7 (by decide) hw0 (fun _ h9 => h9) rfl dX9_stoneCount_12 ?_
    obtain ⟨k_15, hk_16⟩ : ∃ k : Nat, (CT cy a J I (va_up O 7 (some b_2)) R RO (LL ++ Y))[k]? = some (b_2, .inr (6, [va_rf o_6, .int (nI n_5), .int v_7, .int v_8, .int (bI z_9), .int v_10, .long v_11])) := pixT hm_3
    refine va_get (D := D) (ci := 6) (v := .int (nI n_5)) (C := RX7) (T := TX7) (N := 7) hx hb hts hi7 hown hK hP k_15 hk_16 rfl 1 (by decide) hw1 (fun _ h9 => h9) rfl dX9_stoneCount_15 ?_
    refine lv_iconst (v := 1) hx hb dX9_stoneCount_18 (by decide) ?_
    refine lv_iadd hx hb dX9_stoneCount_19 ?_
    exact aret_i hx hb hr hlocks ⟨n_5 + 1, nI_1 _, b_2, o_6, v_7, v_8, z_9, v_10, v_11, e_4, hm_3, hc_12⟩ dX9_stoneCount_20
  · rw [c_1] at hP hD
    have hi_17 : chO Y none := by rw [← c_1]; exact hM.2.1
    refine lv_iconst (v := 0) hx hb dX9_stoneCount_7 (by decide) ?_
    refine lv_goto (tgt := 20) hx hb dX9_stoneCount_8 (by decide) ?_
    exact aret_i hx hb hr hlocks ⟨0, rfl, c_1⟩ dX9_stoneCount_20
theorem dX9_gluedCount_7 : decode cX9_gluedCount 7 = .ok (.aload_n 2, 1) := by decide +kernel
theorem dX9_gluedCount_8 : decode cX9_gluedCount 8 = .ok (.ifnull 21, 3) := by decide +kernel
theorem dX9_gluedCount_29 : decode cX9_gluedCount 29 = .ok (.iload_n 1, 1) := by decide +kernel
theorem dX9_gluedCount_30 : decode cX9_gluedCount 30 = .ok (.ireturn, 1) := by decide +kernel
theorem dX9_gluedCount_11 : decode cX9_gluedCount 11 = .ok (.iload_n 1, 1) := by decide +kernel
theorem dX9_gluedCount_12 : decode cX9_gluedCount 12 = .ok (.aload_n 2, 1) := by decide +kernel
set_option maxRecDepth 20000 in
theorem ggX9_gluedCount_X7_isGlued : GoodIn wsX9_gluedCount wsX7_isGlued := goodIn_r _ [7, 8, 9, 10, 11, 26, 27, 28, 29, 30, 31, 32] rfl (by decide +kernel)
set_option maxRecDepth 20000 in
theorem gX9_gluedCount_X7_isGlued : GoodIn wsX9_gluedCount (wsV RX9 113 RX7 yX7_isGlued wsX7_isGlued) := goodIn_app (goodIn_r _ [3, 4, 5, 6] rfl (by decide +kernel)) ggX9_gluedCount_X7_isGlued
theorem dX9_gluedCount_13 : decode cX9_gluedCount 13 = .ok (.invokevirtual 113, 3) := by decide +kernel
set_option maxRecDepth 20000 in
theorem ggX9_gluedCount_X9_asNumber : GoodIn wsX9_gluedCount wsX9_asNumber := goodIn_r _ [14] rfl (by decide +kernel)
set_option maxRecDepth 20000 in
theorem gX9_gluedCount_X9_asNumber : GoodIn wsX9_gluedCount (va_wsS RX9 70 yX9_asNumber wsX9_asNumber) := goodIn_app (goodIn_r _ [12, 13, 10] rfl (by decide +kernel)) ggX9_gluedCount_X9_asNumber
theorem dX9_gluedCount_16 : decode cX9_gluedCount 16 = .ok (.invokestatic 70, 3) := by decide +kernel
theorem dX9_gluedCount_19 : decode cX9_gluedCount 19 = .ok (.iadd, 1) := by decide +kernel
theorem dX9_gluedCount_20 : decode cX9_gluedCount 20 = .ok (.istore_n 1, 1) := by decide +kernel
theorem dX9_gluedCount_21 : decode cX9_gluedCount 21 = .ok (.aload_n 2, 1) := by decide +kernel
theorem dX9_gluedCount_22 : decode cX9_gluedCount 22 = .ok (.getfield 138, 3) := by decide +kernel
theorem dX9_gluedCount_25 : decode cX9_gluedCount 25 = .ok (.astore_n 2, 1) := by decide +kernel
theorem dX9_gluedCount_26 : decode cX9_gluedCount 26 = .ok (.goto (-19), 3) := by decide +kernel
theorem dX9_gluedCount_0 : decode cX9_gluedCount 0 = .ok (.iconst 0, 1) := by decide +kernel
theorem dX9_gluedCount_1 : decode cX9_gluedCount 1 = .ok (.istore_n 1, 1) := by decide +kernel
theorem dX9_gluedCount_2 : decode cX9_gluedCount 2 = .ok (.aload_n 0, 1) := by decide +kernel
theorem dX9_gluedCount_3 : decode cX9_gluedCount 3 = .ok (.getfield 106, 3) := by decide +kernel
theorem dX9_gluedCount_6 : decode cX9_gluedCount 6 = .ok (.astore_n 2, 1) := by decide +kernel
set_option maxRecDepth 20000 in
theorem ihX9_gluedCount_7 : ∀ w ∈ u_ws RX7 TX7 7, w ∈ wsX9_gluedCount := fun _ h => List.mem_cons_of_mem _ (List.mem_append_right _ h)
set_option maxRecDepth 20000 in
theorem ihX9_gluedCount_9 : ∀ w ∈ u_ws RX9 TX9 11, w ∈ wsX9_gluedCount := fun _ h => List.mem_cons_of_mem _ (List.mem_append_left _ (List.mem_append_right _ h))
set_option maxHeartbeats 4000000 in
set_option maxRecDepth 100000 in
theorem t_X9_gluedCount (l : Launch) (D : va_G) (cy : Nat → ClassId) (a : Nat → Nat) (sz : Nat) (J : Nat → Int64) (I : Nat → Int32) (O : Nat → Option Nat) (R : Nat → Nat → Int32) (RO : Nat → Nat → Option Nat) (LL : va_W) (Y : va_W)  (hM : CI a Y I O RO) : Met l yX9_gluedCount wsX9_gluedCount ({ frames := 2, cells := 0, slots := 0, locals := 41 }) (va_Pc [.ref (a 0)] (PW D cy sz (CT cy a J I O R RO (LL ++ Y)))) (vp_Si (fun r => True)) 0 0 (fun _ => False) := by
  refine Met.ofW (cc := cX9_gluedCount) (maxL := 3) (ret := (some .int)) (by decide) rfl ?_
  intro p e s m args below meth c s₁ B hml hv
  obtain ⟨rfl, rfl, hP, hK, hN, hD0⟩ := hv
  have hx := B.exec
  have hb := B.bytes
  have hr := B.returns
  have hts := atoms_spec (ws := wsX9_gluedCount) B.pre
  have hown : s.vm.findClass RX9 = some m.cls := findClass_of_methodNamed B.named
  have hlocks := B.notSynchronized
  have hw0 := hts (.fieldLink RX9 138 "ParquetLayer$Stone" "below" "LParquetLayer$Stone;") (by decide +kernel)
  have hw1 := hts (.fieldLink RX9 106 "ParquetLayer" "latest" "LParquetLayer$Stone;") (by decide +kernel)
  have hi7 := ihX9_gluedCount_7
  have hi9 := ihX9_gluedCount_9
  have hD := hD0
  have hl := lv_entry ([.ref (a 0)]) (n := 3) (Nat.le_of_ble_eq_true rfl)
  rw [lg_entry_eq]
  generalize (lg_sl ([.ref (a 0)]) ++ List.replicate (3 - (lg_sl ([.ref (a 0)])).length) Slot.unset).toArray = ls at hl ⊢
  have hl : lv_has ls 3 [(0, .ref (a 0))] := hl
  have hRO0 := hM.2.2.2.2.2.2.2.2.1
  have hRO1 := hM.2.2.2.2.2.2.2.2.2.1
  have hRO2 := hM.2.2.2.2.2.2.2.2.2.2.1
  have hRO3 := hM.2.2.2.2.2.2.2.2.2.2.2
  obtain ⟨n0, hn0⟩ := hM.2.1
  have lp7 : ∀ (n7 : Nat), ∀ (v1_7 : Int32) (o9 : Option Nat) (n9 : Nat), (chain Y n9 o9) → n9 < n7 → ∀ (ls : Array Slot), lv_has ls 3 [(0, .ref (a 0)), (1, .int v1_7), (2, va_rf o9)] → W p l e (headSpec wsX9_gluedCount ({ frames := 2, cells := 0, slots := 0, locals := 41 })).room s m ([.ref (a 0)] : List Value).toArray below meth c s.heap [] 0 0 (MQ below (vp_Si (fun r => True)) ([.ref (a 0)] : List Value).toArray s 0 0 (fun _ => False)) (F0 m 7 ls []) := by
    intro n7
    induction n7 with
    | zero => intro v1_7 o9 n9 hch_7 hn; exact absurd hn (Nat.not_lt_zero _)
    | succ n7 ih7 =>
      intro v1_7 o9 n9 hch_7 hn7 ls hl
      refine lv_aload_nO hx hb dX9_gluedCount_7 rfl (lv_at hl 2 rfl) ?_
      refine lv_ifnullO (tgt := 29) hx hb dX9_gluedCount_8 (by decide) (fun c_1 => ?_) (fun c_1 => ?_)
      · subst c_1
        refine lv_iload_n hx hb dX9_gluedCount_29 rfl (lv_at hl 1 rfl) ?_
        exact aret_i hx hb hr hlocks trivial dX9_gluedCount_30
      · obtain ⟨n_5, b_2, o_6, v_7, v_8, z_9, v_10, v_11, e_13, e_4, hm_3, hc_12⟩ := chN_some hch_7 c_1
        subst e_13
        subst e_4
        refine lv_iload_n hx hb dX9_gluedCount_11 rfl (lv_at hl 1 rfl) ?_
        refine lv_aload_n hx hb dX9_gluedCount_12 rfl (lv_at hl 2 rfl) ?_
        obtain ⟨k_14, hk_15⟩ : ∃ k : Nat, (CT cy a J I O R RO (LL ++ Y))[k]? = some (b_2, .inr (6, [va_rf o_6, .int (nI n_5), .int v_7, .int v_8, .int (bI z_9), .int v_10, .long v_11])) := pixT hm_3
        refine kRa_i (As := []) (rest := [.int v1_7]) (q0 := k_14) ⟨hx, hb, hml, hown, hts⟩ (t_X7_isGlued l D cy _ (CT cy a J I O R RO (LL ++ Y)) k_14 b_2 o_6 (nI n_5) v_7 v_8 z_9 v_10 v_11 hk_15 ) (cwV 0 hts gX9_gluedCount_X7_isGlued rfl rfl rfl (by decide +kernel) ⟨Nat.le_of_ble_eq_true rfl, Nat.le_of_ble_eq_true rfl⟩) hK hN hP hD hk_15 rfl rfl hl.1 rfl (Nat.le_of_ble_eq_true rfl) dX9_gluedCount_13 ⟨Nat.le_of_ble_eq_true rfl, Nat.le_of_ble_eq_true rfl⟩ (fun r_16 hr_17 => ?_)
        obtain ⟨zb_18, rfl⟩ := hr_17
        refine kS_i (As := [.int (bI zb_18)]) (rest := [.int v1_7]) ⟨hx, hb, hml, hown, hts⟩ (c_X9_asNumber l zb_18) (va_cwS 1 hts gX9_gluedCount_X9_asNumber rfl rfl rfl (by decide +kernel) ⟨Nat.le_of_ble_eq_true rfl, Nat.le_of_ble_eq_true rfl⟩) rfl hl.1 rfl (Nat.le_of_ble_eq_true rfl) dX9_gluedCount_16 ⟨Nat.le_of_ble_eq_true rfl, Nat.le_of_ble_eq_true rfl⟩ ?_
        refine lv_iadd hx hb dX9_gluedCount_19 ?_
        refine lv_istore_n (lv' := [(1, .int (v1_7 + (bI zb_18))), (0, .ref (a 0)), (2, .ref b_2)]) hx hb dX9_gluedCount_20 rfl hl (by decide) rfl (fun ls hl => ?_)
        refine lv_aload_n hx hb dX9_gluedCount_21 rfl (lv_at hl 2 rfl) ?_
        obtain ⟨k_19, hk_20⟩ : ∃ k : Nat, (CT cy a J I O R RO (LL ++ Y))[k]? = some (b_2, .inr (6, [va_rf o_6, .int (nI n_5), .int v_7, .int v_8, .int (bI z_9), .int v_10, .long v_11])) := pixT hm_3
        refine va_get (D := D) (ci := 6) (v := va_rf o_6) (C := RX7) (T := TX7) (N := 7) hx hb hts hi7 hown hK hP k_19 hk_20 rfl 0 (by decide) hw0 (fun _ h9 => h9) rfl dX9_gluedCount_22 ?_
        refine lv_astore_nO (lv' := [(2, va_rf o_6), (1, .int (v1_7 + (bI zb_18))), (0, .ref (a 0))]) hx hb dX9_gluedCount_25 rfl hl (by decide) rfl (fun ls hl => ?_)
        refine lv_goto (tgt := 7) hx hb dX9_gluedCount_26 (by decide) ?_
        exact ih7 (v1_7 + (bI zb_18)) o_6 n_5 hc_12 (Nat.lt_of_succ_lt_succ hn7) ls (lv_sub hl [2, 1, 0] rfl)
  refine lv_iconst (v := 0) hx hb dX9_gluedCount_0 (by decide) ?_
  refine lv_istore_n (lv' := [(1, .int 0), (0, .ref (a 0))]) hx hb dX9_gluedCount_1 rfl hl (by decide) rfl (fun ls hl => ?_)
  refine lv_aload_n hx hb dX9_gluedCount_2 rfl (lv_at hl 1 rfl) ?_
  refine va_get (D := D) (ci := 8) (v := va_rf (O 7)) (C := RX9) (T := TX9) (N := 11) hx hb hts hi9 hown hK hP 0 rfl rfl 7 (by decide) hw1 (fun _ h9 => h9) rfl dX9_gluedCount_3 ?_
  refine lv_astore_nO (lv' := [(2, va_rf (O 7)), (1, .int 0), (0, .ref (a 0))]) hx hb dX9_gluedCount_6 rfl hl (by decide) rfl (fun ls hl => ?_)
  exact lp7 _ (0 : Int32) (O 7) n0 hn0 (Nat.lt_succ_self _) ls (lv_sub hl [2, 1, 0] rfl)
theorem dX9_gluedFields_7 : decode cX9_gluedFields 7 = .ok (.aload_n 3, 1) := by decide +kernel
theorem dX9_gluedFields_8 : decode cX9_gluedFields 8 = .ok (.ifnull 25, 3) := by decide +kernel
theorem dX9_gluedFields_33 : decode cX9_gluedFields 33 = .ok (.lload_n 1, 1) := by decide +kernel
theorem dX9_gluedFields_34 : decode cX9_gluedFields 34 = .ok (.lreturn, 1) := by decide +kernel
theorem dX9_gluedFields_11 : decode cX9_gluedFields 11 = .ok (.aload_n 3, 1) := by decide +kernel
set_option maxRecDepth 20000 in
theorem ggX9_gluedFields_X7_isGlued : GoodIn wsX9_gluedFields wsX7_isGlued := goodIn_r _ [8, 9, 10, 11, 12, 24, 25, 26, 27, 28, 29, 30] rfl (by decide +kernel)
set_option maxRecDepth 20000 in
theorem gX9_gluedFields_X7_isGlued : GoodIn wsX9_gluedFields (wsV RX9 113 RX7 yX7_isGlued wsX7_isGlued) := goodIn_app (goodIn_r _ [4, 5, 6, 7] rfl (by decide +kernel)) ggX9_gluedFields_X7_isGlued
theorem dX9_gluedFields_12 : decode cX9_gluedFields 12 = .ok (.invokevirtual 113, 3) := by decide +kernel
theorem dX9_gluedFields_15 : decode cX9_gluedFields 15 = .ok (.ifCond .eq 10, 3) := by decide +kernel
theorem dX9_gluedFields_25 : decode cX9_gluedFields 25 = .ok (.aload_n 3, 1) := by decide +kernel
theorem dX9_gluedFields_26 : decode cX9_gluedFields 26 = .ok (.getfield 138, 3) := by decide +kernel
theorem dX9_gluedFields_29 : decode cX9_gluedFields 29 = .ok (.astore_n 3, 1) := by decide +kernel
theorem dX9_gluedFields_30 : decode cX9_gluedFields 30 = .ok (.goto (-23), 3) := by decide +kernel
theorem dX9_gluedFields_18 : decode cX9_gluedFields 18 = .ok (.lload_n 1, 1) := by decide +kernel
theorem dX9_gluedFields_19 : decode cX9_gluedFields 19 = .ok (.aload_n 3, 1) := by decide +kernel
theorem dX9_gluedFields_20 : decode cX9_gluedFields 20 = .ok (.getfield 116, 3) := by decide +kernel
theorem dX9_gluedFields_23 : decode cX9_gluedFields 23 = .ok (.lor, 1) := by decide +kernel
theorem dX9_gluedFields_24 : decode cX9_gluedFields 24 = .ok (.lstore_n 1, 1) := by decide +kernel
theorem dX9_gluedFields_0 : decode cX9_gluedFields 0 = .ok (.lconst 0, 1) := by decide +kernel
theorem dX9_gluedFields_1 : decode cX9_gluedFields 1 = .ok (.lstore_n 1, 1) := by decide +kernel
theorem dX9_gluedFields_2 : decode cX9_gluedFields 2 = .ok (.aload_n 0, 1) := by decide +kernel
theorem dX9_gluedFields_3 : decode cX9_gluedFields 3 = .ok (.getfield 106, 3) := by decide +kernel
theorem dX9_gluedFields_6 : decode cX9_gluedFields 6 = .ok (.astore_n 3, 1) := by decide +kernel
set_option maxRecDepth 20000 in
theorem ihX9_gluedFields_7 : ∀ w ∈ u_ws RX7 TX7 7, w ∈ wsX9_gluedFields := fun _ h => List.mem_cons_of_mem _ (List.mem_append_right _ h)
set_option maxRecDepth 20000 in
theorem ihX9_gluedFields_9 : ∀ w ∈ u_ws RX9 TX9 11, w ∈ wsX9_gluedFields := fun _ h => List.mem_cons_of_mem _ (List.mem_append_left _ (List.mem_append_right _ h))
set_option maxHeartbeats 4000000 in
set_option maxRecDepth 100000 in
theorem t_X9_gluedFields (l : Launch) (D : va_G) (cy : Nat → ClassId) (a : Nat → Nat) (sz : Nat) (J : Nat → Int64) (I : Nat → Int32) (O : Nat → Option Nat) (R : Nat → Nat → Int32) (RO : Nat → Nat → Option Nat) (LL : va_W) (Y : va_W)  (hM : CI a Y I O RO) : Met l yX9_gluedFields wsX9_gluedFields ({ frames := 2, cells := 0, slots := 0, locals := 41 }) (va_Pc [.ref (a 0)] (PW D cy sz (CT cy a J I O R RO (LL ++ Y)))) (vp_Sl (fun r => True)) 0 0 (fun _ => False) := by
  refine Met.ofW (cc := cX9_gluedFields) (maxL := 4) (ret := (some .long)) (by decide) rfl ?_
  intro p e s m args below meth c s₁ B hml hv
  obtain ⟨rfl, rfl, hP, hK, hN, hD0⟩ := hv
  have hx := B.exec
  have hb := B.bytes
  have hr := B.returns
  have hts := atoms_spec (ws := wsX9_gluedFields) B.pre
  have hown : s.vm.findClass RX9 = some m.cls := findClass_of_methodNamed B.named
  have hlocks := B.notSynchronized
  have hw0 := hts (.fieldLink RX9 138 "ParquetLayer$Stone" "below" "LParquetLayer$Stone;") (by decide +kernel)
  have hw1 := hts (.fieldLink RX9 116 "ParquetLayer$Stone" "cover" "J") (by decide +kernel)
  have hw2 := hts (.fieldLink RX9 106 "ParquetLayer" "latest" "LParquetLayer$Stone;") (by decide +kernel)
  have hi7 := ihX9_gluedFields_7
  have hi9 := ihX9_gluedFields_9
  have hD := hD0
  have hl := lv_entry ([.ref (a 0)]) (n := 4) (Nat.le_of_ble_eq_true rfl)
  rw [lg_entry_eq]
  generalize (lg_sl ([.ref (a 0)]) ++ List.replicate (4 - (lg_sl ([.ref (a 0)])).length) Slot.unset).toArray = ls at hl ⊢
  have hl : lv_has ls 4 [(0, .ref (a 0))] := hl
  have hRO0 := hM.2.2.2.2.2.2.2.2.1
  have hRO1 := hM.2.2.2.2.2.2.2.2.2.1
  have hRO2 := hM.2.2.2.2.2.2.2.2.2.2.1
  have hRO3 := hM.2.2.2.2.2.2.2.2.2.2.2
  obtain ⟨n0, hn0⟩ := hM.2.1
  have lp7 : ∀ (n7 : Nat), ∀ (v1_7 : Int64) (o9 : Option Nat) (n9 : Nat), (chain Y n9 o9) → n9 < n7 → ∀ (ls : Array Slot), lv_has ls 4 [(0, .ref (a 0)), (1, .long v1_7), (3, va_rf o9)] → W p l e (headSpec wsX9_gluedFields ({ frames := 2, cells := 0, slots := 0, locals := 41 })).room s m ([.ref (a 0)] : List Value).toArray below meth c s.heap [] 0 0 (MQ below (vp_Sl (fun r => True)) ([.ref (a 0)] : List Value).toArray s 0 0 (fun _ => False)) (F0 m 7 ls []) := by
    intro n7
    induction n7 with
    | zero => intro v1_7 o9 n9 hch_7 hn; exact absurd hn (Nat.not_lt_zero _)
    | succ n7 ih7 =>
      intro v1_7 o9 n9 hch_7 hn7 ls hl
      refine lv_aload_nO hx hb dX9_gluedFields_7 rfl (lv_at hl 2 rfl) ?_
      refine lv_ifnullO (tgt := 33) hx hb dX9_gluedFields_8 (by decide) (fun c_1 => ?_) (fun c_1 => ?_)
      · subst c_1
        refine lv_lload_n hx hb dX9_gluedFields_33 rfl (lv_at hl 1 rfl) ?_
        exact aret_l hx hb hr hlocks trivial dX9_gluedFields_34
      · obtain ⟨n_5, b_2, o_6, v_7, v_8, z_9, v_10, v_11, e_13, e_4, hm_3, hc_12⟩ := chN_some hch_7 c_1
        subst e_13
        subst e_4
        refine lv_aload_n hx hb dX9_gluedFields_11 rfl (lv_at hl 2 rfl) ?_
        obtain ⟨k_14, hk_15⟩ : ∃ k : Nat, (CT cy a J I O R RO (LL ++ Y))[k]? = some (b_2, .inr (6, [va_rf o_6, .int (nI n_5), .int v_7, .int v_8, .int (bI z_9), .int v_10, .long v_11])) := pixT hm_3
        refine kRa_i (As := []) (rest := []) (q0 := k_14) ⟨hx, hb, hml, hown, hts⟩ (t_X7_isGlued l D cy _ (CT cy a J I O R RO (LL ++ Y)) k_14 b_2 o_6 (nI n_5) v_7 v_8 z_9 v_10 v_11 hk_15 ) (cwV 0 hts gX9_gluedFields_X7_isGlued rfl rfl rfl (by decide +kernel) ⟨Nat.le_of_ble_eq_true rfl, Nat.le_of_ble_eq_true rfl⟩) hK hN hP hD hk_15 rfl rfl hl.1 rfl (Nat.le_of_ble_eq_true rfl) dX9_gluedFields_12 ⟨Nat.le_of_ble_eq_true rfl, Nat.le_of_ble_eq_true rfl⟩ (fun r_16 hr_17 => ?_)
        obtain ⟨zb_18, rfl⟩ := hr_17
        refine lv_if_eq (tgt := 25) hx hb dX9_gluedFields_15 (by decide) (fun c_19 => ?_) (fun c_19 => ?_)
        · replace c_19 := bI_f c_19
          refine lv_aload_n hx hb dX9_gluedFields_25 rfl (lv_at hl 2 rfl) ?_
          obtain ⟨k_20, hk_21⟩ : ∃ k : Nat, (CT cy a J I O R RO (LL ++ Y))[k]? = some (b_2, .inr (6, [va_rf o_6, .int (nI n_5), .int v_7, .int v_8, .int (bI z_9), .int v_10, .long v_11])) := pixT hm_3
          refine va_get (D := D) (ci := 6) (v := va_rf o_6) (C := RX7) (T := TX7) (N := 7) hx hb hts hi7 hown hK hP k_20 hk_21 rfl 0 (by decide) hw0 (fun _ h9 => h9) rfl dX9_gluedFields_26 ?_
          refine lv_astore_nO (lv' := [(3, va_rf o_6), (0, .ref (a 0)), (1, .long v1_7)]) hx hb dX9_gluedFields_29 rfl hl (by decide) rfl (fun ls hl => ?_)
          refine lv_goto (tgt := 7) hx hb dX9_gluedFields_30 (by decide) ?_
          exact ih7 v1_7 o_6 n_5 hc_12 (Nat.lt_of_succ_lt_succ hn7) ls (lv_sub hl [1, 2, 0] rfl)
        · replace c_19 := bI_t c_19
          refine lv_lload_n hx hb dX9_gluedFields_18 rfl (lv_at hl 1 rfl) ?_
          refine lv_aload_n hx hb dX9_gluedFields_19 rfl (lv_at hl 2 rfl) ?_
          obtain ⟨k_22, hk_23⟩ : ∃ k : Nat, (CT cy a J I O R RO (LL ++ Y))[k]? = some (b_2, .inr (6, [va_rf o_6, .int (nI n_5), .int v_7, .int v_8, .int (bI z_9), .int v_10, .long v_11])) := pixT hm_3
          refine va_get (D := D) (ci := 6) (v := .long v_11) (C := RX7) (T := TX7) (N := 7) hx hb hts hi7 hown hK hP k_22 hk_23 rfl 6 (by decide) hw1 (fun _ h9 => h9) rfl dX9_gluedFields_20 ?_
          refine lv_lor hx hb dX9_gluedFields_23 ?_
          refine lv_lstore_n (lv' := [(1, .long (v1_7 ||| v_11)), (0, .ref (a 0)), (3, .ref b_2)]) hx hb dX9_gluedFields_24 rfl hl (by decide) rfl (fun ls hl => ?_)
          refine lv_aload_n hx hb dX9_gluedFields_25 rfl (lv_at hl 2 rfl) ?_
          obtain ⟨k_24, hk_25⟩ : ∃ k : Nat, (CT cy a J I O R RO (LL ++ Y))[k]? = some (b_2, .inr (6, [va_rf o_6, .int (nI n_5), .int v_7, .int v_8, .int (bI z_9), .int v_10, .long v_11])) := pixT hm_3
          refine va_get (D := D) (ci := 6) (v := va_rf o_6) (C := RX7) (T := TX7) (N := 7) hx hb hts hi7 hown hK hP k_24 hk_25 rfl 0 (by decide) hw0 (fun _ h9 => h9) rfl dX9_gluedFields_26 ?_
          refine lv_astore_nO (lv' := [(3, va_rf o_6), (1, .long (v1_7 ||| v_11)), (0, .ref (a 0))]) hx hb dX9_gluedFields_29 rfl hl (by decide) rfl (fun ls hl => ?_)
          refine lv_goto (tgt := 7) hx hb dX9_gluedFields_30 (by decide) ?_
          exact ih7 (v1_7 ||| v_11) o_6 n_5 hc_12 (Nat.lt_of_succ_lt_succ hn7) ls (lv_sub hl [2, 1, 0] rfl)
  refine lv_lconst (v := 0) hx hb dX9_gluedFields_0 (by decide) ?_
  refine lv_lstore_n (lv' := [(1, .long 0), (0, .ref (a 0))]) hx hb dX9_gluedFields_1 rfl hl (by decide) rfl (fun ls hl => ?_)
  refine lv_aload_n hx hb dX9_gluedFields_2 rfl (lv_at hl 1 rfl) ?_
  refine va_get (D := D) (ci := 8) (v := va_rf (O 7)) (C := RX9) (T := TX9) (N := 11) hx hb hts hi9 hown hK hP 0 rfl rfl 7 (by decide) hw2 (fun _ h9 => h9) rfl dX9_gluedFields_3 ?_
  refine lv_astore_nO (lv' := [(3, va_rf (O 7)), (1, .long 0), (0, .ref (a 0))]) hx hb dX9_gluedFields_6 rfl hl (by decide) rfl (fun ls hl => ?_)
  exact lp7 _ (0 : Int64) (O 7) n0 hn0 (Nat.lt_succ_self _) ls (lv_sub hl [2, 1, 0] rfl)
theorem dX9_gluedStarts_8 : decode cX9_gluedStarts 8 = .ok (.aload 4, 2) := by decide +kernel
theorem dX9_gluedStarts_10 : decode cX9_gluedStarts 10 = .ok (.ifnull 40, 3) := by decide +kernel
theorem dX9_gluedStarts_50 : decode cX9_gluedStarts 50 = .ok (.lload_n 2, 1) := by decide +kernel
theorem dX9_gluedStarts_51 : decode cX9_gluedStarts 51 = .ok (.lreturn, 1) := by decide +kernel
theorem dX9_gluedStarts_13 : decode cX9_gluedStarts 13 = .ok (.aload 4, 2) := by decide +kernel
set_option maxRecDepth 20000 in
theorem ggX9_gluedStarts_X7_isGlued : GoodIn wsX9_gluedStarts wsX7_isGlued := goodIn_r _ [9, 10, 11, 12, 13, 25, 26, 27, 28, 29, 30, 31] rfl (by decide +kernel)
set_option maxRecDepth 20000 in
theorem gX9_gluedStarts_X7_isGlued : GoodIn wsX9_gluedStarts (wsV RX9 113 RX7 yX7_isGlued wsX7_isGlued) := goodIn_app (goodIn_r _ [5, 6, 7, 8] rfl (by decide +kernel)) ggX9_gluedStarts_X7_isGlued
theorem dX9_gluedStarts_15 : decode cX9_gluedStarts 15 = .ok (.invokevirtual 113, 3) := by decide +kernel
theorem dX9_gluedStarts_18 : decode cX9_gluedStarts 18 = .ok (.ifCond .eq 22, 3) := by decide +kernel
theorem dX9_gluedStarts_40 : decode cX9_gluedStarts 40 = .ok (.aload 4, 2) := by decide +kernel
theorem dX9_gluedStarts_42 : decode cX9_gluedStarts 42 = .ok (.getfield 138, 3) := by decide +kernel
theorem dX9_gluedStarts_45 : decode cX9_gluedStarts 45 = .ok (.astore 4, 2) := by decide +kernel
theorem dX9_gluedStarts_47 : decode cX9_gluedStarts 47 = .ok (.goto (-39), 3) := by decide +kernel
theorem dX9_gluedStarts_21 : decode cX9_gluedStarts 21 = .ok (.aload 4, 2) := by decide +kernel
theorem dX9_gluedStarts_23 : decode cX9_gluedStarts 23 = .ok (.getfield 158, 3) := by decide +kernel
theorem dX9_gluedStarts_26 : decode cX9_gluedStarts 26 = .ok (.iload_n 1, 1) := by decide +kernel
theorem dX9_gluedStarts_27 : decode cX9_gluedStarts 27 = .ok (.if_icmp .ne 13, 3) := by decide +kernel
theorem dX9_gluedStarts_30 : decode cX9_gluedStarts 30 = .ok (.lload_n 2, 1) := by decide +kernel
theorem dX9_gluedStarts_31 : decode cX9_gluedStarts 31 = .ok (.lconst 1, 1) := by decide +kernel
theorem dX9_gluedStarts_32 : decode cX9_gluedStarts 32 = .ok (.aload 4, 2) := by decide +kernel
theorem dX9_gluedStarts_34 : decode cX9_gluedStarts 34 = .ok (.getfield 155, 3) := by decide +kernel
theorem dX9_gluedStarts_37 : decode cX9_gluedStarts 37 = .ok (.lshl, 1) := by decide +kernel
theorem dX9_gluedStarts_38 : decode cX9_gluedStarts 38 = .ok (.lor, 1) := by decide +kernel
theorem dX9_gluedStarts_39 : decode cX9_gluedStarts 39 = .ok (.lstore_n 2, 1) := by decide +kernel
theorem dX9_gluedStarts_0 : decode cX9_gluedStarts 0 = .ok (.lconst 0, 1) := by decide +kernel
theorem dX9_gluedStarts_1 : decode cX9_gluedStarts 1 = .ok (.lstore_n 2, 1) := by decide +kernel
theorem dX9_gluedStarts_2 : decode cX9_gluedStarts 2 = .ok (.aload_n 0, 1) := by decide +kernel
theorem dX9_gluedStarts_3 : decode cX9_gluedStarts 3 = .ok (.getfield 106, 3) := by decide +kernel
theorem dX9_gluedStarts_6 : decode cX9_gluedStarts 6 = .ok (.astore 4, 2) := by decide +kernel
set_option maxRecDepth 20000 in
theorem ihX9_gluedStarts_7 : ∀ w ∈ u_ws RX7 TX7 7, w ∈ wsX9_gluedStarts := fun _ h => List.mem_cons_of_mem _ (List.mem_append_right _ h)
set_option maxRecDepth 20000 in
theorem ihX9_gluedStarts_9 : ∀ w ∈ u_ws RX9 TX9 11, w ∈ wsX9_gluedStarts := fun _ h => List.mem_cons_of_mem _ (List.mem_append_left _ (List.mem_append_right _ h))
set_option maxHeartbeats 4000000 in
set_option maxRecDepth 100000 in
theorem t_X9_gluedStarts (l : Launch) (D : va_G) (cy : Nat → ClassId) (a : Nat → Nat) (sz : Nat) (J : Nat → Int64) (I : Nat → Int32) (O : Nat → Option Nat) (R : Nat → Nat → Int32) (RO : Nat → Nat → Option Nat) (LL : va_W) (Y : va_W) (x0 : Bool) (hM : CI a Y I O RO) : Met l yX9_gluedStarts wsX9_gluedStarts ({ frames := 2, cells := 0, slots := 0, locals := 41 }) (va_Pc [.ref (a 0), .int (bI x0)] (PW D cy sz (CT cy a J I O R RO (LL ++ Y)))) (vp_Sl (fun r => True)) 0 0 (fun _ => False) := by
  refine Met.ofW (cc := cX9_gluedStarts) (maxL := 5) (ret := (some .long)) (by decide) rfl ?_
  intro p e s m args below meth c s₁ B hml hv
  obtain ⟨rfl, rfl, hP, hK, hN, hD0⟩ := hv
  have hx := B.exec
  have hb := B.bytes
  have hr := B.returns
  have hts := atoms_spec (ws := wsX9_gluedStarts) B.pre
  have hown : s.vm.findClass RX9 = some m.cls := findClass_of_methodNamed B.named
  have hlocks := B.notSynchronized
  have hw0 := hts (.fieldLink RX9 138 "ParquetLayer$Stone" "below" "LParquetLayer$Stone;") (by decide +kernel)
  have hw1 := hts (.fieldLink RX9 158 "ParquetLayer$Stone" "across" "Z") (by decide +kernel)
  have hw2 := hts (.fieldLink RX9 155 "ParquetLayer$Stone" "field" "I") (by decide +kernel)
  have hw3 := hts (.fieldLink RX9 106 "ParquetLayer" "latest" "LParquetLayer$Stone;") (by decide +kernel)
  have hi7 := ihX9_gluedStarts_7
  have hi9 := ihX9_gluedStarts_9
  have hD := hD0
  have hl := lv_entry ([.ref (a 0), .int (bI x0)]) (n := 5) (Nat.le_of_ble_eq_true rfl)
  rw [lg_entry_eq]
  generalize (lg_sl ([.ref (a 0), .int (bI x0)]) ++ List.replicate (5 - (lg_sl ([.ref (a 0), .int (bI x0)])).length) Slot.unset).toArray = ls at hl ⊢
  have hl : lv_has ls 5 [(0, .ref (a 0)), (1, .int (bI x0))] := hl
  have hRO0 := hM.2.2.2.2.2.2.2.2.1
  have hRO1 := hM.2.2.2.2.2.2.2.2.2.1
  have hRO2 := hM.2.2.2.2.2.2.2.2.2.2.1
  have hRO3 := hM.2.2.2.2.2.2.2.2.2.2.2
  obtain ⟨n0, hn0⟩ := hM.2.1
  have lp8 : ∀ (n8 : Nat), ∀ (v2_8 : Int64) (o9 : Option Nat) (n9 : Nat), (chain Y n9 o9) → n9 < n8 → ∀ (ls : Array Slot), lv_has ls 5 [(0, .ref (a 0)), (1, .int (bI x0)), (2, .long v2_8), (4, va_rf o9)] → W p l e (headSpec wsX9_gluedStarts ({ frames := 2, cells := 0, slots := 0, locals := 41 })).room s m ([.ref (a 0), .int (bI x0)] : List Value).toArray below meth c s.heap [] 0 0 (MQ below (vp_Sl (fun r => True)) ([.ref (a 0), .int (bI x0)] : List Value).toArray s 0 0 (fun _ => False)) (F0 m 8 ls []) := by
    intro n8
    induction n8 with
    | zero => intro v2_8 o9 n9 hch_8 hn; exact absurd hn (Nat.not_lt_zero _)
    | succ n8 ih8 =>
      intro v2_8 o9 n9 hch_8 hn8 ls hl
      refine lv_aloadO hx hb dX9_gluedStarts_8 (lv_at hl 3 rfl) ?_
      refine lv_ifnullO (tgt := 50) hx hb dX9_gluedStarts_10 (by decide) (fun c_1 => ?_) (fun c_1 => ?_)
      · subst c_1
        refine lv_lload_n hx hb dX9_gluedStarts_50 rfl (lv_at hl 2 rfl) ?_
        exact aret_l hx hb hr hlocks trivial dX9_gluedStarts_51
      · obtain ⟨n_5, b_2, o_6, v_7, v_8, z_9, v_10, v_11, e_13, e_4, hm_3, hc_12⟩ := chN_some hch_8 c_1
        subst e_13
        subst e_4
        refine lv_aload hx hb dX9_gluedStarts_13 (lv_at hl 3 rfl) ?_
        obtain ⟨k_14, hk_15⟩ : ∃ k : Nat, (CT cy a J I O R RO (LL ++ Y))[k]? = some (b_2, .inr (6, [va_rf o_6, .int (nI n_5), .int v_7, .int v_8, .int (bI z_9), .int v_10, .long v_11])) := pixT hm_3
        refine kRa_i (As := []) (rest := []) (q0 := k_14) ⟨hx, hb, hml, hown, hts⟩ (t_X7_isGlued l D cy _ (CT cy a J I O R RO (LL ++ Y)) k_14 b_2 o_6 (nI n_5) v_7 v_8 z_9 v_10 v_11 hk_15 ) (cwV 0 hts gX9_gluedStarts_X7_isGlued rfl rfl rfl (by decide +kernel) ⟨Nat.le_of_ble_eq_true rfl, Nat.le_of_ble_eq_true rfl⟩) hK hN hP hD hk_15 rfl rfl hl.1 rfl (Nat.le_of_ble_eq_true rfl) dX9_gluedStarts_15 ⟨Nat.le_of_ble_eq_true rfl, Nat.le_of_ble_eq_true rfl⟩ (fun r_16 hr_17 => ?_)
        obtain ⟨zb_18, rfl⟩ := hr_17
        refine lv_if_eq (tgt := 40) hx hb dX9_gluedStarts_18 (by decide) (fun c_19 => ?_) (fun c_19 => ?_)
        · replace c_19 := bI_f c_19
          refine lv_aload hx hb dX9_gluedStarts_40 (lv_at hl 3 rfl) ?_
          obtain ⟨k_20, hk_21⟩ : ∃ k : Nat, (CT cy a J I O R RO (LL ++ Y))[k]? = some (b_2, .inr (6, [va_rf o_6, .int (nI n_5), .int v_7, .int v_8, .int (bI z_9), .int v_10, .long v_11])) := pixT hm_3
          refine va_get (D := D) (ci := 6) (v := va_rf o_6) (C := RX7) (T := TX7) (N := 7) hx hb hts hi7 hown hK hP k_20 hk_21 rfl 0 (by decide) hw0 (fun _ h9 => h9) rfl dX9_gluedStarts_42 ?_
          refine lv_astoreO (lv' := [(4, va_rf o_6), (0, .ref (a 0)), (1, .int (bI x0)), (2, .long v2_8)]) hx hb dX9_gluedStarts_45 hl (by decide) rfl (fun ls hl => ?_)
          refine lv_goto (tgt := 8) hx hb dX9_gluedStarts_47 (by decide) ?_
          exact ih8 v2_8 o_6 n_5 hc_12 (Nat.lt_of_succ_lt_succ hn8) ls (lv_sub hl [1, 2, 3, 0] rfl)
        · replace c_19 := bI_t c_19
          refine lv_aload hx hb dX9_gluedStarts_21 (lv_at hl 3 rfl) ?_
          obtain ⟨k_22, hk_23⟩ : ∃ k : Nat, (CT cy a J I O R RO (LL ++ Y))[k]? = some (b_2, .inr (6, [va_rf o_6, .int (nI n_5), .int v_7, .int v_8, .int (bI z_9), .int v_10, .long v_11])) := pixT hm_3
          refine va_get (D := D) (ci := 6) (v := .int (bI z_9)) (C := RX7) (T := TX7) (N := 7) hx hb hts hi7 hown hK hP k_22 hk_23 rfl 4 (by decide) hw1 (fun _ h9 => h9) rfl dX9_gluedStarts_23 ?_
          refine lv_iload_n hx hb dX9_gluedStarts_26 rfl (lv_at hl 1 rfl) ?_
          refine lv_icmp_ne (tgt := 40) hx hb dX9_gluedStarts_27 (by decide) (fun c_24 => ?_) (fun c_24 => ?_)
          · refine lv_aload hx hb dX9_gluedStarts_40 (lv_at hl 3 rfl) ?_
            obtain ⟨k_25, hk_26⟩ : ∃ k : Nat, (CT cy a J I O R RO (LL ++ Y))[k]? = some (b_2, .inr (6, [va_rf o_6, .int (nI n_5), .int v_7, .int v_8, .int (bI z_9), .int v_10, .long v_11])) := pixT hm_3
            refine va_get (D := D) (ci := 6) (v := va_rf o_6) (C := RX7) (T := TX7) (N := 7) hx hb hts hi7 hown hK hP k_25 hk_26 rfl 0 (by decide) hw0 (fun _ h9 => h9) rfl dX9_gluedStarts_42 ?_
            refine lv_astoreO (lv' := [(4, va_rf o_6), (0, .ref (a 0)), (1, .int (bI x0)), (2, .long v2_8)]) hx hb dX9_gluedStarts_45 hl (by decide) rfl (fun ls hl => ?_)
            refine lv_goto (tgt := 8) hx hb dX9_gluedStarts_47 (by decide) ?_
            exact ih8 v2_8 o_6 n_5 hc_12 (Nat.lt_of_succ_lt_succ hn8) ls (lv_sub hl [1, 2, 3, 0] rfl)
          · refine lv_lload_n hx hb dX9_gluedStarts_30 rfl (lv_at hl 2 rfl) ?_
            refine lv_lconst (v := 1) hx hb dX9_gluedStarts_31 (by decide) ?_
            refine lv_aload hx hb dX9_gluedStarts_32 (lv_at hl 3 rfl) ?_
            obtain ⟨k_27, hk_28⟩ : ∃ k : Nat, (CT cy a J I O R RO (LL ++ Y))[k]? = some (b_2, .inr (6, [va_rf o_6, .int (nI n_5), .int v_7, .int v_8, .int (bI z_9), .int v_10, .long v_11])) := pixT hm_3
            refine va_get (D := D) (ci := 6) (v := .int v_8) (C := RX7) (T := TX7) (N := 7) hx hb hts hi7 hown hK hP k_27 hk_28 rfl 3 (by decide) hw2 (fun _ h9 => h9) rfl dX9_gluedStarts_34 ?_
            refine lv_lshl (v := (1 : Int64) <<< ((v_8 : Int32).toInt64 &&& 63)) hx hb dX9_gluedStarts_37 rfl ?_
            refine lv_lor hx hb dX9_gluedStarts_38 ?_
            refine lv_lstore_n (lv' := [(2, .long (v2_8 ||| ((1 : Int64) <<< ((v_8 : Int32).toInt64 &&& 63)))), (0, .ref (a 0)), (1, .int (bI x0)), (4, .ref b_2)]) hx hb dX9_gluedStarts_39 rfl hl (by decide) rfl (fun ls hl => ?_)
            refine lv_aload hx hb dX9_gluedStarts_40 (lv_at hl 3 rfl) ?_
            obtain ⟨k_29, hk_30⟩ : ∃ k : Nat, (CT cy a J I O R RO (LL ++ Y))[k]? = some (b_2, .inr (6, [va_rf o_6, .int (nI n_5), .int v_7, .int v_8, .int (bI z_9), .int v_10, .long v_11])) := pixT hm_3
            refine va_get (D := D) (ci := 6) (v := va_rf o_6) (C := RX7) (T := TX7) (N := 7) hx hb hts hi7 hown hK hP k_29 hk_30 rfl 0 (by decide) hw0 (fun _ h9 => h9) rfl dX9_gluedStarts_42 ?_
            refine lv_astoreO (lv' := [(4, va_rf o_6), (2, .long (v2_8 ||| ((1 : Int64) <<< ((v_8 : Int32).toInt64 &&& 63)))), (0, .ref (a 0)), (1, .int (bI x0))]) hx hb dX9_gluedStarts_45 hl (by decide) rfl (fun ls hl => ?_)
            refine lv_goto (tgt := 8) hx hb dX9_gluedStarts_47 (by decide) ?_
            exact ih8 (v2_8 ||| ((1 : Int64) <<< ((v_8 : Int32).toInt64 &&& 63))) o_6 n_5 hc_12 (Nat.lt_of_succ_lt_succ hn8) ls (lv_sub hl [2, 3, 1, 0] rfl)
  refine lv_lconst (v := 0) hx hb dX9_gluedStarts_0 (by decide) ?_
  refine lv_lstore_n (lv' := [(2, .long 0), (0, .ref (a 0)), (1, .int (bI x0))]) hx hb dX9_gluedStarts_1 rfl hl (by decide) rfl (fun ls hl => ?_)
  refine lv_aload_n hx hb dX9_gluedStarts_2 rfl (lv_at hl 1 rfl) ?_
  refine va_get (D := D) (ci := 8) (v := va_rf (O 7)) (C := RX9) (T := TX9) (N := 11) hx hb hts hi9 hown hK hP 0 rfl rfl 7 (by decide) hw3 (fun _ h9 => h9) rfl dX9_gluedStarts_3 ?_
  refine lv_astoreO (lv' := [(4, va_rf (O 7)), (2, .long 0), (0, .ref (a 0)), (1, .int (bI x0))]) hx hb dX9_gluedStarts_6 hl (by decide) rfl (fun ls hl => ?_)
  exact lp8 _ (0 : Int64) (O 7) n0 hn0 (Nat.lt_succ_self _) ls (lv_sub hl [2, 3, 1, 0] rfl)
theorem dX9_isGluedPlace_0 : decode cX9_isGluedPlace 0 = .ok (.aload_n 0, 1) := by decide +kernel
theorem dX9_isGluedPlace_1 : decode cX9_isGluedPlace 1 = .ok (.iload_n 2, 1) := by decide +kernel
set_option maxRecDepth 20000 in
theorem ggX9_isGluedPlace_X9_gluedStarts : GoodIn wsX9_isGluedPlace wsX9_gluedStarts := goodIn_r _ [5, 6, 7, 8, 9, 10, 11, 12, 13, 14, 15, 16, 4, 17, 22, 23, 24, 25, 26, 27, 28, 29, 30, 31, 32, 33, 34, 35, 36, 37, 38, 39] rfl (by decide +kernel)
set_option maxRecDepth 20000 in
theorem gX9_isGluedPlace_X9_gluedStarts : GoodIn wsX9_isGluedPlace (wsV RX9 333 RX9 yX9_gluedStarts wsX9_gluedStarts) := goodIn_app (goodIn_r _ [1, 2, 3, 4] rfl (by decide +kernel)) ggX9_isGluedPlace_X9_gluedStarts
theorem dX9_isGluedPlace_2 : decode cX9_isGluedPlace 2 = .ok (.invokevirtual 333, 3) := by decide +kernel
theorem dX9_isGluedPlace_5 : decode cX9_isGluedPlace 5 = .ok (.iload_n 1, 1) := by decide +kernel
set_option maxRecDepth 20000 in
theorem ggX9_isGluedPlace_X1_holds : GoodIn wsX9_isGluedPlace wsX1_holds := goodIn_r _ [21] rfl (by decide +kernel)
set_option maxRecDepth 20000 in
theorem gX9_isGluedPlace_X1_holds : GoodIn wsX9_isGluedPlace (va_wsS RX9 66 yX1_holds wsX1_holds) := goodIn_app (goodIn_r _ [18, 19, 20] rfl (by decide +kernel)) ggX9_isGluedPlace_X1_holds
theorem dX9_isGluedPlace_6 : decode cX9_isGluedPlace 6 = .ok (.invokestatic 66, 3) := by decide +kernel
theorem dX9_isGluedPlace_9 : decode cX9_isGluedPlace 9 = .ok (.ireturn, 1) := by decide +kernel
set_option maxHeartbeats 4000000 in
set_option maxRecDepth 100000 in
theorem t_X9_isGluedPlace (l : Launch) (D : va_G) (cy : Nat → ClassId) (a : Nat → Nat) (sz : Nat) (J : Nat → Int64) (I : Nat → Int32) (O : Nat → Option Nat) (R : Nat → Nat → Int32) (RO : Nat → Nat → Option Nat) (LL : va_W) (Y : va_W) (x0 : Int32) (x1 : Bool) (hM : CI a Y I O RO) : Met l yX9_isGluedPlace wsX9_isGluedPlace ({ frames := 3, cells := 0, slots := 0, locals := 65 }) (va_Pc [.ref (a 0), .int x0, .int (bI x1)] (PW D cy sz (CT cy a J I O R RO (LL ++ Y)))) (vp_Si (fun r => ∃ b, r = bI b)) 0 0 (fun _ => False) := by
  refine Met.ofW (cc := cX9_isGluedPlace) (maxL := 3) (ret := (some .boolean)) (by decide) rfl ?_
  intro p e s m args below meth c s₁ B hml hv
  obtain ⟨rfl, rfl, hP, hK, hN, hD0⟩ := hv
  have hx := B.exec
  have hb := B.bytes
  have hr := B.returns
  have hts := atoms_spec (ws := wsX9_isGluedPlace) B.pre
  have hown : s.vm.findClass RX9 = some m.cls := findClass_of_methodNamed B.named
  have hlocks := B.notSynchronized
  have hD := hD0
  have hl := lv_entry ([.ref (a 0), .int x0, .int (bI x1)]) (n := 3) (Nat.le_of_ble_eq_true rfl)
  rw [lg_entry_eq]
  generalize (lg_sl ([.ref (a 0), .int x0, .int (bI x1)]) ++ List.replicate (3 - (lg_sl ([.ref (a 0), .int x0, .int (bI x1)])).length) Slot.unset).toArray = ls at hl ⊢
  have hl : lv_has ls 3 [(0, .ref (a 0)), (1, .int x0), (2, .int (bI x1))] := hl
  have hRO0 := hM.2.2.2.2.2.2.2.2.1
  have hRO1 := hM.2.2.2.2.2.2.2.2.2.1
  have hRO2 := hM.2.2.2.2.2.2.2.2.2.2.1
  have hRO3 := hM.2.2.2.2.2.2.2.2.2.2.2
  refine lv_aload_n hx hb dX9_isGluedPlace_0 rfl (lv_at hl 0 rfl) ?_
  refine lv_iload_n hx hb dX9_isGluedPlace_1 rfl (lv_at hl 2 rfl) ?_
  refine kRa_l (As := [.int (bI x1)]) (rest := []) (q0 := 0) ⟨hx, hb, hml, hown, hts⟩ (t_X9_gluedStarts l D cy a _ J I O R RO LL Y x1  ⟨hM.1, hM.2.1, hM.2.2.1, hM.2.2.2.1, hM.2.2.2.2.1, hM.2.2.2.2.2.1, hM.2.2.2.2.2.2.1, hM.2.2.2.2.2.2.2.1, hRO0, hRO1, hRO2, hRO3⟩) (cwV 1 hts gX9_isGluedPlace_X9_gluedStarts rfl rfl rfl (by decide +kernel) ⟨Nat.le_of_ble_eq_true rfl, Nat.le_of_ble_eq_true rfl⟩) hK hN hP hD rfl rfl rfl hl.1 rfl (Nat.le_of_ble_eq_true rfl) dX9_isGluedPlace_2 ⟨Nat.le_of_ble_eq_true rfl, Nat.le_of_ble_eq_true rfl⟩ (fun r_1 hr_2 => ?_)
  refine lv_iload_n hx hb dX9_isGluedPlace_5 rfl (lv_at hl 1 rfl) ?_
  refine kS_i (As := [.long r_1, .int x0]) (rest := []) ⟨hx, hb, hml, hown, hts⟩ (c_X1_holds l r_1 x0) (va_cwS 2 hts gX9_isGluedPlace_X1_holds rfl rfl rfl (by decide +kernel) ⟨Nat.le_of_ble_eq_true rfl, Nat.le_of_ble_eq_true rfl⟩) rfl hl.1 rfl (Nat.le_of_ble_eq_true rfl) dX9_isGluedPlace_6 ⟨Nat.le_of_ble_eq_true rfl, Nat.le_of_ble_eq_true rfl⟩ ?_
  exact aret_z hx hb hr hlocks (bI_nar (g_holds r_1 x0)) ⟨(g_holds r_1 x0), rfl⟩ dX9_isGluedPlace_9
theorem dX9_stoneOf_5 : decode cX9_stoneOf 5 = .ok (.aload_n 2, 1) := by decide +kernel
theorem dX9_stoneOf_6 : decode cX9_stoneOf 6 = .ok (.ifnull 21, 3) := by decide +kernel
theorem dX9_stoneOf_27 : decode cX9_stoneOf 27 = .ok (.aconst_null, 1) := by decide +kernel
theorem dX9_stoneOf_28 : decode cX9_stoneOf 28 = .ok (.areturn, 1) := by decide +kernel
theorem dX9_stoneOf_9 : decode cX9_stoneOf 9 = .ok (.aload_n 2, 1) := by decide +kernel
theorem dX9_stoneOf_10 : decode cX9_stoneOf 10 = .ok (.getfield 152, 3) := by decide +kernel
theorem dX9_stoneOf_13 : decode cX9_stoneOf 13 = .ok (.iload_n 1, 1) := by decide +kernel
theorem dX9_stoneOf_14 : decode cX9_stoneOf 14 = .ok (.if_icmp .ne 5, 3) := by decide +kernel
theorem dX9_stoneOf_19 : decode cX9_stoneOf 19 = .ok (.aload_n 2, 1) := by decide +kernel
theorem dX9_stoneOf_20 : decode cX9_stoneOf 20 = .ok (.getfield 138, 3) := by decide +kernel
theorem dX9_stoneOf_23 : decode cX9_stoneOf 23 = .ok (.astore_n 2, 1) := by decide +kernel
theorem dX9_stoneOf_24 : decode cX9_stoneOf 24 = .ok (.goto (-19), 3) := by decide +kernel
theorem dX9_stoneOf_17 : decode cX9_stoneOf 17 = .ok (.aload_n 2, 1) := by decide +kernel
theorem dX9_stoneOf_18 : decode cX9_stoneOf 18 = .ok (.areturn, 1) := by decide +kernel
theorem dX9_stoneOf_0 : decode cX9_stoneOf 0 = .ok (.aload_n 0, 1) := by decide +kernel
theorem dX9_stoneOf_1 : decode cX9_stoneOf 1 = .ok (.getfield 106, 3) := by decide +kernel
theorem dX9_stoneOf_4 : decode cX9_stoneOf 4 = .ok (.astore_n 2, 1) := by decide +kernel
set_option maxRecDepth 20000 in
theorem ihX9_stoneOf_7 : ∀ w ∈ u_ws RX7 TX7 7, w ∈ wsX9_stoneOf := fun _ h => List.mem_cons_of_mem _ (List.mem_append_right _ h)
set_option maxRecDepth 20000 in
theorem ihX9_stoneOf_9 : ∀ w ∈ u_ws RX9 TX9 11, w ∈ wsX9_stoneOf := fun _ h => List.mem_cons_of_mem _ (List.mem_append_left _ (List.mem_append_right _ h))
set_option maxHeartbeats 4000000 in
set_option maxRecDepth 100000 in
theorem t_X9_stoneOf (l : Launch) (D : va_G) (cy : Nat → ClassId) (a : Nat → Nat) (sz : Nat) (J : Nat → Int64) (I : Nat → Int32) (O : Nat → Option Nat) (R : Nat → Nat → Int32) (RO : Nat → Nat → Option Nat) (LL : va_W) (Y : va_W) (x0 : Int32) (hM : CI a Y I O RO) : Met l yX9_stoneOf wsX9_stoneOf ({ frames := 0, cells := 0, slots := 0, locals := 0 }) (va_Pc [.ref (a 0), .int x0] (PW D cy sz (CT cy a J I O R RO (LL ++ Y)))) (va_Sq (fun r => stO Y r)) 0 0 (fun _ => False) := by
  refine Met.ofW (cc := cX9_stoneOf) (maxL := 3) (ret := (some (.object "ParquetLayer$Stone"))) (by decide) rfl ?_
  intro p e s m args below meth c s₁ B hml hv
  obtain ⟨rfl, rfl, hP, hK, hN, hD0⟩ := hv
  have hx := B.exec
  have hb := B.bytes
  have hr := B.returns
  have hts := atoms_spec (ws := wsX9_stoneOf) B.pre
  have hown : s.vm.findClass RX9 = some m.cls := findClass_of_methodNamed B.named
  have hlocks := B.notSynchronized
  have hw0 := hts (.fieldLink RX9 152 "ParquetLayer$Stone" "number" "I") (by decide +kernel)
  have hw1 := hts (.fieldLink RX9 138 "ParquetLayer$Stone" "below" "LParquetLayer$Stone;") (by decide +kernel)
  have hw2 := hts (.fieldLink RX9 106 "ParquetLayer" "latest" "LParquetLayer$Stone;") (by decide +kernel)
  have hi7 := ihX9_stoneOf_7
  have hi9 := ihX9_stoneOf_9
  have hD := hD0
  have hl := lv_entry ([.ref (a 0), .int x0]) (n := 3) (Nat.le_of_ble_eq_true rfl)
  rw [lg_entry_eq]
  generalize (lg_sl ([.ref (a 0), .int x0]) ++ List.replicate (3 - (lg_sl ([.ref (a 0), .int x0])).length) Slot.unset).toArray = ls at hl ⊢
  have hl : lv_has ls 3 [(0, .ref (a 0)), (1, .int x0)] := hl
  have hRO0 := hM.2.2.2.2.2.2.2.2.1
  have hRO1 := hM.2.2.2.2.2.2.2.2.2.1
  have hRO2 := hM.2.2.2.2.2.2.2.2.2.2.1
  have hRO3 := hM.2.2.2.2.2.2.2.2.2.2.2
  obtain ⟨n0, hn0⟩ := hM.2.1
  have lp5 : ∀ (n5 : Nat), ∀ (o9 : Option Nat) (n9 : Nat), (chain Y n9 o9) → n9 < n5 → ∀ (ls : Array Slot), lv_has ls 3 [(0, .ref (a 0)), (1, .int x0), (2, va_rf o9)] → W p l e (headSpec wsX9_stoneOf ({ frames := 0, cells := 0, slots := 0, locals := 0 })).room s m ([.ref (a 0), .int x0] : List Value).toArray below meth c s.heap [] 0 0 (MQ below (va_Sq (fun r => stO Y r)) ([.ref (a 0), .int x0] : List Value).toArray s 0 0 (fun _ => False)) (F0 m 5 ls []) := by
    intro n5
    induction n5 with
    | zero => intro o9 n9 hch_5 hn; exact absurd hn (Nat.not_lt_zero _)
    | succ n5 ih5 =>
      intro o9 n9 hch_5 hn5 ls hl
      refine lv_aload_nO hx hb dX9_stoneOf_5 rfl (lv_at hl 2 rfl) ?_
      refine lv_ifnullO (tgt := 27) hx hb dX9_stoneOf_6 (by decide) (fun c_1 => ?_) (fun c_1 => ?_)
      · subst c_1
        refine lv_null hx hb dX9_stoneOf_27 ?_
        exact pret_q (o := none) hx hb hr hlocks (Or.inl ⟨_, rfl⟩) (Or.inl rfl) dX9_stoneOf_28
      · obtain ⟨n_5, b_2, o_6, v_7, v_8, z_9, v_10, v_11, e_13, e_4, hm_3, hc_12⟩ := chN_some hch_5 c_1
        subst e_13
        subst e_4
        refine lv_aload_n hx hb dX9_stoneOf_9 rfl (lv_at hl 2 rfl) ?_
        obtain ⟨k_14, hk_15⟩ : ∃ k : Nat, (CT cy a J I O R RO (LL ++ Y))[k]? = some (b_2, .inr (6, [va_rf o_6, .int (nI n_5), .int v_7, .int v_8, .int (bI z_9), .int v_10, .long v_11])) := pixT hm_3
        refine va_get (D := D) (ci := 6) (v := .int (nI n_5)) (C := RX7) (T := TX7) (N := 7) hx hb hts hi7 hown hK hP k_14 hk_15 rfl 1 (by decide) hw0 (fun _ h9 => h9) rfl dX9_stoneOf_10 ?_
        refine lv_iload_n hx hb dX9_stoneOf_13 rfl (lv_at hl 1 rfl) ?_
        refine lv_icmp_ne (tgt := 19) hx hb dX9_stoneOf_14 (by decide) (fun c_16 => ?_) (fun c_16 => ?_)
        · refine lv_aload_n hx hb dX9_stoneOf_19 rfl (lv_at hl 2 rfl) ?_
          obtain ⟨k_17, hk_18⟩ : ∃ k : Nat, (CT cy a J I O R RO (LL ++ Y))[k]? = some (b_2, .inr (6, [va_rf o_6, .int (nI n_5), .int v_7, .int v_8, .int (bI z_9), .int v_10, .long v_11])) := pixT hm_3
          refine va_get (D := D) (ci := 6) (v := va_rf o_6) (C := RX7) (T := TX7) (N := 7) hx hb hts hi7 hown hK hP k_17 hk_18 rfl 0 (by decide) hw1 (fun _ h9 => h9) rfl dX9_stoneOf_20 ?_
          refine lv_astore_nO (lv' := [(2, va_rf o_6), (0, .ref (a 0)), (1, .int x0)]) hx hb dX9_stoneOf_23 rfl hl (by decide) rfl (fun ls hl => ?_)
          refine lv_goto (tgt := 5) hx hb dX9_stoneOf_24 (by decide) ?_
          exact ih5 o_6 n_5 hc_12 (Nat.lt_of_succ_lt_succ hn5) ls (lv_sub hl [1, 2, 0] rfl)
        · refine lv_aload_n hx hb dX9_stoneOf_17 rfl (lv_at hl 2 rfl) ?_
          exact pret_q (o := some b_2) hx hb hr hlocks (Or.inl ⟨_, rfl⟩) (Or.inr ⟨_, _, _, _, _, _, _, _, rfl, hm_3⟩) dX9_stoneOf_18
  refine lv_aload_n hx hb dX9_stoneOf_0 rfl (lv_at hl 0 rfl) ?_
  refine va_get (D := D) (ci := 8) (v := va_rf (O 7)) (C := RX9) (T := TX9) (N := 11) hx hb hts hi9 hown hK hP 0 rfl rfl 7 (by decide) hw2 (fun _ h9 => h9) rfl dX9_stoneOf_1 ?_
  refine lv_astore_nO (lv' := [(2, va_rf (O 7)), (0, .ref (a 0)), (1, .int x0)]) hx hb dX9_stoneOf_4 rfl hl (by decide) rfl (fun ls hl => ?_)
  exact lp5 _ (O 7) n0 hn0 (Nat.lt_succ_self _) ls (lv_sub hl [1, 2, 0] rfl)
theorem dX9_isPlace_0 : decode cX9_isPlace 0 = .ok (.iload_n 1, 1) := by decide +kernel
theorem dX9_isPlace_1 : decode cX9_isPlace 1 = .ok (.iload_n 2, 1) := by decide +kernel
set_option maxRecDepth 20000 in
theorem ggX9_isPlace_X1_place : GoodIn wsX9_isPlace wsX1_place := goodIn_r _ [6] rfl (by decide +kernel)
set_option maxRecDepth 20000 in
theorem gX9_isPlace_X1_place : GoodIn wsX9_isPlace (va_wsS RX9 182 yX1_place wsX1_place) := goodIn_app (goodIn_r _ [3, 4, 5] rfl (by decide +kernel)) ggX9_isPlace_X1_place
theorem dX9_isPlace_2 : decode cX9_isPlace 2 = .ok (.invokestatic 182, 3) := by decide +kernel
theorem dX9_isPlace_5 : decode cX9_isPlace 5 = .ok (.lstore_n 3, 1) := by decide +kernel
theorem dX9_isPlace_6 : decode cX9_isPlace 6 = .ok (.lload_n 3, 1) := by decide +kernel
theorem dX9_isPlace_7 : decode cX9_isPlace 7 = .ok (.lconst 0, 1) := by decide +kernel
theorem dX9_isPlace_8 : decode cX9_isPlace 8 = .ok (.lcmp, 1) := by decide +kernel
theorem dX9_isPlace_9 : decode cX9_isPlace 9 = .ok (.ifCond .eq 22, 3) := by decide +kernel
theorem dX9_isPlace_31 : decode cX9_isPlace 31 = .ok (.iconst 0, 1) := by decide +kernel
theorem dX9_isPlace_32 : decode cX9_isPlace 32 = .ok (.ireturn, 1) := by decide +kernel
theorem dX9_isPlace_12 : decode cX9_isPlace 12 = .ok (.lload_n 3, 1) := by decide +kernel
theorem dX9_isPlace_13 : decode cX9_isPlace 13 = .ok (.aload_n 0, 1) := by decide +kernel
theorem dX9_isPlace_14 : decode cX9_isPlace 14 = .ok (.getfield 48, 3) := by decide +kernel
theorem dX9_isPlace_17 : decode cX9_isPlace 17 = .ok (.ldc2_w 54, 3) := by decide +kernel
theorem dX9_isPlace_20 : decode cX9_isPlace 20 = .ok (.lxor, 1) := by decide +kernel
theorem dX9_isPlace_21 : decode cX9_isPlace 21 = .ok (.land, 1) := by decide +kernel
theorem dX9_isPlace_22 : decode cX9_isPlace 22 = .ok (.lconst 0, 1) := by decide +kernel
theorem dX9_isPlace_23 : decode cX9_isPlace 23 = .ok (.lcmp, 1) := by decide +kernel
theorem dX9_isPlace_24 : decode cX9_isPlace 24 = .ok (.ifCond .ne 7, 3) := by decide +kernel
theorem dX9_isPlace_27 : decode cX9_isPlace 27 = .ok (.iconst 1, 1) := by decide +kernel
theorem dX9_isPlace_28 : decode cX9_isPlace 28 = .ok (.goto 4, 3) := by decide +kernel
set_option maxRecDepth 20000 in
theorem ihX9_isPlace_9 : ∀ w ∈ u_ws RX9 TX9 11, w ∈ wsX9_isPlace := fun _ h => List.mem_cons_of_mem _ (List.mem_append_right _ h)
set_option maxHeartbeats 4000000 in
set_option maxRecDepth 100000 in
theorem t_X9_isPlace (l : Launch) (D : va_G) (cy : Nat → ClassId) (a : Nat → Nat) (sz : Nat) (J : Nat → Int64) (I : Nat → Int32) (O : Nat → Option Nat) (R : Nat → Nat → Int32) (RO : Nat → Nat → Option Nat) (LL : va_W) (Y : va_W) (x0 : Int32) (x1 : Bool) : Met l yX9_isPlace wsX9_isPlace ({ frames := 1, cells := 0, slots := 0, locals := 21 }) (va_Pc [.ref (a 0), .int x0, .int (bI x1)] (PW D cy sz (CT cy a J I O R RO (LL ++ Y)))) (vp_Si (fun r => ∃ b, r = bI b)) 0 0 (fun _ => False) := by
  refine Met.ofW (cc := cX9_isPlace) (maxL := 5) (ret := (some .boolean)) (by decide) rfl ?_
  intro p e s m args below meth c s₁ B hml hv
  obtain ⟨rfl, rfl, hP, hK, hN, hD0⟩ := hv
  have hx := B.exec
  have hb := B.bytes
  have hr := B.returns
  have hts := atoms_spec (ws := wsX9_isPlace) B.pre
  have hown : s.vm.findClass RX9 = some m.cls := findClass_of_methodNamed B.named
  have hlocks := B.notSynchronized
  have hw0 := hts (.fieldLink RX9 48 "ParquetLayer" "fields" "J") (by decide +kernel)
  have hw1 := hts (.constantLong RX9 54 (-1)) (by decide +kernel)
  have hi9 := ihX9_isPlace_9
  have hD := hD0
  have hl := lv_entry ([.ref (a 0), .int x0, .int (bI x1)]) (n := 5) (Nat.le_of_ble_eq_true rfl)
  rw [lg_entry_eq]
  generalize (lg_sl ([.ref (a 0), .int x0, .int (bI x1)]) ++ List.replicate (5 - (lg_sl ([.ref (a 0), .int x0, .int (bI x1)])).length) Slot.unset).toArray = ls at hl ⊢
  have hl : lv_has ls 5 [(0, .ref (a 0)), (1, .int x0), (2, .int (bI x1))] := hl
  refine lv_iload_n hx hb dX9_isPlace_0 rfl (lv_at hl 1 rfl) ?_
  refine lv_iload_n hx hb dX9_isPlace_1 rfl (lv_at hl 2 rfl) ?_
  refine kS_l (As := [.int x0, .int (bI x1)]) (rest := []) ⟨hx, hb, hml, hown, hts⟩ (c_X1_place l x0 x1) (va_cwS 2 hts gX9_isPlace_X1_place rfl rfl rfl (by decide +kernel) ⟨Nat.le_of_ble_eq_true rfl, Nat.le_of_ble_eq_true rfl⟩) rfl hl.1 rfl (Nat.le_of_ble_eq_true rfl) dX9_isPlace_2 ⟨Nat.le_of_ble_eq_true rfl, Nat.le_of_ble_eq_true rfl⟩ ?_
  refine lv_lstore_n (lv' := [(3, .long (g_place x0 x1)), (0, .ref (a 0)), (1, .int x0), (2, .int (bI x1))]) hx hb dX9_isPlace_5 rfl hl (by decide) rfl (fun ls hl => ?_)
  refine lv_lload_n hx hb dX9_isPlace_6 rfl (lv_at hl 0 rfl) ?_
  refine lv_lconst (v := 0) hx hb dX9_isPlace_7 (by decide) ?_
  refine W.lcmp hx hb dX9_isPlace_8 ?_
  refine lv_if_eq (tgt := 31) hx hb dX9_isPlace_9 (by decide) (fun c_1 => ?_) (fun c_1 => ?_)
  · replace c_1 := (lg_cmp_eq _ _).mp c_1
    refine lv_iconst (v := 0) hx hb dX9_isPlace_31 (by decide) ?_
    exact aret_z hx hb hr hlocks rfl ⟨false, rfl⟩ dX9_isPlace_32
  · replace c_1 := fun z => c_1 ((lg_cmp_eq _ _).mpr z)
    refine lv_lload_n hx hb dX9_isPlace_12 rfl (lv_at hl 0 rfl) ?_
    refine lv_aload_n hx hb dX9_isPlace_13 rfl (lv_at hl 1 rfl) ?_
    refine va_get (D := D) (ci := 8) (v := .long (J 6)) (C := RX9) (T := TX9) (N := 11) hx hb hts hi9 hown hK hP 0 rfl rfl 6 (by decide) hw0 (fun _ h9 => h9) rfl dX9_isPlace_14 ?_
    refine lv_ldc2 (v := (-1)) hx hb hown hw1 dX9_isPlace_17 ?_
    refine lv_lxor hx hb dX9_isPlace_20 ?_
    refine lv_land hx hb dX9_isPlace_21 ?_
    refine lv_lconst (v := 0) hx hb dX9_isPlace_22 (by decide) ?_
    refine W.lcmp hx hb dX9_isPlace_23 ?_
    refine lv_if_ne (tgt := 31) hx hb dX9_isPlace_24 (by decide) (fun c_2 => ?_) (fun c_2 => ?_)
    · replace c_2 := fun z => c_2 ((lg_cmp_eq _ _).mpr z)
      refine lv_iconst (v := 0) hx hb dX9_isPlace_31 (by decide) ?_
      exact aret_z hx hb hr hlocks rfl ⟨false, rfl⟩ dX9_isPlace_32
    · replace c_2 := (lg_cmp_eq _ _).mp c_2
      refine lv_iconst (v := 1) hx hb dX9_isPlace_27 (by decide) ?_
      refine lv_goto (tgt := 32) hx hb dX9_isPlace_28 (by decide) ?_
      exact aret_z hx hb hr hlocks rfl ⟨true, rfl⟩ dX9_isPlace_32
theorem dX9_isWhole_0 : decode cX9_isWhole 0 = .ok (.aload_n 0, 1) := by decide +kernel
set_option maxRecDepth 20000 in
theorem ggX9_isWhole_X9_gluedFields : GoodIn wsX9_isWhole wsX9_gluedFields := goodIn_r _ [6, 7, 8, 9, 10, 11, 12, 13, 14, 15, 16, 5, 17, 38, 39, 40, 41, 42, 43, 44, 45, 46, 47, 48, 49, 50, 51, 52, 53, 54, 55] rfl (by decide +kernel)
set_option maxRecDepth 20000 in
theorem gX9_isWhole_X9_gluedFields : GoodIn wsX9_isWhole (wsV RX9 119 RX9 yX9_gluedFields wsX9_gluedFields) := goodIn_app (goodIn_r _ [2, 3, 4, 5] rfl (by decide +kernel)) ggX9_isWhole_X9_gluedFields
theorem dX9_isWhole_1 : decode cX9_isWhole 1 = .ok (.invokevirtual 119, 3) := by decide +kernel
theorem dX9_isWhole_4 : decode cX9_isWhole 4 = .ok (.lconst 0, 1) := by decide +kernel
theorem dX9_isWhole_5 : decode cX9_isWhole 5 = .ok (.lcmp, 1) := by decide +kernel
theorem dX9_isWhole_6 : decode cX9_isWhole 6 = .ok (.ifCond .ne 17, 3) := by decide +kernel
theorem dX9_isWhole_23 : decode cX9_isWhole 23 = .ok (.iconst 0, 1) := by decide +kernel
theorem dX9_isWhole_24 : decode cX9_isWhole 24 = .ok (.ireturn, 1) := by decide +kernel
theorem dX9_isWhole_9 : decode cX9_isWhole 9 = .ok (.aload_n 0, 1) := by decide +kernel
theorem dX9_isWhole_10 : decode cX9_isWhole 10 = .ok (.getfield 48, 3) := by decide +kernel
set_option maxRecDepth 20000 in
theorem ggX9_isWhole_X1_isDisc : GoodIn wsX9_isWhole wsX1_isDisc := goodIn_r _ [21, 22, 23, 24, 25, 20, 26, 27, 28, 29, 30, 31, 32, 33, 34, 35, 36, 37] rfl (by decide +kernel)
set_option maxRecDepth 20000 in
theorem gX9_isWhole_X1_isDisc : GoodIn wsX9_isWhole (va_wsS RX9 326 yX1_isDisc wsX1_isDisc) := goodIn_app (goodIn_r _ [18, 19, 20] rfl (by decide +kernel)) ggX9_isWhole_X1_isDisc
theorem dX9_isWhole_13 : decode cX9_isWhole 13 = .ok (.invokestatic 326, 3) := by decide +kernel
theorem dX9_isWhole_16 : decode cX9_isWhole 16 = .ok (.ifCond .eq 7, 3) := by decide +kernel
theorem dX9_isWhole_19 : decode cX9_isWhole 19 = .ok (.iconst 1, 1) := by decide +kernel
theorem dX9_isWhole_20 : decode cX9_isWhole 20 = .ok (.goto 4, 3) := by decide +kernel
set_option maxRecDepth 20000 in
theorem ihX9_isWhole_9 : ∀ w ∈ u_ws RX9 TX9 11, w ∈ wsX9_isWhole := fun _ h => List.mem_cons_of_mem _ (List.mem_append_left _ (List.mem_append_right _ h))
set_option maxHeartbeats 4000000 in
set_option maxRecDepth 100000 in
theorem t_X9_isWhole (l : Launch) (D : va_G) (cy : Nat → ClassId) (a : Nat → Nat) (sz : Nat) (J : Nat → Int64) (I : Nat → Int32) (O : Nat → Option Nat) (R : Nat → Nat → Int32) (RO : Nat → Nat → Option Nat) (LL : va_W) (Y : va_W)  (hM : CI a Y I O RO) : Met l yX9_isWhole wsX9_isWhole ({ frames := 4, cells := 0, slots := 0, locals := 95 }) (va_Pc [.ref (a 0)] (PW D cy sz (CT cy a J I O R RO (LL ++ Y)))) (vp_Si (fun r => ∃ b, r = bI b)) 0 0 (fun _ => False) := by
  refine Met.ofW (cc := cX9_isWhole) (maxL := 1) (ret := (some .boolean)) (by decide) rfl ?_
  intro p e s m args below meth c s₁ B hml hv
  obtain ⟨rfl, rfl, hP, hK, hN, hD0⟩ := hv
  have hx := B.exec
  have hb := B.bytes
  have hr := B.returns
  have hts := atoms_spec (ws := wsX9_isWhole) B.pre
  have hown : s.vm.findClass RX9 = some m.cls := findClass_of_methodNamed B.named
  have hlocks := B.notSynchronized
  have hw0 := hts (.fieldLink RX9 48 "ParquetLayer" "fields" "J") (by decide +kernel)
  have hi9 := ihX9_isWhole_9
  have hD := hD0
  have hl := lv_entry ([.ref (a 0)]) (n := 1) (Nat.le_of_ble_eq_true rfl)
  rw [lg_entry_eq]
  generalize (lg_sl ([.ref (a 0)]) ++ List.replicate (1 - (lg_sl ([.ref (a 0)])).length) Slot.unset).toArray = ls at hl ⊢
  have hl : lv_has ls 1 [(0, .ref (a 0))] := hl
  have hRO0 := hM.2.2.2.2.2.2.2.2.1
  have hRO1 := hM.2.2.2.2.2.2.2.2.2.1
  have hRO2 := hM.2.2.2.2.2.2.2.2.2.2.1
  have hRO3 := hM.2.2.2.2.2.2.2.2.2.2.2
  refine lv_aload_n hx hb dX9_isWhole_0 rfl (lv_at hl 0 rfl) ?_
  refine kRa_l (As := []) (rest := []) (q0 := 0) ⟨hx, hb, hml, hown, hts⟩ (t_X9_gluedFields l D cy a _ J I O R RO LL Y   ⟨hM.1, hM.2.1, hM.2.2.1, hM.2.2.2.1, hM.2.2.2.2.1, hM.2.2.2.2.2.1, hM.2.2.2.2.2.2.1, hM.2.2.2.2.2.2.2.1, hRO0, hRO1, hRO2, hRO3⟩) (cwV 0 hts gX9_isWhole_X9_gluedFields rfl rfl rfl (by decide +kernel) ⟨Nat.le_of_ble_eq_true rfl, Nat.le_of_ble_eq_true rfl⟩) hK hN hP hD rfl rfl rfl hl.1 rfl (Nat.le_of_ble_eq_true rfl) dX9_isWhole_1 ⟨Nat.le_of_ble_eq_true rfl, Nat.le_of_ble_eq_true rfl⟩ (fun r_1 hr_2 => ?_)
  refine lv_lconst (v := 0) hx hb dX9_isWhole_4 (by decide) ?_
  refine W.lcmp hx hb dX9_isWhole_5 ?_
  refine lv_if_ne (tgt := 23) hx hb dX9_isWhole_6 (by decide) (fun c_3 => ?_) (fun c_3 => ?_)
  · replace c_3 := fun z => c_3 ((lg_cmp_eq _ _).mpr z)
    refine lv_iconst (v := 0) hx hb dX9_isWhole_23 (by decide) ?_
    exact aret_z hx hb hr hlocks rfl ⟨false, rfl⟩ dX9_isWhole_24
  · replace c_3 := (lg_cmp_eq _ _).mp c_3
    refine lv_aload_n hx hb dX9_isWhole_9 rfl (lv_at hl 0 rfl) ?_
    refine va_get (D := D) (ci := 8) (v := .long (J 6)) (C := RX9) (T := TX9) (N := 11) hx hb hts hi9 hown hK hP 0 rfl rfl 6 (by decide) hw0 (fun _ h9 => h9) rfl dX9_isWhole_10 ?_
    refine kSa_i (As := [.long (J 6)]) (rest := []) ⟨hx, hb, hml, hown, hts⟩ (t_X1_isDisc l (J 6) ) (va_cwS 1 hts gX9_isWhole_X1_isDisc rfl rfl rfl (by decide +kernel) ⟨Nat.le_of_ble_eq_true rfl, Nat.le_of_ble_eq_true rfl⟩) rfl hl.1 rfl (Nat.le_of_ble_eq_true rfl) dX9_isWhole_13 ⟨Nat.le_of_ble_eq_true rfl, Nat.le_of_ble_eq_true rfl⟩ (fun r_4 hr_5 => ?_)
    obtain ⟨zb_6, rfl⟩ := hr_5
    refine lv_if_eq (tgt := 23) hx hb dX9_isWhole_16 (by decide) (fun c_7 => ?_) (fun c_7 => ?_)
    · replace c_7 := bI_f c_7
      refine lv_iconst (v := 0) hx hb dX9_isWhole_23 (by decide) ?_
      exact aret_z hx hb hr hlocks rfl ⟨false, rfl⟩ dX9_isWhole_24
    · replace c_7 := bI_t c_7
      refine lv_iconst (v := 1) hx hb dX9_isWhole_19 (by decide) ?_
      refine lv_goto (tgt := 24) hx hb dX9_isWhole_20 (by decide) ?_
      exact aret_z hx hb hr hlocks rfl ⟨true, rfl⟩ dX9_isWhole_24
