theorem dX9_keepPast_11 : decode cX9_keepPast 11 = .ok (.iload_n 1, 1) := by decide +kernel
theorem dX9_keepPast_12 : decode cX9_keepPast 12 = .ok (.bipush 20, 2) := by decide +kernel
theorem dX9_keepPast_14 : decode cX9_keepPast 14 = .ok (.if_icmp .ge 23, 3) := by decide +kernel
theorem dX9_keepPast_37 : decode cX9_keepPast 37 = .ok (.aload_n 0, 1) := by decide +kernel
theorem dX9_keepPast_38 : decode cX9_keepPast 38 = .ok (.dup, 1) := by decide +kernel
theorem dX9_keepPast_39 : decode cX9_keepPast 39 = .ok (.getfield 314, 3) := by decide +kernel
theorem dX9_keepPast_42 : decode cX9_keepPast 42 = .ok (.iconst 1, 1) := by decide +kernel
theorem dX9_keepPast_43 : decode cX9_keepPast 43 = .ok (.isub, 1) := by decide +kernel
theorem dX9_keepPast_44 : decode cX9_keepPast 44 = .ok (.putfield 314, 3) := by decide +kernel
theorem dX9_keepPast_47 : decode cX9_keepPast 47 = .ok (.aload_n 0, 1) := by decide +kernel
theorem dX9_keepPast_48 : decode cX9_keepPast 48 = .ok (.getfield 17, 3) := by decide +kernel
theorem dX9_keepPast_51 : decode cX9_keepPast 51 = .ok (.aload_n 0, 1) := by decide +kernel
theorem dX9_keepPast_52 : decode cX9_keepPast 52 = .ok (.getfield 314, 3) := by decide +kernel
theorem dX9_keepPast_55 : decode cX9_keepPast 55 = .ok (.new 15, 3) := by decide +kernel
theorem dX9_keepPast_58 : decode cX9_keepPast 58 = .ok (.dup, 1) := by decide +kernel
theorem dX9_keepPast_59 : decode cX9_keepPast 59 = .ok (.aload_n 0, 1) := by decide +kernel
theorem dX9_keepPast_60 : decode cX9_keepPast 60 = .ok (.getfield 48, 3) := by decide +kernel
theorem dX9_keepPast_63 : decode cX9_keepPast 63 = .ok (.aload_n 0, 1) := by decide +kernel
theorem dX9_keepPast_64 : decode cX9_keepPast 64 = .ok (.getfield 106, 3) := by decide +kernel
theorem dX9_keepPast_67 : decode cX9_keepPast 67 = .ok (.aload_n 0, 1) := by decide +kernel
theorem dX9_keepPast_68 : decode cX9_keepPast 68 = .ok (.getfield 133, 3) := by decide +kernel
set_option maxRecDepth 20000 in
theorem ggX9_keepPast_X5_init : GoodIn wsX9_keepPast wsX5_init := goodIn_r _ [11, 12, 13, 14, 15, 16, 17, 29, 30, 31] rfl (by decide +kernel)
set_option maxRecDepth 20000 in
theorem gX9_keepPast_X5_init : GoodIn wsX9_keepPast (wsX5_init) := ggX9_keepPast_X5_init
theorem dX9_keepPast_71 : decode cX9_keepPast 71 = .ok (.invokespecial 330, 3) := by decide +kernel
theorem dX9_keepPast_74 : decode cX9_keepPast 74 = .ok (.aastore, 1) := by decide +kernel
theorem dX9_keepPast_75 : decode cX9_keepPast 75 = .ok (.aload_n 0, 1) := by decide +kernel
theorem dX9_keepPast_76 : decode cX9_keepPast 76 = .ok (.dup, 1) := by decide +kernel
theorem dX9_keepPast_77 : decode cX9_keepPast 77 = .ok (.getfield 314, 3) := by decide +kernel
theorem dX9_keepPast_80 : decode cX9_keepPast 80 = .ok (.iconst 1, 1) := by decide +kernel
theorem dX9_keepPast_81 : decode cX9_keepPast 81 = .ok (.iadd, 1) := by decide +kernel
theorem dX9_keepPast_82 : decode cX9_keepPast 82 = .ok (.putfield 314, 3) := by decide +kernel
theorem dX9_keepPast_85 : decode cX9_keepPast 85 = .ok (.return_, 1) := by decide +kernel
theorem dX9_keepPast_17 : decode cX9_keepPast 17 = .ok (.aload_n 0, 1) := by decide +kernel
theorem dX9_keepPast_18 : decode cX9_keepPast 18 = .ok (.getfield 17, 3) := by decide +kernel
theorem dX9_keepPast_21 : decode cX9_keepPast 21 = .ok (.iload_n 1, 1) := by decide +kernel
theorem dX9_keepPast_22 : decode cX9_keepPast 22 = .ok (.iconst 1, 1) := by decide +kernel
theorem dX9_keepPast_23 : decode cX9_keepPast 23 = .ok (.isub, 1) := by decide +kernel
theorem dX9_keepPast_24 : decode cX9_keepPast 24 = .ok (.aload_n 0, 1) := by decide +kernel
theorem dX9_keepPast_25 : decode cX9_keepPast 25 = .ok (.getfield 17, 3) := by decide +kernel
theorem dX9_keepPast_28 : decode cX9_keepPast 28 = .ok (.iload_n 1, 1) := by decide +kernel
theorem dX9_keepPast_29 : decode cX9_keepPast 29 = .ok (.aaload, 1) := by decide +kernel
theorem dX9_keepPast_30 : decode cX9_keepPast 30 = .ok (.aastore, 1) := by decide +kernel
theorem dX9_keepPast_31 : decode cX9_keepPast 31 = .ok (.iinc 1 1, 3) := by decide +kernel
theorem dX9_keepPast_34 : decode cX9_keepPast 34 = .ok (.goto (-23), 3) := by decide +kernel
theorem dX9_keepPast_0 : decode cX9_keepPast 0 = .ok (.aload_n 0, 1) := by decide +kernel
theorem dX9_keepPast_1 : decode cX9_keepPast 1 = .ok (.getfield 314, 3) := by decide +kernel
theorem dX9_keepPast_4 : decode cX9_keepPast 4 = .ok (.bipush 20, 2) := by decide +kernel
theorem dX9_keepPast_6 : decode cX9_keepPast 6 = .ok (.if_icmp .ne 41, 3) := by decide +kernel
theorem dX9_keepPast_9 : decode cX9_keepPast 9 = .ok (.iconst 1, 1) := by decide +kernel
theorem dX9_keepPast_10 : decode cX9_keepPast 10 = .ok (.istore_n 1, 1) := by decide +kernel
set_option maxRecDepth 20000 in
theorem ihX9_keepPast_5 : ∀ w ∈ u_ws RX5 TX5 3, w ∈ wsX9_keepPast := fun _ h => List.mem_cons_of_mem _ (List.mem_append_right _ h)
set_option maxRecDepth 20000 in
theorem ihX9_keepPast_9 : ∀ w ∈ u_ws RX9 TX9 11, w ∈ wsX9_keepPast := fun _ h => List.mem_cons_of_mem _ (List.mem_append_left _ (List.mem_append_right _ h))
set_option maxHeartbeats 4000000 in
set_option maxRecDepth 100000 in
theorem x_X9_keepPast (l : Launch) (D : va_G) (cy : Nat → ClassId) (a : Nat → Nat) (sz : Nat) (J : Nat → Int64) (I : Nat → Int32) (O : Nat → Option Nat) (R : Nat → Nat → Int32) (RO : Nat → Nat → Option Nat) (LL : va_W) (Y : va_W)  (fl : Int64) (S : List Int32) (P : List PE) (hRA : RCf Y (J 6) (O 7) (I 9) (RO 2) fl S P) (hM : CI a Y I O RO) : Met l yX9_keepPast wsX9_keepPast ({ frames := 2, cells := 1, slots := 3, locals := 44 }) (va_Pc [.ref (a 0)] (PW D cy sz (CT cy a J I O R RO (LL ++ Y)))) (va_Qv (fun (u : TS) => ∃ (w0 : Int32), ∃ (w1 : Nat → Option Nat), ∃ (Y9 : va_W), ((vp_in w0 21) ∧ (∀ i, i < 20 → pasO Y9 (w1 i)) ∧ (∀ c, c ∈ Y → c ∈ Y9) ∧ (RCf Y9 (J 6) (O 7) w0 w1 fl S (aKeep fl S P))) ∧ u = (J, (va_up I 9 w0), O, R, (va_up RO 2 w1), LL, Y9)) (BW D (va_A (CT cy a J I O R RO (LL ++ Y)) sz) (CTu cy a)) (va_A (CT cy a J I O R RO (LL ++ Y)) sz)) 1 3 (va_A (CT cy a J I O R RO (LL ++ Y)) sz) := by
  refine Met.ofW (cc := cX9_keepPast) (maxL := 2) (ret := none) (by decide) rfl ?_
  intro p e s m args below meth c s₁ B hml hv
  obtain ⟨rfl, rfl, hP, hK, hN, hD0⟩ := hv
  have hx := B.exec
  have hb := B.bytes
  have hr := B.returns
  have hts := atoms_spec (ws := wsX9_keepPast) B.pre
  have hown : s.vm.findClass RX9 = some m.cls := findClass_of_methodNamed B.named
  have hlocks := B.notSynchronized
  have hw0 := hts (.fieldLink RX9 314 "ParquetLayer" "kept" "I") (by decide +kernel)
  have hw1 := hts (.fieldLink RX9 17 "ParquetLayer" "pasts" "[LParquetLayer$Past;") (by decide +kernel)
  have hw2 := hts (.classLink RX9 15 RX5) (by decide +kernel)
  have hw3 := hts (.instantiable RX5 3) (by decide +kernel)
  have hw4 := hts (.initialized RX5) (by decide +kernel)
  have hw5 := hts (.fieldLink RX9 48 "ParquetLayer" "fields" "J") (by decide +kernel)
  have hw6 := hts (.fieldLink RX9 106 "ParquetLayer" "latest" "LParquetLayer$Stone;") (by decide +kernel)
  have hw7 := hts (.fieldLink RX9 133 "ParquetLayer" "hand" "LParquetLayer$Laying;") (by decide +kernel)
  have hw8 := hts (.instanceMethod yX5_init) (by decide +kernel)
  have hw9 := hts (.methodLink RX9 330 yX5_init) (by decide +kernel)
  have hi5 := ihX9_keepPast_5
  have hi9 := ihX9_keepPast_9
  have hD := hD0.self (sz := s.heap.size)
  generalize hAe : va_A (CT cy a J I O R RO (LL ++ Y)) s.heap.size = A at hD ⊢
  have hA : ∀ q : Nat, s.heap.size ≤ q → A q := fun q h => by rw [← hAe]; exact Or.inr h
  have hS : va_S A s.heap s.heap [] := va_S.rf
  have hl := lv_entry ([.ref (a 0)]) (n := 2) (Nat.le_of_ble_eq_true rfl)
  rw [lg_entry_eq]
  generalize (lg_sl ([.ref (a 0)]) ++ List.replicate (2 - (lg_sl ([.ref (a 0)])).length) Slot.unset).toArray = ls at hl ⊢
  have hl : lv_has ls 2 [(0, .ref (a 0))] := hl
  have hRO0 := hM.2.2.2.2.2.2.2.2.1
  have hRO1 := hM.2.2.2.2.2.2.2.2.2.1
  have hRO2 := hM.2.2.2.2.2.2.2.2.2.2.1
  have hRO3 := hM.2.2.2.2.2.2.2.2.2.2.2
  have lp11 : ∀ (n11 : Nat), ∀ (k : Nat) (m0_11 : Int32) (m1_11 : Nat → Option Nat), (k ≤ 19) → (vp_in m0_11 21) → (∀ i, i < 20 → pasO Y (m1_11 i)) → (m0_11 = 20) → (I 9 = 20) → (shf 1 (RO 2) m1_11 k) → (19 - k) < n11 → ∀ (H : Heap) (locs : List Loc), va_P D vwCl (CT cy a J (va_up I 9 m0_11) O R (va_up RO 2 m1_11) (LL ++ Y)) H → va_D A (CT cy a J (va_up I 9 m0_11) O R (va_up RO 2 m1_11) (LL ++ Y)) → va_S A s.heap H locs → ∀ (ls : Array Slot), lv_has ls 2 [(0, .ref (a 0)), (1, .int (nI (k + 1)))] → W p l e (headSpec wsX9_keepPast ({ frames := 2, cells := 1, slots := 3, locals := 44 })).room s m ([.ref (a 0)] : List Value).toArray below meth c H locs 0 0 (MQ below (va_Qv (fun (u : TS) => ∃ (w0 : Int32), ∃ (w1 : Nat → Option Nat), ∃ (Y9 : va_W), ((vp_in w0 21) ∧ (∀ i, i < 20 → pasO Y9 (w1 i)) ∧ (∀ c, c ∈ Y → c ∈ Y9) ∧ (RCf Y9 (J 6) (O 7) w0 w1 fl S (aKeep fl S P))) ∧ u = (J, (va_up I 9 w0), O, R, (va_up RO 2 w1), LL, Y9)) (BW D A (CTu cy a)) A) ([.ref (a 0)] : List Value).toArray s 1 3 A) (F0 m 11 ls []) := by
    intro n11
    induction n11 with
    | zero => intro k m0_11 m1_11 hk hm_m0_11 hm_m1_11 hk h0 hsh hn; exact absurd hn (Nat.not_lt_zero _)
    | succ n11 ih11 =>
      intro k m0_11 m1_11 hk hm_m0_11 hm_m1_11 hk h0 hsh hn11 H locs hP hD hS ls hl
      refine lv_iload_n hx hb dX9_keepPast_11 rfl (lv_at hl 1 rfl) ?_
      refine lv_bipush (v := 20) hx hb dX9_keepPast_12 (by decide) ?_
      refine lv_icmp_ge (tgt := 37) hx hb dX9_keepPast_14 (by decide) (fun c_1 => ?_) (fun c_1 => ?_)
      · have hie := ctr_ge (N := 20) (i := k + 1) (by decide) (by omega) c_1
        refine lv_aload_n hx hb dX9_keepPast_37 rfl (lv_at hl 0 rfl) ?_
        refine lv_dup hx hb dX9_keepPast_38 rfl ?_
        refine va_get (D := D) (ci := 8) (v := .int m0_11) (C := RX9) (T := TX9) (N := 11) hx hb hts hi9 hown hK hP 0 rfl rfl 9 (by decide) hw0 (fun _ h9 => h9) rfl dX9_keepPast_39 ?_
        refine lv_iconst (v := 1) hx hb dX9_keepPast_42 (by decide) ?_
        refine lv_isub hx hb dX9_keepPast_43 ?_
        refine va_put (D := D) (ci := 8) (v := .int (m0_11 - 1)) (ty := .int) (C := RX9) (T := TX9) (N := 11) hx hb hts hi9 tyX9 tyX9_ok nmX9 hown hK hP hD hS 0 rfl rfl 9 (by decide) hw0 (fun _ h9 => h9) rfl (by decide +kernel) rfl rfl (Nat.le_of_ble_eq_true rfl) dX9_keepPast_44 (fun H locs hP hD hS => ?_)
        have hP : va_P D vwCl (CT cy a J (va_up I 9 (m0_11 - 1)) O R (va_up RO 2 m1_11) (LL ++ Y)) H := hP
        have hD : va_D A (CT cy a J (va_up I 9 (m0_11 - 1)) O R (va_up RO 2 m1_11) (LL ++ Y)) := hD
        have hi_2 : vp_in (m0_11 - 1) 21 := (by rw [hk]; unfold vp_in; decide)
        refine lv_aload_n hx hb dX9_keepPast_47 rfl (lv_at hl 0 rfl) ?_
        refine va_get (D := D) (ci := 8) (v := .ref (a 2)) (C := RX9) (T := TX9) (N := 11) hx hb hts hi9 hown hK hP 0 rfl rfl 1 (by decide) hw1 (fun _ h9 => h9) rfl dX9_keepPast_48 ?_
        refine lv_aload_n hx hb dX9_keepPast_51 rfl (lv_at hl 0 rfl) ?_
        refine va_get (D := D) (ci := 8) (v := .int (m0_11 - 1)) (C := RX9) (T := TX9) (N := 11) hx hb hts hi9 hown hK hP 0 rfl rfl 9 (by decide) hw0 (fun _ h9 => h9) rfl dX9_keepPast_52 ?_
        refine va_new (ci := 4) (fs := [.long 0, .null, .null]) (C := RX5) (T := TX5) (N := 3) hx hb hts hi5 tyX5 tyX5_ok hown hw2 hw3 hw4 hK hP hD hS hA rfl (fun j hj => by rcases (show j = 0 ∨ j = 1 ∨ j = 2 by omega) with rfl | rfl | rfl <;> rfl) (Nat.le_of_ble_eq_true rfl) (Nat.le_of_ble_eq_true rfl) dX9_keepPast_55 (fun q_3 H hP hD hS => ?_)
        have hP : va_P D vwCl (CT cy a J (va_up I 9 (m0_11 - 1)) O R (va_up RO 2 m1_11) (LL ++ Y) ++ [(q_3, .inr (4, [.long 0, .null, .null]))]) H := hP
        have hD : va_D A (CT cy a J (va_up I 9 (m0_11 - 1)) O R (va_up RO 2 m1_11) (LL ++ Y) ++ [(q_3, .inr (4, [.long 0, .null, .null]))]) := hD
        refine lv_dup hx hb dX9_keepPast_58 rfl ?_
        refine lv_aload_n hx hb dX9_keepPast_59 rfl (lv_at hl 0 rfl) ?_
        refine va_get (D := D) (ci := 8) (v := .long (J 6)) (C := RX9) (T := TX9) (N := 11) hx hb hts hi9 hown hK hP 0 rfl rfl 6 (by decide) hw5 (fun _ h9 => h9) rfl dX9_keepPast_60 ?_
        refine lv_aload_n hx hb dX9_keepPast_63 rfl (lv_at hl 0 rfl) ?_
        refine va_get (D := D) (ci := 8) (v := va_rf (O 7)) (C := RX9) (T := TX9) (N := 11) hx hb hts hi9 hown hK hP 0 rfl rfl 7 (by decide) hw6 (fun _ h9 => h9) rfl dX9_keepPast_64 ?_
        refine lv_aload_n hx hb dX9_keepPast_67 rfl (lv_at hl 0 rfl) ?_
        refine va_get (D := D) (ci := 8) (v := va_rf (O 8)) (C := RX9) (T := TX9) (N := 11) hx hb hts hi9 hown hK hP 0 rfl rfl 8 (by decide) hw7 (fun _ h9 => h9) rfl dX9_keepPast_68 ?_
        refine kNew_v (As := [.long (J 6), va_rf (O 7), va_rf (O 8)]) (rest := [.ref q_3, .int (m0_11 - 1), .ref (a 2)]) (X := CT cy a J (va_up I 9 (m0_11 - 1)) O R (va_up RO 2 m1_11) (LL ++ Y)) ⟨hx, hb, hml, hown, hts⟩ (ct_X5_init l D cy q_3 _ (J 6) (O 7) (O 8)) (cwI 3 hts gX9_keepPast_X5_init rfl rfl rfl hw4 hw9 hw8 rfl (by decide +kernel) ⟨Nat.le_of_ble_eq_true rfl, Nat.le_of_ble_eq_true rfl⟩) hK hN hP hD hS hA rfl hl.1 rfl (Nat.le_of_ble_eq_true rfl) dX9_keepPast_71 ⟨Nat.le_of_ble_eq_true rfl, Nat.le_of_ble_eq_true rfl⟩ (fun u H locs hw hP hD hS => ?_)
        have hP : va_P D vwCl (CT cy a J (va_up I 9 (m0_11 - 1)) O R (va_up RO 2 m1_11) (LL ++ Y) ++ [(q_3, .inr (4, [.long (J 6), va_rf (O 7), va_rf (O 8)]))]) H := hP
        have hD : va_D A (CT cy a J (va_up I 9 (m0_11 - 1)) O R (va_up RO 2 m1_11) (LL ++ Y) ++ [(q_3, .inr (4, [.long (J 6), va_rf (O 7), va_rf (O 8)]))]) := hD
        have hP : va_P D vwCl (CT cy a J (va_up I 9 (m0_11 - 1)) O R (va_up RO 2 m1_11) (LL ++ (Y ++ [(q_3, .inr (4, [.long (J 6), va_rf (O 7), va_rf (O 8)]))]))) H := by rw [← List.append_assoc]; exact hP
        have hD : va_D A (CT cy a J (va_up I 9 (m0_11 - 1)) O R (va_up RO 2 m1_11) (LL ++ (Y ++ [(q_3, .inr (4, [.long (J 6), va_rf (O 7), va_rf (O 8)]))]))) := by rw [← List.append_assoc]; exact hD
        have hs_4 : ∀ c, c ∈ Y → c ∈ (Y ++ [(q_3, .inr (4, [.long (J 6), va_rf (O 7), va_rf (O 8)]))]) := fun c h => List.mem_append_left _ h
        have hi_5 : chO (Y ++ [(q_3, .inr (4, [.long (J 6), va_rf (O 7), va_rf (O 8)]))]) (O 7) := chO_mono hs_4 hM.2.1
        have hi_6 : layO (Y ++ [(q_3, .inr (4, [.long (J 6), va_rf (O 7), va_rf (O 8)]))]) (O 8) := layO_mono hs_4 hM.2.2.1
        have hi_7 : ∀ i, i < 20 → pasO (Y ++ [(q_3, .inr (4, [.long (J 6), va_rf (O 7), va_rf (O 8)]))]) (m1_11 i) := pas_mono hs_4 hm_m1_11
        have hmono_8 : ∀ c, c ∈ Y → c ∈ (Y ++ [(q_3, .inr (4, [.long (J 6), va_rf (O 7), va_rf (O 8)]))]) := fun c h => hs_4 c ((fun _ h => h) c h)
        obtain ⟨k_9, hk_10⟩ : ∃ k : Nat, (CT cy a J (va_up I 9 (m0_11 - 1)) O R (va_up RO 2 m1_11) (LL ++ (Y ++ [(q_3, .inr (4, [.long (J 6), va_rf (O 7), va_rf (O 8)]))])))[k]? = some (q_3, .inr (4, [.long (J 6), va_rf (O 7), va_rf (O 8)])) := pixT mem_last
        refine kstO (o := (some q_3)) hx hb hK hP hD hS 2 3 4 rfl rfl rfl (Or.inr ⟨_, k_9, _, rfl, hk_10⟩) (by rw [hk]; unfold vp_in; decide) dX9_keepPast_74 (fun H locs hP hD hS => ?_)
        have hP : va_P D vwCl (CT cy a J (va_up I 9 (m0_11 - 1)) O R (va_up RO 2 (va_up m1_11 (m0_11 - 1).toNatClampNeg (some q_3))) (LL ++ (Y ++ [(q_3, .inr (4, [.long (J 6), va_rf (O 7), va_rf (O 8)]))]))) H := hP
        have hD : va_D A (CT cy a J (va_up I 9 (m0_11 - 1)) O R (va_up RO 2 (va_up m1_11 (m0_11 - 1).toNatClampNeg (some q_3))) (LL ++ (Y ++ [(q_3, .inr (4, [.long (J 6), va_rf (O 7), va_rf (O 8)]))]))) := hD
        have hi_11 : ∀ i, i < 20 → pasO (Y ++ [(q_3, .inr (4, [.long (J 6), va_rf (O 7), va_rf (O 8)]))]) ((va_up m1_11 (m0_11 - 1).toNatClampNeg (some q_3)) i) := pas_up hi_7 (Or.inr ⟨_, _, _, _, rfl, mem_last, hi_5, hi_6⟩)
        refine lv_aload_n hx hb dX9_keepPast_75 rfl (lv_at hl 0 rfl) ?_
        refine lv_dup hx hb dX9_keepPast_76 rfl ?_
        refine va_get (D := D) (ci := 8) (v := .int (m0_11 - 1)) (C := RX9) (T := TX9) (N := 11) hx hb hts hi9 hown hK hP 0 rfl rfl 9 (by decide) hw0 (fun _ h9 => h9) rfl dX9_keepPast_77 ?_
        refine lv_iconst (v := 1) hx hb dX9_keepPast_80 (by decide) ?_
        refine lv_iadd hx hb dX9_keepPast_81 ?_
        refine va_put (D := D) (ci := 8) (v := .int ((m0_11 - 1) + 1)) (ty := .int) (C := RX9) (T := TX9) (N := 11) hx hb hts hi9 tyX9 tyX9_ok nmX9 hown hK hP hD hS 0 rfl rfl 9 (by decide) hw0 (fun _ h9 => h9) rfl (by decide +kernel) rfl rfl (Nat.le_of_ble_eq_true rfl) dX9_keepPast_82 (fun H locs hP hD hS => ?_)
        have hP : va_P D vwCl (CT cy a J (va_up I 9 ((m0_11 - 1) + 1)) O R (va_up RO 2 (va_up m1_11 (m0_11 - 1).toNatClampNeg (some q_3))) (LL ++ (Y ++ [(q_3, .inr (4, [.long (J 6), va_rf (O 7), va_rf (O 8)]))]))) H := hP
        have hD : va_D A (CT cy a J (va_up I 9 ((m0_11 - 1) + 1)) O R (va_up RO 2 (va_up m1_11 (m0_11 - 1).toNatClampNeg (some q_3))) (LL ++ (Y ++ [(q_3, .inr (4, [.long (J 6), va_rf (O 7), va_rf (O 8)]))]))) := hD
        have hi_12 : vp_in ((m0_11 - 1) + 1) 21 := (by rw [hk]; unfold vp_in; decide)
        exact wret_v hx hb hr hlocks (J, (va_up I 9 ((m0_11 - 1) + 1)), O, R, (va_up RO 2 (va_up m1_11 (m0_11 - 1).toNatClampNeg (some q_3))), LL, Y ++ [(q_3, .inr (4, [.long (J 6), va_rf (O 7), va_rf (O 8)]))]) ⟨((m0_11 - 1) + 1), (va_up m1_11 (m0_11 - 1).toNatClampNeg (some q_3)), (Y ++ [(q_3, .inr (4, [.long (J 6), va_rf (O 7), va_rf (O 8)]))]), ⟨hi_12, hi_11, hmono_8, (kc_1 hRA hmono_8 h0 hk hie hsh mem_last hi_6)⟩, rfl⟩ hP hD hS dX9_keepPast_85
      · have hlt := ctr_lt (N := 20) (i := k + 1) (by decide) (by omega) c_1
        refine lv_aload_n hx hb dX9_keepPast_17 rfl (lv_at hl 0 rfl) ?_
        refine va_get (D := D) (ci := 8) (v := .ref (a 2)) (C := RX9) (T := TX9) (N := 11) hx hb hts hi9 hown hK hP 0 rfl rfl 1 (by decide) hw1 (fun _ h9 => h9) rfl dX9_keepPast_18 ?_
        refine lv_iload_n hx hb dX9_keepPast_21 rfl (lv_at hl 1 rfl) ?_
        refine lv_iconst (v := 1) hx hb dX9_keepPast_22 (by decide) ?_
        refine lv_isub hx hb dX9_keepPast_23 ?_
        refine wtop_i (y := nI k) (nI_s1 k) ?_
        refine lv_aload_n hx hb dX9_keepPast_24 rfl (lv_at hl 0 rfl) ?_
        refine va_get (D := D) (ci := 8) (v := .ref (a 2)) (C := RX9) (T := TX9) (N := 11) hx hb hts hi9 hown hK hP 0 rfl rfl 1 (by decide) hw1 (fun _ h9 => h9) rfl dX9_keepPast_25 ?_
        refine lv_iload_n hx hb dX9_keepPast_28 rfl (lv_at hl 1 rfl) ?_
        refine va_aldq hx hb hK hP 2 3 rfl rfl (vp_in_nI (by omega) (by decide)) dX9_keepPast_29 ?_
        obtain ⟨o_13, ho_14⟩ : ∃ z, z = m1_11 (nI (k + 1)).toNatClampNeg := ⟨_, rfl⟩
        have hp_15 : pasO Y o_13 := by rw [ho_14]; exact hm_m1_11 _ (in_lt (vp_in_nI (by omega) (by decide)))
        refine wtop_v (y := va_rf o_13) (congrArg va_rf ho_14.symm) ?_
        refine kstO (o := o_13) hx hb hK hP hD hS 2 3 4 rfl rfl rfl (pas_ix hp_15) (vp_in_nI (by omega) (by decide)) dX9_keepPast_30 (fun H locs hP hD hS => ?_)
        have hP : va_P D vwCl (CT cy a J (va_up I 9 m0_11) O R (va_up RO 2 (va_up m1_11 (nI k).toNatClampNeg o_13)) (LL ++ Y)) H := hP
        have hD : va_D A (CT cy a J (va_up I 9 m0_11) O R (va_up RO 2 (va_up m1_11 (nI k).toNatClampNeg o_13)) (LL ++ Y)) := hD
        have hi_16 : ∀ i, i < 20 → pasO Y ((va_up m1_11 (nI k).toNatClampNeg o_13) i) := pas_up hm_m1_11 hp_15
        refine lv_iinc (v := nI ((k + 1) + 1)) (lv' := [(1, .int (nI ((k + 1) + 1))), (0, .ref (a 0))]) hx hb dX9_keepPast_31 hl (k := 1) rfl (nI_1 _) (by decide) rfl (fun ls hl => ?_)
        refine lv_goto (tgt := 11) hx hb dX9_keepPast_34 (by decide) ?_
        exact ih11 (k + 1) m0_11 (va_up m1_11 (nI k).toNatClampNeg o_13) (by omega) hm_m0_11 hi_16 hk h0 (shf_O (by omega) ho_14 hsh) (by omega) _ _ hP hD hS ls (lv_sub hl [1, 0] rfl)
  have hP : va_P D vwCl (CT cy a J (va_up I 9 (I 9)) O R (va_up RO 2 (RO 2)) (LL ++ Y)) s.heap := hP
  have hD : va_D A (CT cy a J (va_up I 9 (I 9)) O R (va_up RO 2 (RO 2)) (LL ++ Y)) := hD
  refine lv_aload_n hx hb dX9_keepPast_0 rfl (lv_at hl 0 rfl) ?_
  refine va_get (D := D) (ci := 8) (v := .int (I 9)) (C := RX9) (T := TX9) (N := 11) hx hb hts hi9 hown hK hP 0 rfl rfl 9 (by decide) hw0 (fun _ h9 => h9) rfl dX9_keepPast_1 ?_
  refine lv_bipush (v := 20) hx hb dX9_keepPast_4 (by decide) ?_
  refine lv_icmp_ne (tgt := 47) hx hb dX9_keepPast_6 (by decide) (fun c_17 => ?_) (fun c_17 => ?_)
  · refine lv_aload_n hx hb dX9_keepPast_47 rfl (lv_at hl 0 rfl) ?_
    refine va_get (D := D) (ci := 8) (v := .ref (a 2)) (C := RX9) (T := TX9) (N := 11) hx hb hts hi9 hown hK hP 0 rfl rfl 1 (by decide) hw1 (fun _ h9 => h9) rfl dX9_keepPast_48 ?_
    refine lv_aload_n hx hb dX9_keepPast_51 rfl (lv_at hl 0 rfl) ?_
    refine va_get (D := D) (ci := 8) (v := .int (I 9)) (C := RX9) (T := TX9) (N := 11) hx hb hts hi9 hown hK hP 0 rfl rfl 9 (by decide) hw0 (fun _ h9 => h9) rfl dX9_keepPast_52 ?_
    refine va_new (ci := 4) (fs := [.long 0, .null, .null]) (C := RX5) (T := TX5) (N := 3) hx hb hts hi5 tyX5 tyX5_ok hown hw2 hw3 hw4 hK hP hD hS hA rfl (fun j hj => by rcases (show j = 0 ∨ j = 1 ∨ j = 2 by omega) with rfl | rfl | rfl <;> rfl) (Nat.le_of_ble_eq_true rfl) (Nat.le_of_ble_eq_true rfl) dX9_keepPast_55 (fun q_18 H hP hD hS => ?_)
    have hP : va_P D vwCl (CT cy a J (va_up I 9 (I 9)) O R (va_up RO 2 (RO 2)) (LL ++ Y) ++ [(q_18, .inr (4, [.long 0, .null, .null]))]) H := hP
    have hD : va_D A (CT cy a J (va_up I 9 (I 9)) O R (va_up RO 2 (RO 2)) (LL ++ Y) ++ [(q_18, .inr (4, [.long 0, .null, .null]))]) := hD
    refine lv_dup hx hb dX9_keepPast_58 rfl ?_
    refine lv_aload_n hx hb dX9_keepPast_59 rfl (lv_at hl 0 rfl) ?_
    refine va_get (D := D) (ci := 8) (v := .long (J 6)) (C := RX9) (T := TX9) (N := 11) hx hb hts hi9 hown hK hP 0 rfl rfl 6 (by decide) hw5 (fun _ h9 => h9) rfl dX9_keepPast_60 ?_
    refine lv_aload_n hx hb dX9_keepPast_63 rfl (lv_at hl 0 rfl) ?_
    refine va_get (D := D) (ci := 8) (v := va_rf (O 7)) (C := RX9) (T := TX9) (N := 11) hx hb hts hi9 hown hK hP 0 rfl rfl 7 (by decide) hw6 (fun _ h9 => h9) rfl dX9_keepPast_64 ?_
    refine lv_aload_n hx hb dX9_keepPast_67 rfl (lv_at hl 0 rfl) ?_
    refine va_get (D := D) (ci := 8) (v := va_rf (O 8)) (C := RX9) (T := TX9) (N := 11) hx hb hts hi9 hown hK hP 0 rfl rfl 8 (by decide) hw7 (fun _ h9 => h9) rfl dX9_keepPast_68 ?_
    refine kNew_v (As := [.long (J 6), va_rf (O 7), va_rf (O 8)]) (rest := [.ref q_18, .int (I 9), .ref (a 2)]) (X := CT cy a J (va_up I 9 (I 9)) O R (va_up RO 2 (RO 2)) (LL ++ Y)) ⟨hx, hb, hml, hown, hts⟩ (ct_X5_init l D cy q_18 _ (J 6) (O 7) (O 8)) (cwI 3 hts gX9_keepPast_X5_init rfl rfl rfl hw4 hw9 hw8 rfl (by decide +kernel) ⟨Nat.le_of_ble_eq_true rfl, Nat.le_of_ble_eq_true rfl⟩) hK hN hP hD hS hA rfl hl.1 rfl (Nat.le_of_ble_eq_true rfl) dX9_keepPast_71 ⟨Nat.le_of_ble_eq_true rfl, Nat.le_of_ble_eq_true rfl⟩ (fun u H locs hw hP hD hS => ?_)
    have hP : va_P D vwCl (CT cy a J (va_up I 9 (I 9)) O R (va_up RO 2 (RO 2)) (LL ++ Y) ++ [(q_18, .inr (4, [.long (J 6), va_rf (O 7), va_rf (O 8)]))]) H := hP
    have hD : va_D A (CT cy a J (va_up I 9 (I 9)) O R (va_up RO 2 (RO 2)) (LL ++ Y) ++ [(q_18, .inr (4, [.long (J 6), va_rf (O 7), va_rf (O 8)]))]) := hD
    have hP : va_P D vwCl (CT cy a J (va_up I 9 (I 9)) O R (va_up RO 2 (RO 2)) (LL ++ (Y ++ [(q_18, .inr (4, [.long (J 6), va_rf (O 7), va_rf (O 8)]))]))) H := by rw [← List.append_assoc]; exact hP
    have hD : va_D A (CT cy a J (va_up I 9 (I 9)) O R (va_up RO 2 (RO 2)) (LL ++ (Y ++ [(q_18, .inr (4, [.long (J 6), va_rf (O 7), va_rf (O 8)]))]))) := by rw [← List.append_assoc]; exact hD
    have hs_19 : ∀ c, c ∈ Y → c ∈ (Y ++ [(q_18, .inr (4, [.long (J 6), va_rf (O 7), va_rf (O 8)]))]) := fun c h => List.mem_append_left _ h
    have hi_20 : chO (Y ++ [(q_18, .inr (4, [.long (J 6), va_rf (O 7), va_rf (O 8)]))]) (O 7) := chO_mono hs_19 hM.2.1
    have hi_21 : layO (Y ++ [(q_18, .inr (4, [.long (J 6), va_rf (O 7), va_rf (O 8)]))]) (O 8) := layO_mono hs_19 hM.2.2.1
    have hi_22 : ∀ i, i < 20 → pasO (Y ++ [(q_18, .inr (4, [.long (J 6), va_rf (O 7), va_rf (O 8)]))]) ((RO 2) i) := pas_mono hs_19 hM.2.2.2.1
    have hmono_23 : ∀ c, c ∈ Y → c ∈ (Y ++ [(q_18, .inr (4, [.long (J 6), va_rf (O 7), va_rf (O 8)]))]) := fun c h => hs_19 c ((fun _ h => h) c h)
    obtain ⟨k_24, hk_25⟩ : ∃ k : Nat, (CT cy a J (va_up I 9 (I 9)) O R (va_up RO 2 (RO 2)) (LL ++ (Y ++ [(q_18, .inr (4, [.long (J 6), va_rf (O 7), va_rf (O 8)]))])))[k]? = some (q_18, .inr (4, [.long (J 6), va_rf (O 7), va_rf (O 8)])) := pixT mem_last
    refine kstO (o := (some q_18)) hx hb hK hP hD hS 2 3 4 rfl rfl rfl (Or.inr ⟨_, k_24, _, rfl, hk_25⟩) (in_ne hM.1 c_17) dX9_keepPast_74 (fun H locs hP hD hS => ?_)
    have hP : va_P D vwCl (CT cy a J (va_up I 9 (I 9)) O R (va_up RO 2 (va_up (RO 2) (I 9).toNatClampNeg (some q_18))) (LL ++ (Y ++ [(q_18, .inr (4, [.long (J 6), va_rf (O 7), va_rf (O 8)]))]))) H := hP
    have hD : va_D A (CT cy a J (va_up I 9 (I 9)) O R (va_up RO 2 (va_up (RO 2) (I 9).toNatClampNeg (some q_18))) (LL ++ (Y ++ [(q_18, .inr (4, [.long (J 6), va_rf (O 7), va_rf (O 8)]))]))) := hD
    have hi_26 : ∀ i, i < 20 → pasO (Y ++ [(q_18, .inr (4, [.long (J 6), va_rf (O 7), va_rf (O 8)]))]) ((va_up (RO 2) (I 9).toNatClampNeg (some q_18)) i) := pas_up hi_22 (Or.inr ⟨_, _, _, _, rfl, mem_last, hi_20, hi_21⟩)
    refine lv_aload_n hx hb dX9_keepPast_75 rfl (lv_at hl 0 rfl) ?_
    refine lv_dup hx hb dX9_keepPast_76 rfl ?_
    refine va_get (D := D) (ci := 8) (v := .int (I 9)) (C := RX9) (T := TX9) (N := 11) hx hb hts hi9 hown hK hP 0 rfl rfl 9 (by decide) hw0 (fun _ h9 => h9) rfl dX9_keepPast_77 ?_
    refine lv_iconst (v := 1) hx hb dX9_keepPast_80 (by decide) ?_
    refine lv_iadd hx hb dX9_keepPast_81 ?_
    refine va_put (D := D) (ci := 8) (v := .int ((I 9) + 1)) (ty := .int) (C := RX9) (T := TX9) (N := 11) hx hb hts hi9 tyX9 tyX9_ok nmX9 hown hK hP hD hS 0 rfl rfl 9 (by decide) hw0 (fun _ h9 => h9) rfl (by decide +kernel) rfl rfl (Nat.le_of_ble_eq_true rfl) dX9_keepPast_82 (fun H locs hP hD hS => ?_)
    have hP : va_P D vwCl (CT cy a J (va_up I 9 ((I 9) + 1)) O R (va_up RO 2 (va_up (RO 2) (I 9).toNatClampNeg (some q_18))) (LL ++ (Y ++ [(q_18, .inr (4, [.long (J 6), va_rf (O 7), va_rf (O 8)]))]))) H := hP
    have hD : va_D A (CT cy a J (va_up I 9 ((I 9) + 1)) O R (va_up RO 2 (va_up (RO 2) (I 9).toNatClampNeg (some q_18))) (LL ++ (Y ++ [(q_18, .inr (4, [.long (J 6), va_rf (O 7), va_rf (O 8)]))]))) := hD
    have hi_27 : vp_in ((I 9) + 1) 21 := in_succ (in_ne hM.1 c_17)
    exact wret_v hx hb hr hlocks (J, (va_up I 9 ((I 9) + 1)), O, R, (va_up RO 2 (va_up (RO 2) (I 9).toNatClampNeg (some q_18))), LL, Y ++ [(q_18, .inr (4, [.long (J 6), va_rf (O 7), va_rf (O 8)]))]) ⟨((I 9) + 1), (va_up (RO 2) (I 9).toNatClampNeg (some q_18)), (Y ++ [(q_18, .inr (4, [.long (J 6), va_rf (O 7), va_rf (O 8)]))]), ⟨hi_27, hi_26, hmono_23, (kc_0 hRA hmono_23 hM.1 c_17 mem_last hi_21)⟩, rfl⟩ hP hD hS dX9_keepPast_85
  · refine lv_iconst (v := 1) hx hb dX9_keepPast_9 (by decide) ?_
    refine lv_istore_n (lv' := [(1, .int 1), (0, .ref (a 0))]) hx hb dX9_keepPast_10 rfl hl (by decide) rfl (fun ls hl => ?_)
    exact lp11 _ 0 (I 9) (RO 2) (by omega) hM.1 hM.2.2.2.1 c_17 c_17 shf_0 (Nat.lt_succ_self _) _ _ hP hD hS ls (lv_sub hl [1, 0] rfl)
theorem dX9_becomeFloor_44 : decode cX9_becomeFloor 44 = .ok (.aload_n 3, 1) := by decide +kernel
theorem dX9_becomeFloor_45 : decode cX9_becomeFloor 45 = .ok (.ifnull 37, 3) := by decide +kernel
theorem dX9_becomeFloor_82 : decode cX9_becomeFloor 82 = .ok (.aload_n 0, 1) := by decide +kernel
set_option maxRecDepth 20000 in
theorem ggX9_becomeFloor_X9_keepPast : GoodIn wsX9_becomeFloor wsX9_keepPast := goodIn_r _ [30, 31, 32, 33, 34, 35, 8, 1, 9, 36, 37, 38, 39, 40, 41, 42, 43, 44, 52, 53, 54, 55, 56, 57, 58, 59, 60, 61, 62, 70, 71, 72] rfl (by decide +kernel)
set_option maxRecDepth 20000 in
theorem gX9_becomeFloor_X9_keepPast : GoodIn wsX9_becomeFloor (wsV RX9 130 RX9 yX9_keepPast wsX9_keepPast) := goodIn_app (goodIn_r _ [27, 28, 29, 13] rfl (by decide +kernel)) ggX9_becomeFloor_X9_keepPast
theorem dX9_becomeFloor_83 : decode cX9_becomeFloor 83 = .ok (.invokevirtual 130, 3) := by decide +kernel
theorem dX9_becomeFloor_86 : decode cX9_becomeFloor 86 = .ok (.lload_n 1, 1) := by decide +kernel
theorem dX9_becomeFloor_87 : decode cX9_becomeFloor 87 = .ok (.aload_n 0, 1) := by decide +kernel
theorem dX9_becomeFloor_88 : decode cX9_becomeFloor 88 = .ok (.getfield 48, 3) := by decide +kernel
theorem dX9_becomeFloor_91 : decode cX9_becomeFloor 91 = .ok (.lcmp, 1) := by decide +kernel
theorem dX9_becomeFloor_92 : decode cX9_becomeFloor 92 = .ok (.ifCond .eq 13, 3) := by decide +kernel
theorem dX9_becomeFloor_105 : decode cX9_becomeFloor 105 = .ok (.aload_n 0, 1) := by decide +kernel
theorem dX9_becomeFloor_106 : decode cX9_becomeFloor 106 = .ok (.getfield 48, 3) := by decide +kernel
set_option maxRecDepth 20000 in
theorem ggX9_becomeFloor_J13_bitCount_95d88 : GoodIn wsX9_becomeFloor wsJ13_bitCount_95d88 := goodIn_r _ [48, 49, 50, 51] rfl (by decide +kernel)
set_option maxRecDepth 20000 in
theorem gX9_becomeFloor_J13_bitCount_95d88 : GoodIn wsX9_becomeFloor (va_wsS RX9 74 yJ13_bitCount_95d88 wsJ13_bitCount_95d88) := goodIn_app (goodIn_of _ (by decide +kernel)) ggX9_becomeFloor_J13_bitCount_95d88
theorem dX9_becomeFloor_109 : decode cX9_becomeFloor 109 = .ok (.invokestatic 74, 3) := by decide +kernel
theorem dX9_becomeFloor_112 : decode cX9_becomeFloor 112 = .ok (.ireturn, 1) := by decide +kernel
theorem dX9_becomeFloor_95 : decode cX9_becomeFloor 95 = .ok (.aload_n 0, 1) := by decide +kernel
theorem dX9_becomeFloor_96 : decode cX9_becomeFloor 96 = .ok (.lload_n 1, 1) := by decide +kernel
theorem dX9_becomeFloor_97 : decode cX9_becomeFloor 97 = .ok (.putfield 48, 3) := by decide +kernel
theorem dX9_becomeFloor_100 : decode cX9_becomeFloor 100 = .ok (.aload_n 0, 1) := by decide +kernel
theorem dX9_becomeFloor_101 : decode cX9_becomeFloor 101 = .ok (.aconst_null, 1) := by decide +kernel
theorem dX9_becomeFloor_102 : decode cX9_becomeFloor 102 = .ok (.putfield 133, 3) := by decide +kernel
theorem dX9_becomeFloor_48 : decode cX9_becomeFloor 48 = .ok (.aload_n 3, 1) := by decide +kernel
theorem dX9_becomeFloor_49 : decode cX9_becomeFloor 49 = .ok (.getfield 145, 3) := by decide +kernel
theorem dX9_becomeFloor_52 : decode cX9_becomeFloor 52 = .ok (.iconst 3, 1) := by decide +kernel
theorem dX9_becomeFloor_53 : decode cX9_becomeFloor 53 = .ok (.if_icmp .ne 21, 3) := by decide +kernel
theorem dX9_becomeFloor_74 : decode cX9_becomeFloor 74 = .ok (.aload_n 3, 1) := by decide +kernel
theorem dX9_becomeFloor_75 : decode cX9_becomeFloor 75 = .ok (.getfield 138, 3) := by decide +kernel
theorem dX9_becomeFloor_78 : decode cX9_becomeFloor 78 = .ok (.astore_n 3, 1) := by decide +kernel
theorem dX9_becomeFloor_79 : decode cX9_becomeFloor 79 = .ok (.goto (-35), 3) := by decide +kernel
theorem dX9_becomeFloor_56 : decode cX9_becomeFloor 56 = .ok (.aload_n 3, 1) := by decide +kernel
theorem dX9_becomeFloor_57 : decode cX9_becomeFloor 57 = .ok (.getfield 116, 3) := by decide +kernel
theorem dX9_becomeFloor_60 : decode cX9_becomeFloor 60 = .ok (.lload_n 1, 1) := by decide +kernel
set_option maxRecDepth 20000 in
theorem ggX9_becomeFloor_X1_touchesOutside : GoodIn wsX9_becomeFloor wsX1_touchesOutside := goodIn_r _ [19, 20, 21, 22, 23, 18, 24, 25, 26] rfl (by decide +kernel)
set_option maxRecDepth 20000 in
theorem gX9_becomeFloor_X1_touchesOutside : GoodIn wsX9_becomeFloor (va_wsS RX9 124 yX1_touchesOutside wsX1_touchesOutside) := goodIn_app (goodIn_r _ [16, 17, 18] rfl (by decide +kernel)) ggX9_becomeFloor_X1_touchesOutside
theorem dX9_becomeFloor_61 : decode cX9_becomeFloor 61 = .ok (.invokestatic 124, 3) := by decide +kernel
theorem dX9_becomeFloor_64 : decode cX9_becomeFloor 64 = .ok (.ifCond .ne 10, 3) := by decide +kernel
theorem dX9_becomeFloor_67 : decode cX9_becomeFloor 67 = .ok (.aload_n 0, 1) := by decide +kernel
theorem dX9_becomeFloor_68 : decode cX9_becomeFloor 68 = .ok (.ldc 128, 2) := by decide +kernel
set_option maxRecDepth 20000 in
theorem ggX9_becomeFloor_X9_finding : GoodIn wsX9_becomeFloor wsX9_finding := goodIn_r _ [14, 15, 52, 53, 54, 55, 56, 57, 58, 59, 60, 61, 62] rfl (by decide +kernel)
set_option maxRecDepth 20000 in
theorem gX9_becomeFloor_X9_finding : GoodIn wsX9_becomeFloor (wsV RX9 44 RX9 yX9_finding wsX9_finding) := goodIn_app (goodIn_r _ [10, 11, 12, 13] rfl (by decide +kernel)) ggX9_becomeFloor_X9_finding
theorem dX9_becomeFloor_70 : decode cX9_becomeFloor 70 = .ok (.invokevirtual 44, 3) := by decide +kernel
theorem dX9_becomeFloor_73 : decode cX9_becomeFloor 73 = .ok (.ireturn, 1) := by decide +kernel
theorem dX9_becomeFloor_5 : decode cX9_becomeFloor 5 = .ok (.aload_n 3, 1) := by decide +kernel
theorem dX9_becomeFloor_6 : decode cX9_becomeFloor 6 = .ok (.ifnull 33, 3) := by decide +kernel
theorem dX9_becomeFloor_39 : decode cX9_becomeFloor 39 = .ok (.aload_n 0, 1) := by decide +kernel
theorem dX9_becomeFloor_40 : decode cX9_becomeFloor 40 = .ok (.getfield 106, 3) := by decide +kernel
theorem dX9_becomeFloor_43 : decode cX9_becomeFloor 43 = .ok (.astore_n 3, 1) := by decide +kernel
theorem dX9_becomeFloor_9 : decode cX9_becomeFloor 9 = .ok (.aload_n 3, 1) := by decide +kernel
theorem dX9_becomeFloor_10 : decode cX9_becomeFloor 10 = .ok (.getfield 116, 3) := by decide +kernel
theorem dX9_becomeFloor_13 : decode cX9_becomeFloor 13 = .ok (.lload_n 1, 1) := by decide +kernel
theorem dX9_becomeFloor_14 : decode cX9_becomeFloor 14 = .ok (.ldc2_w 54, 3) := by decide +kernel
theorem dX9_becomeFloor_17 : decode cX9_becomeFloor 17 = .ok (.lxor, 1) := by decide +kernel
theorem dX9_becomeFloor_18 : decode cX9_becomeFloor 18 = .ok (.land, 1) := by decide +kernel
theorem dX9_becomeFloor_19 : decode cX9_becomeFloor 19 = .ok (.lconst 0, 1) := by decide +kernel
theorem dX9_becomeFloor_20 : decode cX9_becomeFloor 20 = .ok (.lcmp, 1) := by decide +kernel
theorem dX9_becomeFloor_21 : decode cX9_becomeFloor 21 = .ok (.ifCond .eq 10, 3) := by decide +kernel
theorem dX9_becomeFloor_31 : decode cX9_becomeFloor 31 = .ok (.aload_n 3, 1) := by decide +kernel
theorem dX9_becomeFloor_32 : decode cX9_becomeFloor 32 = .ok (.getfield 138, 3) := by decide +kernel
theorem dX9_becomeFloor_35 : decode cX9_becomeFloor 35 = .ok (.astore_n 3, 1) := by decide +kernel
theorem dX9_becomeFloor_36 : decode cX9_becomeFloor 36 = .ok (.goto (-31), 3) := by decide +kernel
theorem dX9_becomeFloor_24 : decode cX9_becomeFloor 24 = .ok (.aload_n 0, 1) := by decide +kernel
theorem dX9_becomeFloor_25 : decode cX9_becomeFloor 25 = .ok (.ldc 123, 2) := by decide +kernel
theorem dX9_becomeFloor_27 : decode cX9_becomeFloor 27 = .ok (.invokevirtual 44, 3) := by decide +kernel
theorem dX9_becomeFloor_30 : decode cX9_becomeFloor 30 = .ok (.ireturn, 1) := by decide +kernel
theorem dX9_becomeFloor_0 : decode cX9_becomeFloor 0 = .ok (.aload_n 0, 1) := by decide +kernel
theorem dX9_becomeFloor_1 : decode cX9_becomeFloor 1 = .ok (.getfield 106, 3) := by decide +kernel
theorem dX9_becomeFloor_4 : decode cX9_becomeFloor 4 = .ok (.astore_n 3, 1) := by decide +kernel
set_option maxRecDepth 20000 in
theorem ihX9_becomeFloor_7 : ∀ w ∈ u_ws RX7 TX7 7, w ∈ wsX9_becomeFloor := fun _ h => List.mem_cons_of_mem _ (List.mem_append_left _ (List.mem_append_right _ h))
set_option maxRecDepth 20000 in
theorem ihX9_becomeFloor_9 : ∀ w ∈ u_ws RX9 TX9 11, w ∈ wsX9_becomeFloor := fun _ h => List.mem_cons_of_mem _ (List.mem_append_left _ (List.mem_append_left _ (List.mem_append_right _ h)))
set_option maxHeartbeats 4000000 in
set_option maxRecDepth 100000 in
theorem x_X9_becomeFloor (l : Launch) (D : va_G) (cy : Nat → ClassId) (a : Nat → Nat) (sz : Nat) (J : Nat → Int64) (I : Nat → Int32) (O : Nat → Option Nat) (R : Nat → Nat → Int32) (RO : Nat → Nat → Option Nat) (LL : va_W) (Y : va_W) (x0 : Int64) (fl : Int64) (S : List Int32) (P : List PE) (hRA : RCf Y (J 6) (O 7) (I 9) (RO 2) fl S P) (hM : CI a Y I O RO) : Met l yX9_becomeFloor wsX9_becomeFloor ({ frames := 3, cells := 1, slots := 3, locals := 65 }) (va_Pc [.ref (a 0), .long x0] (PW D cy sz (CT cy a J I O R RO (LL ++ Y)))) (va_Qi (fun r (u : TS) => ∃ (w0 : Int64), ∃ (w1 : Int32), ∃ (w2 : Int32), ∃ (w3 : Option Nat), ∃ (w4 : Nat → Option Nat), ∃ (Y9 : va_W), (r = (aBecA S x0) ∧ (vp_in w1 21) ∧ (layO Y9 w3) ∧ (∀ i, i < 20 → pasO Y9 (w4 i)) ∧ (∀ c, c ∈ Y → c ∈ Y9) ∧ (RCf Y9 w0 (O 7) w1 w4 (aFl fl S x0) S (aPs fl S P x0))) ∧ u = ((va_up J 6 w0), (va_up (va_up I 9 w1) 10 w2), (va_up O 8 w3), R, (va_up RO 2 w4), LL, Y9)) (BW D (va_A (CT cy a J I O R RO (LL ++ Y)) sz) (CTu cy a)) (va_A (CT cy a J I O R RO (LL ++ Y)) sz)) 1 3 (va_A (CT cy a J I O R RO (LL ++ Y)) sz) := by
  refine Met.ofW (cc := cX9_becomeFloor) (maxL := 4) (ret := (some .int)) (by decide) rfl ?_
  intro p e s m args below meth c s₁ B hml hv
  obtain ⟨rfl, rfl, hP, hK, hN, hD0⟩ := hv
  have hx := B.exec
  have hb := B.bytes
  have hr := B.returns
  have hts := atoms_spec (ws := wsX9_becomeFloor) B.pre
  have hown : s.vm.findClass RX9 = some m.cls := findClass_of_methodNamed B.named
  have hlocks := B.notSynchronized
  have hw0 := hts (.fieldLink RX9 48 "ParquetLayer" "fields" "J") (by decide +kernel)
  have hw1 := hts (.fieldLink RX9 133 "ParquetLayer" "hand" "LParquetLayer$Laying;") (by decide +kernel)
  have hw2 := hts (.fieldLink RX9 145 "ParquetLayer$Stone" "kind" "I") (by decide +kernel)
  have hw3 := hts (.fieldLink RX9 138 "ParquetLayer$Stone" "below" "LParquetLayer$Stone;") (by decide +kernel)
  have hw4 := hts (.fieldLink RX9 116 "ParquetLayer$Stone" "cover" "J") (by decide +kernel)
  have hw5 := hts (.constant RX9 128 (-100004)) (by decide +kernel)
  have hw6 := hts (.fieldLink RX9 106 "ParquetLayer" "latest" "LParquetLayer$Stone;") (by decide +kernel)
  have hw7 := hts (.constantLong RX9 54 (-1)) (by decide +kernel)
  have hw8 := hts (.constant RX9 123 (-100007)) (by decide +kernel)
  have hi7 := ihX9_becomeFloor_7
  have hi9 := ihX9_becomeFloor_9
  have hD := hD0.self (sz := s.heap.size)
  generalize hAe : va_A (CT cy a J I O R RO (LL ++ Y)) s.heap.size = A at hD ⊢
  have hA : ∀ q : Nat, s.heap.size ≤ q → A q := fun q h => by rw [← hAe]; exact Or.inr h
  have hS : va_S A s.heap s.heap [] := va_S.rf
  have hl := lv_entry ([.ref (a 0), .long x0]) (n := 4) (Nat.le_of_ble_eq_true rfl)
  rw [lg_entry_eq]
  generalize (lg_sl ([.ref (a 0), .long x0]) ++ List.replicate (4 - (lg_sl ([.ref (a 0), .long x0])).length) Slot.unset).toArray = ls at hl ⊢
  have hl : lv_has ls 4 [(0, .ref (a 0)), (1, .long x0)] := hl
  have hRO0 := hM.2.2.2.2.2.2.2.2.1
  have hRO1 := hM.2.2.2.2.2.2.2.2.2.1
  have hRO2 := hM.2.2.2.2.2.2.2.2.2.2.1
  have hRO3 := hM.2.2.2.2.2.2.2.2.2.2.2
  have lp44 : ∀ (n44 : Nat), ∀ (o9 : Option Nat) (S9 : List Int32) (m0_44 : Int64) (m1_44 : Int32) (m2_44 : Int32) (m3_44 : Option Nat) (m4_44 : Nat → Option Nat), (chR Y S9 o9) → (vp_in m1_44 21) → (layO Y m3_44) → (∀ i, i < 20 → pasO Y (m4_44 i)) → (RCf Y m0_44 (O 7) m1_44 m4_44 fl S P) → (S.any (tw x0) = false) → (S.any (kd x0) = S9.any (kd x0)) → S9.length < n44 → ∀ (H : Heap) (locs : List Loc), va_P D vwCl (CT cy a (va_up J 6 m0_44) (va_up (va_up I 9 m1_44) 10 m2_44) (va_up O 8 m3_44) R (va_up RO 2 m4_44) (LL ++ Y)) H → va_D A (CT cy a (va_up J 6 m0_44) (va_up (va_up I 9 m1_44) 10 m2_44) (va_up O 8 m3_44) R (va_up RO 2 m4_44) (LL ++ Y)) → va_S A s.heap H locs → ∀ (ls : Array Slot), lv_has ls 4 [(0, .ref (a 0)), (1, .long x0), (3, va_rf o9)] → W p l e (headSpec wsX9_becomeFloor ({ frames := 3, cells := 1, slots := 3, locals := 65 })).room s m ([.ref (a 0), .long x0] : List Value).toArray below meth c H locs 0 0 (MQ below (va_Qi (fun r (u : TS) => ∃ (w0 : Int64), ∃ (w1 : Int32), ∃ (w2 : Int32), ∃ (w3 : Option Nat), ∃ (w4 : Nat → Option Nat), ∃ (Y9 : va_W), (r = (aBecA S x0) ∧ (vp_in w1 21) ∧ (layO Y9 w3) ∧ (∀ i, i < 20 → pasO Y9 (w4 i)) ∧ (∀ c, c ∈ Y → c ∈ Y9) ∧ (RCf Y9 w0 (O 7) w1 w4 (aFl fl S x0) S (aPs fl S P x0))) ∧ u = ((va_up J 6 w0), (va_up (va_up I 9 w1) 10 w2), (va_up O 8 w3), R, (va_up RO 2 w4), LL, Y9)) (BW D A (CTu cy a)) A) ([.ref (a 0), .long x0] : List Value).toArray s 1 3 A) (F0 m 44 ls []) := by
    intro n44
    induction n44 with
    | zero => intro o9 S9 m0_44 m1_44 m2_44 m3_44 m4_44 hch_44 hm_m1_44 hm_m3_44 hm_m4_44 hRA2 hTw hKd hn; exact absurd hn (Nat.not_lt_zero _)
    | succ n44 ih44 =>
      intro o9 S9 m0_44 m1_44 m2_44 m3_44 m4_44 hch_44 hm_m1_44 hm_m3_44 hm_m4_44 hRA2 hTw hKd hn44 H locs hP hD hS ls hl
      refine lv_aload_nO hx hb dX9_becomeFloor_44 rfl (lv_at hl 2 rfl) ?_
      refine lv_ifnullO (tgt := 82) hx hb dX9_becomeFloor_45 (by decide) (fun c_1 => ?_) (fun c_1 => ?_)
      · subst c_1
        refine lv_aload_n hx hb dX9_becomeFloor_82 rfl (lv_at hl 0 rfl) ?_
        refine kM_v (As := []) (rest := []) (q0 := 0) ⟨hx, hb, hml, hown, hts⟩ (x_X9_keepPast l D cy a _ (va_up J 6 m0_44) (va_up (va_up I 9 m1_44) 10 m2_44) (va_up O 8 m3_44) R (va_up RO 2 m4_44) LL Y  fl S P hRA2 ⟨hm_m1_44, hM.2.1, hm_m3_44, hm_m4_44, hM.2.2.2.2.1, hM.2.2.2.2.2.1, hM.2.2.2.2.2.2.1, hM.2.2.2.2.2.2.2.1, hRO0, hRO1, hRO2, hRO3⟩ ) (cwV 0 hts gX9_becomeFloor_X9_keepPast rfl rfl rfl (by decide +kernel) ⟨Nat.le_of_ble_eq_true rfl, Nat.le_of_ble_eq_true rfl⟩) hK hN hP hD hS hA rfl rfl rfl hl.1 rfl (Nat.le_of_ble_eq_true rfl) dX9_becomeFloor_83 ⟨Nat.le_of_ble_eq_true rfl, Nat.le_of_ble_eq_true rfl⟩ (fun u H locs hw hP hD hS => ?_)
        obtain ⟨w_3, w_4, Y_5, ⟨hi_6, hi_7, hs_8, hp_9⟩, rfl⟩ := hw
        have hi_10 : chO Y_5 (O 7) := chO_mono hs_8 hM.2.1
        have hi_11 : layO Y_5 m3_44 := layO_mono hs_8 hm_m3_44
        have hmono_12 : ∀ c, c ∈ Y → c ∈ Y_5 := fun c h => hs_8 c ((fun _ h => h) c h)
        have hP : va_P D vwCl (CT cy a (va_up J 6 m0_44) (va_up (va_up I 9 w_3) 10 m2_44) (va_up O 8 m3_44) R (va_up RO 2 w_4) (LL ++ Y_5)) H := hP
        have hD : va_D A (CT cy a (va_up J 6 m0_44) (va_up (va_up I 9 w_3) 10 m2_44) (va_up O 8 m3_44) R (va_up RO 2 w_4) (LL ++ Y_5)) := hD
        refine lv_lload_n hx hb dX9_becomeFloor_86 rfl (lv_at hl 1 rfl) ?_
        refine lv_aload_n hx hb dX9_becomeFloor_87 rfl (lv_at hl 0 rfl) ?_
        refine va_get (D := D) (ci := 8) (v := .long m0_44) (C := RX9) (T := TX9) (N := 11) hx hb hts hi9 hown hK hP 0 rfl rfl 6 (by decide) hw0 (fun _ h9 => h9) rfl dX9_becomeFloor_88 ?_
        refine W.lcmp hx hb dX9_becomeFloor_91 ?_
        refine lv_if_eq (tgt := 105) hx hb dX9_becomeFloor_92 (by decide) (fun c_13 => ?_) (fun c_13 => ?_)
        · replace c_13 := (lg_cmp_eq _ _).mp c_13
          refine lv_aload_n hx hb dX9_becomeFloor_105 rfl (lv_at hl 0 rfl) ?_
          refine va_get (D := D) (ci := 8) (v := .long m0_44) (C := RX9) (T := TX9) (N := 11) hx hb hts hi9 hown hK hP 0 rfl rfl 6 (by decide) hw0 (fun _ h9 => h9) rfl dX9_becomeFloor_106 ?_
          refine kS_i (As := [.long m0_44]) (rest := []) ⟨hx, hb, hml, hown, hts⟩ (c_J13_bitCount_95d88 l m0_44) (va_cwS 1 hts gX9_becomeFloor_J13_bitCount_95d88 rfl rfl rfl (by decide +kernel) ⟨Nat.le_of_ble_eq_true rfl, Nat.le_of_ble_eq_true rfl⟩) rfl hl.1 rfl (Nat.le_of_ble_eq_true rfl) dX9_becomeFloor_109 ⟨Nat.le_of_ble_eq_true rfl, Nat.le_of_ble_eq_true rfl⟩ ?_
          exact wret_i hx hb hr hlocks ((va_up J 6 m0_44), (va_up (va_up I 9 w_3) 10 m2_44), (va_up O 8 m3_44), R, (va_up RO 2 w_4), LL, Y_5) ⟨m0_44, w_3, m2_44, m3_44, w_4, Y_5, ⟨(by rw [bcount_cnt, ← c_13]; exact (bec_ok (fl := fl) (P := P) hTw (any_nil hKd (chR_nil hch_44 rfl))).1.symm), hi_6, hi_11, hi_7, hmono_12, (becC_eq c_13 hp_9 hTw (any_nil hKd (chR_nil hch_44 rfl)))⟩, rfl⟩ hP hD hS dX9_becomeFloor_112
        · replace c_13 := fun z => c_13 ((lg_cmp_eq _ _).mpr z)
          refine lv_aload_n hx hb dX9_becomeFloor_95 rfl (lv_at hl 0 rfl) ?_
          refine lv_lload_n hx hb dX9_becomeFloor_96 rfl (lv_at hl 1 rfl) ?_
          refine va_put (D := D) (ci := 8) (v := .long x0) (ty := .long) (C := RX9) (T := TX9) (N := 11) hx hb hts hi9 tyX9 tyX9_ok nmX9 hown hK hP hD hS 0 rfl rfl 6 (by decide) hw0 (fun _ h9 => h9) rfl (by decide +kernel) rfl rfl (Nat.le_of_ble_eq_true rfl) dX9_becomeFloor_97 (fun H locs hP hD hS => ?_)
          have hP : va_P D vwCl (CT cy a (va_up J 6 x0) (va_up (va_up I 9 w_3) 10 m2_44) (va_up O 8 m3_44) R (va_up RO 2 w_4) (LL ++ Y_5)) H := hP
          have hD : va_D A (CT cy a (va_up J 6 x0) (va_up (va_up I 9 w_3) 10 m2_44) (va_up O 8 m3_44) R (va_up RO 2 w_4) (LL ++ Y_5)) := hD
          refine lv_aload_n hx hb dX9_becomeFloor_100 rfl (lv_at hl 0 rfl) ?_
          refine lv_null hx hb dX9_becomeFloor_101 ?_
          refine va_put (D := D) (ci := 8) (v := .null) (ty := .object "ParquetLayer$Laying") (C := RX9) (T := TX9) (N := 11) hx hb hts hi9 tyX9 tyX9_ok nmX9 hown hK hP hD hS 0 rfl rfl 8 (by decide) hw1 (fun _ h9 => h9) rfl (by decide +kernel) rfl rfl (Nat.le_of_ble_eq_true rfl) dX9_becomeFloor_102 (fun H locs hP hD hS => ?_)
          have hP : va_P D vwCl (CT cy a (va_up J 6 x0) (va_up (va_up I 9 w_3) 10 m2_44) (va_up O 8 none) R (va_up RO 2 w_4) (LL ++ Y_5)) H := hP
          have hD : va_D A (CT cy a (va_up J 6 x0) (va_up (va_up I 9 w_3) 10 m2_44) (va_up O 8 none) R (va_up RO 2 w_4) (LL ++ Y_5)) := hD
          have hi_14 : layO Y_5 none := lay_none
          refine lv_aload_n hx hb dX9_becomeFloor_105 rfl (lv_at hl 0 rfl) ?_
          refine va_get (D := D) (ci := 8) (v := .long x0) (C := RX9) (T := TX9) (N := 11) hx hb hts hi9 hown hK hP 0 rfl rfl 6 (by decide) hw0 (fun _ h9 => h9) rfl dX9_becomeFloor_106 ?_
          refine kS_i (As := [.long x0]) (rest := []) ⟨hx, hb, hml, hown, hts⟩ (c_J13_bitCount_95d88 l x0) (va_cwS 1 hts gX9_becomeFloor_J13_bitCount_95d88 rfl rfl rfl (by decide +kernel) ⟨Nat.le_of_ble_eq_true rfl, Nat.le_of_ble_eq_true rfl⟩) rfl hl.1 rfl (Nat.le_of_ble_eq_true rfl) dX9_becomeFloor_109 ⟨Nat.le_of_ble_eq_true rfl, Nat.le_of_ble_eq_true rfl⟩ ?_
          exact wret_i hx hb hr hlocks ((va_up J 6 x0), (va_up (va_up I 9 w_3) 10 m2_44), (va_up O 8 none), R, (va_up RO 2 w_4), LL, Y_5) ⟨x0, w_3, m2_44, none, w_4, Y_5, ⟨(by rw [bcount_cnt]; exact (bec_ok (fl := fl) (P := P) hTw (any_nil hKd (chR_nil hch_44 rfl))).1.symm), hi_6, hi_14, hi_7, hmono_12, (becC_ok hp_9 hTw (any_nil hKd (chR_nil hch_44 rfl)))⟩, rfl⟩ hP hD hS dX9_becomeFloor_112
      · obtain ⟨v_18, T_19, b_15, o_20, v_21, hS_22, e_17, hm_16, hp_23, hc_24⟩ := chR_some hch_44 c_1
        subst hS_22
        subst e_17
        refine lv_aload_n hx hb dX9_becomeFloor_48 rfl (lv_at hl 2 rfl) ?_
        obtain ⟨k_25, hk_26⟩ : ∃ k : Nat, (CT cy a (va_up J 6 m0_44) (va_up (va_up I 9 m1_44) 10 m2_44) (va_up O 8 m3_44) R (va_up RO 2 m4_44) (LL ++ Y))[k]? = some (b_15, .inr (6, [va_rf o_20, .int (nI T_19.length), .int (sK v_18), .int (sF v_18), .int (bI (m_acr v_18)), .int v_21, .long (sP v_18)])) := pixT hm_16
        refine va_get (D := D) (ci := 6) (v := .int (sK v_18)) (C := RX7) (T := TX7) (N := 7) hx hb hts hi7 hown hK hP k_25 hk_26 rfl 2 (by decide) hw2 (fun _ h9 => h9) rfl dX9_becomeFloor_49 ?_
        refine lv_iconst (v := 3) hx hb dX9_becomeFloor_52 (by decide) ?_
        refine lv_icmp_ne (tgt := 74) hx hb dX9_becomeFloor_53 (by decide) (fun c_27 => ?_) (fun c_27 => ?_)
        · refine lv_aload_n hx hb dX9_becomeFloor_74 rfl (lv_at hl 2 rfl) ?_
          obtain ⟨k_28, hk_29⟩ : ∃ k : Nat, (CT cy a (va_up J 6 m0_44) (va_up (va_up I 9 m1_44) 10 m2_44) (va_up O 8 m3_44) R (va_up RO 2 m4_44) (LL ++ Y))[k]? = some (b_15, .inr (6, [va_rf o_20, .int (nI T_19.length), .int (sK v_18), .int (sF v_18), .int (bI (m_acr v_18)), .int v_21, .long (sP v_18)])) := pixT hm_16
          refine va_get (D := D) (ci := 6) (v := va_rf o_20) (C := RX7) (T := TX7) (N := 7) hx hb hts hi7 hown hK hP k_28 hk_29 rfl 0 (by decide) hw3 (fun _ h9 => h9) rfl dX9_becomeFloor_75 ?_
          refine lv_astore_nO (lv' := [(3, va_rf o_20), (0, .ref (a 0)), (1, .long x0)]) hx hb dX9_becomeFloor_78 rfl hl (by decide) rfl (fun ls hl => ?_)
          refine lv_goto (tgt := 44) hx hb dX9_becomeFloor_79 (by decide) ?_
          exact ih44 o_20 T_19 m0_44 m1_44 m2_44 m3_44 m4_44 hc_24 hm_m1_44 hm_m3_44 hm_m4_44 hRA2 hTw (hKd.trans (any_c0 (kd_f1 c_27))) (Nat.lt_of_succ_lt_succ hn44) _ _ hP hD hS ls (lv_sub hl [1, 2, 0] rfl)
        · refine lv_aload_n hx hb dX9_becomeFloor_56 rfl (lv_at hl 2 rfl) ?_
          obtain ⟨k_30, hk_31⟩ : ∃ k : Nat, (CT cy a (va_up J 6 m0_44) (va_up (va_up I 9 m1_44) 10 m2_44) (va_up O 8 m3_44) R (va_up RO 2 m4_44) (LL ++ Y))[k]? = some (b_15, .inr (6, [va_rf o_20, .int (nI T_19.length), .int (sK v_18), .int (sF v_18), .int (bI (m_acr v_18)), .int v_21, .long (sP v_18)])) := pixT hm_16
          refine va_get (D := D) (ci := 6) (v := .long (sP v_18)) (C := RX7) (T := TX7) (N := 7) hx hb hts hi7 hown hK hP k_30 hk_31 rfl 6 (by decide) hw4 (fun _ h9 => h9) rfl dX9_becomeFloor_57 ?_
          refine lv_lload_n hx hb dX9_becomeFloor_60 rfl (lv_at hl 1 rfl) ?_
          refine kS_i (As := [.long (sP v_18), .long x0]) (rest := []) ⟨hx, hb, hml, hown, hts⟩ (x_X1_touchesOutside l (sP v_18) x0) (va_cwS 2 hts gX9_becomeFloor_X1_touchesOutside rfl rfl rfl (by decide +kernel) ⟨Nat.le_of_ble_eq_true rfl, Nat.le_of_ble_eq_true rfl⟩) rfl hl.1 rfl (Nat.le_of_ble_eq_true rfl) dX9_becomeFloor_61 ⟨Nat.le_of_ble_eq_true rfl, Nat.le_of_ble_eq_true rfl⟩ ?_
          refine lv_if_ne (tgt := 74) hx hb dX9_becomeFloor_64 (by decide) (fun c_32 => ?_) (fun c_32 => ?_)
          · replace c_32 := bI_t c_32
            refine lv_aload_n hx hb dX9_becomeFloor_74 rfl (lv_at hl 2 rfl) ?_
            obtain ⟨k_33, hk_34⟩ : ∃ k : Nat, (CT cy a (va_up J 6 m0_44) (va_up (va_up I 9 m1_44) 10 m2_44) (va_up O 8 m3_44) R (va_up RO 2 m4_44) (LL ++ Y))[k]? = some (b_15, .inr (6, [va_rf o_20, .int (nI T_19.length), .int (sK v_18), .int (sF v_18), .int (bI (m_acr v_18)), .int v_21, .long (sP v_18)])) := pixT hm_16
            refine va_get (D := D) (ci := 6) (v := va_rf o_20) (C := RX7) (T := TX7) (N := 7) hx hb hts hi7 hown hK hP k_33 hk_34 rfl 0 (by decide) hw3 (fun _ h9 => h9) rfl dX9_becomeFloor_75 ?_
            refine lv_astore_nO (lv' := [(3, va_rf o_20), (0, .ref (a 0)), (1, .long x0)]) hx hb dX9_becomeFloor_78 rfl hl (by decide) rfl (fun ls hl => ?_)
            refine lv_goto (tgt := 44) hx hb dX9_becomeFloor_79 (by decide) ?_
            exact ih44 o_20 T_19 m0_44 m1_44 m2_44 m3_44 m4_44 hc_24 hm_m1_44 hm_m3_44 hm_m4_44 hRA2 hTw (hKd.trans (any_c0 (kd_f2 (tcE hp_23 c_32)))) (Nat.lt_of_succ_lt_succ hn44) _ _ hP hD hS ls (lv_sub hl [1, 2, 0] rfl)
          · replace c_32 := bI_f c_32
            refine lv_aload_n hx hb dX9_becomeFloor_67 rfl (lv_at hl 0 rfl) ?_
            refine lv_ldc (v := (-100004)) hx hb hown hw5 dX9_becomeFloor_68 ?_
            refine kM_i (As := [.int (-100004)]) (rest := []) (q0 := 0) ⟨hx, hb, hml, hown, hts⟩ (t_X9_finding l D cy a _ (va_up J 6 m0_44) (va_up (va_up I 9 m1_44) 10 m2_44) (va_up O 8 m3_44) R (va_up RO 2 m4_44) LL Y ((-100004) : Int32)   ) (cwV 1 hts gX9_becomeFloor_X9_finding rfl rfl rfl (by decide +kernel) ⟨Nat.le_of_ble_eq_true rfl, Nat.le_of_ble_eq_true rfl⟩) hK hN hP hD hS hA rfl rfl rfl hl.1 rfl (Nat.le_of_ble_eq_true rfl) dX9_becomeFloor_70 ⟨Nat.le_of_ble_eq_true rfl, Nat.le_of_ble_eq_true rfl⟩ (fun r_35 u H locs hw hP hD hS => ?_)
            obtain ⟨w_36, rfl, rfl⟩ := hw
            have hP : va_P D vwCl (CT cy a (va_up J 6 m0_44) (va_up (va_up I 9 m1_44) 10 w_36) (va_up O 8 m3_44) R (va_up RO 2 m4_44) (LL ++ Y)) H := hP
            have hD : va_D A (CT cy a (va_up J 6 m0_44) (va_up (va_up I 9 m1_44) 10 w_36) (va_up O 8 m3_44) R (va_up RO 2 m4_44) (LL ++ Y)) := hD
            refine W.widen (k := 1) (n := 3) (Nat.le_of_ble_eq_true rfl) (Nat.le_of_ble_eq_true rfl) ?_
            exact wret_i hx hb hr hlocks ((va_up J 6 m0_44), (va_up (va_up I 9 m1_44) 10 w_36), (va_up O 8 m3_44), R, (va_up RO 2 m4_44), LL, Y) ⟨m0_44, m1_44, w_36, m3_44, m4_44, Y, ⟨(bec_kd (fl := fl) (P := P) hTw (hKd.trans (any_c1 (kd_t c_27 (tcE hp_23 c_32))))).1.symm, hm_m1_44, hm_m3_44, hm_m4_44, (fun _ h => h), (becC_kd hRA2 hTw (hKd.trans (any_c1 (kd_t c_27 (tcE hp_23 c_32)))))⟩, rfl⟩ hP hD hS dX9_becomeFloor_73
  have lp5 : ∀ (n5 : Nat), ∀ (o9 : Option Nat) (S9 : List Int32) (m0_5 : Int64) (m1_5 : Int32) (m2_5 : Int32) (m3_5 : Option Nat) (m4_5 : Nat → Option Nat), (chR Y S9 o9) → (vp_in m1_5 21) → (layO Y m3_5) → (∀ i, i < 20 → pasO Y (m4_5 i)) → (RCf Y m0_5 (O 7) m1_5 m4_5 fl S P) → (S.any (tw x0) = S9.any (tw x0)) → S9.length < n5 → ∀ (H : Heap) (locs : List Loc), va_P D vwCl (CT cy a (va_up J 6 m0_5) (va_up (va_up I 9 m1_5) 10 m2_5) (va_up O 8 m3_5) R (va_up RO 2 m4_5) (LL ++ Y)) H → va_D A (CT cy a (va_up J 6 m0_5) (va_up (va_up I 9 m1_5) 10 m2_5) (va_up O 8 m3_5) R (va_up RO 2 m4_5) (LL ++ Y)) → va_S A s.heap H locs → ∀ (ls : Array Slot), lv_has ls 4 [(0, .ref (a 0)), (1, .long x0), (3, va_rf o9)] → W p l e (headSpec wsX9_becomeFloor ({ frames := 3, cells := 1, slots := 3, locals := 65 })).room s m ([.ref (a 0), .long x0] : List Value).toArray below meth c H locs 0 0 (MQ below (va_Qi (fun r (u : TS) => ∃ (w0 : Int64), ∃ (w1 : Int32), ∃ (w2 : Int32), ∃ (w3 : Option Nat), ∃ (w4 : Nat → Option Nat), ∃ (Y9 : va_W), (r = (aBecA S x0) ∧ (vp_in w1 21) ∧ (layO Y9 w3) ∧ (∀ i, i < 20 → pasO Y9 (w4 i)) ∧ (∀ c, c ∈ Y → c ∈ Y9) ∧ (RCf Y9 w0 (O 7) w1 w4 (aFl fl S x0) S (aPs fl S P x0))) ∧ u = ((va_up J 6 w0), (va_up (va_up I 9 w1) 10 w2), (va_up O 8 w3), R, (va_up RO 2 w4), LL, Y9)) (BW D A (CTu cy a)) A) ([.ref (a 0), .long x0] : List Value).toArray s 1 3 A) (F0 m 5 ls []) := by
    intro n5
    induction n5 with
    | zero => intro o9 S9 m0_5 m1_5 m2_5 m3_5 m4_5 hch_5 hm_m1_5 hm_m3_5 hm_m4_5 hRA2 hT hn; exact absurd hn (Nat.not_lt_zero _)
    | succ n5 ih5 =>
      intro o9 S9 m0_5 m1_5 m2_5 m3_5 m4_5 hch_5 hm_m1_5 hm_m3_5 hm_m4_5 hRA2 hT hn5 H locs hP hD hS ls hl
      refine lv_aload_nO hx hb dX9_becomeFloor_5 rfl (lv_at hl 2 rfl) ?_
      refine lv_ifnullO (tgt := 39) hx hb dX9_becomeFloor_6 (by decide) (fun c_37 => ?_) (fun c_37 => ?_)
      · subst c_37
        refine lv_aload_n hx hb dX9_becomeFloor_39 rfl (lv_at hl 0 rfl) ?_
        refine va_get (D := D) (ci := 8) (v := va_rf (O 7)) (C := RX9) (T := TX9) (N := 11) hx hb hts hi9 hown hK hP 0 rfl rfl 7 (by decide) hw6 (fun _ h9 => h9) rfl dX9_becomeFloor_40 ?_
        refine lv_astore_nO (lv' := [(3, va_rf (O 7)), (0, .ref (a 0)), (1, .long x0)]) hx hb dX9_becomeFloor_43 rfl hl (by decide) rfl (fun ls hl => ?_)
        exact lp44 _ (O 7) S m0_5 m1_5 m2_5 m3_5 m4_5 hRA.2.1.1 hm_m1_5 hm_m3_5 hm_m4_5 hRA2 (any_nil hT (chR_nil hch_5 rfl)) rfl (Nat.lt_succ_self _) _ _ hP hD hS ls (lv_sub hl [1, 2, 0] rfl)
      · obtain ⟨v_41, T_42, b_38, o_43, v_44, hS_45, e_40, hm_39, hp_46, hc_47⟩ := chR_some hch_5 c_37
        subst hS_45
        subst e_40
        refine lv_aload_n hx hb dX9_becomeFloor_9 rfl (lv_at hl 2 rfl) ?_
        obtain ⟨k_48, hk_49⟩ : ∃ k : Nat, (CT cy a (va_up J 6 m0_5) (va_up (va_up I 9 m1_5) 10 m2_5) (va_up O 8 m3_5) R (va_up RO 2 m4_5) (LL ++ Y))[k]? = some (b_38, .inr (6, [va_rf o_43, .int (nI T_42.length), .int (sK v_41), .int (sF v_41), .int (bI (m_acr v_41)), .int v_44, .long (sP v_41)])) := pixT hm_39
        refine va_get (D := D) (ci := 6) (v := .long (sP v_41)) (C := RX7) (T := TX7) (N := 7) hx hb hts hi7 hown hK hP k_48 hk_49 rfl 6 (by decide) hw4 (fun _ h9 => h9) rfl dX9_becomeFloor_10 ?_
        refine lv_lload_n hx hb dX9_becomeFloor_13 rfl (lv_at hl 1 rfl) ?_
        refine lv_ldc2 (v := (-1)) hx hb hown hw7 dX9_becomeFloor_14 ?_
        refine lv_lxor hx hb dX9_becomeFloor_17 ?_
        refine lv_land hx hb dX9_becomeFloor_18 ?_
        refine lv_lconst (v := 0) hx hb dX9_becomeFloor_19 (by decide) ?_
        refine W.lcmp hx hb dX9_becomeFloor_20 ?_
        refine lv_if_eq (tgt := 31) hx hb dX9_becomeFloor_21 (by decide) (fun c_50 => ?_) (fun c_50 => ?_)
        · replace c_50 := (lg_cmp_eq _ _).mp c_50
          refine lv_aload_n hx hb dX9_becomeFloor_31 rfl (lv_at hl 2 rfl) ?_
          obtain ⟨k_51, hk_52⟩ : ∃ k : Nat, (CT cy a (va_up J 6 m0_5) (va_up (va_up I 9 m1_5) 10 m2_5) (va_up O 8 m3_5) R (va_up RO 2 m4_5) (LL ++ Y))[k]? = some (b_38, .inr (6, [va_rf o_43, .int (nI T_42.length), .int (sK v_41), .int (sF v_41), .int (bI (m_acr v_41)), .int v_44, .long (sP v_41)])) := pixT hm_39
          refine va_get (D := D) (ci := 6) (v := va_rf o_43) (C := RX7) (T := TX7) (N := 7) hx hb hts hi7 hown hK hP k_51 hk_52 rfl 0 (by decide) hw3 (fun _ h9 => h9) rfl dX9_becomeFloor_32 ?_
          refine lv_astore_nO (lv' := [(3, va_rf o_43), (0, .ref (a 0)), (1, .long x0)]) hx hb dX9_becomeFloor_35 rfl hl (by decide) rfl (fun ls hl => ?_)
          refine lv_goto (tgt := 5) hx hb dX9_becomeFloor_36 (by decide) ?_
          exact ih5 o_43 T_42 m0_5 m1_5 m2_5 m3_5 m4_5 hc_47 hm_m1_5 hm_m3_5 hm_m4_5 hRA2 (hT.trans (any_c0 (tw_f c_50))) (Nat.lt_of_succ_lt_succ hn5) _ _ hP hD hS ls (lv_sub hl [1, 2, 0] rfl)
        · replace c_50 := fun z => c_50 ((lg_cmp_eq _ _).mpr z)
          refine lv_aload_n hx hb dX9_becomeFloor_24 rfl (lv_at hl 0 rfl) ?_
          refine lv_ldc (v := (-100007)) hx hb hown hw8 dX9_becomeFloor_25 ?_
          refine kM_i (As := [.int (-100007)]) (rest := []) (q0 := 0) ⟨hx, hb, hml, hown, hts⟩ (t_X9_finding l D cy a _ (va_up J 6 m0_5) (va_up (va_up I 9 m1_5) 10 m2_5) (va_up O 8 m3_5) R (va_up RO 2 m4_5) LL Y ((-100007) : Int32)   ) (cwV 1 hts gX9_becomeFloor_X9_finding rfl rfl rfl (by decide +kernel) ⟨Nat.le_of_ble_eq_true rfl, Nat.le_of_ble_eq_true rfl⟩) hK hN hP hD hS hA rfl rfl rfl hl.1 rfl (Nat.le_of_ble_eq_true rfl) dX9_becomeFloor_27 ⟨Nat.le_of_ble_eq_true rfl, Nat.le_of_ble_eq_true rfl⟩ (fun r_53 u H locs hw hP hD hS => ?_)
          obtain ⟨w_54, rfl, rfl⟩ := hw
          have hP : va_P D vwCl (CT cy a (va_up J 6 m0_5) (va_up (va_up I 9 m1_5) 10 w_54) (va_up O 8 m3_5) R (va_up RO 2 m4_5) (LL ++ Y)) H := hP
          have hD : va_D A (CT cy a (va_up J 6 m0_5) (va_up (va_up I 9 m1_5) 10 w_54) (va_up O 8 m3_5) R (va_up RO 2 m4_5) (LL ++ Y)) := hD
          refine W.widen (k := 1) (n := 3) (Nat.le_of_ble_eq_true rfl) (Nat.le_of_ble_eq_true rfl) ?_
          exact wret_i hx hb hr hlocks ((va_up J 6 m0_5), (va_up (va_up I 9 m1_5) 10 w_54), (va_up O 8 m3_5), R, (va_up RO 2 m4_5), LL, Y) ⟨m0_5, m1_5, w_54, m3_5, m4_5, Y, ⟨(bec_tw (fl := fl) (P := P) (hT.trans (any_c1 (tw_t c_50)))).1.symm, hm_m1_5, hm_m3_5, hm_m4_5, (fun _ h => h), (becC_tw hRA2 (hT.trans (any_c1 (tw_t c_50))))⟩, rfl⟩ hP hD hS dX9_becomeFloor_30
  have hP : va_P D vwCl (CT cy a (va_up J 6 (J 6)) (va_up (va_up I 9 (I 9)) 10 (I 10)) (va_up O 8 (O 8)) R (va_up RO 2 (RO 2)) (LL ++ Y)) s.heap := hP
  have hD : va_D A (CT cy a (va_up J 6 (J 6)) (va_up (va_up I 9 (I 9)) 10 (I 10)) (va_up O 8 (O 8)) R (va_up RO 2 (RO 2)) (LL ++ Y)) := hD
  refine lv_aload_n hx hb dX9_becomeFloor_0 rfl (lv_at hl 0 rfl) ?_
  refine va_get (D := D) (ci := 8) (v := va_rf (O 7)) (C := RX9) (T := TX9) (N := 11) hx hb hts hi9 hown hK hP 0 rfl rfl 7 (by decide) hw6 (fun _ h9 => h9) rfl dX9_becomeFloor_1 ?_
  refine lv_astore_nO (lv' := [(3, va_rf (O 7)), (0, .ref (a 0)), (1, .long x0)]) hx hb dX9_becomeFloor_4 rfl hl (by decide) rfl (fun ls hl => ?_)
  exact lp5 _ (O 7) S (J 6) (I 9) (I 10) (O 8) (RO 2) hRA.2.1.1 hM.1 hM.2.2.1 hM.2.2.2.1 hRA rfl (Nat.lt_succ_self _) _ _ hP hD hS ls (lv_sub hl [1, 2, 0] rfl)
theorem dX9_row_0 : decode cX9_row 0 = .ok (.iload_n 1, 1) := by decide +kernel
theorem dX9_row_1 : decode cX9_row 1 = .ok (.ifCond .lt 20, 3) := by decide +kernel
theorem dX9_row_21 : decode cX9_row 21 = .ok (.aload_n 0, 1) := by decide +kernel
theorem dX9_row_22 : decode cX9_row 22 = .ok (.ldc 43, 2) := by decide +kernel
set_option maxRecDepth 20000 in
theorem ggX9_row_X9_finding : GoodIn wsX9_row wsX9_finding := goodIn_r _ [9, 10, 58, 59, 60, 61, 62, 63, 64, 65, 66, 67, 68] rfl (by decide +kernel)
set_option maxRecDepth 20000 in
theorem gX9_row_X9_finding : GoodIn wsX9_row (wsV RX9 44 RX9 yX9_finding wsX9_finding) := goodIn_app (goodIn_r _ [5, 6, 7, 8] rfl (by decide +kernel)) ggX9_row_X9_finding
theorem dX9_row_24 : decode cX9_row 24 = .ok (.invokevirtual 44, 3) := by decide +kernel
theorem dX9_row_27 : decode cX9_row 27 = .ok (.ireturn, 1) := by decide +kernel
theorem dX9_row_4 : decode cX9_row 4 = .ok (.iload_n 1, 1) := by decide +kernel
theorem dX9_row_5 : decode cX9_row 5 = .ok (.bipush 7, 2) := by decide +kernel
theorem dX9_row_7 : decode cX9_row 7 = .ok (.if_icmp .gt 14, 3) := by decide +kernel
theorem dX9_row_10 : decode cX9_row 10 = .ok (.iload_n 2, 1) := by decide +kernel
theorem dX9_row_11 : decode cX9_row 11 = .ok (.ifCond .lt 10, 3) := by decide +kernel
theorem dX9_row_14 : decode cX9_row 14 = .ok (.iload_n 2, 1) := by decide +kernel
theorem dX9_row_15 : decode cX9_row 15 = .ok (.sipush 255, 3) := by decide +kernel
theorem dX9_row_18 : decode cX9_row 18 = .ok (.if_icmp .le 10, 3) := by decide +kernel
theorem dX9_row_28 : decode cX9_row 28 = .ok (.aload_n 0, 1) := by decide +kernel
theorem dX9_row_29 : decode cX9_row 29 = .ok (.getfield 48, 3) := by decide +kernel
theorem dX9_row_32 : decode cX9_row 32 = .ok (.ldc2_w 52, 3) := by decide +kernel
theorem dX9_row_35 : decode cX9_row 35 = .ok (.bipush 8, 2) := by decide +kernel
theorem dX9_row_37 : decode cX9_row 37 = .ok (.iload_n 1, 1) := by decide +kernel
theorem dX9_row_38 : decode cX9_row 38 = .ok (.imul, 1) := by decide +kernel
theorem dX9_row_39 : decode cX9_row 39 = .ok (.lshl, 1) := by decide +kernel
theorem dX9_row_40 : decode cX9_row 40 = .ok (.ldc2_w 54, 3) := by decide +kernel
theorem dX9_row_43 : decode cX9_row 43 = .ok (.lxor, 1) := by decide +kernel
theorem dX9_row_44 : decode cX9_row 44 = .ok (.land, 1) := by decide +kernel
theorem dX9_row_45 : decode cX9_row 45 = .ok (.lstore_n 3, 1) := by decide +kernel
theorem dX9_row_46 : decode cX9_row 46 = .ok (.aload_n 0, 1) := by decide +kernel
theorem dX9_row_47 : decode cX9_row 47 = .ok (.lload_n 3, 1) := by decide +kernel
theorem dX9_row_48 : decode cX9_row 48 = .ok (.iload_n 2, 1) := by decide +kernel
theorem dX9_row_49 : decode cX9_row 49 = .ok (.i2l, 1) := by decide +kernel
theorem dX9_row_50 : decode cX9_row 50 = .ok (.bipush 8, 2) := by decide +kernel
theorem dX9_row_52 : decode cX9_row 52 = .ok (.iload_n 1, 1) := by decide +kernel
theorem dX9_row_53 : decode cX9_row 53 = .ok (.imul, 1) := by decide +kernel
theorem dX9_row_54 : decode cX9_row 54 = .ok (.lshl, 1) := by decide +kernel
theorem dX9_row_55 : decode cX9_row 55 = .ok (.lor, 1) := by decide +kernel
set_option maxRecDepth 20000 in
theorem ggX9_row_X9_becomeFloor : GoodIn wsX9_row wsX9_becomeFloor := goodIn_r _ [14, 15, 16, 4, 17, 18, 19, 20, 2, 21, 5, 6, 7, 8, 9, 10, 22, 23, 24, 25, 26, 27, 28, 29, 30, 31, 32, 33, 34, 35, 36, 37, 38, 39, 40, 41, 42, 43, 44, 45, 46, 47, 48, 49, 50, 51, 52, 53, 54, 55, 56, 57, 58, 59, 60, 61, 62, 63, 64, 65, 66, 67, 68, 69, 70, 71, 72, 73, 74, 75, 76, 77, 78] rfl (by decide +kernel)
set_option maxRecDepth 20000 in
theorem gX9_row_X9_becomeFloor : GoodIn wsX9_row (wsV RX9 56 RX9 yX9_becomeFloor wsX9_becomeFloor) := goodIn_app (goodIn_r _ [11, 12, 13, 8] rfl (by decide +kernel)) ggX9_row_X9_becomeFloor
theorem dX9_row_56 : decode cX9_row 56 = .ok (.invokevirtual 56, 3) := by decide +kernel
theorem dX9_row_59 : decode cX9_row 59 = .ok (.ireturn, 1) := by decide +kernel
set_option maxRecDepth 20000 in
theorem ihX9_row_9 : ∀ w ∈ u_ws RX9 TX9 11, w ∈ wsX9_row := fun _ h => List.mem_cons_of_mem _ (List.mem_append_left _ (List.mem_append_left _ (List.mem_append_right _ h)))
set_option maxHeartbeats 4000000 in
set_option maxRecDepth 100000 in
theorem x_X9_row (l : Launch) (D : va_G) (cy : Nat → ClassId) (a : Nat → Nat) (sz : Nat) (J : Nat → Int64) (I : Nat → Int32) (O : Nat → Option Nat) (R : Nat → Nat → Int32) (RO : Nat → Nat → Option Nat) (LL : va_W) (Y : va_W) (x0 : Int32) (x1 : Int32) (fl : Int64) (S : List Int32) (P : List PE) (hRA : RCf Y (J 6) (O 7) (I 9) (RO 2) fl S P) (hM : CI a Y I O RO) : Met l yX9_row wsX9_row ({ frames := 4, cells := 1, slots := 3, locals := 88 }) (va_Pc [.ref (a 0), .int x0, .int x1] (PW D cy sz (CT cy a J I O R RO (LL ++ Y)))) (va_Qi (fun r (u : TS) => ∃ (w0 : Int64), ∃ (w1 : Int32), ∃ (w2 : Int32), ∃ (w3 : Option Nat), ∃ (w4 : Nat → Option Nat), ∃ (Y9 : va_W), (r = (aRowA fl S x0 x1) ∧ (vp_in w1 21) ∧ (layO Y9 w3) ∧ (∀ i, i < 20 → pasO Y9 (w4 i)) ∧ (∀ c, c ∈ Y → c ∈ Y9) ∧ (RCf Y9 w0 (O 7) w1 w4 (aRowF fl S x0 x1) S (aRowP fl S P x0 x1))) ∧ u = ((va_up J 6 w0), (va_up (va_up I 9 w1) 10 w2), (va_up O 8 w3), R, (va_up RO 2 w4), LL, Y9)) (BW D (va_A (CT cy a J I O R RO (LL ++ Y)) sz) (CTu cy a)) (va_A (CT cy a J I O R RO (LL ++ Y)) sz)) 1 3 (va_A (CT cy a J I O R RO (LL ++ Y)) sz) := by
  refine Met.ofW (cc := cX9_row) (maxL := 5) (ret := (some .int)) (by decide) rfl ?_
  intro p e s m args below meth c s₁ B hml hv
  obtain ⟨rfl, rfl, hP, hK, hN, hD0⟩ := hv
  have hx := B.exec
  have hb := B.bytes
  have hr := B.returns
  have hts := atoms_spec (ws := wsX9_row) B.pre
  have hown : s.vm.findClass RX9 = some m.cls := findClass_of_methodNamed B.named
  have hlocks := B.notSynchronized
  have hw0 := hts (.constant RX9 43 (-100001)) (by decide +kernel)
  have hw1 := hts (.fieldLink RX9 48 "ParquetLayer" "fields" "J") (by decide +kernel)
  have hw2 := hts (.constantLong RX9 52 (255)) (by decide +kernel)
  have hw3 := hts (.constantLong RX9 54 (-1)) (by decide +kernel)
  have hi9 := ihX9_row_9
  have hD := hD0.self (sz := s.heap.size)
  generalize hAe : va_A (CT cy a J I O R RO (LL ++ Y)) s.heap.size = A at hD ⊢
  have hA : ∀ q : Nat, s.heap.size ≤ q → A q := fun q h => by rw [← hAe]; exact Or.inr h
  have hS : va_S A s.heap s.heap [] := va_S.rf
  have hl := lv_entry ([.ref (a 0), .int x0, .int x1]) (n := 5) (Nat.le_of_ble_eq_true rfl)
  rw [lg_entry_eq]
  generalize (lg_sl ([.ref (a 0), .int x0, .int x1]) ++ List.replicate (5 - (lg_sl ([.ref (a 0), .int x0, .int x1])).length) Slot.unset).toArray = ls at hl ⊢
  have hl : lv_has ls 5 [(0, .ref (a 0)), (1, .int x0), (2, .int x1)] := hl
  have hRO0 := hM.2.2.2.2.2.2.2.2.1
  have hRO1 := hM.2.2.2.2.2.2.2.2.2.1
  have hRO2 := hM.2.2.2.2.2.2.2.2.2.2.1
  have hRO3 := hM.2.2.2.2.2.2.2.2.2.2.2
  have hP : va_P D vwCl (CT cy a (va_up J 6 (J 6)) (va_up (va_up I 9 (I 9)) 10 (I 10)) (va_up O 8 (O 8)) R (va_up RO 2 (RO 2)) (LL ++ Y)) s.heap := hP
  have hD : va_D A (CT cy a (va_up J 6 (J 6)) (va_up (va_up I 9 (I 9)) 10 (I 10)) (va_up O 8 (O 8)) R (va_up RO 2 (RO 2)) (LL ++ Y)) := hD
  refine lv_iload_n hx hb dX9_row_0 rfl (lv_at hl 1 rfl) ?_
  refine lv_if_lt (tgt := 21) hx hb dX9_row_1 (by decide) (fun c_1 => ?_) (fun c_1 => ?_)
  · refine lv_aload_n hx hb dX9_row_21 rfl (lv_at hl 0 rfl) ?_
    refine lv_ldc (v := (-100001)) hx hb hown hw0 dX9_row_22 ?_
    refine kM_i (As := [.int (-100001)]) (rest := []) (q0 := 0) ⟨hx, hb, hml, hown, hts⟩ (t_X9_finding l D cy a _ (va_up J 6 (J 6)) (va_up (va_up I 9 (I 9)) 10 (I 10)) (va_up O 8 (O 8)) R (va_up RO 2 (RO 2)) LL Y ((-100001) : Int32)   ) (cwV 1 hts gX9_row_X9_finding rfl rfl rfl (by decide +kernel) ⟨Nat.le_of_ble_eq_true rfl, Nat.le_of_ble_eq_true rfl⟩) hK hN hP hD hS hA rfl rfl rfl hl.1 rfl (Nat.le_of_ble_eq_true rfl) dX9_row_24 ⟨Nat.le_of_ble_eq_true rfl, Nat.le_of_ble_eq_true rfl⟩ (fun r_2 u H locs hw hP hD hS => ?_)
    obtain ⟨w_3, rfl, rfl⟩ := hw
    have hP : va_P D vwCl (CT cy a (va_up J 6 (J 6)) (va_up (va_up I 9 (I 9)) 10 w_3) (va_up O 8 (O 8)) R (va_up RO 2 (RO 2)) (LL ++ Y)) H := hP
    have hD : va_D A (CT cy a (va_up J 6 (J 6)) (va_up (va_up I 9 (I 9)) 10 w_3) (va_up O 8 (O 8)) R (va_up RO 2 (RO 2)) (LL ++ Y)) := hD
    refine W.widen (k := 1) (n := 3) (Nat.le_of_ble_eq_true rfl) (Nat.le_of_ble_eq_true rfl) ?_
    exact wret_i hx hb hr hlocks ((va_up J 6 (J 6)), (va_up (va_up I 9 (I 9)) 10 w_3), (va_up O 8 (O 8)), R, (va_up RO 2 (RO 2)), LL, Y) ⟨(J 6), (I 9), w_3, (O 8), (RO 2), Y, ⟨(row_out (S := S) (P := P) (fl := fl) (rko1 c_1)).1, hM.1, hM.2.2.1, hM.2.2.2.1, (fun _ h => h), (rowC_out (rko1 c_1) hRA)⟩, rfl⟩ hP hD hS dX9_row_27
  · refine lv_iload_n hx hb dX9_row_4 rfl (lv_at hl 1 rfl) ?_
    refine lv_bipush (v := 7) hx hb dX9_row_5 (by decide) ?_
    refine lv_icmp_gt (tgt := 21) hx hb dX9_row_7 (by decide) (fun c_4 => ?_) (fun c_4 => ?_)
    · refine lv_aload_n hx hb dX9_row_21 rfl (lv_at hl 0 rfl) ?_
      refine lv_ldc (v := (-100001)) hx hb hown hw0 dX9_row_22 ?_
      refine kM_i (As := [.int (-100001)]) (rest := []) (q0 := 0) ⟨hx, hb, hml, hown, hts⟩ (t_X9_finding l D cy a _ (va_up J 6 (J 6)) (va_up (va_up I 9 (I 9)) 10 (I 10)) (va_up O 8 (O 8)) R (va_up RO 2 (RO 2)) LL Y ((-100001) : Int32)   ) (cwV 1 hts gX9_row_X9_finding rfl rfl rfl (by decide +kernel) ⟨Nat.le_of_ble_eq_true rfl, Nat.le_of_ble_eq_true rfl⟩) hK hN hP hD hS hA rfl rfl rfl hl.1 rfl (Nat.le_of_ble_eq_true rfl) dX9_row_24 ⟨Nat.le_of_ble_eq_true rfl, Nat.le_of_ble_eq_true rfl⟩ (fun r_5 u H locs hw hP hD hS => ?_)
      obtain ⟨w_6, rfl, rfl⟩ := hw
      have hP : va_P D vwCl (CT cy a (va_up J 6 (J 6)) (va_up (va_up I 9 (I 9)) 10 w_6) (va_up O 8 (O 8)) R (va_up RO 2 (RO 2)) (LL ++ Y)) H := hP
      have hD : va_D A (CT cy a (va_up J 6 (J 6)) (va_up (va_up I 9 (I 9)) 10 w_6) (va_up O 8 (O 8)) R (va_up RO 2 (RO 2)) (LL ++ Y)) := hD
      refine W.widen (k := 1) (n := 3) (Nat.le_of_ble_eq_true rfl) (Nat.le_of_ble_eq_true rfl) ?_
      exact wret_i hx hb hr hlocks ((va_up J 6 (J 6)), (va_up (va_up I 9 (I 9)) 10 w_6), (va_up O 8 (O 8)), R, (va_up RO 2 (RO 2)), LL, Y) ⟨(J 6), (I 9), w_6, (O 8), (RO 2), Y, ⟨(row_out (S := S) (P := P) (fl := fl) (rko2 c_4)).1, hM.1, hM.2.2.1, hM.2.2.2.1, (fun _ h => h), (rowC_out (rko2 c_4) hRA)⟩, rfl⟩ hP hD hS dX9_row_27
    · refine lv_iload_n hx hb dX9_row_10 rfl (lv_at hl 2 rfl) ?_
      refine lv_if_lt (tgt := 21) hx hb dX9_row_11 (by decide) (fun c_7 => ?_) (fun c_7 => ?_)
      · refine lv_aload_n hx hb dX9_row_21 rfl (lv_at hl 0 rfl) ?_
        refine lv_ldc (v := (-100001)) hx hb hown hw0 dX9_row_22 ?_
        refine kM_i (As := [.int (-100001)]) (rest := []) (q0 := 0) ⟨hx, hb, hml, hown, hts⟩ (t_X9_finding l D cy a _ (va_up J 6 (J 6)) (va_up (va_up I 9 (I 9)) 10 (I 10)) (va_up O 8 (O 8)) R (va_up RO 2 (RO 2)) LL Y ((-100001) : Int32)   ) (cwV 1 hts gX9_row_X9_finding rfl rfl rfl (by decide +kernel) ⟨Nat.le_of_ble_eq_true rfl, Nat.le_of_ble_eq_true rfl⟩) hK hN hP hD hS hA rfl rfl rfl hl.1 rfl (Nat.le_of_ble_eq_true rfl) dX9_row_24 ⟨Nat.le_of_ble_eq_true rfl, Nat.le_of_ble_eq_true rfl⟩ (fun r_8 u H locs hw hP hD hS => ?_)
        obtain ⟨w_9, rfl, rfl⟩ := hw
        have hP : va_P D vwCl (CT cy a (va_up J 6 (J 6)) (va_up (va_up I 9 (I 9)) 10 w_9) (va_up O 8 (O 8)) R (va_up RO 2 (RO 2)) (LL ++ Y)) H := hP
        have hD : va_D A (CT cy a (va_up J 6 (J 6)) (va_up (va_up I 9 (I 9)) 10 w_9) (va_up O 8 (O 8)) R (va_up RO 2 (RO 2)) (LL ++ Y)) := hD
        refine W.widen (k := 1) (n := 3) (Nat.le_of_ble_eq_true rfl) (Nat.le_of_ble_eq_true rfl) ?_
        exact wret_i hx hb hr hlocks ((va_up J 6 (J 6)), (va_up (va_up I 9 (I 9)) 10 w_9), (va_up O 8 (O 8)), R, (va_up RO 2 (RO 2)), LL, Y) ⟨(J 6), (I 9), w_9, (O 8), (RO 2), Y, ⟨(row_out (S := S) (P := P) (fl := fl) (rko3 c_7)).1, hM.1, hM.2.2.1, hM.2.2.2.1, (fun _ h => h), (rowC_out (rko3 c_7) hRA)⟩, rfl⟩ hP hD hS dX9_row_27
      · refine lv_iload_n hx hb dX9_row_14 rfl (lv_at hl 2 rfl) ?_
        refine lv_sipush (v := 255) hx hb dX9_row_15 (by decide) ?_
        refine lv_icmp_le (tgt := 28) hx hb dX9_row_18 (by decide) (fun c_10 => ?_) (fun c_10 => ?_)
        · refine lv_aload_n hx hb dX9_row_28 rfl (lv_at hl 0 rfl) ?_
          refine va_get (D := D) (ci := 8) (v := .long (J 6)) (C := RX9) (T := TX9) (N := 11) hx hb hts hi9 hown hK hP 0 rfl rfl 6 (by decide) hw1 (fun _ h9 => h9) rfl dX9_row_29 ?_
          refine lv_ldc2 (v := 255) hx hb hown hw2 dX9_row_32 ?_
          refine lv_bipush (v := 8) hx hb dX9_row_35 (by decide) ?_
          refine lv_iload_n hx hb dX9_row_37 rfl (lv_at hl 1 rfl) ?_
          refine lv_imul hx hb dX9_row_38 ?_
          refine lv_lshl (v := (255 : Int64) <<< ((8 * x0 : Int32).toInt64 &&& 63)) hx hb dX9_row_39 rfl ?_
          refine lv_ldc2 (v := (-1)) hx hb hown hw3 dX9_row_40 ?_
          refine lv_lxor hx hb dX9_row_43 ?_
          refine lv_land hx hb dX9_row_44 ?_
          refine lv_lstore_n (lv' := [(3, .long ((J 6) &&& (((255 : Int64) <<< ((8 * x0 : Int32).toInt64 &&& 63)) ^^^ (-1)))), (0, .ref (a 0)), (1, .int x0), (2, .int x1)]) hx hb dX9_row_45 rfl hl (by decide) rfl (fun ls hl => ?_)
          refine lv_aload_n hx hb dX9_row_46 rfl (lv_at hl 1 rfl) ?_
          refine lv_lload_n hx hb dX9_row_47 rfl (lv_at hl 0 rfl) ?_
          refine lv_iload_n hx hb dX9_row_48 rfl (lv_at hl 3 rfl) ?_
          refine lv_i2l (v := (x1 : Int32).toInt64) hx hb dX9_row_49 rfl ?_
          refine lv_bipush (v := 8) hx hb dX9_row_50 (by decide) ?_
          refine lv_iload_n hx hb dX9_row_52 rfl (lv_at hl 2 rfl) ?_
          refine lv_imul hx hb dX9_row_53 ?_
          refine lv_lshl (v := ((x1 : Int32).toInt64) <<< ((8 * x0 : Int32).toInt64 &&& 63)) hx hb dX9_row_54 rfl ?_
          refine lv_lor hx hb dX9_row_55 ?_
          refine kM_i (As := [.long (((J 6) &&& (((255 : Int64) <<< ((8 * x0 : Int32).toInt64 &&& 63)) ^^^ (-1))) ||| (((x1 : Int32).toInt64) <<< ((8 * x0 : Int32).toInt64 &&& 63)))]) (rest := []) (q0 := 0) ⟨hx, hb, hml, hown, hts⟩ (x_X9_becomeFloor l D cy a _ (va_up J 6 (J 6)) (va_up (va_up I 9 (I 9)) 10 (I 10)) (va_up O 8 (O 8)) R (va_up RO 2 (RO 2)) LL Y (((J 6) &&& (((255 : Int64) <<< ((8 * x0 : Int32).toInt64 &&& 63)) ^^^ (-1))) ||| (((x1 : Int32).toInt64) <<< ((8 * x0 : Int32).toInt64 &&& 63))) fl S P hRA ⟨hM.1, hM.2.1, hM.2.2.1, hM.2.2.2.1, hM.2.2.2.2.1, hM.2.2.2.2.2.1, hM.2.2.2.2.2.2.1, hM.2.2.2.2.2.2.2.1, hRO0, hRO1, hRO2, hRO3⟩ ) (cwV 1 hts gX9_row_X9_becomeFloor rfl rfl rfl (by decide +kernel) ⟨Nat.le_of_ble_eq_true rfl, Nat.le_of_ble_eq_true rfl⟩) hK hN hP hD hS hA rfl rfl rfl hl.1 rfl (Nat.le_of_ble_eq_true rfl) dX9_row_56 ⟨Nat.le_of_ble_eq_true rfl, Nat.le_of_ble_eq_true rfl⟩ (fun r_11 u H locs hw hP hD hS => ?_)
          obtain ⟨w_12, w_13, w_14, w_15, w_16, Y_17, ⟨rfl, hi_18, hi_19, hi_20, hs_21, hp_22⟩, rfl⟩ := hw
          have hi_23 : chO Y_17 (O 7) := chO_mono hs_21 hM.2.1
          have hmono_24 : ∀ c, c ∈ Y → c ∈ Y_17 := fun c h => hs_21 c ((fun _ h => h) c h)
          have hP : va_P D vwCl (CT cy a (va_up J 6 w_12) (va_up (va_up I 9 w_13) 10 w_14) (va_up O 8 w_15) R (va_up RO 2 w_16) (LL ++ Y_17)) H := hP
          have hD : va_D A (CT cy a (va_up J 6 w_12) (va_up (va_up I 9 w_13) 10 w_14) (va_up O 8 w_15) R (va_up RO 2 w_16) (LL ++ Y_17)) := hD
          exact wret_i hx hb hr hlocks ((va_up J 6 w_12), (va_up (va_up I 9 w_13) 10 w_14), (va_up O 8 w_15), R, (va_up RO 2 w_16), LL, Y_17) ⟨w_12, w_13, w_14, w_15, w_16, Y_17, ⟨(row_in (S := S) (P := P) (wi_t c_1 c_4) (wi_t c_7 (i32_nlt c_10)) (by rw [← hRA.1]; rfl)).1, hi_18, hi_19, hi_20, hmono_24, (rowC_in (wi_t c_1 c_4) (wi_t c_7 (i32_nlt c_10)) (by rw [← hRA.1]; rfl) hp_22)⟩, rfl⟩ hP hD hS dX9_row_59
        · refine lv_aload_n hx hb dX9_row_21 rfl (lv_at hl 0 rfl) ?_
          refine lv_ldc (v := (-100001)) hx hb hown hw0 dX9_row_22 ?_
          refine kM_i (As := [.int (-100001)]) (rest := []) (q0 := 0) ⟨hx, hb, hml, hown, hts⟩ (t_X9_finding l D cy a _ (va_up J 6 (J 6)) (va_up (va_up I 9 (I 9)) 10 (I 10)) (va_up O 8 (O 8)) R (va_up RO 2 (RO 2)) LL Y ((-100001) : Int32)   ) (cwV 1 hts gX9_row_X9_finding rfl rfl rfl (by decide +kernel) ⟨Nat.le_of_ble_eq_true rfl, Nat.le_of_ble_eq_true rfl⟩) hK hN hP hD hS hA rfl rfl rfl hl.1 rfl (Nat.le_of_ble_eq_true rfl) dX9_row_24 ⟨Nat.le_of_ble_eq_true rfl, Nat.le_of_ble_eq_true rfl⟩ (fun r_25 u H locs hw hP hD hS => ?_)
          obtain ⟨w_26, rfl, rfl⟩ := hw
          have hP : va_P D vwCl (CT cy a (va_up J 6 (J 6)) (va_up (va_up I 9 (I 9)) 10 w_26) (va_up O 8 (O 8)) R (va_up RO 2 (RO 2)) (LL ++ Y)) H := hP
          have hD : va_D A (CT cy a (va_up J 6 (J 6)) (va_up (va_up I 9 (I 9)) 10 w_26) (va_up O 8 (O 8)) R (va_up RO 2 (RO 2)) (LL ++ Y)) := hD
          refine W.widen (k := 1) (n := 3) (Nat.le_of_ble_eq_true rfl) (Nat.le_of_ble_eq_true rfl) ?_
          exact wret_i hx hb hr hlocks ((va_up J 6 (J 6)), (va_up (va_up I 9 (I 9)) 10 w_26), (va_up O 8 (O 8)), R, (va_up RO 2 (RO 2)), LL, Y) ⟨(J 6), (I 9), w_26, (O 8), (RO 2), Y, ⟨(row_out (S := S) (P := P) (fl := fl) (rko4 c_10)).1, hM.1, hM.2.2.1, hM.2.2.2.1, (fun _ h => h), (rowC_out (rko4 c_10) hRA)⟩, rfl⟩ hP hD hS dX9_row_27
theorem dX9_has_0 : decode cX9_has 0 = .ok (.iload_n 1, 1) := by decide +kernel
set_option maxRecDepth 20000 in
theorem ggX9_has_X1_isField : GoodIn wsX9_has wsX1_isField := goodIn_r _ [6] rfl (by decide +kernel)
set_option maxRecDepth 20000 in
theorem gX9_has_X1_isField : GoodIn wsX9_has (va_wsS RX9 60 yX1_isField wsX1_isField) := goodIn_app (goodIn_r _ [3, 4, 5] rfl (by decide +kernel)) ggX9_has_X1_isField
theorem dX9_has_1 : decode cX9_has 1 = .ok (.invokestatic 60, 3) := by decide +kernel
theorem dX9_has_4 : decode cX9_has 4 = .ok (.ifCond .ne 10, 3) := by decide +kernel
theorem dX9_has_14 : decode cX9_has 14 = .ok (.aload_n 0, 1) := by decide +kernel
theorem dX9_has_15 : decode cX9_has 15 = .ok (.getfield 48, 3) := by decide +kernel
theorem dX9_has_18 : decode cX9_has 18 = .ok (.iload_n 1, 1) := by decide +kernel
set_option maxRecDepth 20000 in
theorem ggX9_has_X1_holds : GoodIn wsX9_has wsX1_holds := goodIn_r _ [15] rfl (by decide +kernel)
set_option maxRecDepth 20000 in
theorem gX9_has_X1_holds : GoodIn wsX9_has (va_wsS RX9 66 yX1_holds wsX1_holds) := goodIn_app (goodIn_r _ [13, 14, 5] rfl (by decide +kernel)) ggX9_has_X1_holds
theorem dX9_has_19 : decode cX9_has 19 = .ok (.invokestatic 66, 3) := by decide +kernel
set_option maxRecDepth 20000 in
theorem ggX9_has_X9_asNumber : GoodIn wsX9_has wsX9_asNumber := goodIn_r _ [18] rfl (by decide +kernel)
set_option maxRecDepth 20000 in
theorem gX9_has_X9_asNumber : GoodIn wsX9_has (va_wsS RX9 70 yX9_asNumber wsX9_asNumber) := goodIn_app (goodIn_r _ [16, 17, 10] rfl (by decide +kernel)) ggX9_has_X9_asNumber
theorem dX9_has_22 : decode cX9_has 22 = .ok (.invokestatic 70, 3) := by decide +kernel
theorem dX9_has_25 : decode cX9_has 25 = .ok (.ireturn, 1) := by decide +kernel
theorem dX9_has_7 : decode cX9_has 7 = .ok (.aload_n 0, 1) := by decide +kernel
theorem dX9_has_8 : decode cX9_has 8 = .ok (.ldc 43, 2) := by decide +kernel
set_option maxRecDepth 20000 in
theorem ggX9_has_X9_finding : GoodIn wsX9_has wsX9_finding := goodIn_r _ [11, 12, 19, 20, 21, 22, 23, 24, 25, 26, 27, 28, 29] rfl (by decide +kernel)
set_option maxRecDepth 20000 in
theorem gX9_has_X9_finding : GoodIn wsX9_has (wsV RX9 44 RX9 yX9_finding wsX9_finding) := goodIn_app (goodIn_r _ [7, 8, 9, 10] rfl (by decide +kernel)) ggX9_has_X9_finding
theorem dX9_has_10 : decode cX9_has 10 = .ok (.invokevirtual 44, 3) := by decide +kernel
theorem dX9_has_13 : decode cX9_has 13 = .ok (.ireturn, 1) := by decide +kernel
set_option maxRecDepth 20000 in
theorem ihX9_has_9 : ∀ w ∈ u_ws RX9 TX9 11, w ∈ wsX9_has := fun _ h => List.mem_cons_of_mem _ (List.mem_append_right _ h)
set_option maxHeartbeats 4000000 in
set_option maxRecDepth 100000 in
theorem x_X9_has (l : Launch) (D : va_G) (cy : Nat → ClassId) (a : Nat → Nat) (sz : Nat) (J : Nat → Int64) (I : Nat → Int32) (O : Nat → Option Nat) (R : Nat → Nat → Int32) (RO : Nat → Nat → Option Nat) (LL : va_W) (Y : va_W) (x0 : Int32) (fl : Int64) (S : List Int32) (P : List PE) (hRA : RCf Y (J 6) (O 7) (I 9) (RO 2) fl S P) : Met l yX9_has wsX9_has ({ frames := 1, cells := 0, slots := 0, locals := 22 }) (va_Pc [.ref (a 0), .int x0] (PW D cy sz (CT cy a J I O R RO (LL ++ Y)))) (va_Qi (fun r (u : TS) => ∃ (w0 : Int32), (r = (aHas fl x0) ∧ (RCf Y (J 6) (O 7) (I 9) (RO 2) fl S P)) ∧ u = (J, (va_up I 10 w0), O, R, RO, LL, Y)) (BW D (va_A (CT cy a J I O R RO (LL ++ Y)) sz) (CTu cy a)) (va_A (CT cy a J I O R RO (LL ++ Y)) sz)) 0 0 (va_A (CT cy a J I O R RO (LL ++ Y)) sz) := by
  refine Met.ofW (cc := cX9_has) (maxL := 2) (ret := (some .int)) (by decide) rfl ?_
  intro p e s m args below meth c s₁ B hml hv
  obtain ⟨rfl, rfl, hP, hK, hN, hD0⟩ := hv
  have hx := B.exec
  have hb := B.bytes
  have hr := B.returns
  have hts := atoms_spec (ws := wsX9_has) B.pre
  have hown : s.vm.findClass RX9 = some m.cls := findClass_of_methodNamed B.named
  have hlocks := B.notSynchronized
  have hw0 := hts (.fieldLink RX9 48 "ParquetLayer" "fields" "J") (by decide +kernel)
  have hw1 := hts (.constant RX9 43 (-100001)) (by decide +kernel)
  have hi9 := ihX9_has_9
  have hD := hD0.self (sz := s.heap.size)
  generalize hAe : va_A (CT cy a J I O R RO (LL ++ Y)) s.heap.size = A at hD ⊢
  have hA : ∀ q : Nat, s.heap.size ≤ q → A q := fun q h => by rw [← hAe]; exact Or.inr h
  have hS : va_S A s.heap s.heap [] := va_S.rf
  have hl := lv_entry ([.ref (a 0), .int x0]) (n := 2) (Nat.le_of_ble_eq_true rfl)
  rw [lg_entry_eq]
  generalize (lg_sl ([.ref (a 0), .int x0]) ++ List.replicate (2 - (lg_sl ([.ref (a 0), .int x0])).length) Slot.unset).toArray = ls at hl ⊢
  have hl : lv_has ls 2 [(0, .ref (a 0)), (1, .int x0)] := hl
  have hP : va_P D vwCl (CT cy a J (va_up I 10 (I 10)) O R RO (LL ++ Y)) s.heap := hP
  have hD : va_D A (CT cy a J (va_up I 10 (I 10)) O R RO (LL ++ Y)) := hD
  refine lv_iload_n hx hb dX9_has_0 rfl (lv_at hl 1 rfl) ?_
  refine kS_i (As := [.int x0]) (rest := []) ⟨hx, hb, hml, hown, hts⟩ (c_X1_isField l x0) (va_cwS 1 hts gX9_has_X1_isField rfl rfl rfl (by decide +kernel) ⟨Nat.le_of_ble_eq_true rfl, Nat.le_of_ble_eq_true rfl⟩) rfl hl.1 rfl (Nat.le_of_ble_eq_true rfl) dX9_has_1 ⟨Nat.le_of_ble_eq_true rfl, Nat.le_of_ble_eq_true rfl⟩ ?_
  refine lv_if_ne (tgt := 14) hx hb dX9_has_4 (by decide) (fun c_1 => ?_) (fun c_1 => ?_)
  · replace c_1 := bI_t c_1
    refine lv_aload_n hx hb dX9_has_14 rfl (lv_at hl 0 rfl) ?_
    refine va_get (D := D) (ci := 8) (v := .long (J 6)) (C := RX9) (T := TX9) (N := 11) hx hb hts hi9 hown hK hP 0 rfl rfl 6 (by decide) hw0 (fun _ h9 => h9) rfl dX9_has_15 ?_
    refine lv_iload_n hx hb dX9_has_18 rfl (lv_at hl 1 rfl) ?_
    refine kS_i (As := [.long (J 6), .int x0]) (rest := []) ⟨hx, hb, hml, hown, hts⟩ (c_X1_holds l (J 6) x0) (va_cwS 2 hts gX9_has_X1_holds rfl rfl rfl (by decide +kernel) ⟨Nat.le_of_ble_eq_true rfl, Nat.le_of_ble_eq_true rfl⟩) rfl hl.1 rfl (Nat.le_of_ble_eq_true rfl) dX9_has_19 ⟨Nat.le_of_ble_eq_true rfl, Nat.le_of_ble_eq_true rfl⟩ ?_
    refine kS_i (As := [.int (bI (g_holds (J 6) x0))]) (rest := []) ⟨hx, hb, hml, hown, hts⟩ (c_X9_asNumber l (g_holds (J 6) x0)) (va_cwS 1 hts gX9_has_X9_asNumber rfl rfl rfl (by decide +kernel) ⟨Nat.le_of_ble_eq_true rfl, Nat.le_of_ble_eq_true rfl⟩) rfl hl.1 rfl (Nat.le_of_ble_eq_true rfl) dX9_has_22 ⟨Nat.le_of_ble_eq_true rfl, Nat.le_of_ble_eq_true rfl⟩ ?_
    exact wret_i hx hb hr hlocks (J, (va_up I 10 (I 10)), O, R, RO, LL, Y) ⟨(I 10), ⟨(by rw [← hRA.1]; exact has_eq c_1), hRA⟩, rfl⟩ hP hD hS dX9_has_25
  · replace c_1 := bI_f c_1
    refine lv_aload_n hx hb dX9_has_7 rfl (lv_at hl 0 rfl) ?_
    refine lv_ldc (v := (-100001)) hx hb hown hw1 dX9_has_8 ?_
    refine kM_i (As := [.int (-100001)]) (rest := []) (q0 := 0) ⟨hx, hb, hml, hown, hts⟩ (t_X9_finding l D cy a _ J (va_up I 10 (I 10)) O R RO LL Y ((-100001) : Int32)   ) (cwV 1 hts gX9_has_X9_finding rfl rfl rfl (by decide +kernel) ⟨Nat.le_of_ble_eq_true rfl, Nat.le_of_ble_eq_true rfl⟩) hK hN hP hD hS hA rfl rfl rfl hl.1 rfl (Nat.le_of_ble_eq_true rfl) dX9_has_10 ⟨Nat.le_of_ble_eq_true rfl, Nat.le_of_ble_eq_true rfl⟩ (fun r_2 u H locs hw hP hD hS => ?_)
    obtain ⟨w_3, rfl, rfl⟩ := hw
    have hP : va_P D vwCl (CT cy a J (va_up I 10 w_3) O R RO (LL ++ Y)) H := hP
    have hD : va_D A (CT cy a J (va_up I 10 w_3) O R RO (LL ++ Y)) := hD
    exact wret_i hx hb hr hlocks (J, (va_up I 10 w_3), O, R, RO, LL, Y) ⟨w_3, ⟨(has_no c_1), hRA⟩, rfl⟩ hP hD hS dX9_has_13
