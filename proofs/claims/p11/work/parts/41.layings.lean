theorem dX4_know_39 : decode cX4_know 39 = .ok (.iload_n 3, 1) := by decide +kernel
theorem dX4_know_40 : decode cX4_know 40 = .ok (.ifCond .lt 33, 3) := by decide +kernel
theorem dX4_know_73 : decode cX4_know 73 = .ok (.return_, 1) := by decide +kernel
theorem dX4_know_43 : decode cX4_know 43 = .ok (.aload_n 0, 1) := by decide +kernel
theorem dX4_know_44 : decode cX4_know 44 = .ok (.getfield 9, 3) := by decide +kernel
theorem dX4_know_47 : decode cX4_know 47 = .ok (.iload_n 3, 1) := by decide +kernel
theorem dX4_know_48 : decode cX4_know 48 = .ok (.sipush 256, 3) := by decide +kernel
theorem dX4_know_51 : decode cX4_know 51 = .ok (.imul, 1) := by decide +kernel
theorem dX4_know_52 : decode cX4_know 52 = .ok (.iload_n 3, 1) := by decide +kernel
theorem dX4_know_53 : decode cX4_know 53 = .ok (.iconst 1, 1) := by decide +kernel
theorem dX4_know_54 : decode cX4_know 54 = .ok (.iadd, 1) := by decide +kernel
theorem dX4_know_55 : decode cX4_know 55 = .ok (.sipush 256, 3) := by decide +kernel
theorem dX4_know_58 : decode cX4_know 58 = .ok (.imul, 1) := by decide +kernel
theorem dX4_know_59 : decode cX4_know 59 = .ok (.aload_n 0, 1) := by decide +kernel
theorem dX4_know_60 : decode cX4_know 60 = .ok (.getfield 20, 3) := by decide +kernel
theorem dX4_know_63 : decode cX4_know 63 = .ok (.iload_n 3, 1) := by decide +kernel
set_option maxRecDepth 20000 in
theorem ggX4_know_X4_fill : GoodIn wsX4_know wsX4_fill := goodIn_r _ [7, 8, 9, 6, 10, 11, 12, 13, 14, 15, 16, 17] rfl (by decide +kernel)
set_option maxRecDepth 20000 in
theorem gX4_know_X4_fill : GoodIn wsX4_know (va_wsS RX4 24 yX4_fill wsX4_fill) := goodIn_app (goodIn_r _ [4, 5, 6] rfl (by decide +kernel)) ggX4_know_X4_fill
theorem dX4_know_64 : decode cX4_know 64 = .ok (.invokestatic 24, 3) := by decide +kernel
theorem dX4_know_67 : decode cX4_know 67 = .ok (.iinc 3 (-1), 3) := by decide +kernel
theorem dX4_know_70 : decode cX4_know 70 = .ok (.goto (-31), 3) := by decide +kernel
theorem dX4_know_0 : decode cX4_know 0 = .ok (.aload_n 0, 1) := by decide +kernel
theorem dX4_know_1 : decode cX4_know 1 = .ok (.getfield 16, 3) := by decide +kernel
theorem dX4_know_4 : decode cX4_know 4 = .ok (.ifCond .eq 13, 3) := by decide +kernel
theorem dX4_know_17 : decode cX4_know 17 = .ok (.aload_n 0, 1) := by decide +kernel
theorem dX4_know_18 : decode cX4_know 18 = .ok (.lload_n 1, 1) := by decide +kernel
theorem dX4_know_19 : decode cX4_know 19 = .ok (.putfield 20, 3) := by decide +kernel
theorem dX4_know_22 : decode cX4_know 22 = .ok (.aload_n 0, 1) := by decide +kernel
theorem dX4_know_23 : decode cX4_know 23 = .ok (.iconst 1, 1) := by decide +kernel
theorem dX4_know_24 : decode cX4_know 24 = .ok (.putfield 16, 3) := by decide +kernel
theorem dX4_know_27 : decode cX4_know 27 = .ok (.aload_n 0, 1) := by decide +kernel
theorem dX4_know_28 : decode cX4_know 28 = .ok (.getfield 9, 3) := by decide +kernel
theorem dX4_know_31 : decode cX4_know 31 = .ok (.sipush 16384, 3) := by decide +kernel
theorem dX4_know_34 : decode cX4_know 34 = .ok (.iconst 1, 1) := by decide +kernel
theorem dX4_know_35 : decode cX4_know 35 = .ok (.iastore, 1) := by decide +kernel
theorem dX4_know_36 : decode cX4_know 36 = .ok (.bipush 63, 2) := by decide +kernel
theorem dX4_know_38 : decode cX4_know 38 = .ok (.istore_n 3, 1) := by decide +kernel
theorem dX4_know_7 : decode cX4_know 7 = .ok (.aload_n 0, 1) := by decide +kernel
theorem dX4_know_8 : decode cX4_know 8 = .ok (.getfield 20, 3) := by decide +kernel
theorem dX4_know_11 : decode cX4_know 11 = .ok (.lload_n 1, 1) := by decide +kernel
theorem dX4_know_12 : decode cX4_know 12 = .ok (.lcmp, 1) := by decide +kernel
theorem dX4_know_13 : decode cX4_know 13 = .ok (.ifCond .ne 4, 3) := by decide +kernel
theorem dX4_know_16 : decode cX4_know 16 = .ok (.return_, 1) := by decide +kernel
set_option maxRecDepth 20000 in
theorem ihX4_know_4 : ∀ w ∈ u_ws RX4 TX4 4, w ∈ wsX4_know := fun _ h => List.mem_cons_of_mem _ (List.mem_append_right _ h)
set_option maxHeartbeats 4000000 in
set_option maxRecDepth 100000 in
theorem t_X4_know (l : Launch) (D : va_G) (cy : Nat → ClassId) (a : Nat → Nat) (sz : Nat) (J : Nat → Int64) (I : Nat → Int32) (O : Nat → Option Nat) (R : Nat → Nat → Int32) (RO : Nat → Nat → Option Nat) (b0 b1 b2 : Nat) (jf : Int64) (kn : Int32) (fw fp : Nat → Int32) (hkn : isB kn) (Y : va_W) (x0 : Int64) (htb : kn = 1 → tabF (bfx jf) fw 0) : Met l yX4_know wsX4_know ({ frames := 3, cells := 0, slots := 0, locals := 76 }) (va_Pc [.ref b0, .long x0] (PW D cy sz (CT cy a J I O R RO ([(b0, .inr (3, [.ref b1, .ref b2, .long jf, .int kn])), (b1, .inl (cy 0, 16640, .inl fw)), (b2, .inl (cy 0, 512, .inl fp))] ++ Y)))) (va_Qv (fun (u : TS) => ∃ (jf9 : Int64), ∃ (kn9 : Int32), ∃ (fw9 : Nat → Int32), (isB kn9 ∧ (jf9 = x0) ∧ (kn9 = 1) ∧ (tabF (bfx x0) fw9 0)) ∧ u = (J, I, O, R, RO, [(b0, .inr (3, [.ref b1, .ref b2, .long jf9, .int kn9])), (b1, .inl (cy 0, 16640, .inl fw9)), (b2, .inl (cy 0, 512, .inl fp))], Y)) (BW D (va_A (CT cy a J I O R RO ([(b0, .inr (3, [.ref b1, .ref b2, .long jf, .int kn])), (b1, .inl (cy 0, 16640, .inl fw)), (b2, .inl (cy 0, 512, .inl fp))] ++ Y)) sz) (CTu cy a)) (va_A (CT cy a J I O R RO ([(b0, .inr (3, [.ref b1, .ref b2, .long jf, .int kn])), (b1, .inl (cy 0, 16640, .inl fw)), (b2, .inl (cy 0, 512, .inl fp))] ++ Y)) sz)) 0 0 (va_A (CT cy a J I O R RO ([(b0, .inr (3, [.ref b1, .ref b2, .long jf, .int kn])), (b1, .inl (cy 0, 16640, .inl fw)), (b2, .inl (cy 0, 512, .inl fp))] ++ Y)) sz) := by
  refine Met.ofW (cc := cX4_know) (maxL := 4) (ret := none) (by decide) rfl ?_
  intro p e s m args below meth c s₁ B hml hv
  obtain ⟨rfl, rfl, hP, hK, hN, hD0⟩ := hv
  have hx := B.exec
  have hb := B.bytes
  have hr := B.returns
  have hts := atoms_spec (ws := wsX4_know) B.pre
  have hown : s.vm.findClass RX4 = some m.cls := findClass_of_methodNamed B.named
  have hlocks := B.notSynchronized
  have hw0 := hts (.fieldLink RX4 9 "ParquetLayer$Layings" "ways" "[I") (by decide +kernel)
  have hw1 := hts (.fieldLink RX4 20 "ParquetLayer$Layings" "free" "J") (by decide +kernel)
  have hw2 := hts (.fieldLink RX4 16 "ParquetLayer$Layings" "known" "Z") (by decide +kernel)
  have hi4 := ihX4_know_4
  have hD := hD0.self (sz := s.heap.size)
  generalize hAe : va_A (CT cy a J I O R RO ([(b0, .inr (3, [.ref b1, .ref b2, .long jf, .int kn])), (b1, .inl (cy 0, 16640, .inl fw)), (b2, .inl (cy 0, 512, .inl fp))] ++ Y)) s.heap.size = A at hD ⊢
  have hA : ∀ q : Nat, s.heap.size ≤ q → A q := fun q h => by rw [← hAe]; exact Or.inr h
  have hS : va_S A s.heap s.heap [] := va_S.rf
  have hl := lv_entry ([.ref b0, .long x0]) (n := 4) (Nat.le_of_ble_eq_true rfl)
  rw [lg_entry_eq]
  generalize (lg_sl ([.ref b0, .long x0]) ++ List.replicate (4 - (lg_sl ([.ref b0, .long x0])).length) Slot.unset).toArray = ls at hl ⊢
  have hl : lv_has ls 4 [(0, .ref b0), (1, .long x0)] := hl
  have lp39 : ∀ (n39 : Nat), ∀ (i : Nat) (jf_39 : Int64) (kn_39 : Int32) (fw_39 : Nat → Int32), (i ≤ 64) → (isB kn_39) → (jf_39 = x0) → (kn_39 = 1) → (tabF (bfx x0) fw_39 (64 - i)) → (64 - i) < n39 → ∀ (H : Heap) (locs : List Loc), va_P D vwCl (CT cy a J I O R RO ([(b0, .inr (3, [.ref b1, .ref b2, .long jf_39, .int kn_39])), (b1, .inl (cy 0, 16640, .inl fw_39)), (b2, .inl (cy 0, 512, .inl fp))] ++ Y)) H → va_D A (CT cy a J I O R RO ([(b0, .inr (3, [.ref b1, .ref b2, .long jf_39, .int kn_39])), (b1, .inl (cy 0, 16640, .inl fw_39)), (b2, .inl (cy 0, 512, .inl fp))] ++ Y)) → va_S A s.heap H locs → ∀ (ls : Array Slot), lv_has ls 4 [(0, .ref b0), (1, .long x0), (3, .int (nI (64 - i) - 1))] → W p l e (headSpec wsX4_know ({ frames := 3, cells := 0, slots := 0, locals := 76 })).room s m ([.ref b0, .long x0] : List Value).toArray below meth c H locs 0 0 (MQ below (va_Qv (fun (u : TS) => ∃ (jf9 : Int64), ∃ (kn9 : Int32), ∃ (fw9 : Nat → Int32), (isB kn9 ∧ (jf9 = x0) ∧ (kn9 = 1) ∧ (tabF (bfx x0) fw9 0)) ∧ u = (J, I, O, R, RO, [(b0, .inr (3, [.ref b1, .ref b2, .long jf9, .int kn9])), (b1, .inl (cy 0, 16640, .inl fw9)), (b2, .inl (cy 0, 512, .inl fp))], Y)) (BW D A (CTu cy a)) A) ([.ref b0, .long x0] : List Value).toArray s 0 0 A) (F0 m 39 ls []) := by
    intro n39
    induction n39 with
    | zero => intro i jf_39 kn_39 fw_39 hi hkn_39 hjf hk1 htab hn; exact absurd hn (Nat.not_lt_zero _)
    | succ n39 ih39 =>
      intro i jf_39 kn_39 fw_39 hi hkn_39 hjf hk1 htab hn39 H locs hP hD hS ls hl
      refine lv_iload_n hx hb dX4_know_39 rfl (lv_at hl 2 rfl) ?_
      refine lv_if_lt (tgt := 73) hx hb dX4_know_40 (by decide) (fun c_1 => ?_) (fun c_1 => ?_)
      · have hie := fw_ge hi c_1
        exact wret_v hx hb hr hlocks (J, I, O, R, RO, [(b0, .inr (3, [.ref b1, .ref b2, .long jf_39, .int kn_39])), (b1, .inl (cy 0, 16640, .inl fw_39)), (b2, .inl (cy 0, 512, .inl fp))], Y) ⟨jf_39, kn_39, fw_39, ⟨hkn_39, hjf, hk1, (by rw [hie] at htab; exact htab)⟩, rfl⟩ hP hD hS dX4_know_73
      · obtain ⟨j, hj, he⟩ := fw_lt hi c_1
        rw [he] at hl
        refine lv_aload_n hx hb dX4_know_43 rfl (lv_at hl 0 rfl) ?_
        refine va_get (D := D) (ci := 3) (v := .ref b1) (C := RX4) (T := TX4) (N := 4) hx hb hts hi4 hown hK hP 20 rfl rfl 0 (by decide) hw0 (fun _ h9 => h9) rfl dX4_know_44 ?_
        refine lv_iload_n hx hb dX4_know_47 rfl (lv_at hl 2 rfl) ?_
        refine lv_sipush (v := 256) hx hb dX4_know_48 (by decide) ?_
        refine lv_imul hx hb dX4_know_51 ?_
        refine wtop_i (y := nI (j * 256)) (pk_mul j 256) ?_
        refine lv_iload_n hx hb dX4_know_52 rfl (lv_at hl 2 rfl) ?_
        refine lv_iconst (v := 1) hx hb dX4_know_53 (by decide) ?_
        refine lv_iadd hx hb dX4_know_54 ?_
        refine wtop_i (y := nI (j + 1)) (nI_1 _) ?_
        refine lv_sipush (v := 256) hx hb dX4_know_55 (by decide) ?_
        refine lv_imul hx hb dX4_know_58 ?_
        refine wtop_i (y := nI ((j + 1) * 256)) (pk_mul (j + 1) 256) ?_
        refine lv_aload_n hx hb dX4_know_59 rfl (lv_at hl 0 rfl) ?_
        refine va_get (D := D) (ci := 3) (v := .long jf_39) (C := RX4) (T := TX4) (N := 4) hx hb hts hi4 hown hK hP 20 rfl rfl 2 (by decide) hw1 (fun _ h9 => h9) rfl dX4_know_60 ?_
        refine lv_iload_n hx hb dX4_know_63 rfl (lv_at hl 2 rfl) ?_
        refine kW_v (As := [.ref b1, .int (nI (j * 256)), .int (nI ((j + 1) * 256)), .long jf_39, .int (nI j)]) (rest := []) ⟨hx, hb, hml, hown, hts⟩ (t_X4_fill_fw l D cy a _ J I O R RO b0 b1 b2 jf_39 kn_39 fw_39 fp hkn_39 Y (j * 256) ((j + 1) * 256) jf_39 j (by omega) (by omega) (by omega) (by omega)  ) (va_cwS 5 hts gX4_know_X4_fill rfl rfl rfl (by decide +kernel) ⟨Nat.le_of_ble_eq_true rfl, Nat.le_of_ble_eq_true rfl⟩) hK hN hP hD hS hA rfl hl.1 rfl (Nat.le_of_ble_eq_true rfl) dX4_know_64 ⟨Nat.le_of_ble_eq_true rfl, Nat.le_of_ble_eq_true rfl⟩ (fun u H locs hw hP hD hS => ?_)
        obtain ⟨g_3, hp_4, rfl⟩ := hw
        have hP : va_P D vwCl (CT cy a J I O R RO ([(b0, .inr (3, [.ref b1, .ref b2, .long jf_39, .int kn_39])), (b1, .inl (cy 0, 16640, .inl g_3)), (b2, .inl (cy 0, 512, .inl fp))] ++ Y)) H := hP
        have hD : va_D A (CT cy a J I O R RO ([(b0, .inr (3, [.ref b1, .ref b2, .long jf_39, .int kn_39])), (b1, .inl (cy 0, 16640, .inl g_3)), (b2, .inl (cy 0, 512, .inl fp))] ++ Y)) := hD
        refine lv_iinc (v := nI (64 - (i + 1)) - 1) (lv' := [(3, .int (nI (64 - (i + 1)) - 1)), (0, .ref b0), (1, .long x0)]) hx hb dX4_know_67 hl (k := 2) rfl (fw_dec hj) (by decide) rfl (fun ls hl => ?_)
        refine lv_goto (tgt := 39) hx hb dX4_know_70 (by decide) ?_
        exact ih39 (i + 1) jf_39 kn_39 g_3 (by omega) hkn_39 hjf hk1 (tab_s hj htab (by rw [← hjf]; exact hp_4)) (by omega) _ _ hP hD hS ls (lv_sub hl [1, 2, 0] rfl)
  refine lv_aload_n hx hb dX4_know_0 rfl (lv_at hl 0 rfl) ?_
  refine va_get (D := D) (ci := 3) (v := .int kn) (C := RX4) (T := TX4) (N := 4) hx hb hts hi4 hown hK hP 20 rfl rfl 3 (by decide) hw2 (fun _ h9 => h9) rfl dX4_know_1 ?_
  refine lv_if_eq (tgt := 17) hx hb dX4_know_4 (by decide) (fun c_5 => ?_) (fun c_5 => ?_)
  · refine lv_aload_n hx hb dX4_know_17 rfl (lv_at hl 0 rfl) ?_
    refine lv_lload_n hx hb dX4_know_18 rfl (lv_at hl 1 rfl) ?_
    refine va_put (D := D) (ci := 3) (v := .long x0) (ty := .long) (C := RX4) (T := TX4) (N := 4) hx hb hts hi4 tyX4 tyX4_ok nmX4 hown hK hP hD hS 20 rfl rfl 2 (by decide) hw1 (fun _ h9 => h9) rfl (by decide +kernel) rfl rfl (Nat.le_of_ble_eq_true rfl) dX4_know_19 (fun H locs hP hD hS => ?_)
    have hP : va_P D vwCl (CT cy a J I O R RO ([(b0, .inr (3, [.ref b1, .ref b2, .long x0, .int kn])), (b1, .inl (cy 0, 16640, .inl fw)), (b2, .inl (cy 0, 512, .inl fp))] ++ Y)) H := hP
    have hD : va_D A (CT cy a J I O R RO ([(b0, .inr (3, [.ref b1, .ref b2, .long x0, .int kn])), (b1, .inl (cy 0, 16640, .inl fw)), (b2, .inl (cy 0, 512, .inl fp))] ++ Y)) := hD
    refine lv_aload_n hx hb dX4_know_22 rfl (lv_at hl 0 rfl) ?_
    refine lv_iconst (v := 1) hx hb dX4_know_23 (by decide) ?_
    refine va_put (D := D) (ci := 3) (v := .int 1) (ty := .boolean) (C := RX4) (T := TX4) (N := 4) hx hb hts hi4 tyX4 tyX4_ok nmX4 hown hK hP hD hS 20 rfl rfl 3 (by decide) hw2 (fun _ h9 => h9) rfl (by decide +kernel) rfl rfl (Nat.le_of_ble_eq_true rfl) dX4_know_24 (fun H locs hP hD hS => ?_)
    have hP : va_P D vwCl (CT cy a J I O R RO ([(b0, .inr (3, [.ref b1, .ref b2, .long x0, .int 1])), (b1, .inl (cy 0, 16640, .inl fw)), (b2, .inl (cy 0, 512, .inl fp))] ++ Y)) H := hP
    have hD : va_D A (CT cy a J I O R RO ([(b0, .inr (3, [.ref b1, .ref b2, .long x0, .int 1])), (b1, .inl (cy 0, 16640, .inl fw)), (b2, .inl (cy 0, 512, .inl fp))] ++ Y)) := hD
    refine lv_aload_n hx hb dX4_know_27 rfl (lv_at hl 0 rfl) ?_
    refine va_get (D := D) (ci := 3) (v := .ref b1) (C := RX4) (T := TX4) (N := 4) hx hb hts hi4 hown hK hP 20 rfl rfl 0 (by decide) hw0 (fun _ h9 => h9) rfl dX4_know_28 ?_
    refine lv_sipush (v := 16384) hx hb dX4_know_31 (by decide) ?_
    refine lv_iconst (v := 1) hx hb dX4_know_34 (by decide) ?_
    refine va_iast hx hb hK hP hD hS 21 0 rfl rfl (by unfold vp_in; decide) dX4_know_35 (fun H locs hP hD hS => ?_)
    have hP : va_P D vwCl (CT cy a J I O R RO ([(b0, .inr (3, [.ref b1, .ref b2, .long x0, .int 1])), (b1, .inl (cy 0, 16640, .inl (upd fw (16384 : Int32).toNatClampNeg 1))), (b2, .inl (cy 0, 512, .inl fp))] ++ Y)) H := hP
    have hD : va_D A (CT cy a J I O R RO ([(b0, .inr (3, [.ref b1, .ref b2, .long x0, .int 1])), (b1, .inl (cy 0, 16640, .inl (upd fw (16384 : Int32).toNatClampNeg 1))), (b2, .inl (cy 0, 512, .inl fp))] ++ Y)) := hD
    refine lv_bipush (v := 63) hx hb dX4_know_36 (by decide) ?_
    refine wtop_i (y := nI (64 - 0) - 1) (by decide) ?_
    refine lv_istore_n (lv' := [(3, .int (nI (64 - 0) - 1)), (0, .ref b0), (1, .long x0)]) hx hb dX4_know_38 rfl hl (by decide) rfl (fun ls hl => ?_)
    exact lp39 _ 0 x0 1 (upd fw (16384 : Int32).toNatClampNeg 1) (by omega) (Or.inr rfl) rfl rfl tab_0 (Nat.lt_succ_self _) _ _ hP hD hS ls (lv_sub hl [1, 2, 0] rfl)
  · refine lv_aload_n hx hb dX4_know_7 rfl (lv_at hl 0 rfl) ?_
    refine va_get (D := D) (ci := 3) (v := .long jf) (C := RX4) (T := TX4) (N := 4) hx hb hts hi4 hown hK hP 20 rfl rfl 2 (by decide) hw1 (fun _ h9 => h9) rfl dX4_know_8 ?_
    refine lv_lload_n hx hb dX4_know_11 rfl (lv_at hl 1 rfl) ?_
    refine W.lcmp hx hb dX4_know_12 ?_
    refine lv_if_ne (tgt := 17) hx hb dX4_know_13 (by decide) (fun c_6 => ?_) (fun c_6 => ?_)
    · replace c_6 := fun z => c_6 ((lg_cmp_eq _ _).mpr z)
      refine lv_aload_n hx hb dX4_know_17 rfl (lv_at hl 0 rfl) ?_
      refine lv_lload_n hx hb dX4_know_18 rfl (lv_at hl 1 rfl) ?_
      refine va_put (D := D) (ci := 3) (v := .long x0) (ty := .long) (C := RX4) (T := TX4) (N := 4) hx hb hts hi4 tyX4 tyX4_ok nmX4 hown hK hP hD hS 20 rfl rfl 2 (by decide) hw1 (fun _ h9 => h9) rfl (by decide +kernel) rfl rfl (Nat.le_of_ble_eq_true rfl) dX4_know_19 (fun H locs hP hD hS => ?_)
      have hP : va_P D vwCl (CT cy a J I O R RO ([(b0, .inr (3, [.ref b1, .ref b2, .long x0, .int kn])), (b1, .inl (cy 0, 16640, .inl fw)), (b2, .inl (cy 0, 512, .inl fp))] ++ Y)) H := hP
      have hD : va_D A (CT cy a J I O R RO ([(b0, .inr (3, [.ref b1, .ref b2, .long x0, .int kn])), (b1, .inl (cy 0, 16640, .inl fw)), (b2, .inl (cy 0, 512, .inl fp))] ++ Y)) := hD
      refine lv_aload_n hx hb dX4_know_22 rfl (lv_at hl 0 rfl) ?_
      refine lv_iconst (v := 1) hx hb dX4_know_23 (by decide) ?_
      refine va_put (D := D) (ci := 3) (v := .int 1) (ty := .boolean) (C := RX4) (T := TX4) (N := 4) hx hb hts hi4 tyX4 tyX4_ok nmX4 hown hK hP hD hS 20 rfl rfl 3 (by decide) hw2 (fun _ h9 => h9) rfl (by decide +kernel) rfl rfl (Nat.le_of_ble_eq_true rfl) dX4_know_24 (fun H locs hP hD hS => ?_)
      have hP : va_P D vwCl (CT cy a J I O R RO ([(b0, .inr (3, [.ref b1, .ref b2, .long x0, .int 1])), (b1, .inl (cy 0, 16640, .inl fw)), (b2, .inl (cy 0, 512, .inl fp))] ++ Y)) H := hP
      have hD : va_D A (CT cy a J I O R RO ([(b0, .inr (3, [.ref b1, .ref b2, .long x0, .int 1])), (b1, .inl (cy 0, 16640, .inl fw)), (b2, .inl (cy 0, 512, .inl fp))] ++ Y)) := hD
      refine lv_aload_n hx hb dX4_know_27 rfl (lv_at hl 0 rfl) ?_
      refine va_get (D := D) (ci := 3) (v := .ref b1) (C := RX4) (T := TX4) (N := 4) hx hb hts hi4 hown hK hP 20 rfl rfl 0 (by decide) hw0 (fun _ h9 => h9) rfl dX4_know_28 ?_
      refine lv_sipush (v := 16384) hx hb dX4_know_31 (by decide) ?_
      refine lv_iconst (v := 1) hx hb dX4_know_34 (by decide) ?_
      refine va_iast hx hb hK hP hD hS 21 0 rfl rfl (by unfold vp_in; decide) dX4_know_35 (fun H locs hP hD hS => ?_)
      have hP : va_P D vwCl (CT cy a J I O R RO ([(b0, .inr (3, [.ref b1, .ref b2, .long x0, .int 1])), (b1, .inl (cy 0, 16640, .inl (upd fw (16384 : Int32).toNatClampNeg 1))), (b2, .inl (cy 0, 512, .inl fp))] ++ Y)) H := hP
      have hD : va_D A (CT cy a J I O R RO ([(b0, .inr (3, [.ref b1, .ref b2, .long x0, .int 1])), (b1, .inl (cy 0, 16640, .inl (upd fw (16384 : Int32).toNatClampNeg 1))), (b2, .inl (cy 0, 512, .inl fp))] ++ Y)) := hD
      refine lv_bipush (v := 63) hx hb dX4_know_36 (by decide) ?_
      refine wtop_i (y := nI (64 - 0) - 1) (by decide) ?_
      refine lv_istore_n (lv' := [(3, .int (nI (64 - 0) - 1)), (0, .ref b0), (1, .long x0)]) hx hb dX4_know_38 rfl hl (by decide) rfl (fun ls hl => ?_)
      exact lp39 _ 0 x0 1 (upd fw (16384 : Int32).toNatClampNeg 1) (by omega) (Or.inr rfl) rfl rfl tab_0 (Nat.lt_succ_self _) _ _ hP hD hS ls (lv_sub hl [1, 2, 0] rfl)
    · replace c_6 := (lg_cmp_eq _ _).mp c_6
      exact wret_v hx hb hr hlocks (J, I, O, R, RO, [(b0, .inr (3, [.ref b1, .ref b2, .long jf, .int kn])), (b1, .inl (cy 0, 16640, .inl fw)), (b2, .inl (cy 0, 512, .inl fp))], Y) ⟨jf, kn, fw, ⟨hkn, c_6, (kn_1 hkn c_5), (by rw [← c_6]; exact htb (kn_1 hkn c_5))⟩, rfl⟩ hP hD hS dX4_know_16
theorem dX4_totalWithout_10 : decode cX4_totalWithout 10 = .ok (.iload_n 3, 1) := by decide +kernel
theorem dX4_totalWithout_11 : decode cX4_totalWithout 11 = .ok (.ifCond .lt 43, 3) := by decide +kernel
theorem dX4_totalWithout_54 : decode cX4_totalWithout 54 = .ok (.aload_n 0, 1) := by decide +kernel
theorem dX4_totalWithout_55 : decode cX4_totalWithout 55 = .ok (.getfield 13, 3) := by decide +kernel
theorem dX4_totalWithout_58 : decode cX4_totalWithout 58 = .ok (.iconst 0, 1) := by decide +kernel
theorem dX4_totalWithout_59 : decode cX4_totalWithout 59 = .ok (.iaload, 1) := by decide +kernel
theorem dX4_totalWithout_60 : decode cX4_totalWithout 60 = .ok (.ireturn, 1) := by decide +kernel
theorem dX4_totalWithout_14 : decode cX4_totalWithout 14 = .ok (.aload_n 0, 1) := by decide +kernel
theorem dX4_totalWithout_15 : decode cX4_totalWithout 15 = .ok (.getfield 13, 3) := by decide +kernel
theorem dX4_totalWithout_18 : decode cX4_totalWithout 18 = .ok (.iload_n 3, 1) := by decide +kernel
theorem dX4_totalWithout_19 : decode cX4_totalWithout 19 = .ok (.iconst 1, 1) := by decide +kernel
theorem dX4_totalWithout_20 : decode cX4_totalWithout 20 = .ok (.iand, 1) := by decide +kernel
theorem dX4_totalWithout_21 : decode cX4_totalWithout 21 = .ok (.sipush 256, 3) := by decide +kernel
theorem dX4_totalWithout_24 : decode cX4_totalWithout 24 = .ok (.imul, 1) := by decide +kernel
theorem dX4_totalWithout_25 : decode cX4_totalWithout 25 = .ok (.iload_n 3, 1) := by decide +kernel
theorem dX4_totalWithout_26 : decode cX4_totalWithout 26 = .ok (.iconst 1, 1) := by decide +kernel
theorem dX4_totalWithout_27 : decode cX4_totalWithout 27 = .ok (.iadd, 1) := by decide +kernel
theorem dX4_totalWithout_28 : decode cX4_totalWithout 28 = .ok (.iconst 1, 1) := by decide +kernel
theorem dX4_totalWithout_29 : decode cX4_totalWithout 29 = .ok (.iand, 1) := by decide +kernel
theorem dX4_totalWithout_30 : decode cX4_totalWithout 30 = .ok (.sipush 256, 3) := by decide +kernel
theorem dX4_totalWithout_33 : decode cX4_totalWithout 33 = .ok (.imul, 1) := by decide +kernel
theorem dX4_totalWithout_34 : decode cX4_totalWithout 34 = .ok (.aload_n 0, 1) := by decide +kernel
theorem dX4_totalWithout_35 : decode cX4_totalWithout 35 = .ok (.getfield 20, 3) := by decide +kernel
theorem dX4_totalWithout_38 : decode cX4_totalWithout 38 = .ok (.lload_n 1, 1) := by decide +kernel
theorem dX4_totalWithout_39 : decode cX4_totalWithout 39 = .ok (.ldc2_w 28, 3) := by decide +kernel
theorem dX4_totalWithout_42 : decode cX4_totalWithout 42 = .ok (.lxor, 1) := by decide +kernel
theorem dX4_totalWithout_43 : decode cX4_totalWithout 43 = .ok (.land, 1) := by decide +kernel
theorem dX4_totalWithout_44 : decode cX4_totalWithout 44 = .ok (.iload_n 3, 1) := by decide +kernel
set_option maxRecDepth 20000 in
theorem ggX4_totalWithout_X4_fill : GoodIn wsX4_totalWithout wsX4_fill := goodIn_r _ [7, 8, 9, 6, 10, 11, 12, 13, 14, 15, 16, 17] rfl (by decide +kernel)
set_option maxRecDepth 20000 in
theorem gX4_totalWithout_X4_fill : GoodIn wsX4_totalWithout (va_wsS RX4 24 yX4_fill wsX4_fill) := goodIn_app (goodIn_r _ [4, 5, 6] rfl (by decide +kernel)) ggX4_totalWithout_X4_fill
theorem dX4_totalWithout_45 : decode cX4_totalWithout 45 = .ok (.invokestatic 24, 3) := by decide +kernel
theorem dX4_totalWithout_48 : decode cX4_totalWithout 48 = .ok (.iinc 3 (-1), 3) := by decide +kernel
theorem dX4_totalWithout_51 : decode cX4_totalWithout 51 = .ok (.goto (-41), 3) := by decide +kernel
theorem dX4_totalWithout_0 : decode cX4_totalWithout 0 = .ok (.aload_n 0, 1) := by decide +kernel
theorem dX4_totalWithout_1 : decode cX4_totalWithout 1 = .ok (.getfield 13, 3) := by decide +kernel
theorem dX4_totalWithout_4 : decode cX4_totalWithout 4 = .ok (.iconst 0, 1) := by decide +kernel
theorem dX4_totalWithout_5 : decode cX4_totalWithout 5 = .ok (.iconst 1, 1) := by decide +kernel
theorem dX4_totalWithout_6 : decode cX4_totalWithout 6 = .ok (.iastore, 1) := by decide +kernel
theorem dX4_totalWithout_7 : decode cX4_totalWithout 7 = .ok (.bipush 63, 2) := by decide +kernel
theorem dX4_totalWithout_9 : decode cX4_totalWithout 9 = .ok (.istore_n 3, 1) := by decide +kernel
set_option maxRecDepth 20000 in
theorem ihX4_totalWithout_4 : ∀ w ∈ u_ws RX4 TX4 4, w ∈ wsX4_totalWithout := fun _ h => List.mem_cons_of_mem _ (List.mem_append_right _ h)
set_option maxHeartbeats 4000000 in
set_option maxRecDepth 100000 in
theorem t_X4_totalWithout (l : Launch) (D : va_G) (cy : Nat → ClassId) (a : Nat → Nat) (sz : Nat) (J : Nat → Int64) (I : Nat → Int32) (O : Nat → Option Nat) (R : Nat → Nat → Int32) (RO : Nat → Nat → Option Nat) (b0 b1 b2 : Nat) (jf : Int64) (kn : Int32) (fw fp : Nat → Int32) (hkn : isB kn) (Y : va_W) (x0 : Int64) : Met l yX4_totalWithout wsX4_totalWithout ({ frames := 3, cells := 0, slots := 0, locals := 76 }) (va_Pc [.ref b0, .long x0] (PW D cy sz (CT cy a J I O R RO ([(b0, .inr (3, [.ref b1, .ref b2, .long jf, .int kn])), (b1, .inl (cy 0, 16640, .inl fw)), (b2, .inl (cy 0, 512, .inl fp))] ++ Y)))) (va_Qi (fun r (u : TS) => ∃ (fp9 : Nat → Int32), (r = (Wd (bfx (jf &&& (x0 ^^^ (-1)))) 64 0)) ∧ u = (J, I, O, R, RO, [(b0, .inr (3, [.ref b1, .ref b2, .long jf, .int kn])), (b1, .inl (cy 0, 16640, .inl fw)), (b2, .inl (cy 0, 512, .inl fp9))], Y)) (BW D (va_A (CT cy a J I O R RO ([(b0, .inr (3, [.ref b1, .ref b2, .long jf, .int kn])), (b1, .inl (cy 0, 16640, .inl fw)), (b2, .inl (cy 0, 512, .inl fp))] ++ Y)) sz) (CTu cy a)) (va_A (CT cy a J I O R RO ([(b0, .inr (3, [.ref b1, .ref b2, .long jf, .int kn])), (b1, .inl (cy 0, 16640, .inl fw)), (b2, .inl (cy 0, 512, .inl fp))] ++ Y)) sz)) 0 0 (va_A (CT cy a J I O R RO ([(b0, .inr (3, [.ref b1, .ref b2, .long jf, .int kn])), (b1, .inl (cy 0, 16640, .inl fw)), (b2, .inl (cy 0, 512, .inl fp))] ++ Y)) sz) := by
  refine Met.ofW (cc := cX4_totalWithout) (maxL := 4) (ret := (some .int)) (by decide) rfl ?_
  intro p e s m args below meth c s₁ B hml hv
  obtain ⟨rfl, rfl, hP, hK, hN, hD0⟩ := hv
  have hx := B.exec
  have hb := B.bytes
  have hr := B.returns
  have hts := atoms_spec (ws := wsX4_totalWithout) B.pre
  have hown : s.vm.findClass RX4 = some m.cls := findClass_of_methodNamed B.named
  have hlocks := B.notSynchronized
  have hw0 := hts (.fieldLink RX4 13 "ParquetLayer$Layings" "pair" "[I") (by decide +kernel)
  have hw1 := hts (.fieldLink RX4 20 "ParquetLayer$Layings" "free" "J") (by decide +kernel)
  have hw2 := hts (.constantLong RX4 28 (-1)) (by decide +kernel)
  have hi4 := ihX4_totalWithout_4
  have hD := hD0.self (sz := s.heap.size)
  generalize hAe : va_A (CT cy a J I O R RO ([(b0, .inr (3, [.ref b1, .ref b2, .long jf, .int kn])), (b1, .inl (cy 0, 16640, .inl fw)), (b2, .inl (cy 0, 512, .inl fp))] ++ Y)) s.heap.size = A at hD ⊢
  have hA : ∀ q : Nat, s.heap.size ≤ q → A q := fun q h => by rw [← hAe]; exact Or.inr h
  have hS : va_S A s.heap s.heap [] := va_S.rf
  have hl := lv_entry ([.ref b0, .long x0]) (n := 4) (Nat.le_of_ble_eq_true rfl)
  rw [lg_entry_eq]
  generalize (lg_sl ([.ref b0, .long x0]) ++ List.replicate (4 - (lg_sl ([.ref b0, .long x0])).length) Slot.unset).toArray = ls at hl ⊢
  have hl : lv_has ls 4 [(0, .ref b0), (1, .long x0)] := hl
  have lp10 : ∀ (n10 : Nat), ∀ (i : Nat) (fp_10 : Nat → Int32), (i ≤ 64) → (tabP (bfx (jf &&& (x0 ^^^ (-1)))) fp_10 (64 - i)) → (64 - i) < n10 → ∀ (H : Heap) (locs : List Loc), va_P D vwCl (CT cy a J I O R RO ([(b0, .inr (3, [.ref b1, .ref b2, .long jf, .int kn])), (b1, .inl (cy 0, 16640, .inl fw)), (b2, .inl (cy 0, 512, .inl fp_10))] ++ Y)) H → va_D A (CT cy a J I O R RO ([(b0, .inr (3, [.ref b1, .ref b2, .long jf, .int kn])), (b1, .inl (cy 0, 16640, .inl fw)), (b2, .inl (cy 0, 512, .inl fp_10))] ++ Y)) → va_S A s.heap H locs → ∀ (ls : Array Slot), lv_has ls 4 [(0, .ref b0), (1, .long x0), (3, .int (nI (64 - i) - 1))] → W p l e (headSpec wsX4_totalWithout ({ frames := 3, cells := 0, slots := 0, locals := 76 })).room s m ([.ref b0, .long x0] : List Value).toArray below meth c H locs 0 0 (MQ below (va_Qi (fun r (u : TS) => ∃ (fp9 : Nat → Int32), (r = (Wd (bfx (jf &&& (x0 ^^^ (-1)))) 64 0)) ∧ u = (J, I, O, R, RO, [(b0, .inr (3, [.ref b1, .ref b2, .long jf, .int kn])), (b1, .inl (cy 0, 16640, .inl fw)), (b2, .inl (cy 0, 512, .inl fp9))], Y)) (BW D A (CTu cy a)) A) ([.ref b0, .long x0] : List Value).toArray s 0 0 A) (F0 m 10 ls []) := by
    intro n10
    induction n10 with
    | zero => intro i fp_10 hi htp hn; exact absurd hn (Nat.not_lt_zero _)
    | succ n10 ih10 =>
      intro i fp_10 hi htp hn10 H locs hP hD hS ls hl
      refine lv_iload_n hx hb dX4_totalWithout_10 rfl (lv_at hl 2 rfl) ?_
      refine lv_if_lt (tgt := 54) hx hb dX4_totalWithout_11 (by decide) (fun c_1 => ?_) (fun c_1 => ?_)
      · have hie := fw_ge hi c_1
        refine lv_aload_n hx hb dX4_totalWithout_54 rfl (lv_at hl 0 rfl) ?_
        refine va_get (D := D) (ci := 3) (v := .ref b2) (C := RX4) (T := TX4) (N := 4) hx hb hts hi4 hown hK hP 20 rfl rfl 1 (by decide) hw0 (fun _ h9 => h9) rfl dX4_totalWithout_55 ?_
        refine lv_iconst (v := 0) hx hb dX4_totalWithout_58 (by decide) ?_
        refine va_iald hx hb hK hP 22 0 rfl rfl (by unfold vp_in; decide) dX4_totalWithout_59 ?_
        exact wret_i hx hb hr hlocks (J, I, O, R, RO, [(b0, .inr (3, [.ref b1, .ref b2, .long jf, .int kn])), (b1, .inl (cy 0, 16640, .inl fw)), (b2, .inl (cy 0, 512, .inl fp_10))], Y) ⟨fp_10, (par_tot hie htp), rfl⟩ hP hD hS dX4_totalWithout_60
      · obtain ⟨j, hj, he⟩ := fw_lt hi c_1
        rw [he] at hl
        refine lv_aload_n hx hb dX4_totalWithout_14 rfl (lv_at hl 0 rfl) ?_
        refine va_get (D := D) (ci := 3) (v := .ref b2) (C := RX4) (T := TX4) (N := 4) hx hb hts hi4 hown hK hP 20 rfl rfl 1 (by decide) hw0 (fun _ h9 => h9) rfl dX4_totalWithout_15 ?_
        refine lv_iload_n hx hb dX4_totalWithout_18 rfl (lv_at hl 2 rfl) ?_
        refine lv_iconst (v := 1) hx hb dX4_totalWithout_19 (by decide) ?_
        refine lv_iand hx hb dX4_totalWithout_20 ?_
        refine wtop_i (y := nI (j % 2)) (pk_andN (by omega) 1 (by decide)) ?_
        refine lv_sipush (v := 256) hx hb dX4_totalWithout_21 (by decide) ?_
        refine lv_imul hx hb dX4_totalWithout_24 ?_
        refine wtop_i (y := nI (j % 2 * 256)) (pk_mul (j % 2) 256) ?_
        refine lv_iload_n hx hb dX4_totalWithout_25 rfl (lv_at hl 2 rfl) ?_
        refine lv_iconst (v := 1) hx hb dX4_totalWithout_26 (by decide) ?_
        refine lv_iadd hx hb dX4_totalWithout_27 ?_
        refine wtop_i (y := nI (j + 1)) (nI_1 _) ?_
        refine lv_iconst (v := 1) hx hb dX4_totalWithout_28 (by decide) ?_
        refine lv_iand hx hb dX4_totalWithout_29 ?_
        refine wtop_i (y := nI ((j + 1) % 2)) (pk_andN (by omega) 1 (by decide)) ?_
        refine lv_sipush (v := 256) hx hb dX4_totalWithout_30 (by decide) ?_
        refine lv_imul hx hb dX4_totalWithout_33 ?_
        refine wtop_i (y := nI ((j + 1) % 2 * 256)) (pk_mul ((j + 1) % 2) 256) ?_
        refine lv_aload_n hx hb dX4_totalWithout_34 rfl (lv_at hl 0 rfl) ?_
        refine va_get (D := D) (ci := 3) (v := .long jf) (C := RX4) (T := TX4) (N := 4) hx hb hts hi4 hown hK hP 20 rfl rfl 2 (by decide) hw1 (fun _ h9 => h9) rfl dX4_totalWithout_35 ?_
        refine lv_lload_n hx hb dX4_totalWithout_38 rfl (lv_at hl 1 rfl) ?_
        refine lv_ldc2 (v := (-1)) hx hb hown hw2 dX4_totalWithout_39 ?_
        refine lv_lxor hx hb dX4_totalWithout_42 ?_
        refine lv_land hx hb dX4_totalWithout_43 ?_
        refine lv_iload_n hx hb dX4_totalWithout_44 rfl (lv_at hl 2 rfl) ?_
        refine kW_v (As := [.ref b2, .int (nI (j % 2 * 256)), .int (nI ((j + 1) % 2 * 256)), .long (jf &&& (x0 ^^^ (-1))), .int (nI j)]) (rest := []) ⟨hx, hb, hml, hown, hts⟩ (t_X4_fill_fp l D cy a _ J I O R RO b0 b1 b2 jf kn fw fp_10 hkn Y (j % 2 * 256) ((j + 1) % 2 * 256) (jf &&& (x0 ^^^ (-1))) j (by omega) (by omega) (by omega) (by omega)  ) (va_cwS 5 hts gX4_totalWithout_X4_fill rfl rfl rfl (by decide +kernel) ⟨Nat.le_of_ble_eq_true rfl, Nat.le_of_ble_eq_true rfl⟩) hK hN hP hD hS hA rfl hl.1 rfl (Nat.le_of_ble_eq_true rfl) dX4_totalWithout_45 ⟨Nat.le_of_ble_eq_true rfl, Nat.le_of_ble_eq_true rfl⟩ (fun u H locs hw hP hD hS => ?_)
        obtain ⟨g_3, hp_4, rfl⟩ := hw
        have hP : va_P D vwCl (CT cy a J I O R RO ([(b0, .inr (3, [.ref b1, .ref b2, .long jf, .int kn])), (b1, .inl (cy 0, 16640, .inl fw)), (b2, .inl (cy 0, 512, .inl g_3))] ++ Y)) H := hP
        have hD : va_D A (CT cy a J I O R RO ([(b0, .inr (3, [.ref b1, .ref b2, .long jf, .int kn])), (b1, .inl (cy 0, 16640, .inl fw)), (b2, .inl (cy 0, 512, .inl g_3))] ++ Y)) := hD
        refine lv_iinc (v := nI (64 - (i + 1)) - 1) (lv' := [(3, .int (nI (64 - (i + 1)) - 1)), (0, .ref b0), (1, .long x0)]) hx hb dX4_totalWithout_48 hl (k := 2) rfl (fw_dec hj) (by decide) rfl (fun ls hl => ?_)
        refine lv_goto (tgt := 10) hx hb dX4_totalWithout_51 (by decide) ?_
        exact ih10 (i + 1) g_3 (by omega) (par_s hj htp hp_4) (by omega) _ _ hP hD hS ls (lv_sub hl [1, 2, 0] rfl)
  refine lv_aload_n hx hb dX4_totalWithout_0 rfl (lv_at hl 0 rfl) ?_
  refine va_get (D := D) (ci := 3) (v := .ref b2) (C := RX4) (T := TX4) (N := 4) hx hb hts hi4 hown hK hP 20 rfl rfl 1 (by decide) hw0 (fun _ h9 => h9) rfl dX4_totalWithout_1 ?_
  refine lv_iconst (v := 0) hx hb dX4_totalWithout_4 (by decide) ?_
  refine lv_iconst (v := 1) hx hb dX4_totalWithout_5 (by decide) ?_
  refine va_iast hx hb hK hP hD hS 22 0 rfl rfl (by unfold vp_in; decide) dX4_totalWithout_6 (fun H locs hP hD hS => ?_)
  have hP : va_P D vwCl (CT cy a J I O R RO ([(b0, .inr (3, [.ref b1, .ref b2, .long jf, .int kn])), (b1, .inl (cy 0, 16640, .inl fw)), (b2, .inl (cy 0, 512, .inl (upd fp (0 : Int32).toNatClampNeg 1)))] ++ Y)) H := hP
  have hD : va_D A (CT cy a J I O R RO ([(b0, .inr (3, [.ref b1, .ref b2, .long jf, .int kn])), (b1, .inl (cy 0, 16640, .inl fw)), (b2, .inl (cy 0, 512, .inl (upd fp (0 : Int32).toNatClampNeg 1)))] ++ Y)) := hD
  refine lv_bipush (v := 63) hx hb dX4_totalWithout_7 (by decide) ?_
  refine wtop_i (y := nI (64 - 0) - 1) (by decide) ?_
  refine lv_istore_n (lv' := [(3, .int (nI (64 - 0) - 1)), (0, .ref b0), (1, .long x0)]) hx hb dX4_totalWithout_9 rfl hl (by decide) rfl (fun ls hl => ?_)
  exact lp10 _ 0 (upd fp (0 : Int32).toNatClampNeg 1) (by omega) par_0 (Nat.lt_succ_self _) _ _ hP hD hS ls (lv_sub hl [1, 2, 0] rfl)
theorem dX4_total_0 : decode cX4_total 0 = .ok (.aload_n 0, 1) := by decide +kernel
theorem dX4_total_1 : decode cX4_total 1 = .ok (.getfield 9, 3) := by decide +kernel
theorem dX4_total_4 : decode cX4_total 4 = .ok (.iconst 0, 1) := by decide +kernel
theorem dX4_total_5 : decode cX4_total 5 = .ok (.iaload, 1) := by decide +kernel
theorem dX4_total_6 : decode cX4_total 6 = .ok (.ireturn, 1) := by decide +kernel
set_option maxRecDepth 20000 in
theorem ihX4_total_4 : ∀ w ∈ u_ws RX4 TX4 4, w ∈ wsX4_total := fun _ h => List.mem_cons_of_mem _ (List.mem_append_right _ h)
set_option maxHeartbeats 4000000 in
set_option maxRecDepth 100000 in
theorem t_X4_total (l : Launch) (D : va_G) (cy : Nat → ClassId) (a : Nat → Nat) (sz : Nat) (J : Nat → Int64) (I : Nat → Int32) (O : Nat → Option Nat) (R : Nat → Nat → Int32) (RO : Nat → Nat → Option Nat) (b0 b1 b2 : Nat) (jf : Int64) (kn : Int32) (fw fp : Nat → Int32) (hkn : isB kn) (Y : va_W)  : Met l yX4_total wsX4_total ({ frames := 0, cells := 0, slots := 0, locals := 0 }) (va_Pc [.ref b0] (PW D cy sz (CT cy a J I O R RO ([(b0, .inr (3, [.ref b1, .ref b2, .long jf, .int kn])), (b1, .inl (cy 0, 16640, .inl fw)), (b2, .inl (cy 0, 512, .inl fp))] ++ Y)))) (vp_Si (fun r => r = (fw (0 : Int32).toNatClampNeg))) 0 0 (fun _ => False) := by
  refine Met.ofW (cc := cX4_total) (maxL := 1) (ret := (some .int)) (by decide) rfl ?_
  intro p e s m args below meth c s₁ B hml hv
  obtain ⟨rfl, rfl, hP, hK, hN, hD0⟩ := hv
  have hx := B.exec
  have hb := B.bytes
  have hr := B.returns
  have hts := atoms_spec (ws := wsX4_total) B.pre
  have hown : s.vm.findClass RX4 = some m.cls := findClass_of_methodNamed B.named
  have hlocks := B.notSynchronized
  have hw0 := hts (.fieldLink RX4 9 "ParquetLayer$Layings" "ways" "[I") (by decide +kernel)
  have hi4 := ihX4_total_4
  have hD := hD0
  have hl := lv_entry ([.ref b0]) (n := 1) (Nat.le_of_ble_eq_true rfl)
  rw [lg_entry_eq]
  generalize (lg_sl ([.ref b0]) ++ List.replicate (1 - (lg_sl ([.ref b0])).length) Slot.unset).toArray = ls at hl ⊢
  have hl : lv_has ls 1 [(0, .ref b0)] := hl
  refine lv_aload_n hx hb dX4_total_0 rfl (lv_at hl 0 rfl) ?_
  refine va_get (D := D) (ci := 3) (v := .ref b1) (C := RX4) (T := TX4) (N := 4) hx hb hts hi4 hown hK hP 20 rfl rfl 0 (by decide) hw0 (fun _ h9 => h9) rfl dX4_total_1 ?_
  refine lv_iconst (v := 0) hx hb dX4_total_4 (by decide) ?_
  refine va_iald hx hb hK hP 21 0 rfl rfl (by unfold vp_in; decide) dX4_total_5 ?_
  exact pret_i hx hb hr hlocks rfl dX4_total_6
theorem dX4_alongWays_0 : decode cX4_alongWays 0 = .ok (.aload_n 0, 1) := by decide +kernel
theorem dX4_alongWays_1 : decode cX4_alongWays 1 = .ok (.getfield 20, 3) := by decide +kernel
theorem dX4_alongWays_4 : decode cX4_alongWays 4 = .ok (.iload_n 1, 1) := by decide +kernel
set_option maxRecDepth 20000 in
theorem ggX4_alongWays_X4_alongFits : GoodIn wsX4_alongWays wsX4_alongFits := goodIn_r _ [6, 7, 8, 9, 10] rfl (by decide +kernel)
set_option maxRecDepth 20000 in
theorem gX4_alongWays_X4_alongFits : GoodIn wsX4_alongWays (va_wsS RX4 30 yX4_alongFits wsX4_alongFits) := goodIn_app (goodIn_r _ [3, 4, 5] rfl (by decide +kernel)) ggX4_alongWays_X4_alongFits
theorem dX4_alongWays_5 : decode cX4_alongWays 5 = .ok (.invokestatic 30, 3) := by decide +kernel
theorem dX4_alongWays_8 : decode cX4_alongWays 8 = .ok (.ifCond .eq 9, 3) := by decide +kernel
theorem dX4_alongWays_17 : decode cX4_alongWays 17 = .ok (.iconst 0, 1) := by decide +kernel
theorem dX4_alongWays_18 : decode cX4_alongWays 18 = .ok (.ireturn, 1) := by decide +kernel
theorem dX4_alongWays_11 : decode cX4_alongWays 11 = .ok (.iload_n 2, 1) := by decide +kernel
theorem dX4_alongWays_12 : decode cX4_alongWays 12 = .ok (.iconst 2, 1) := by decide +kernel
theorem dX4_alongWays_13 : decode cX4_alongWays 13 = .ok (.iand, 1) := by decide +kernel
theorem dX4_alongWays_14 : decode cX4_alongWays 14 = .ok (.ifCond .eq 5, 3) := by decide +kernel
theorem dX4_alongWays_19 : decode cX4_alongWays 19 = .ok (.aload_n 0, 1) := by decide +kernel
theorem dX4_alongWays_20 : decode cX4_alongWays 20 = .ok (.getfield 9, 3) := by decide +kernel
theorem dX4_alongWays_23 : decode cX4_alongWays 23 = .ok (.iload_n 1, 1) := by decide +kernel
theorem dX4_alongWays_24 : decode cX4_alongWays 24 = .ok (.iconst 1, 1) := by decide +kernel
theorem dX4_alongWays_25 : decode cX4_alongWays 25 = .ok (.iadd, 1) := by decide +kernel
theorem dX4_alongWays_26 : decode cX4_alongWays 26 = .ok (.sipush 256, 3) := by decide +kernel
theorem dX4_alongWays_29 : decode cX4_alongWays 29 = .ok (.imul, 1) := by decide +kernel
theorem dX4_alongWays_30 : decode cX4_alongWays 30 = .ok (.iload_n 2, 1) := by decide +kernel
theorem dX4_alongWays_31 : decode cX4_alongWays 31 = .ok (.iconst 1, 1) := by decide +kernel
theorem dX4_alongWays_32 : decode cX4_alongWays 32 = .ok (.ishr, 1) := by decide +kernel
theorem dX4_alongWays_33 : decode cX4_alongWays 33 = .ok (.iconst 1, 1) := by decide +kernel
theorem dX4_alongWays_34 : decode cX4_alongWays 34 = .ok (.ior, 1) := by decide +kernel
theorem dX4_alongWays_35 : decode cX4_alongWays 35 = .ok (.iadd, 1) := by decide +kernel
theorem dX4_alongWays_36 : decode cX4_alongWays 36 = .ok (.iaload, 1) := by decide +kernel
theorem dX4_alongWays_37 : decode cX4_alongWays 37 = .ok (.ireturn, 1) := by decide +kernel
set_option maxRecDepth 20000 in
theorem ihX4_alongWays_4 : ∀ w ∈ u_ws RX4 TX4 4, w ∈ wsX4_alongWays := fun _ h => List.mem_cons_of_mem _ (List.mem_append_right _ h)
set_option maxHeartbeats 4000000 in
set_option maxRecDepth 100000 in
theorem t_X4_alongWays (l : Launch) (D : va_G) (cy : Nat → ClassId) (a : Nat → Nat) (sz : Nat) (J : Nat → Int64) (I : Nat → Int32) (O : Nat → Option Nat) (R : Nat → Nat → Int32) (RO : Nat → Nat → Option Nat) (b0 b1 b2 : Nat) (jf : Int64) (kn : Int32) (fw fp : Nat → Int32) (hkn : isB kn) (Y : va_W) (x0 : Nat) (x1 : Nat) (hx0 : x0 < 64) (hx1 : x1 < 256) : Met l yX4_alongWays wsX4_alongWays ({ frames := 2, cells := 0, slots := 0, locals := 44 }) (va_Pc [.ref b0, .int (nI x0), .int (nI x1)] (PW D cy sz (CT cy a J I O R RO ([(b0, .inr (3, [.ref b1, .ref b2, .long jf, .int kn])), (b1, .inl (cy 0, 16640, .inl fw)), (b2, .inl (cy 0, 512, .inl fp))] ++ Y)))) (vp_Si (fun r => True)) 0 0 (fun _ => False) := by
  refine Met.ofW (cc := cX4_alongWays) (maxL := 3) (ret := (some .int)) (by decide) rfl ?_
  intro p e s m args below meth c s₁ B hml hv
  obtain ⟨rfl, rfl, hP, hK, hN, hD0⟩ := hv
  have hx := B.exec
  have hb := B.bytes
  have hr := B.returns
  have hts := atoms_spec (ws := wsX4_alongWays) B.pre
  have hown : s.vm.findClass RX4 = some m.cls := findClass_of_methodNamed B.named
  have hlocks := B.notSynchronized
  have hw0 := hts (.fieldLink RX4 20 "ParquetLayer$Layings" "free" "J") (by decide +kernel)
  have hw1 := hts (.fieldLink RX4 9 "ParquetLayer$Layings" "ways" "[I") (by decide +kernel)
  have hi4 := ihX4_alongWays_4
  have hD := hD0
  have hl := lv_entry ([.ref b0, .int (nI x0), .int (nI x1)]) (n := 3) (Nat.le_of_ble_eq_true rfl)
  rw [lg_entry_eq]
  generalize (lg_sl ([.ref b0, .int (nI x0), .int (nI x1)]) ++ List.replicate (3 - (lg_sl ([.ref b0, .int (nI x0), .int (nI x1)])).length) Slot.unset).toArray = ls at hl ⊢
  have hl : lv_has ls 3 [(0, .ref b0), (1, .int (nI x0)), (2, .int (nI x1))] := hl
  refine lv_aload_n hx hb dX4_alongWays_0 rfl (lv_at hl 0 rfl) ?_
  refine va_get (D := D) (ci := 3) (v := .long jf) (C := RX4) (T := TX4) (N := 4) hx hb hts hi4 hown hK hP 20 rfl rfl 2 (by decide) hw0 (fun _ h9 => h9) rfl dX4_alongWays_1 ?_
  refine lv_iload_n hx hb dX4_alongWays_4 rfl (lv_at hl 1 rfl) ?_
  refine kS_i (As := [.long jf, .int (nI x0)]) (rest := []) ⟨hx, hb, hml, hown, hts⟩ (c_X4_alongFits l jf (nI x0)) (va_cwS 2 hts gX4_alongWays_X4_alongFits rfl rfl rfl (by decide +kernel) ⟨Nat.le_of_ble_eq_true rfl, Nat.le_of_ble_eq_true rfl⟩) rfl hl.1 rfl (Nat.le_of_ble_eq_true rfl) dX4_alongWays_5 ⟨Nat.le_of_ble_eq_true rfl, Nat.le_of_ble_eq_true rfl⟩ ?_
  refine lv_if_eq (tgt := 17) hx hb dX4_alongWays_8 (by decide) (fun c_1 => ?_) (fun c_1 => ?_)
  · replace c_1 := bI_f c_1
    refine lv_iconst (v := 0) hx hb dX4_alongWays_17 (by decide) ?_
    exact aret_i hx hb hr hlocks trivial dX4_alongWays_18
  · replace c_1 := bI_t c_1
    refine lv_iload_n hx hb dX4_alongWays_11 rfl (lv_at hl 2 rfl) ?_
    refine lv_iconst (v := 2) hx hb dX4_alongWays_12 (by decide) ?_
    refine lv_iand hx hb dX4_alongWays_13 ?_
    refine lv_if_eq (tgt := 19) hx hb dX4_alongWays_14 (by decide) (fun c_2 => ?_) (fun c_2 => ?_)
    · refine lv_aload_n hx hb dX4_alongWays_19 rfl (lv_at hl 0 rfl) ?_
      refine va_get (D := D) (ci := 3) (v := .ref b1) (C := RX4) (T := TX4) (N := 4) hx hb hts hi4 hown hK hP 20 rfl rfl 0 (by decide) hw1 (fun _ h9 => h9) rfl dX4_alongWays_20 ?_
      refine lv_iload_n hx hb dX4_alongWays_23 rfl (lv_at hl 1 rfl) ?_
      refine lv_iconst (v := 1) hx hb dX4_alongWays_24 (by decide) ?_
      refine lv_iadd hx hb dX4_alongWays_25 ?_
      refine wtop_i (y := nI (x0 + 1)) (nI_1 _) ?_
      refine lv_sipush (v := 256) hx hb dX4_alongWays_26 (by decide) ?_
      refine lv_imul hx hb dX4_alongWays_29 ?_
      refine wtop_i (y := nI ((x0 + 1) * 256)) (pk_mul (x0 + 1) 256) ?_
      refine lv_iload_n hx hb dX4_alongWays_30 rfl (lv_at hl 2 rfl) ?_
      refine lv_iconst (v := 1) hx hb dX4_alongWays_31 (by decide) ?_
      refine lv_ishr hx hb dX4_alongWays_32 ?_
      refine wtop_i (y := nI (x1 / 2)) (pk_shrN (by omega) _ 1 (by decide)) ?_
      refine lv_iconst (v := 1) hx hb dX4_alongWays_33 (by decide) ?_
      refine lv_ior hx hb dX4_alongWays_34 ?_
      refine wtop_i (y := nI (x1 / 2 / 2 * 2 + 1)) (or1_t ⟨x1 / 2, by omega⟩) ?_
      refine lv_iadd hx hb dX4_alongWays_35 ?_
      refine va_iald hx hb hK hP 21 0 rfl rfl (ixa hx0 (by omega)) dX4_alongWays_36 ?_
      exact aret_i hx hb hr hlocks trivial dX4_alongWays_37
    · refine lv_iconst (v := 0) hx hb dX4_alongWays_17 (by decide) ?_
      exact aret_i hx hb hr hlocks trivial dX4_alongWays_18
theorem dX4_beginsStone_0 : decode cX4_beginsStone 0 = .ok (.aload_n 0, 1) := by decide +kernel
theorem dX4_beginsStone_1 : decode cX4_beginsStone 1 = .ok (.getfield 20, 3) := by decide +kernel
theorem dX4_beginsStone_4 : decode cX4_beginsStone 4 = .ok (.iload_n 1, 1) := by decide +kernel
set_option maxRecDepth 20000 in
theorem ggX4_beginsStone_X1_holds : GoodIn wsX4_beginsStone wsX1_holds := goodIn_r _ [5] rfl (by decide +kernel)
set_option maxRecDepth 20000 in
theorem gX4_beginsStone_X1_holds : GoodIn wsX4_beginsStone (va_wsS RX4 37 yX1_holds wsX1_holds) := goodIn_app (goodIn_r _ [2, 3, 4] rfl (by decide +kernel)) ggX4_beginsStone_X1_holds
theorem dX4_beginsStone_5 : decode cX4_beginsStone 5 = .ok (.invokestatic 37, 3) := by decide +kernel
theorem dX4_beginsStone_8 : decode cX4_beginsStone 8 = .ok (.ifCond .eq 13, 3) := by decide +kernel
theorem dX4_beginsStone_21 : decode cX4_beginsStone 21 = .ok (.iconst 0, 1) := by decide +kernel
theorem dX4_beginsStone_22 : decode cX4_beginsStone 22 = .ok (.ireturn, 1) := by decide +kernel
theorem dX4_beginsStone_11 : decode cX4_beginsStone 11 = .ok (.iload_n 2, 1) := by decide +kernel
theorem dX4_beginsStone_12 : decode cX4_beginsStone 12 = .ok (.iconst 1, 1) := by decide +kernel
theorem dX4_beginsStone_13 : decode cX4_beginsStone 13 = .ok (.iand, 1) := by decide +kernel
theorem dX4_beginsStone_14 : decode cX4_beginsStone 14 = .ok (.ifCond .ne 7, 3) := by decide +kernel
theorem dX4_beginsStone_17 : decode cX4_beginsStone 17 = .ok (.iconst 1, 1) := by decide +kernel
theorem dX4_beginsStone_18 : decode cX4_beginsStone 18 = .ok (.goto 4, 3) := by decide +kernel
set_option maxRecDepth 20000 in
theorem ihX4_beginsStone_4 : ∀ w ∈ u_ws RX4 TX4 4, w ∈ wsX4_beginsStone := fun _ h => List.mem_cons_of_mem _ (List.mem_append_right _ h)
set_option maxHeartbeats 4000000 in
set_option maxRecDepth 100000 in
theorem t_X4_beginsStone (l : Launch) (D : va_G) (cy : Nat → ClassId) (a : Nat → Nat) (sz : Nat) (J : Nat → Int64) (I : Nat → Int32) (O : Nat → Option Nat) (R : Nat → Nat → Int32) (RO : Nat → Nat → Option Nat) (b0 b1 b2 : Nat) (jf : Int64) (kn : Int32) (fw fp : Nat → Int32) (hkn : isB kn) (Y : va_W) (x0 : Int32) (x1 : Int32) : Met l yX4_beginsStone wsX4_beginsStone ({ frames := 1, cells := 0, slots := 0, locals := 22 }) (va_Pc [.ref b0, .int x0, .int x1] (PW D cy sz (CT cy a J I O R RO ([(b0, .inr (3, [.ref b1, .ref b2, .long jf, .int kn])), (b1, .inl (cy 0, 16640, .inl fw)), (b2, .inl (cy 0, 512, .inl fp))] ++ Y)))) (vp_Si (fun r => ∃ b, r = bI b)) 0 0 (fun _ => False) := by
  refine Met.ofW (cc := cX4_beginsStone) (maxL := 3) (ret := (some .boolean)) (by decide) rfl ?_
  intro p e s m args below meth c s₁ B hml hv
  obtain ⟨rfl, rfl, hP, hK, hN, hD0⟩ := hv
  have hx := B.exec
  have hb := B.bytes
  have hr := B.returns
  have hts := atoms_spec (ws := wsX4_beginsStone) B.pre
  have hown : s.vm.findClass RX4 = some m.cls := findClass_of_methodNamed B.named
  have hlocks := B.notSynchronized
  have hw0 := hts (.fieldLink RX4 20 "ParquetLayer$Layings" "free" "J") (by decide +kernel)
  have hi4 := ihX4_beginsStone_4
  have hD := hD0
  have hl := lv_entry ([.ref b0, .int x0, .int x1]) (n := 3) (Nat.le_of_ble_eq_true rfl)
  rw [lg_entry_eq]
  generalize (lg_sl ([.ref b0, .int x0, .int x1]) ++ List.replicate (3 - (lg_sl ([.ref b0, .int x0, .int x1])).length) Slot.unset).toArray = ls at hl ⊢
  have hl : lv_has ls 3 [(0, .ref b0), (1, .int x0), (2, .int x1)] := hl
  refine lv_aload_n hx hb dX4_beginsStone_0 rfl (lv_at hl 0 rfl) ?_
  refine va_get (D := D) (ci := 3) (v := .long jf) (C := RX4) (T := TX4) (N := 4) hx hb hts hi4 hown hK hP 20 rfl rfl 2 (by decide) hw0 (fun _ h9 => h9) rfl dX4_beginsStone_1 ?_
  refine lv_iload_n hx hb dX4_beginsStone_4 rfl (lv_at hl 1 rfl) ?_
  refine kS_i (As := [.long jf, .int x0]) (rest := []) ⟨hx, hb, hml, hown, hts⟩ (c_X1_holds l jf x0) (va_cwS 2 hts gX4_beginsStone_X1_holds rfl rfl rfl (by decide +kernel) ⟨Nat.le_of_ble_eq_true rfl, Nat.le_of_ble_eq_true rfl⟩) rfl hl.1 rfl (Nat.le_of_ble_eq_true rfl) dX4_beginsStone_5 ⟨Nat.le_of_ble_eq_true rfl, Nat.le_of_ble_eq_true rfl⟩ ?_
  refine lv_if_eq (tgt := 21) hx hb dX4_beginsStone_8 (by decide) (fun c_1 => ?_) (fun c_1 => ?_)
  · replace c_1 := bI_f c_1
    refine lv_iconst (v := 0) hx hb dX4_beginsStone_21 (by decide) ?_
    exact aret_z hx hb hr hlocks rfl ⟨false, rfl⟩ dX4_beginsStone_22
  · replace c_1 := bI_t c_1
    refine lv_iload_n hx hb dX4_beginsStone_11 rfl (lv_at hl 2 rfl) ?_
    refine lv_iconst (v := 1) hx hb dX4_beginsStone_12 (by decide) ?_
    refine lv_iand hx hb dX4_beginsStone_13 ?_
    refine lv_if_ne (tgt := 21) hx hb dX4_beginsStone_14 (by decide) (fun c_2 => ?_) (fun c_2 => ?_)
    · refine lv_iconst (v := 0) hx hb dX4_beginsStone_21 (by decide) ?_
      exact aret_z hx hb hr hlocks rfl ⟨false, rfl⟩ dX4_beginsStone_22
    · refine lv_iconst (v := 1) hx hb dX4_beginsStone_17 (by decide) ?_
      refine lv_goto (tgt := 22) hx hb dX4_beginsStone_18 (by decide) ?_
      exact aret_z hx hb hr hlocks rfl ⟨true, rfl⟩ dX4_beginsStone_22
theorem dX4_acrossOf_11 : decode cX4_acrossOf 11 = .ok (.iload 6, 2) := by decide +kernel
theorem dX4_acrossOf_13 : decode cX4_acrossOf 13 = .ok (.bipush 64, 2) := by decide +kernel
theorem dX4_acrossOf_15 : decode cX4_acrossOf 15 = .ok (.if_icmp .ge 78, 3) := by decide +kernel
theorem dX4_acrossOf_93 : decode cX4_acrossOf 93 = .ok (.lload_n 2, 1) := by decide +kernel
theorem dX4_acrossOf_94 : decode cX4_acrossOf 94 = .ok (.lreturn, 1) := by decide +kernel
theorem dX4_acrossOf_18 : decode cX4_acrossOf 18 = .ok (.iload 5, 2) := by decide +kernel
theorem dX4_acrossOf_20 : decode cX4_acrossOf 20 = .ok (.iconst 1, 1) := by decide +kernel
theorem dX4_acrossOf_21 : decode cX4_acrossOf 21 = .ok (.ishr, 1) := by decide +kernel
theorem dX4_acrossOf_22 : decode cX4_acrossOf 22 = .ok (.istore 7, 2) := by decide +kernel
theorem dX4_acrossOf_24 : decode cX4_acrossOf 24 = .ok (.aload_n 0, 1) := by decide +kernel
theorem dX4_acrossOf_25 : decode cX4_acrossOf 25 = .ok (.iload 6, 2) := by decide +kernel
theorem dX4_acrossOf_27 : decode cX4_acrossOf 27 = .ok (.iload 5, 2) := by decide +kernel
set_option maxRecDepth 20000 in
theorem ggX4_acrossOf_X4_beginsStone : GoodIn wsX4_acrossOf wsX4_beginsStone := goodIn_r _ [5, 6, 7, 8, 9, 10, 19, 20, 21, 22] rfl (by decide +kernel)
set_option maxRecDepth 20000 in
theorem gX4_acrossOf_X4_beginsStone : GoodIn wsX4_acrossOf (wsV RX4 42 RX4 yX4_beginsStone wsX4_beginsStone) := goodIn_app (goodIn_r _ [1, 2, 3, 4] rfl (by decide +kernel)) ggX4_acrossOf_X4_beginsStone
theorem dX4_acrossOf_29 : decode cX4_acrossOf 29 = .ok (.invokevirtual 42, 3) := by decide +kernel
theorem dX4_acrossOf_32 : decode cX4_acrossOf 32 = .ok (.ifCond .eq 51, 3) := by decide +kernel
theorem dX4_acrossOf_83 : decode cX4_acrossOf 83 = .ok (.iload 7, 2) := by decide +kernel
theorem dX4_acrossOf_85 : decode cX4_acrossOf 85 = .ok (.istore 5, 2) := by decide +kernel
theorem dX4_acrossOf_87 : decode cX4_acrossOf 87 = .ok (.iinc 6 1, 3) := by decide +kernel
theorem dX4_acrossOf_90 : decode cX4_acrossOf 90 = .ok (.goto (-79), 3) := by decide +kernel
theorem dX4_acrossOf_35 : decode cX4_acrossOf 35 = .ok (.aload_n 0, 1) := by decide +kernel
theorem dX4_acrossOf_36 : decode cX4_acrossOf 36 = .ok (.iload 6, 2) := by decide +kernel
theorem dX4_acrossOf_38 : decode cX4_acrossOf 38 = .ok (.iload 5, 2) := by decide +kernel
set_option maxRecDepth 20000 in
theorem ggX4_acrossOf_X4_alongWays : GoodIn wsX4_acrossOf wsX4_alongWays := goodIn_r _ [14, 6, 15, 16, 17, 4, 18, 7, 8, 9, 10, 19, 20, 21, 22] rfl (by decide +kernel)
set_option maxRecDepth 20000 in
theorem gX4_acrossOf_X4_alongWays : GoodIn wsX4_acrossOf (wsV RX4 46 RX4 yX4_alongWays wsX4_alongWays) := goodIn_app (goodIn_r _ [11, 12, 13, 4] rfl (by decide +kernel)) ggX4_acrossOf_X4_alongWays
theorem dX4_acrossOf_40 : decode cX4_acrossOf 40 = .ok (.invokevirtual 46, 3) := by decide +kernel
theorem dX4_acrossOf_43 : decode cX4_acrossOf 43 = .ok (.istore 8, 2) := by decide +kernel
theorem dX4_acrossOf_45 : decode cX4_acrossOf 45 = .ok (.iload 4, 2) := by decide +kernel
theorem dX4_acrossOf_47 : decode cX4_acrossOf 47 = .ok (.iload 8, 2) := by decide +kernel
theorem dX4_acrossOf_49 : decode cX4_acrossOf 49 = .ok (.if_icmp .ge 12, 3) := by decide +kernel
theorem dX4_acrossOf_61 : decode cX4_acrossOf 61 = .ok (.iload 4, 2) := by decide +kernel
theorem dX4_acrossOf_63 : decode cX4_acrossOf 63 = .ok (.iload 8, 2) := by decide +kernel
theorem dX4_acrossOf_65 : decode cX4_acrossOf 65 = .ok (.isub, 1) := by decide +kernel
theorem dX4_acrossOf_66 : decode cX4_acrossOf 66 = .ok (.istore 4, 2) := by decide +kernel
theorem dX4_acrossOf_68 : decode cX4_acrossOf 68 = .ok (.lload_n 2, 1) := by decide +kernel
theorem dX4_acrossOf_69 : decode cX4_acrossOf 69 = .ok (.lconst 1, 1) := by decide +kernel
theorem dX4_acrossOf_70 : decode cX4_acrossOf 70 = .ok (.iload 6, 2) := by decide +kernel
theorem dX4_acrossOf_72 : decode cX4_acrossOf 72 = .ok (.lshl, 1) := by decide +kernel
theorem dX4_acrossOf_73 : decode cX4_acrossOf 73 = .ok (.lor, 1) := by decide +kernel
theorem dX4_acrossOf_74 : decode cX4_acrossOf 74 = .ok (.lstore_n 2, 1) := by decide +kernel
theorem dX4_acrossOf_75 : decode cX4_acrossOf 75 = .ok (.iload 7, 2) := by decide +kernel
theorem dX4_acrossOf_77 : decode cX4_acrossOf 77 = .ok (.sipush 128, 3) := by decide +kernel
theorem dX4_acrossOf_80 : decode cX4_acrossOf 80 = .ok (.ior, 1) := by decide +kernel
theorem dX4_acrossOf_81 : decode cX4_acrossOf 81 = .ok (.istore 7, 2) := by decide +kernel
theorem dX4_acrossOf_52 : decode cX4_acrossOf 52 = .ok (.iload 7, 2) := by decide +kernel
theorem dX4_acrossOf_54 : decode cX4_acrossOf 54 = .ok (.iconst 1, 1) := by decide +kernel
theorem dX4_acrossOf_55 : decode cX4_acrossOf 55 = .ok (.ior, 1) := by decide +kernel
theorem dX4_acrossOf_56 : decode cX4_acrossOf 56 = .ok (.istore 7, 2) := by decide +kernel
theorem dX4_acrossOf_58 : decode cX4_acrossOf 58 = .ok (.goto 25, 3) := by decide +kernel
theorem dX4_acrossOf_0 : decode cX4_acrossOf 0 = .ok (.lconst 0, 1) := by decide +kernel
theorem dX4_acrossOf_1 : decode cX4_acrossOf 1 = .ok (.lstore_n 2, 1) := by decide +kernel
theorem dX4_acrossOf_2 : decode cX4_acrossOf 2 = .ok (.iload_n 1, 1) := by decide +kernel
theorem dX4_acrossOf_3 : decode cX4_acrossOf 3 = .ok (.istore 4, 2) := by decide +kernel
theorem dX4_acrossOf_5 : decode cX4_acrossOf 5 = .ok (.iconst 0, 1) := by decide +kernel
theorem dX4_acrossOf_6 : decode cX4_acrossOf 6 = .ok (.istore 5, 2) := by decide +kernel
theorem dX4_acrossOf_8 : decode cX4_acrossOf 8 = .ok (.iconst 0, 1) := by decide +kernel
theorem dX4_acrossOf_9 : decode cX4_acrossOf 9 = .ok (.istore 6, 2) := by decide +kernel
set_option maxHeartbeats 4000000 in
set_option maxRecDepth 100000 in
theorem t_X4_acrossOf (l : Launch) (D : va_G) (cy : Nat → ClassId) (a : Nat → Nat) (sz : Nat) (J : Nat → Int64) (I : Nat → Int32) (O : Nat → Option Nat) (R : Nat → Nat → Int32) (RO : Nat → Nat → Option Nat) (b0 b1 b2 : Nat) (jf : Int64) (kn : Int32) (fw fp : Nat → Int32) (hkn : isB kn) (Y : va_W) (x0 : Int32) : Met l yX4_acrossOf wsX4_acrossOf ({ frames := 3, cells := 0, slots := 0, locals := 66 }) (va_Pc [.ref b0, .int x0] (PW D cy sz (CT cy a J I O R RO ([(b0, .inr (3, [.ref b1, .ref b2, .long jf, .int kn])), (b1, .inl (cy 0, 16640, .inl fw)), (b2, .inl (cy 0, 512, .inl fp))] ++ Y)))) (vp_Sl (fun r => True)) 0 0 (fun _ => False) := by
  refine Met.ofW (cc := cX4_acrossOf) (maxL := 9) (ret := (some .long)) (by decide) rfl ?_
  intro p e s m args below meth c s₁ B hml hv
  obtain ⟨rfl, rfl, hP, hK, hN, hD0⟩ := hv
  have hx := B.exec
  have hb := B.bytes
  have hr := B.returns
  have hts := atoms_spec (ws := wsX4_acrossOf) B.pre
  have hown : s.vm.findClass RX4 = some m.cls := findClass_of_methodNamed B.named
  have hlocks := B.notSynchronized
  have hD := hD0
  have hl := lv_entry ([.ref b0, .int x0]) (n := 9) (Nat.le_of_ble_eq_true rfl)
  rw [lg_entry_eq]
  generalize (lg_sl ([.ref b0, .int x0]) ++ List.replicate (9 - (lg_sl ([.ref b0, .int x0])).length) Slot.unset).toArray = ls at hl ⊢
  have hl : lv_has ls 9 [(0, .ref b0), (1, .int x0)] := hl
  have lp11 : ∀ (n11 : Nat), ∀ (i : Nat) (mk : Nat) (v2_11 : Int64) (v4_11 : Int32), (i ≤ 64) → (mk < 256) → (64 - i) < n11 → ∀ (ls : Array Slot), lv_has ls 9 [(0, .ref b0), (2, .long v2_11), (4, .int v4_11), (5, .int (nI mk)), (6, .int (nI i))] → W p l e (headSpec wsX4_acrossOf ({ frames := 3, cells := 0, slots := 0, locals := 66 })).room s m ([.ref b0, .int x0] : List Value).toArray below meth c s.heap [] 0 0 (MQ below (vp_Sl (fun r => True)) ([.ref b0, .int x0] : List Value).toArray s 0 0 (fun _ => False)) (F0 m 11 ls []) := by
    intro n11
    induction n11 with
    | zero => intro i mk v2_11 v4_11 hi hmk hn; exact absurd hn (Nat.not_lt_zero _)
    | succ n11 ih11 =>
      intro i mk v2_11 v4_11 hi hmk hn11 ls hl
      refine lv_iload hx hb dX4_acrossOf_11 (lv_at hl 4 rfl) ?_
      refine lv_bipush (v := 64) hx hb dX4_acrossOf_13 (by decide) ?_
      refine lv_icmp_ge (tgt := 93) hx hb dX4_acrossOf_15 (by decide) (fun c_1 => ?_) (fun c_1 => ?_)
      · refine lv_lload_n hx hb dX4_acrossOf_93 rfl (lv_at hl 1 rfl) ?_
        exact aret_l hx hb hr hlocks trivial dX4_acrossOf_94
      · have hlt_i := ctr_lt (N := 64) (by decide) hi c_1
        refine lv_iload hx hb dX4_acrossOf_18 (lv_at hl 3 rfl) ?_
        refine lv_iconst (v := 1) hx hb dX4_acrossOf_20 (by decide) ?_
        refine lv_ishr hx hb dX4_acrossOf_21 ?_
        refine wtop_i (y := nI (mk / 2)) (pk_shrN (by omega) _ 1 (by decide)) ?_
        refine lv_istore (lv' := [(7, .int (nI (mk / 2))), (0, .ref b0), (2, .long v2_11), (4, .int v4_11), (5, .int (nI mk)), (6, .int (nI i))]) hx hb dX4_acrossOf_22 hl (by decide) rfl (fun ls hl => ?_)
        refine lv_aload_n hx hb dX4_acrossOf_24 rfl (lv_at hl 1 rfl) ?_
        refine lv_iload hx hb dX4_acrossOf_25 (lv_at hl 5 rfl) ?_
        refine lv_iload hx hb dX4_acrossOf_27 (lv_at hl 4 rfl) ?_
        refine kRa_i (As := [.int (nI i), .int (nI mk)]) (rest := []) (q0 := 20) ⟨hx, hb, hml, hown, hts⟩ (t_X4_beginsStone l D cy a _ J I O R RO b0 b1 b2 jf kn fw fp hkn Y (nI i) (nI mk)  ) (cwV 2 hts gX4_acrossOf_X4_beginsStone rfl rfl rfl (by decide +kernel) ⟨Nat.le_of_ble_eq_true rfl, Nat.le_of_ble_eq_true rfl⟩) hK hN hP hD rfl rfl rfl hl.1 rfl (Nat.le_of_ble_eq_true rfl) dX4_acrossOf_29 ⟨Nat.le_of_ble_eq_true rfl, Nat.le_of_ble_eq_true rfl⟩ (fun r_2 hr_3 => ?_)
        obtain ⟨zb_4, rfl⟩ := hr_3
        refine lv_if_eq (tgt := 83) hx hb dX4_acrossOf_32 (by decide) (fun c_5 => ?_) (fun c_5 => ?_)
        · replace c_5 := bI_f c_5
          refine lv_iload hx hb dX4_acrossOf_83 (lv_at hl 0 rfl) ?_
          refine lv_istore (lv' := [(5, .int (nI (mk / 2))), (7, .int (nI (mk / 2))), (0, .ref b0), (2, .long v2_11), (4, .int v4_11), (6, .int (nI i))]) hx hb dX4_acrossOf_85 hl (by decide) rfl (fun ls hl => ?_)
          refine lv_iinc (v := nI (i + 1)) (lv' := [(6, .int (nI (i + 1))), (5, .int (nI (mk / 2))), (7, .int (nI (mk / 2))), (0, .ref b0), (2, .long v2_11), (4, .int v4_11)]) hx hb dX4_acrossOf_87 hl (k := 5) rfl (nI_1 _) (by decide) rfl (fun ls hl => ?_)
          refine lv_goto (tgt := 11) hx hb dX4_acrossOf_90 (by decide) ?_
          exact ih11 (i + 1) (mk / 2) v2_11 v4_11 (by omega) (by omega) (by omega) ls (lv_sub hl [3, 4, 5, 1, 0] rfl)
        · replace c_5 := bI_t c_5
          refine lv_aload_n hx hb dX4_acrossOf_35 rfl (lv_at hl 1 rfl) ?_
          refine lv_iload hx hb dX4_acrossOf_36 (lv_at hl 5 rfl) ?_
          refine lv_iload hx hb dX4_acrossOf_38 (lv_at hl 4 rfl) ?_
          refine kRa_i (As := [.int (nI i), .int (nI mk)]) (rest := []) (q0 := 20) ⟨hx, hb, hml, hown, hts⟩ (t_X4_alongWays l D cy a _ J I O R RO b0 b1 b2 jf kn fw fp hkn Y i mk hlt_i hmk ) (cwV 2 hts gX4_acrossOf_X4_alongWays rfl rfl rfl (by decide +kernel) ⟨Nat.le_of_ble_eq_true rfl, Nat.le_of_ble_eq_true rfl⟩) hK hN hP hD rfl rfl rfl hl.1 rfl (Nat.le_of_ble_eq_true rfl) dX4_acrossOf_40 ⟨Nat.le_of_ble_eq_true rfl, Nat.le_of_ble_eq_true rfl⟩ (fun r_6 hr_7 => ?_)
          refine lv_istore (lv' := [(8, .int r_6), (7, .int (nI (mk / 2))), (0, .ref b0), (2, .long v2_11), (4, .int v4_11), (5, .int (nI mk)), (6, .int (nI i))]) hx hb dX4_acrossOf_43 hl (by decide) rfl (fun ls hl => ?_)
          refine lv_iload hx hb dX4_acrossOf_45 (lv_at hl 4 rfl) ?_
          refine lv_iload hx hb dX4_acrossOf_47 (lv_at hl 0 rfl) ?_
          refine lv_icmp_ge (tgt := 61) hx hb dX4_acrossOf_49 (by decide) (fun c_8 => ?_) (fun c_8 => ?_)
          · refine lv_iload hx hb dX4_acrossOf_61 (lv_at hl 4 rfl) ?_
            refine lv_iload hx hb dX4_acrossOf_63 (lv_at hl 0 rfl) ?_
            refine lv_isub hx hb dX4_acrossOf_65 ?_
            refine lv_istore (lv' := [(4, .int (v4_11 - r_6)), (8, .int r_6), (7, .int (nI (mk / 2))), (0, .ref b0), (2, .long v2_11), (5, .int (nI mk)), (6, .int (nI i))]) hx hb dX4_acrossOf_66 hl (by decide) rfl (fun ls hl => ?_)
            refine lv_lload_n hx hb dX4_acrossOf_68 rfl (lv_at hl 4 rfl) ?_
            refine lv_lconst (v := 1) hx hb dX4_acrossOf_69 (by decide) ?_
            refine lv_iload hx hb dX4_acrossOf_70 (lv_at hl 6 rfl) ?_
            refine lv_lshl (v := (1 : Int64) <<< ((nI i : Int32).toInt64 &&& 63)) hx hb dX4_acrossOf_72 rfl ?_
            refine lv_lor hx hb dX4_acrossOf_73 ?_
            refine lv_lstore_n (lv' := [(2, .long (v2_11 ||| ((1 : Int64) <<< ((nI i : Int32).toInt64 &&& 63)))), (4, .int (v4_11 - r_6)), (8, .int r_6), (7, .int (nI (mk / 2))), (0, .ref b0), (5, .int (nI mk)), (6, .int (nI i))]) hx hb dX4_acrossOf_74 rfl hl (by decide) rfl (fun ls hl => ?_)
            refine lv_iload hx hb dX4_acrossOf_75 (lv_at hl 3 rfl) ?_
            refine lv_sipush (v := 128) hx hb dX4_acrossOf_77 (by decide) ?_
            refine lv_ior hx hb dX4_acrossOf_80 ?_
            refine wtop_i (y := nI (mk / 2 + 128)) (or128_t ⟨mk / 2, by omega⟩) ?_
            refine lv_istore (lv' := [(7, .int (nI (mk / 2 + 128))), (2, .long (v2_11 ||| ((1 : Int64) <<< ((nI i : Int32).toInt64 &&& 63)))), (4, .int (v4_11 - r_6)), (8, .int r_6), (0, .ref b0), (5, .int (nI mk)), (6, .int (nI i))]) hx hb dX4_acrossOf_81 hl (by decide) rfl (fun ls hl => ?_)
            refine lv_iload hx hb dX4_acrossOf_83 (lv_at hl 0 rfl) ?_
            refine lv_istore (lv' := [(5, .int (nI (mk / 2 + 128))), (7, .int (nI (mk / 2 + 128))), (2, .long (v2_11 ||| ((1 : Int64) <<< ((nI i : Int32).toInt64 &&& 63)))), (4, .int (v4_11 - r_6)), (8, .int r_6), (0, .ref b0), (6, .int (nI i))]) hx hb dX4_acrossOf_85 hl (by decide) rfl (fun ls hl => ?_)
            refine lv_iinc (v := nI (i + 1)) (lv' := [(6, .int (nI (i + 1))), (5, .int (nI (mk / 2 + 128))), (7, .int (nI (mk / 2 + 128))), (2, .long (v2_11 ||| ((1 : Int64) <<< ((nI i : Int32).toInt64 &&& 63)))), (4, .int (v4_11 - r_6)), (8, .int r_6), (0, .ref b0)]) hx hb dX4_acrossOf_87 hl (k := 6) rfl (nI_1 _) (by decide) rfl (fun ls hl => ?_)
            refine lv_goto (tgt := 11) hx hb dX4_acrossOf_90 (by decide) ?_
            exact ih11 (i + 1) (mk / 2 + 128) (v2_11 ||| ((1 : Int64) <<< ((nI i : Int32).toInt64 &&& 63))) (v4_11 - r_6) (by omega) (by omega) (by omega) ls (lv_sub hl [6, 3, 4, 1, 0] rfl)
          · refine lv_iload hx hb dX4_acrossOf_52 (lv_at hl 1 rfl) ?_
            refine lv_iconst (v := 1) hx hb dX4_acrossOf_54 (by decide) ?_
            refine lv_ior hx hb dX4_acrossOf_55 ?_
            refine wtop_i (y := nI (mk / 2 / 2 * 2 + 1)) (or1_t ⟨mk / 2, by omega⟩) ?_
            refine lv_istore (lv' := [(7, .int (nI (mk / 2 / 2 * 2 + 1))), (8, .int r_6), (0, .ref b0), (2, .long v2_11), (4, .int v4_11), (5, .int (nI mk)), (6, .int (nI i))]) hx hb dX4_acrossOf_56 hl (by decide) rfl (fun ls hl => ?_)
            refine lv_goto (tgt := 83) hx hb dX4_acrossOf_58 (by decide) ?_
            refine lv_iload hx hb dX4_acrossOf_83 (lv_at hl 0 rfl) ?_
            refine lv_istore (lv' := [(5, .int (nI (mk / 2 / 2 * 2 + 1))), (7, .int (nI (mk / 2 / 2 * 2 + 1))), (8, .int r_6), (0, .ref b0), (2, .long v2_11), (4, .int v4_11), (6, .int (nI i))]) hx hb dX4_acrossOf_85 hl (by decide) rfl (fun ls hl => ?_)
            refine lv_iinc (v := nI (i + 1)) (lv' := [(6, .int (nI (i + 1))), (5, .int (nI (mk / 2 / 2 * 2 + 1))), (7, .int (nI (mk / 2 / 2 * 2 + 1))), (8, .int r_6), (0, .ref b0), (2, .long v2_11), (4, .int v4_11)]) hx hb dX4_acrossOf_87 hl (k := 6) rfl (nI_1 _) (by decide) rfl (fun ls hl => ?_)
            refine lv_goto (tgt := 11) hx hb dX4_acrossOf_90 (by decide) ?_
            exact ih11 (i + 1) (mk / 2 / 2 * 2 + 1) v2_11 v4_11 (by omega) (by omega) (by omega) ls (lv_sub hl [4, 5, 6, 1, 0] rfl)
  refine lv_lconst (v := 0) hx hb dX4_acrossOf_0 (by decide) ?_
  refine lv_lstore_n (lv' := [(2, .long 0), (0, .ref b0), (1, .int x0)]) hx hb dX4_acrossOf_1 rfl hl (by decide) rfl (fun ls hl => ?_)
  refine lv_iload_n hx hb dX4_acrossOf_2 rfl (lv_at hl 2 rfl) ?_
  refine lv_istore (lv' := [(4, .int x0), (2, .long 0), (0, .ref b0), (1, .int x0)]) hx hb dX4_acrossOf_3 hl (by decide) rfl (fun ls hl => ?_)
  refine lv_iconst (v := 0) hx hb dX4_acrossOf_5 (by decide) ?_
  refine lv_istore (lv' := [(5, .int 0), (4, .int x0), (2, .long 0), (0, .ref b0), (1, .int x0)]) hx hb dX4_acrossOf_6 hl (by decide) rfl (fun ls hl => ?_)
  refine lv_iconst (v := 0) hx hb dX4_acrossOf_8 (by decide) ?_
  refine lv_istore (lv' := [(6, .int 0), (5, .int 0), (4, .int x0), (2, .long 0), (0, .ref b0), (1, .int x0)]) hx hb dX4_acrossOf_9 hl (by decide) rfl (fun ls hl => ?_)
  exact lp11 _ 0 0 (0 : Int64) x0 (by omega) (by omega) (Nat.lt_succ_self _) ls (lv_sub hl [4, 3, 2, 1, 0] rfl)
theorem dX4_alongBeside_26 : decode cX4_alongBeside 26 = .ok (.iload 7, 2) := by decide +kernel
theorem dX4_alongBeside_28 : decode cX4_alongBeside 28 = .ok (.bipush 63, 2) := by decide +kernel
theorem dX4_alongBeside_30 : decode cX4_alongBeside 30 = .ok (.if_icmp .ge 41, 3) := by decide +kernel
theorem dX4_alongBeside_71 : decode cX4_alongBeside 71 = .ok (.lload_n 3, 1) := by decide +kernel
theorem dX4_alongBeside_72 : decode cX4_alongBeside 72 = .ok (.lreturn, 1) := by decide +kernel
theorem dX4_alongBeside_33 : decode cX4_alongBeside 33 = .ok (.lload 5, 2) := by decide +kernel
theorem dX4_alongBeside_35 : decode cX4_alongBeside 35 = .ok (.iload 7, 2) := by decide +kernel
set_option maxRecDepth 20000 in
theorem ggX4_alongBeside_X1_holds : GoodIn wsX4_alongBeside wsX1_holds := goodIn_r _ [7] rfl (by decide +kernel)
set_option maxRecDepth 20000 in
theorem gX4_alongBeside_X1_holds : GoodIn wsX4_alongBeside (va_wsS RX4 37 yX1_holds wsX1_holds) := goodIn_app (goodIn_r _ [4, 5, 6] rfl (by decide +kernel)) ggX4_alongBeside_X1_holds
theorem dX4_alongBeside_37 : decode cX4_alongBeside 37 = .ok (.invokestatic 37, 3) := by decide +kernel
theorem dX4_alongBeside_40 : decode cX4_alongBeside 40 = .ok (.ifCond .eq 25, 3) := by decide +kernel
theorem dX4_alongBeside_65 : decode cX4_alongBeside 65 = .ok (.iinc 7 1, 3) := by decide +kernel
theorem dX4_alongBeside_68 : decode cX4_alongBeside 68 = .ok (.goto (-42), 3) := by decide +kernel
theorem dX4_alongBeside_43 : decode cX4_alongBeside 43 = .ok (.lload_n 3, 1) := by decide +kernel
theorem dX4_alongBeside_44 : decode cX4_alongBeside 44 = .ok (.lconst 1, 1) := by decide +kernel
theorem dX4_alongBeside_45 : decode cX4_alongBeside 45 = .ok (.iload 7, 2) := by decide +kernel
theorem dX4_alongBeside_47 : decode cX4_alongBeside 47 = .ok (.lshl, 1) := by decide +kernel
theorem dX4_alongBeside_48 : decode cX4_alongBeside 48 = .ok (.lor, 1) := by decide +kernel
theorem dX4_alongBeside_49 : decode cX4_alongBeside 49 = .ok (.lstore_n 3, 1) := by decide +kernel
theorem dX4_alongBeside_50 : decode cX4_alongBeside 50 = .ok (.lload 5, 2) := by decide +kernel
theorem dX4_alongBeside_52 : decode cX4_alongBeside 52 = .ok (.ldc2_w 50, 3) := by decide +kernel
theorem dX4_alongBeside_55 : decode cX4_alongBeside 55 = .ok (.iload 7, 2) := by decide +kernel
theorem dX4_alongBeside_57 : decode cX4_alongBeside 57 = .ok (.lshl, 1) := by decide +kernel
theorem dX4_alongBeside_58 : decode cX4_alongBeside 58 = .ok (.ldc2_w 28, 3) := by decide +kernel
theorem dX4_alongBeside_61 : decode cX4_alongBeside 61 = .ok (.lxor, 1) := by decide +kernel
theorem dX4_alongBeside_62 : decode cX4_alongBeside 62 = .ok (.land, 1) := by decide +kernel
theorem dX4_alongBeside_63 : decode cX4_alongBeside 63 = .ok (.lstore 5, 2) := by decide +kernel
theorem dX4_alongBeside_0 : decode cX4_alongBeside 0 = .ok (.lconst 0, 1) := by decide +kernel
theorem dX4_alongBeside_1 : decode cX4_alongBeside 1 = .ok (.lstore_n 3, 1) := by decide +kernel
theorem dX4_alongBeside_2 : decode cX4_alongBeside 2 = .ok (.aload_n 0, 1) := by decide +kernel
theorem dX4_alongBeside_3 : decode cX4_alongBeside 3 = .ok (.getfield 20, 3) := by decide +kernel
theorem dX4_alongBeside_6 : decode cX4_alongBeside 6 = .ok (.lload_n 1, 1) := by decide +kernel
theorem dX4_alongBeside_7 : decode cX4_alongBeside 7 = .ok (.ldc2_w 28, 3) := by decide +kernel
theorem dX4_alongBeside_10 : decode cX4_alongBeside 10 = .ok (.lxor, 1) := by decide +kernel
theorem dX4_alongBeside_11 : decode cX4_alongBeside 11 = .ok (.land, 1) := by decide +kernel
theorem dX4_alongBeside_12 : decode cX4_alongBeside 12 = .ok (.lload_n 1, 1) := by decide +kernel
theorem dX4_alongBeside_13 : decode cX4_alongBeside 13 = .ok (.bipush 8, 2) := by decide +kernel
theorem dX4_alongBeside_15 : decode cX4_alongBeside 15 = .ok (.lshl, 1) := by decide +kernel
theorem dX4_alongBeside_16 : decode cX4_alongBeside 16 = .ok (.ldc2_w 28, 3) := by decide +kernel
theorem dX4_alongBeside_19 : decode cX4_alongBeside 19 = .ok (.lxor, 1) := by decide +kernel
theorem dX4_alongBeside_20 : decode cX4_alongBeside 20 = .ok (.land, 1) := by decide +kernel
theorem dX4_alongBeside_21 : decode cX4_alongBeside 21 = .ok (.lstore 5, 2) := by decide +kernel
theorem dX4_alongBeside_23 : decode cX4_alongBeside 23 = .ok (.iconst 0, 1) := by decide +kernel
theorem dX4_alongBeside_24 : decode cX4_alongBeside 24 = .ok (.istore 7, 2) := by decide +kernel
set_option maxRecDepth 20000 in
theorem ihX4_alongBeside_4 : ∀ w ∈ u_ws RX4 TX4 4, w ∈ wsX4_alongBeside := fun _ h => List.mem_cons_of_mem _ (List.mem_append_right _ h)
set_option maxHeartbeats 4000000 in
set_option maxRecDepth 100000 in
theorem t_X4_alongBeside (l : Launch) (D : va_G) (cy : Nat → ClassId) (a : Nat → Nat) (sz : Nat) (J : Nat → Int64) (I : Nat → Int32) (O : Nat → Option Nat) (R : Nat → Nat → Int32) (RO : Nat → Nat → Option Nat) (b0 b1 b2 : Nat) (jf : Int64) (kn : Int32) (fw fp : Nat → Int32) (hkn : isB kn) (Y : va_W) (x0 : Int64) : Met l yX4_alongBeside wsX4_alongBeside ({ frames := 1, cells := 0, slots := 0, locals := 22 }) (va_Pc [.ref b0, .long x0] (PW D cy sz (CT cy a J I O R RO ([(b0, .inr (3, [.ref b1, .ref b2, .long jf, .int kn])), (b1, .inl (cy 0, 16640, .inl fw)), (b2, .inl (cy 0, 512, .inl fp))] ++ Y)))) (vp_Sl (fun r => True)) 0 0 (fun _ => False) := by
  refine Met.ofW (cc := cX4_alongBeside) (maxL := 8) (ret := (some .long)) (by decide) rfl ?_
  intro p e s m args below meth c s₁ B hml hv
  obtain ⟨rfl, rfl, hP, hK, hN, hD0⟩ := hv
  have hx := B.exec
  have hb := B.bytes
  have hr := B.returns
  have hts := atoms_spec (ws := wsX4_alongBeside) B.pre
  have hown : s.vm.findClass RX4 = some m.cls := findClass_of_methodNamed B.named
  have hlocks := B.notSynchronized
  have hw0 := hts (.constantLong RX4 50 (3)) (by decide +kernel)
  have hw1 := hts (.constantLong RX4 28 (-1)) (by decide +kernel)
  have hw2 := hts (.fieldLink RX4 20 "ParquetLayer$Layings" "free" "J") (by decide +kernel)
  have hi4 := ihX4_alongBeside_4
  have hD := hD0
  have hl := lv_entry ([.ref b0, .long x0]) (n := 8) (Nat.le_of_ble_eq_true rfl)
  rw [lg_entry_eq]
  generalize (lg_sl ([.ref b0, .long x0]) ++ List.replicate (8 - (lg_sl ([.ref b0, .long x0])).length) Slot.unset).toArray = ls at hl ⊢
  have hl : lv_has ls 8 [(0, .ref b0), (1, .long x0)] := hl
  have lp26 : ∀ (n26 : Nat), ∀ (i : Nat) (v3_26 : Int64) (v5_26 : Int64), (i ≤ 63) → (63 - i) < n26 → ∀ (ls : Array Slot), lv_has ls 8 [(0, .ref b0), (3, .long v3_26), (5, .long v5_26), (7, .int (nI i))] → W p l e (headSpec wsX4_alongBeside ({ frames := 1, cells := 0, slots := 0, locals := 22 })).room s m ([.ref b0, .long x0] : List Value).toArray below meth c s.heap [] 0 0 (MQ below (vp_Sl (fun r => True)) ([.ref b0, .long x0] : List Value).toArray s 0 0 (fun _ => False)) (F0 m 26 ls []) := by
    intro n26
    induction n26 with
    | zero => intro i v3_26 v5_26 hi hn; exact absurd hn (Nat.not_lt_zero _)
    | succ n26 ih26 =>
      intro i v3_26 v5_26 hi hn26 ls hl
      refine lv_iload hx hb dX4_alongBeside_26 (lv_at hl 3 rfl) ?_
      refine lv_bipush (v := 63) hx hb dX4_alongBeside_28 (by decide) ?_
      refine lv_icmp_ge (tgt := 71) hx hb dX4_alongBeside_30 (by decide) (fun c_1 => ?_) (fun c_1 => ?_)
      · refine lv_lload_n hx hb dX4_alongBeside_71 rfl (lv_at hl 1 rfl) ?_
        exact aret_l hx hb hr hlocks trivial dX4_alongBeside_72
      · have hlt_i := ctr_lt (N := 63) (by decide) hi c_1
        refine lv_lload hx hb dX4_alongBeside_33 (lv_at hl 2 rfl) ?_
        refine lv_iload hx hb dX4_alongBeside_35 (lv_at hl 3 rfl) ?_
        refine kS_i (As := [.long v5_26, .int (nI i)]) (rest := []) ⟨hx, hb, hml, hown, hts⟩ (c_X1_holds l v5_26 (nI i)) (va_cwS 2 hts gX4_alongBeside_X1_holds rfl rfl rfl (by decide +kernel) ⟨Nat.le_of_ble_eq_true rfl, Nat.le_of_ble_eq_true rfl⟩) rfl hl.1 rfl (Nat.le_of_ble_eq_true rfl) dX4_alongBeside_37 ⟨Nat.le_of_ble_eq_true rfl, Nat.le_of_ble_eq_true rfl⟩ ?_
        refine lv_if_eq (tgt := 65) hx hb dX4_alongBeside_40 (by decide) (fun c_2 => ?_) (fun c_2 => ?_)
        · replace c_2 := bI_f c_2
          refine lv_iinc (v := nI (i + 1)) (lv' := [(7, .int (nI (i + 1))), (0, .ref b0), (3, .long v3_26), (5, .long v5_26)]) hx hb dX4_alongBeside_65 hl (k := 3) rfl (nI_1 _) (by decide) rfl (fun ls hl => ?_)
          refine lv_goto (tgt := 26) hx hb dX4_alongBeside_68 (by decide) ?_
          exact ih26 (i + 1) v3_26 v5_26 (by omega) (by omega) ls (lv_sub hl [1, 2, 3, 0] rfl)
        · replace c_2 := bI_t c_2
          refine lv_lload_n hx hb dX4_alongBeside_43 rfl (lv_at hl 1 rfl) ?_
          refine lv_lconst (v := 1) hx hb dX4_alongBeside_44 (by decide) ?_
          refine lv_iload hx hb dX4_alongBeside_45 (lv_at hl 3 rfl) ?_
          refine lv_lshl (v := (1 : Int64) <<< ((nI i : Int32).toInt64 &&& 63)) hx hb dX4_alongBeside_47 rfl ?_
          refine lv_lor hx hb dX4_alongBeside_48 ?_
          refine lv_lstore_n (lv' := [(3, .long (v3_26 ||| ((1 : Int64) <<< ((nI i : Int32).toInt64 &&& 63)))), (0, .ref b0), (5, .long v5_26), (7, .int (nI i))]) hx hb dX4_alongBeside_49 rfl hl (by decide) rfl (fun ls hl => ?_)
          refine lv_lload hx hb dX4_alongBeside_50 (lv_at hl 2 rfl) ?_
          refine lv_ldc2 (v := 3) hx hb hown hw0 dX4_alongBeside_52 ?_
          refine lv_iload hx hb dX4_alongBeside_55 (lv_at hl 3 rfl) ?_
          refine lv_lshl (v := (3 : Int64) <<< ((nI i : Int32).toInt64 &&& 63)) hx hb dX4_alongBeside_57 rfl ?_
          refine lv_ldc2 (v := (-1)) hx hb hown hw1 dX4_alongBeside_58 ?_
          refine lv_lxor hx hb dX4_alongBeside_61 ?_
          refine lv_land hx hb dX4_alongBeside_62 ?_
          refine lv_lstore (lv' := [(5, .long (v5_26 &&& (((3 : Int64) <<< ((nI i : Int32).toInt64 &&& 63)) ^^^ (-1)))), (3, .long (v3_26 ||| ((1 : Int64) <<< ((nI i : Int32).toInt64 &&& 63)))), (0, .ref b0), (7, .int (nI i))]) hx hb dX4_alongBeside_63 hl (by decide) rfl (fun ls hl => ?_)
          refine lv_iinc (v := nI (i + 1)) (lv' := [(7, .int (nI (i + 1))), (5, .long (v5_26 &&& (((3 : Int64) <<< ((nI i : Int32).toInt64 &&& 63)) ^^^ (-1)))), (3, .long (v3_26 ||| ((1 : Int64) <<< ((nI i : Int32).toInt64 &&& 63)))), (0, .ref b0)]) hx hb dX4_alongBeside_65 hl (k := 3) rfl (nI_1 _) (by decide) rfl (fun ls hl => ?_)
          refine lv_goto (tgt := 26) hx hb dX4_alongBeside_68 (by decide) ?_
          exact ih26 (i + 1) (v3_26 ||| ((1 : Int64) <<< ((nI i : Int32).toInt64 &&& 63))) (v5_26 &&& (((3 : Int64) <<< ((nI i : Int32).toInt64 &&& 63)) ^^^ (-1))) (by omega) (by omega) ls (lv_sub hl [3, 2, 1, 0] rfl)
  refine lv_lconst (v := 0) hx hb dX4_alongBeside_0 (by decide) ?_
  refine lv_lstore_n (lv' := [(3, .long 0), (0, .ref b0), (1, .long x0)]) hx hb dX4_alongBeside_1 rfl hl (by decide) rfl (fun ls hl => ?_)
  refine lv_aload_n hx hb dX4_alongBeside_2 rfl (lv_at hl 1 rfl) ?_
  refine va_get (D := D) (ci := 3) (v := .long jf) (C := RX4) (T := TX4) (N := 4) hx hb hts hi4 hown hK hP 20 rfl rfl 2 (by decide) hw2 (fun _ h9 => h9) rfl dX4_alongBeside_3 ?_
  refine lv_lload_n hx hb dX4_alongBeside_6 rfl (lv_at hl 2 rfl) ?_
  refine lv_ldc2 (v := (-1)) hx hb hown hw1 dX4_alongBeside_7 ?_
  refine lv_lxor hx hb dX4_alongBeside_10 ?_
  refine lv_land hx hb dX4_alongBeside_11 ?_
  refine lv_lload_n hx hb dX4_alongBeside_12 rfl (lv_at hl 2 rfl) ?_
  refine lv_bipush (v := 8) hx hb dX4_alongBeside_13 (by decide) ?_
  refine lv_lshl (v := x0 <<< ((8 : Int32).toInt64 &&& 63)) hx hb dX4_alongBeside_15 rfl ?_
  refine lv_ldc2 (v := (-1)) hx hb hown hw1 dX4_alongBeside_16 ?_
  refine lv_lxor hx hb dX4_alongBeside_19 ?_
  refine lv_land hx hb dX4_alongBeside_20 ?_
  refine lv_lstore (lv' := [(5, .long ((jf &&& (x0 ^^^ (-1))) &&& ((x0 <<< ((8 : Int32).toInt64 &&& 63)) ^^^ (-1)))), (3, .long 0), (0, .ref b0), (1, .long x0)]) hx hb dX4_alongBeside_21 hl (by decide) rfl (fun ls hl => ?_)
  refine lv_iconst (v := 0) hx hb dX4_alongBeside_23 (by decide) ?_
  refine lv_istore (lv' := [(7, .int 0), (5, .long ((jf &&& (x0 ^^^ (-1))) &&& ((x0 <<< ((8 : Int32).toInt64 &&& 63)) ^^^ (-1)))), (3, .long 0), (0, .ref b0), (1, .long x0)]) hx hb dX4_alongBeside_24 hl (by decide) rfl (fun ls hl => ?_)
  exact lp26 _ 0 (0 : Int64) ((jf &&& (x0 ^^^ (-1))) &&& ((x0 <<< ((8 : Int32).toInt64 &&& 63)) ^^^ (-1))) (by omega) (Nat.lt_succ_self _) ls (lv_sub hl [3, 2, 1, 0] rfl)
theorem dX4_numberOf_8 : decode cX4_numberOf 8 = .ok (.iload 5, 2) := by decide +kernel
theorem dX4_numberOf_10 : decode cX4_numberOf 10 = .ok (.bipush 64, 2) := by decide +kernel
theorem dX4_numberOf_12 : decode cX4_numberOf 12 = .ok (.if_icmp .ge 67, 3) := by decide +kernel
theorem dX4_numberOf_79 : decode cX4_numberOf 79 = .ok (.iload_n 3, 1) := by decide +kernel
theorem dX4_numberOf_80 : decode cX4_numberOf 80 = .ok (.ireturn, 1) := by decide +kernel
theorem dX4_numberOf_15 : decode cX4_numberOf 15 = .ok (.iload 4, 2) := by decide +kernel
theorem dX4_numberOf_17 : decode cX4_numberOf 17 = .ok (.iconst 1, 1) := by decide +kernel
theorem dX4_numberOf_18 : decode cX4_numberOf 18 = .ok (.ishr, 1) := by decide +kernel
theorem dX4_numberOf_19 : decode cX4_numberOf 19 = .ok (.istore 6, 2) := by decide +kernel
theorem dX4_numberOf_21 : decode cX4_numberOf 21 = .ok (.aload_n 0, 1) := by decide +kernel
theorem dX4_numberOf_22 : decode cX4_numberOf 22 = .ok (.iload 5, 2) := by decide +kernel
theorem dX4_numberOf_24 : decode cX4_numberOf 24 = .ok (.iload 4, 2) := by decide +kernel
set_option maxRecDepth 20000 in
theorem ggX4_numberOf_X4_beginsStone : GoodIn wsX4_numberOf wsX4_beginsStone := goodIn_r _ [5, 6, 7, 8, 9, 10, 19, 20, 21, 22] rfl (by decide +kernel)
set_option maxRecDepth 20000 in
theorem gX4_numberOf_X4_beginsStone : GoodIn wsX4_numberOf (wsV RX4 42 RX4 yX4_beginsStone wsX4_beginsStone) := goodIn_app (goodIn_r _ [1, 2, 3, 4] rfl (by decide +kernel)) ggX4_numberOf_X4_beginsStone
theorem dX4_numberOf_26 : decode cX4_numberOf 26 = .ok (.invokevirtual 42, 3) := by decide +kernel
theorem dX4_numberOf_29 : decode cX4_numberOf 29 = .ok (.ifCond .eq 40, 3) := by decide +kernel
theorem dX4_numberOf_69 : decode cX4_numberOf 69 = .ok (.iload 6, 2) := by decide +kernel
theorem dX4_numberOf_71 : decode cX4_numberOf 71 = .ok (.istore 4, 2) := by decide +kernel
theorem dX4_numberOf_73 : decode cX4_numberOf 73 = .ok (.iinc 5 1, 3) := by decide +kernel
theorem dX4_numberOf_76 : decode cX4_numberOf 76 = .ok (.goto (-68), 3) := by decide +kernel
theorem dX4_numberOf_32 : decode cX4_numberOf 32 = .ok (.lload_n 1, 1) := by decide +kernel
theorem dX4_numberOf_33 : decode cX4_numberOf 33 = .ok (.iload 5, 2) := by decide +kernel
set_option maxRecDepth 20000 in
theorem ggX4_numberOf_X1_holds : GoodIn wsX4_numberOf wsX1_holds := goodIn_r _ [10] rfl (by decide +kernel)
set_option maxRecDepth 20000 in
theorem gX4_numberOf_X1_holds : GoodIn wsX4_numberOf (va_wsS RX4 37 yX1_holds wsX1_holds) := goodIn_app (goodIn_r _ [7, 8, 9] rfl (by decide +kernel)) ggX4_numberOf_X1_holds
theorem dX4_numberOf_35 : decode cX4_numberOf 35 = .ok (.invokestatic 37, 3) := by decide +kernel
theorem dX4_numberOf_38 : decode cX4_numberOf 38 = .ok (.ifCond .eq 25, 3) := by decide +kernel
theorem dX4_numberOf_63 : decode cX4_numberOf 63 = .ok (.iload 6, 2) := by decide +kernel
theorem dX4_numberOf_65 : decode cX4_numberOf 65 = .ok (.iconst 1, 1) := by decide +kernel
theorem dX4_numberOf_66 : decode cX4_numberOf 66 = .ok (.ior, 1) := by decide +kernel
theorem dX4_numberOf_67 : decode cX4_numberOf 67 = .ok (.istore 6, 2) := by decide +kernel
theorem dX4_numberOf_41 : decode cX4_numberOf 41 = .ok (.iload_n 3, 1) := by decide +kernel
theorem dX4_numberOf_42 : decode cX4_numberOf 42 = .ok (.aload_n 0, 1) := by decide +kernel
theorem dX4_numberOf_43 : decode cX4_numberOf 43 = .ok (.iload 5, 2) := by decide +kernel
theorem dX4_numberOf_45 : decode cX4_numberOf 45 = .ok (.iload 4, 2) := by decide +kernel
set_option maxRecDepth 20000 in
theorem ggX4_numberOf_X4_alongWays : GoodIn wsX4_numberOf wsX4_alongWays := goodIn_r _ [14, 6, 15, 16, 17, 4, 18, 7, 8, 9, 10, 19, 20, 21, 22] rfl (by decide +kernel)
set_option maxRecDepth 20000 in
theorem gX4_numberOf_X4_alongWays : GoodIn wsX4_numberOf (wsV RX4 46 RX4 yX4_alongWays wsX4_alongWays) := goodIn_app (goodIn_r _ [11, 12, 13, 4] rfl (by decide +kernel)) ggX4_numberOf_X4_alongWays
theorem dX4_numberOf_47 : decode cX4_numberOf 47 = .ok (.invokevirtual 46, 3) := by decide +kernel
theorem dX4_numberOf_50 : decode cX4_numberOf 50 = .ok (.iadd, 1) := by decide +kernel
theorem dX4_numberOf_51 : decode cX4_numberOf 51 = .ok (.istore_n 3, 1) := by decide +kernel
theorem dX4_numberOf_52 : decode cX4_numberOf 52 = .ok (.iload 6, 2) := by decide +kernel
theorem dX4_numberOf_54 : decode cX4_numberOf 54 = .ok (.sipush 128, 3) := by decide +kernel
theorem dX4_numberOf_57 : decode cX4_numberOf 57 = .ok (.ior, 1) := by decide +kernel
theorem dX4_numberOf_58 : decode cX4_numberOf 58 = .ok (.istore 6, 2) := by decide +kernel
theorem dX4_numberOf_60 : decode cX4_numberOf 60 = .ok (.goto 9, 3) := by decide +kernel
theorem dX4_numberOf_0 : decode cX4_numberOf 0 = .ok (.iconst 0, 1) := by decide +kernel
theorem dX4_numberOf_1 : decode cX4_numberOf 1 = .ok (.istore_n 3, 1) := by decide +kernel
theorem dX4_numberOf_2 : decode cX4_numberOf 2 = .ok (.iconst 0, 1) := by decide +kernel
theorem dX4_numberOf_3 : decode cX4_numberOf 3 = .ok (.istore 4, 2) := by decide +kernel
theorem dX4_numberOf_5 : decode cX4_numberOf 5 = .ok (.iconst 0, 1) := by decide +kernel
theorem dX4_numberOf_6 : decode cX4_numberOf 6 = .ok (.istore 5, 2) := by decide +kernel
set_option maxHeartbeats 4000000 in
set_option maxRecDepth 100000 in
theorem t_X4_numberOf (l : Launch) (D : va_G) (cy : Nat → ClassId) (a : Nat → Nat) (sz : Nat) (J : Nat → Int64) (I : Nat → Int32) (O : Nat → Option Nat) (R : Nat → Nat → Int32) (RO : Nat → Nat → Option Nat) (b0 b1 b2 : Nat) (jf : Int64) (kn : Int32) (fw fp : Nat → Int32) (hkn : isB kn) (Y : va_W) (x0 : Int64) : Met l yX4_numberOf wsX4_numberOf ({ frames := 3, cells := 0, slots := 0, locals := 66 }) (va_Pc [.ref b0, .long x0] (PW D cy sz (CT cy a J I O R RO ([(b0, .inr (3, [.ref b1, .ref b2, .long jf, .int kn])), (b1, .inl (cy 0, 16640, .inl fw)), (b2, .inl (cy 0, 512, .inl fp))] ++ Y)))) (vp_Si (fun r => True)) 0 0 (fun _ => False) := by
  refine Met.ofW (cc := cX4_numberOf) (maxL := 7) (ret := (some .int)) (by decide) rfl ?_
  intro p e s m args below meth c s₁ B hml hv
  obtain ⟨rfl, rfl, hP, hK, hN, hD0⟩ := hv
  have hx := B.exec
  have hb := B.bytes
  have hr := B.returns
  have hts := atoms_spec (ws := wsX4_numberOf) B.pre
  have hown : s.vm.findClass RX4 = some m.cls := findClass_of_methodNamed B.named
  have hlocks := B.notSynchronized
  have hD := hD0
  have hl := lv_entry ([.ref b0, .long x0]) (n := 7) (Nat.le_of_ble_eq_true rfl)
  rw [lg_entry_eq]
  generalize (lg_sl ([.ref b0, .long x0]) ++ List.replicate (7 - (lg_sl ([.ref b0, .long x0])).length) Slot.unset).toArray = ls at hl ⊢
  have hl : lv_has ls 7 [(0, .ref b0), (1, .long x0)] := hl
  have lp8 : ∀ (n8 : Nat), ∀ (i : Nat) (mk : Nat) (v3_8 : Int32), (i ≤ 64) → (mk < 256) → (64 - i) < n8 → ∀ (ls : Array Slot), lv_has ls 7 [(0, .ref b0), (1, .long x0), (3, .int v3_8), (4, .int (nI mk)), (5, .int (nI i))] → W p l e (headSpec wsX4_numberOf ({ frames := 3, cells := 0, slots := 0, locals := 66 })).room s m ([.ref b0, .long x0] : List Value).toArray below meth c s.heap [] 0 0 (MQ below (vp_Si (fun r => True)) ([.ref b0, .long x0] : List Value).toArray s 0 0 (fun _ => False)) (F0 m 8 ls []) := by
    intro n8
    induction n8 with
    | zero => intro i mk v3_8 hi hmk hn; exact absurd hn (Nat.not_lt_zero _)
    | succ n8 ih8 =>
      intro i mk v3_8 hi hmk hn8 ls hl
      refine lv_iload hx hb dX4_numberOf_8 (lv_at hl 4 rfl) ?_
      refine lv_bipush (v := 64) hx hb dX4_numberOf_10 (by decide) ?_
      refine lv_icmp_ge (tgt := 79) hx hb dX4_numberOf_12 (by decide) (fun c_1 => ?_) (fun c_1 => ?_)
      · refine lv_iload_n hx hb dX4_numberOf_79 rfl (lv_at hl 2 rfl) ?_
        exact aret_i hx hb hr hlocks trivial dX4_numberOf_80
      · have hlt_i := ctr_lt (N := 64) (by decide) hi c_1
        refine lv_iload hx hb dX4_numberOf_15 (lv_at hl 3 rfl) ?_
        refine lv_iconst (v := 1) hx hb dX4_numberOf_17 (by decide) ?_
        refine lv_ishr hx hb dX4_numberOf_18 ?_
        refine wtop_i (y := nI (mk / 2)) (pk_shrN (by omega) _ 1 (by decide)) ?_
        refine lv_istore (lv' := [(6, .int (nI (mk / 2))), (0, .ref b0), (1, .long x0), (3, .int v3_8), (4, .int (nI mk)), (5, .int (nI i))]) hx hb dX4_numberOf_19 hl (by decide) rfl (fun ls hl => ?_)
        refine lv_aload_n hx hb dX4_numberOf_21 rfl (lv_at hl 1 rfl) ?_
        refine lv_iload hx hb dX4_numberOf_22 (lv_at hl 5 rfl) ?_
        refine lv_iload hx hb dX4_numberOf_24 (lv_at hl 4 rfl) ?_
        refine kRa_i (As := [.int (nI i), .int (nI mk)]) (rest := []) (q0 := 20) ⟨hx, hb, hml, hown, hts⟩ (t_X4_beginsStone l D cy a _ J I O R RO b0 b1 b2 jf kn fw fp hkn Y (nI i) (nI mk)  ) (cwV 2 hts gX4_numberOf_X4_beginsStone rfl rfl rfl (by decide +kernel) ⟨Nat.le_of_ble_eq_true rfl, Nat.le_of_ble_eq_true rfl⟩) hK hN hP hD rfl rfl rfl hl.1 rfl (Nat.le_of_ble_eq_true rfl) dX4_numberOf_26 ⟨Nat.le_of_ble_eq_true rfl, Nat.le_of_ble_eq_true rfl⟩ (fun r_2 hr_3 => ?_)
        obtain ⟨zb_4, rfl⟩ := hr_3
        refine lv_if_eq (tgt := 69) hx hb dX4_numberOf_29 (by decide) (fun c_5 => ?_) (fun c_5 => ?_)
        · replace c_5 := bI_f c_5
          refine lv_iload hx hb dX4_numberOf_69 (lv_at hl 0 rfl) ?_
          refine lv_istore (lv' := [(4, .int (nI (mk / 2))), (6, .int (nI (mk / 2))), (0, .ref b0), (1, .long x0), (3, .int v3_8), (5, .int (nI i))]) hx hb dX4_numberOf_71 hl (by decide) rfl (fun ls hl => ?_)
          refine lv_iinc (v := nI (i + 1)) (lv' := [(5, .int (nI (i + 1))), (4, .int (nI (mk / 2))), (6, .int (nI (mk / 2))), (0, .ref b0), (1, .long x0), (3, .int v3_8)]) hx hb dX4_numberOf_73 hl (k := 5) rfl (nI_1 _) (by decide) rfl (fun ls hl => ?_)
          refine lv_goto (tgt := 8) hx hb dX4_numberOf_76 (by decide) ?_
          exact ih8 (i + 1) (mk / 2) v3_8 (by omega) (by omega) (by omega) ls (lv_sub hl [3, 4, 5, 1, 0] rfl)
        · replace c_5 := bI_t c_5
          refine lv_lload_n hx hb dX4_numberOf_32 rfl (lv_at hl 2 rfl) ?_
          refine lv_iload hx hb dX4_numberOf_33 (lv_at hl 5 rfl) ?_
          refine kS_i (As := [.long x0, .int (nI i)]) (rest := []) ⟨hx, hb, hml, hown, hts⟩ (c_X1_holds l x0 (nI i)) (va_cwS 2 hts gX4_numberOf_X1_holds rfl rfl rfl (by decide +kernel) ⟨Nat.le_of_ble_eq_true rfl, Nat.le_of_ble_eq_true rfl⟩) rfl hl.1 rfl (Nat.le_of_ble_eq_true rfl) dX4_numberOf_35 ⟨Nat.le_of_ble_eq_true rfl, Nat.le_of_ble_eq_true rfl⟩ ?_
          refine lv_if_eq (tgt := 63) hx hb dX4_numberOf_38 (by decide) (fun c_6 => ?_) (fun c_6 => ?_)
          · replace c_6 := bI_f c_6
            refine lv_iload hx hb dX4_numberOf_63 (lv_at hl 0 rfl) ?_
            refine lv_iconst (v := 1) hx hb dX4_numberOf_65 (by decide) ?_
            refine lv_ior hx hb dX4_numberOf_66 ?_
            refine wtop_i (y := nI (mk / 2 / 2 * 2 + 1)) (or1_t ⟨mk / 2, by omega⟩) ?_
            refine lv_istore (lv' := [(6, .int (nI (mk / 2 / 2 * 2 + 1))), (0, .ref b0), (1, .long x0), (3, .int v3_8), (4, .int (nI mk)), (5, .int (nI i))]) hx hb dX4_numberOf_67 hl (by decide) rfl (fun ls hl => ?_)
            refine lv_iload hx hb dX4_numberOf_69 (lv_at hl 0 rfl) ?_
            refine lv_istore (lv' := [(4, .int (nI (mk / 2 / 2 * 2 + 1))), (6, .int (nI (mk / 2 / 2 * 2 + 1))), (0, .ref b0), (1, .long x0), (3, .int v3_8), (5, .int (nI i))]) hx hb dX4_numberOf_71 hl (by decide) rfl (fun ls hl => ?_)
            refine lv_iinc (v := nI (i + 1)) (lv' := [(5, .int (nI (i + 1))), (4, .int (nI (mk / 2 / 2 * 2 + 1))), (6, .int (nI (mk / 2 / 2 * 2 + 1))), (0, .ref b0), (1, .long x0), (3, .int v3_8)]) hx hb dX4_numberOf_73 hl (k := 5) rfl (nI_1 _) (by decide) rfl (fun ls hl => ?_)
            refine lv_goto (tgt := 8) hx hb dX4_numberOf_76 (by decide) ?_
            exact ih8 (i + 1) (mk / 2 / 2 * 2 + 1) v3_8 (by omega) (by omega) (by omega) ls (lv_sub hl [3, 4, 5, 1, 0] rfl)
          · replace c_6 := bI_t c_6
            refine lv_iload_n hx hb dX4_numberOf_41 rfl (lv_at hl 3 rfl) ?_
            refine lv_aload_n hx hb dX4_numberOf_42 rfl (lv_at hl 1 rfl) ?_
            refine lv_iload hx hb dX4_numberOf_43 (lv_at hl 5 rfl) ?_
            refine lv_iload hx hb dX4_numberOf_45 (lv_at hl 4 rfl) ?_
            refine kRa_i (As := [.int (nI i), .int (nI mk)]) (rest := [.int v3_8]) (q0 := 20) ⟨hx, hb, hml, hown, hts⟩ (t_X4_alongWays l D cy a _ J I O R RO b0 b1 b2 jf kn fw fp hkn Y i mk hlt_i hmk ) (cwV 2 hts gX4_numberOf_X4_alongWays rfl rfl rfl (by decide +kernel) ⟨Nat.le_of_ble_eq_true rfl, Nat.le_of_ble_eq_true rfl⟩) hK hN hP hD rfl rfl rfl hl.1 rfl (Nat.le_of_ble_eq_true rfl) dX4_numberOf_47 ⟨Nat.le_of_ble_eq_true rfl, Nat.le_of_ble_eq_true rfl⟩ (fun r_7 hr_8 => ?_)
            refine lv_iadd hx hb dX4_numberOf_50 ?_
            refine lv_istore_n (lv' := [(3, .int (v3_8 + r_7)), (6, .int (nI (mk / 2))), (0, .ref b0), (1, .long x0), (4, .int (nI mk)), (5, .int (nI i))]) hx hb dX4_numberOf_51 rfl hl (by decide) rfl (fun ls hl => ?_)
            refine lv_iload hx hb dX4_numberOf_52 (lv_at hl 1 rfl) ?_
            refine lv_sipush (v := 128) hx hb dX4_numberOf_54 (by decide) ?_
            refine lv_ior hx hb dX4_numberOf_57 ?_
            refine wtop_i (y := nI (mk / 2 + 128)) (or128_t ⟨mk / 2, by omega⟩) ?_
            refine lv_istore (lv' := [(6, .int (nI (mk / 2 + 128))), (3, .int (v3_8 + r_7)), (0, .ref b0), (1, .long x0), (4, .int (nI mk)), (5, .int (nI i))]) hx hb dX4_numberOf_58 hl (by decide) rfl (fun ls hl => ?_)
            refine lv_goto (tgt := 69) hx hb dX4_numberOf_60 (by decide) ?_
            refine lv_iload hx hb dX4_numberOf_69 (lv_at hl 0 rfl) ?_
            refine lv_istore (lv' := [(4, .int (nI (mk / 2 + 128))), (6, .int (nI (mk / 2 + 128))), (3, .int (v3_8 + r_7)), (0, .ref b0), (1, .long x0), (5, .int (nI i))]) hx hb dX4_numberOf_71 hl (by decide) rfl (fun ls hl => ?_)
            refine lv_iinc (v := nI (i + 1)) (lv' := [(5, .int (nI (i + 1))), (4, .int (nI (mk / 2 + 128))), (6, .int (nI (mk / 2 + 128))), (3, .int (v3_8 + r_7)), (0, .ref b0), (1, .long x0)]) hx hb dX4_numberOf_73 hl (k := 5) rfl (nI_1 _) (by decide) rfl (fun ls hl => ?_)
            refine lv_goto (tgt := 8) hx hb dX4_numberOf_76 (by decide) ?_
            exact ih8 (i + 1) (mk / 2 + 128) (v3_8 + r_7) (by omega) (by omega) (by omega) ls (lv_sub hl [4, 5, 3, 1, 0] rfl)
  refine lv_iconst (v := 0) hx hb dX4_numberOf_0 (by decide) ?_
  refine lv_istore_n (lv' := [(3, .int 0), (0, .ref b0), (1, .long x0)]) hx hb dX4_numberOf_1 rfl hl (by decide) rfl (fun ls hl => ?_)
  refine lv_iconst (v := 0) hx hb dX4_numberOf_2 (by decide) ?_
  refine lv_istore (lv' := [(4, .int 0), (3, .int 0), (0, .ref b0), (1, .long x0)]) hx hb dX4_numberOf_3 hl (by decide) rfl (fun ls hl => ?_)
  refine lv_iconst (v := 0) hx hb dX4_numberOf_5 (by decide) ?_
  refine lv_istore (lv' := [(5, .int 0), (4, .int 0), (3, .int 0), (0, .ref b0), (1, .long x0)]) hx hb dX4_numberOf_6 hl (by decide) rfl (fun ls hl => ?_)
  exact lp8 _ 0 0 (0 : Int32) (by omega) (by omega) (Nat.lt_succ_self _) ls (lv_sub hl [3, 4, 2, 1, 0] rfl)
