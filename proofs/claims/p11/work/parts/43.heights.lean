theorem z82 : vp_in (0 : Int32) 82 := by unfold vp_in; decide
theorem in81f {x : Int32} (h1 : ¬ x < 0) (h2 : ¬ 81 ≤ x) : vp_in x 81 := by
  rw [vp_in_iff]
  rw [Int32.lt_iff_toInt_lt] at h1
  rw [Int32.le_iff_toInt_le] at h2
  have e0 : (0 : Int32).toInt = 0 := rfl
  have e1 : (81 : Int32).toInt = 81 := rfl
  omega
theorem q81 {x : Int32} (h : vp_in x 82) (h2 : ¬ 81 ≤ x) : vp_in x 81 := by
  rw [vp_in_iff] at *
  rw [Int32.le_iff_toInt_le] at h2
  have e1 : (81 : Int32).toInt = 81 := rfl
  omega
theorem q82 {x : Int32} (h : vp_in x 81) : vp_in (x + 1) 82 := by
  obtain ⟨j, hj, rfl⟩ := vp_in_of h (by decide)
  rw [nI_1]
  exact vp_in_nI (by omega) (by decide)
theorem all81 {f : Nat → Int32} {k : Nat} {v : Int32} (h : ∀ i, i < 81 → vp_in (f i) 81) (hv : vp_in v 81) : ∀ i, i < 81 → vp_in (upd f k v i) 81 := all_upd (P := fun x => vp_in x 81) h hv
theorem acs_t : ∀ f : Fin 56, ¬ ((9 : Int32) * (nI f.val / 8 + 1) + (nI f.val - nI f.val / 8 * 8) < 0 ∨ 81 ≤ ((9 : Int32) * (nI f.val / 8 + 1) + (nI f.val - nI f.val / 8 * 8)).toNatClampNeg) := by decide +kernel
theorem acs_t1 : ∀ f : Fin 56, ¬ ((9 : Int32) * (nI f.val / 8 + 1) + (nI f.val - nI f.val / 8 * 8) + 1 < 0 ∨ 81 ≤ ((9 : Int32) * (nI f.val / 8 + 1) + (nI f.val - nI f.val / 8 * 8) + 1).toNatClampNeg) := by decide +kernel
theorem dX2_reach_0 : decode cX2_reach 0 = .ok (.iload_n 1, 1) := by decide +kernel
theorem dX2_reach_1 : decode cX2_reach 1 = .ok (.ifCond .lt 57, 3) := by decide +kernel
theorem dX2_reach_58 : decode cX2_reach 58 = .ok (.return_, 1) := by decide +kernel
theorem dX2_reach_4 : decode cX2_reach 4 = .ok (.iload_n 1, 1) := by decide +kernel
theorem dX2_reach_5 : decode cX2_reach 5 = .ok (.bipush 81, 2) := by decide +kernel
theorem dX2_reach_7 : decode cX2_reach 7 = .ok (.if_icmp .ge 51, 3) := by decide +kernel
theorem dX2_reach_10 : decode cX2_reach 10 = .ok (.aload_n 0, 1) := by decide +kernel
theorem dX2_reach_11 : decode cX2_reach 11 = .ok (.getfield 19, 3) := by decide +kernel
theorem dX2_reach_14 : decode cX2_reach 14 = .ok (.iload_n 1, 1) := by decide +kernel
theorem dX2_reach_15 : decode cX2_reach 15 = .ok (.iaload, 1) := by decide +kernel
theorem dX2_reach_16 : decode cX2_reach 16 = .ok (.sipush 1000, 3) := by decide +kernel
theorem dX2_reach_19 : decode cX2_reach 19 = .ok (.if_icmp .ne 39, 3) := by decide +kernel
theorem dX2_reach_22 : decode cX2_reach 22 = .ok (.aload_n 0, 1) := by decide +kernel
theorem dX2_reach_23 : decode cX2_reach 23 = .ok (.getfield 38, 3) := by decide +kernel
theorem dX2_reach_26 : decode cX2_reach 26 = .ok (.bipush 81, 2) := by decide +kernel
theorem dX2_reach_28 : decode cX2_reach 28 = .ok (.if_icmp .ge 30, 3) := by decide +kernel
theorem dX2_reach_31 : decode cX2_reach 31 = .ok (.aload_n 0, 1) := by decide +kernel
theorem dX2_reach_32 : decode cX2_reach 32 = .ok (.getfield 19, 3) := by decide +kernel
theorem dX2_reach_35 : decode cX2_reach 35 = .ok (.iload_n 1, 1) := by decide +kernel
theorem dX2_reach_36 : decode cX2_reach 36 = .ok (.iload_n 2, 1) := by decide +kernel
theorem dX2_reach_37 : decode cX2_reach 37 = .ok (.iastore, 1) := by decide +kernel
theorem dX2_reach_38 : decode cX2_reach 38 = .ok (.aload_n 0, 1) := by decide +kernel
theorem dX2_reach_39 : decode cX2_reach 39 = .ok (.getfield 16, 3) := by decide +kernel
theorem dX2_reach_42 : decode cX2_reach 42 = .ok (.aload_n 0, 1) := by decide +kernel
theorem dX2_reach_43 : decode cX2_reach 43 = .ok (.getfield 38, 3) := by decide +kernel
theorem dX2_reach_46 : decode cX2_reach 46 = .ok (.iload_n 1, 1) := by decide +kernel
theorem dX2_reach_47 : decode cX2_reach 47 = .ok (.iastore, 1) := by decide +kernel
theorem dX2_reach_48 : decode cX2_reach 48 = .ok (.aload_n 0, 1) := by decide +kernel
theorem dX2_reach_49 : decode cX2_reach 49 = .ok (.dup, 1) := by decide +kernel
theorem dX2_reach_50 : decode cX2_reach 50 = .ok (.getfield 38, 3) := by decide +kernel
theorem dX2_reach_53 : decode cX2_reach 53 = .ok (.iconst 1, 1) := by decide +kernel
theorem dX2_reach_54 : decode cX2_reach 54 = .ok (.iadd, 1) := by decide +kernel
theorem dX2_reach_55 : decode cX2_reach 55 = .ok (.putfield 38, 3) := by decide +kernel
set_option maxRecDepth 20000 in
theorem ihX2_reach_2 : ∀ w ∈ u_ws RX2 TX2 5, w ∈ wsX2_reach := fun _ h => List.mem_cons_of_mem _ (List.mem_append_right _ h)
set_option maxHeartbeats 4000000 in
set_option maxRecDepth 100000 in
theorem t_X2_reach4 (l : Launch) (D : va_G) (cy : Nat → ClassId) (a : Nat → Nat) (sz : Nat) (J : Nat → Int64) (I : Nat → Int32) (O : Nat → Option Nat) (R : Nat → Nat → Int32) (RO : Nat → Nat → Option Nat) (LL : va_W) (Y : va_W) (x0 : Int32) (x1 : Int32) (hT : O 100 = some (a 4)) (hq : vp_in (I 99) 82) (hQ : ∀ i, i < 81 → vp_in (R 6 i) 81) : Met l yX2_reach wsX2_reach ({ frames := 0, cells := 0, slots := 0, locals := 0 }) (va_Pc [.ref (a 3), .int x0, .int x1] (PW D cy sz (CT cy a J I O R RO (LL ++ Y)))) (va_Qv (fun (u : TS) => ∃ (w0 : Int32), ∃ (w1 : Option Nat), ∃ (w2 : Nat → Int32), ∃ (w3 : Nat → Int32), ((w1 = some (a 4)) ∧ (vp_in w0 82) ∧ (∀ i, i < 81 → vp_in (w3 i) 81)) ∧ u = (J, (va_up I 99 w0), (va_up O 100 w1), (va_up (va_up R 4 w2) 6 w3), RO, LL, Y)) (BW D (va_A (CT cy a J I O R RO (LL ++ Y)) sz) (CTu cy a)) (va_A (CT cy a J I O R RO (LL ++ Y)) sz)) 0 0 (va_A (CT cy a J I O R RO (LL ++ Y)) sz) := by
  refine Met.ofW (cc := cX2_reach) (maxL := 3) (ret := none) (by decide) rfl ?_
  intro p e s m args below meth c s₁ B hml hv
  obtain ⟨rfl, rfl, hP, hK, hN, hD0⟩ := hv
  have hx := B.exec
  have hb := B.bytes
  have hr := B.returns
  have hts := atoms_spec (ws := wsX2_reach) B.pre
  have hown : s.vm.findClass RX2 = some m.cls := findClass_of_methodNamed B.named
  have hlocks := B.notSynchronized
  have hw0 := hts (.fieldLink RX2 19 "ParquetLayer$Heights" "target" "[I") (by decide +kernel)
  have hw1 := hts (.fieldLink RX2 38 "ParquetLayer$Heights" "queued" "I") (by decide +kernel)
  have hw2 := hts (.fieldLink RX2 16 "ParquetLayer$Heights" "queue" "[I") (by decide +kernel)
  have hi2 := ihX2_reach_2
  have hD := hD0.self (sz := s.heap.size)
  generalize hAe : va_A (CT cy a J I O R RO (LL ++ Y)) s.heap.size = A at hD ⊢
  have hA : ∀ q : Nat, s.heap.size ≤ q → A q := fun q h => by rw [← hAe]; exact Or.inr h
  have hS : va_S A s.heap s.heap [] := va_S.rf
  have hl := lv_entry ([.ref (a 3), .int x0, .int x1]) (n := 3) (Nat.le_of_ble_eq_true rfl)
  rw [lg_entry_eq]
  generalize (lg_sl ([.ref (a 3), .int x0, .int x1]) ++ List.replicate (3 - (lg_sl ([.ref (a 3), .int x0, .int x1])).length) Slot.unset).toArray = ls at hl ⊢
  have hl : lv_has ls 3 [(0, .ref (a 3)), (1, .int x0), (2, .int x1)] := hl
  have hP : va_P D vwCl (CT cy a J (va_up I 99 (I 99)) (va_up O 100 (O 100)) (va_up (va_up R 4 (R 4)) 6 (R 6)) RO (LL ++ Y)) s.heap := hP
  have hD : va_D A (CT cy a J (va_up I 99 (I 99)) (va_up O 100 (O 100)) (va_up (va_up R 4 (R 4)) 6 (R 6)) RO (LL ++ Y)) := hD
  rw [hT] at hP hD
  refine lv_iload_n hx hb dX2_reach_0 rfl (lv_at hl 1 rfl) ?_
  refine lv_if_lt (tgt := 58) hx hb dX2_reach_1 (by decide) (fun c_1 => ?_) (fun c_1 => ?_)
  · exact wret_v hx hb hr hlocks (J, (va_up I 99 (I 99)), (va_up O 100 (some (a 4))), (va_up (va_up R 4 (R 4)) 6 (R 6)), RO, LL, Y) ⟨(I 99), (some (a 4)), (R 4), (R 6), ⟨rfl, hq, hQ⟩, rfl⟩ hP hD hS dX2_reach_58
  · refine lv_iload_n hx hb dX2_reach_4 rfl (lv_at hl 1 rfl) ?_
    refine lv_bipush (v := 81) hx hb dX2_reach_5 (by decide) ?_
    refine lv_icmp_ge (tgt := 58) hx hb dX2_reach_7 (by decide) (fun c_2 => ?_) (fun c_2 => ?_)
    · exact wret_v hx hb hr hlocks (J, (va_up I 99 (I 99)), (va_up O 100 (some (a 4))), (va_up (va_up R 4 (R 4)) 6 (R 6)), RO, LL, Y) ⟨(I 99), (some (a 4)), (R 4), (R 6), ⟨rfl, hq, hQ⟩, rfl⟩ hP hD hS dX2_reach_58
    · refine lv_aload_n hx hb dX2_reach_10 rfl (lv_at hl 0 rfl) ?_
      refine va_get (D := D) (ci := 1) (v := .ref (a 4)) (C := RX2) (T := TX2) (N := 5) hx hb hts hi2 hown hK hP 3 rfl rfl 4 (by decide) hw0 (fun _ h9 => h9) rfl dX2_reach_11 ?_
      refine lv_iload_n hx hb dX2_reach_14 rfl (lv_at hl 1 rfl) ?_
      refine va_iald hx hb hK hP 4 0 rfl rfl (in81f c_1 c_2) dX2_reach_15 ?_
      refine lv_sipush (v := 1000) hx hb dX2_reach_16 (by decide) ?_
      refine lv_icmp_ne (tgt := 58) hx hb dX2_reach_19 (by decide) (fun c_3 => ?_) (fun c_3 => ?_)
      · exact wret_v hx hb hr hlocks (J, (va_up I 99 (I 99)), (va_up O 100 (some (a 4))), (va_up (va_up R 4 (R 4)) 6 (R 6)), RO, LL, Y) ⟨(I 99), (some (a 4)), (R 4), (R 6), ⟨rfl, hq, hQ⟩, rfl⟩ hP hD hS dX2_reach_58
      · refine lv_aload_n hx hb dX2_reach_22 rfl (lv_at hl 0 rfl) ?_
        refine va_get (D := D) (ci := 1) (v := .int (I 99)) (C := RX2) (T := TX2) (N := 5) hx hb hts hi2 hown hK hP 3 rfl rfl 3 (by decide) hw1 (fun _ h9 => h9) rfl dX2_reach_23 ?_
        refine lv_bipush (v := 81) hx hb dX2_reach_26 (by decide) ?_
        refine lv_icmp_ge (tgt := 58) hx hb dX2_reach_28 (by decide) (fun c_4 => ?_) (fun c_4 => ?_)
        · exact wret_v hx hb hr hlocks (J, (va_up I 99 (I 99)), (va_up O 100 (some (a 4))), (va_up (va_up R 4 (R 4)) 6 (R 6)), RO, LL, Y) ⟨(I 99), (some (a 4)), (R 4), (R 6), ⟨rfl, hq, hQ⟩, rfl⟩ hP hD hS dX2_reach_58
        · refine lv_aload_n hx hb dX2_reach_31 rfl (lv_at hl 0 rfl) ?_
          refine va_get (D := D) (ci := 1) (v := .ref (a 4)) (C := RX2) (T := TX2) (N := 5) hx hb hts hi2 hown hK hP 3 rfl rfl 4 (by decide) hw0 (fun _ h9 => h9) rfl dX2_reach_32 ?_
          refine lv_iload_n hx hb dX2_reach_35 rfl (lv_at hl 1 rfl) ?_
          refine lv_iload_n hx hb dX2_reach_36 rfl (lv_at hl 2 rfl) ?_
          refine va_iast hx hb hK hP hD hS 4 0 rfl rfl (in81f c_1 c_2) dX2_reach_37 (fun H locs hP hD hS => ?_)
          have hP : va_P D vwCl (CT cy a J (va_up I 99 (I 99)) (va_up O 100 (some (a 4))) (va_up (va_up R 4 (upd (R 4) x0.toNatClampNeg x1)) 6 (R 6)) RO (LL ++ Y)) H := hP
          have hD : va_D A (CT cy a J (va_up I 99 (I 99)) (va_up O 100 (some (a 4))) (va_up (va_up R 4 (upd (R 4) x0.toNatClampNeg x1)) 6 (R 6)) RO (LL ++ Y)) := hD
          refine lv_aload_n hx hb dX2_reach_38 rfl (lv_at hl 0 rfl) ?_
          refine va_get (D := D) (ci := 1) (v := .ref (a 6)) (C := RX2) (T := TX2) (N := 5) hx hb hts hi2 hown hK hP 3 rfl rfl 2 (by decide) hw2 (fun _ h9 => h9) rfl dX2_reach_39 ?_
          refine lv_aload_n hx hb dX2_reach_42 rfl (lv_at hl 0 rfl) ?_
          refine va_get (D := D) (ci := 1) (v := .int (I 99)) (C := RX2) (T := TX2) (N := 5) hx hb hts hi2 hown hK hP 3 rfl rfl 3 (by decide) hw1 (fun _ h9 => h9) rfl dX2_reach_43 ?_
          refine lv_iload_n hx hb dX2_reach_46 rfl (lv_at hl 1 rfl) ?_
          refine va_iast hx hb hK hP hD hS 6 0 rfl rfl (q81 hq c_4) dX2_reach_47 (fun H locs hP hD hS => ?_)
          have hP : va_P D vwCl (CT cy a J (va_up I 99 (I 99)) (va_up O 100 (some (a 4))) (va_up (va_up R 4 (upd (R 4) x0.toNatClampNeg x1)) 6 (upd (R 6) (I 99).toNatClampNeg x0)) RO (LL ++ Y)) H := hP
          have hD : va_D A (CT cy a J (va_up I 99 (I 99)) (va_up O 100 (some (a 4))) (va_up (va_up R 4 (upd (R 4) x0.toNatClampNeg x1)) 6 (upd (R 6) (I 99).toNatClampNeg x0)) RO (LL ++ Y)) := hD
          refine lv_aload_n hx hb dX2_reach_48 rfl (lv_at hl 0 rfl) ?_
          refine lv_dup hx hb dX2_reach_49 rfl ?_
          refine va_get (D := D) (ci := 1) (v := .int (I 99)) (C := RX2) (T := TX2) (N := 5) hx hb hts hi2 hown hK hP 3 rfl rfl 3 (by decide) hw1 (fun _ h9 => h9) rfl dX2_reach_50 ?_
          refine lv_iconst (v := 1) hx hb dX2_reach_53 (by decide) ?_
          refine lv_iadd hx hb dX2_reach_54 ?_
          refine va_put (D := D) (ci := 1) (v := .int ((I 99) + 1)) (ty := .int) (C := RX2) (T := TX2) (N := 5) hx hb hts hi2 tyX2 tyX2_ok nmX2 hown hK hP hD hS 3 rfl rfl 3 (by decide) hw1 (fun _ h9 => h9) rfl (by decide +kernel) rfl rfl (Nat.le_of_ble_eq_true rfl) dX2_reach_55 (fun H locs hP hD hS => ?_)
          have hP : va_P D vwCl (CT cy a J (va_up I 99 ((I 99) + 1)) (va_up O 100 (some (a 4))) (va_up (va_up R 4 (upd (R 4) x0.toNatClampNeg x1)) 6 (upd (R 6) (I 99).toNatClampNeg x0)) RO (LL ++ Y)) H := hP
          have hD : va_D A (CT cy a J (va_up I 99 ((I 99) + 1)) (va_up O 100 (some (a 4))) (va_up (va_up R 4 (upd (R 4) x0.toNatClampNeg x1)) 6 (upd (R 6) (I 99).toNatClampNeg x0)) RO (LL ++ Y)) := hD
          exact wret_v hx hb hr hlocks (J, (va_up I 99 ((I 99) + 1)), (va_up O 100 (some (a 4))), (va_up (va_up R 4 (upd (R 4) x0.toNatClampNeg x1)) 6 (upd (R 6) (I 99).toNatClampNeg x0)), RO, LL, Y) ⟨((I 99) + 1), (some (a 4)), (upd (R 4) x0.toNatClampNeg x1), (upd (R 6) (I 99).toNatClampNeg x0), ⟨rfl, (q82 (q81 hq c_4)), (all81 hQ (in81f c_1 c_2))⟩, rfl⟩ hP hD hS dX2_reach_58
theorem dX2_measure_192 : decode cX2_measure 192 = .ok (.lload_n 1, 1) := by decide +kernel
theorem dX2_measure_193 : decode cX2_measure 193 = .ok (.aload_n 3, 1) := by decide +kernel
theorem dX2_measure_194 : decode cX2_measure 194 = .ok (.iload 6, 2) := by decide +kernel
theorem dX2_measure_196 : decode cX2_measure 196 = .ok (.iload 7, 2) := by decide +kernel
theorem dX2_measure_198 : decode cX2_measure 198 = .ok (.iconst 1, 1) := by decide +kernel
theorem dX2_measure_199 : decode cX2_measure 199 = .ok (.isub, 1) := by decide +kernel
set_option maxRecDepth 20000 in
theorem ggX2_measure_X2_isOpenSteep : GoodIn wsX2_measure wsX2_isOpenSteep := goodIn_r _ [36, 37, 27, 28, 14, 29, 30, 13, 15, 43, 44, 45] rfl (by decide +kernel)
set_option maxRecDepth 20000 in
theorem gX2_measure_X2_isOpenSteep : GoodIn wsX2_measure (va_wsS RX2 57 yX2_isOpenSteep wsX2_isOpenSteep) := goodIn_app (goodIn_r _ [34, 35, 10] rfl (by decide +kernel)) ggX2_measure_X2_isOpenSteep
theorem dX2_measure_200 : decode cX2_measure 200 = .ok (.invokestatic 57, 3) := by decide +kernel
theorem dX2_measure_203 : decode cX2_measure 203 = .ok (.ifCond .eq 28, 3) := by decide +kernel
theorem dX2_measure_231 : decode cX2_measure 231 = .ok (.iinc 5 1, 3) := by decide +kernel
theorem dX2_measure_234 : decode cX2_measure 234 = .ok (.goto (-203), 3) := by decide +kernel
theorem dX2_measure_206 : decode cX2_measure 206 = .ok (.aload_n 0, 1) := by decide +kernel
theorem dX2_measure_207 : decode cX2_measure 207 = .ok (.iload 6, 2) := by decide +kernel
theorem dX2_measure_209 : decode cX2_measure 209 = .ok (.iload 7, 2) := by decide +kernel
theorem dX2_measure_211 : decode cX2_measure 211 = .ok (.iconst 1, 1) := by decide +kernel
theorem dX2_measure_212 : decode cX2_measure 212 = .ok (.isub, 1) := by decide +kernel
set_option maxRecDepth 20000 in
theorem ggX2_measure_X2_pointOf : GoodIn wsX2_measure wsX2_pointOf := goodIn_r _ [18] rfl (by decide +kernel)
set_option maxRecDepth 20000 in
theorem gX2_measure_X2_pointOf : GoodIn wsX2_measure (va_wsS RX2 22 yX2_pointOf wsX2_pointOf) := goodIn_app (goodIn_r _ [16, 17, 10] rfl (by decide +kernel)) ggX2_measure_X2_pointOf
theorem dX2_measure_213 : decode cX2_measure 213 = .ok (.invokestatic 22, 3) := by decide +kernel
theorem dX2_measure_216 : decode cX2_measure 216 = .ok (.iload 8, 2) := by decide +kernel
theorem dX2_measure_218 : decode cX2_measure 218 = .ok (.iload 6, 2) := by decide +kernel
theorem dX2_measure_220 : decode cX2_measure 220 = .ok (.iload 7, 2) := by decide +kernel
theorem dX2_measure_222 : decode cX2_measure 222 = .ok (.iconst 1, 1) := by decide +kernel
theorem dX2_measure_223 : decode cX2_measure 223 = .ok (.isub, 1) := by decide +kernel
set_option maxRecDepth 20000 in
theorem ggX2_measure_X2_riseRight : GoodIn wsX2_measure wsX2_riseRight := goodIn_r _ [33] rfl (by decide +kernel)
set_option maxRecDepth 20000 in
theorem gX2_measure_X2_riseRight : GoodIn wsX2_measure (va_wsS RX2 54 yX2_riseRight wsX2_riseRight) := goodIn_app (goodIn_r _ [31, 32, 10] rfl (by decide +kernel)) ggX2_measure_X2_riseRight
theorem dX2_measure_224 : decode cX2_measure 224 = .ok (.invokestatic 54, 3) := by decide +kernel
theorem dX2_measure_227 : decode cX2_measure 227 = .ok (.iadd, 1) := by decide +kernel
set_option maxRecDepth 20000 in
theorem ggX2_measure_X2_reach : GoodIn wsX2_measure wsX2_reach := goodIn_r _ [22, 1, 2, 3, 38, 39, 40, 41, 42] rfl (by decide +kernel)
set_option maxRecDepth 20000 in
theorem gX2_measure_X2_reach : GoodIn wsX2_measure (wsV RX2 46 RX2 yX2_reach wsX2_reach) := goodIn_app (goodIn_r _ [19, 20, 21, 10] rfl (by decide +kernel)) ggX2_measure_X2_reach
theorem dX2_measure_228 : decode cX2_measure 228 = .ok (.invokevirtual 46, 3) := by decide +kernel
theorem dX2_measure_157 : decode cX2_measure 157 = .ok (.lload_n 1, 1) := by decide +kernel
theorem dX2_measure_158 : decode cX2_measure 158 = .ok (.aload_n 3, 1) := by decide +kernel
theorem dX2_measure_159 : decode cX2_measure 159 = .ok (.iload 6, 2) := by decide +kernel
theorem dX2_measure_161 : decode cX2_measure 161 = .ok (.iload 7, 2) := by decide +kernel
theorem dX2_measure_163 : decode cX2_measure 163 = .ok (.invokestatic 57, 3) := by decide +kernel
theorem dX2_measure_166 : decode cX2_measure 166 = .ok (.ifCond .eq 26, 3) := by decide +kernel
theorem dX2_measure_169 : decode cX2_measure 169 = .ok (.aload_n 0, 1) := by decide +kernel
theorem dX2_measure_170 : decode cX2_measure 170 = .ok (.iload 6, 2) := by decide +kernel
theorem dX2_measure_172 : decode cX2_measure 172 = .ok (.iload 7, 2) := by decide +kernel
theorem dX2_measure_174 : decode cX2_measure 174 = .ok (.iconst 1, 1) := by decide +kernel
theorem dX2_measure_175 : decode cX2_measure 175 = .ok (.iadd, 1) := by decide +kernel
theorem dX2_measure_176 : decode cX2_measure 176 = .ok (.invokestatic 22, 3) := by decide +kernel
theorem dX2_measure_179 : decode cX2_measure 179 = .ok (.iload 8, 2) := by decide +kernel
theorem dX2_measure_181 : decode cX2_measure 181 = .ok (.iload 6, 2) := by decide +kernel
theorem dX2_measure_183 : decode cX2_measure 183 = .ok (.iload 7, 2) := by decide +kernel
theorem dX2_measure_185 : decode cX2_measure 185 = .ok (.invokestatic 54, 3) := by decide +kernel
theorem dX2_measure_188 : decode cX2_measure 188 = .ok (.isub, 1) := by decide +kernel
theorem dX2_measure_189 : decode cX2_measure 189 = .ok (.invokevirtual 46, 3) := by decide +kernel
theorem dX2_measure_118 : decode cX2_measure 118 = .ok (.lload_n 1, 1) := by decide +kernel
theorem dX2_measure_119 : decode cX2_measure 119 = .ok (.aload_n 3, 1) := by decide +kernel
theorem dX2_measure_120 : decode cX2_measure 120 = .ok (.iload 6, 2) := by decide +kernel
theorem dX2_measure_122 : decode cX2_measure 122 = .ok (.iconst 1, 1) := by decide +kernel
theorem dX2_measure_123 : decode cX2_measure 123 = .ok (.isub, 1) := by decide +kernel
theorem dX2_measure_124 : decode cX2_measure 124 = .ok (.iload 7, 2) := by decide +kernel
set_option maxRecDepth 20000 in
theorem ggX2_measure_X2_isOpenFlat : GoodIn wsX2_measure wsX2_isOpenFlat := goodIn_r _ [25, 26, 27, 28, 14, 29, 30, 13, 15, 43, 44, 45] rfl (by decide +kernel)
set_option maxRecDepth 20000 in
theorem gX2_measure_X2_isOpenFlat : GoodIn wsX2_measure (va_wsS RX2 50 yX2_isOpenFlat wsX2_isOpenFlat) := goodIn_app (goodIn_r _ [23, 24, 10] rfl (by decide +kernel)) ggX2_measure_X2_isOpenFlat
theorem dX2_measure_126 : decode cX2_measure 126 = .ok (.invokestatic 50, 3) := by decide +kernel
theorem dX2_measure_129 : decode cX2_measure 129 = .ok (.ifCond .eq 28, 3) := by decide +kernel
theorem dX2_measure_132 : decode cX2_measure 132 = .ok (.aload_n 0, 1) := by decide +kernel
theorem dX2_measure_133 : decode cX2_measure 133 = .ok (.iload 6, 2) := by decide +kernel
theorem dX2_measure_135 : decode cX2_measure 135 = .ok (.iconst 1, 1) := by decide +kernel
theorem dX2_measure_136 : decode cX2_measure 136 = .ok (.isub, 1) := by decide +kernel
theorem dX2_measure_137 : decode cX2_measure 137 = .ok (.iload 7, 2) := by decide +kernel
theorem dX2_measure_139 : decode cX2_measure 139 = .ok (.invokestatic 22, 3) := by decide +kernel
theorem dX2_measure_142 : decode cX2_measure 142 = .ok (.iload 8, 2) := by decide +kernel
theorem dX2_measure_144 : decode cX2_measure 144 = .ok (.iload 6, 2) := by decide +kernel
theorem dX2_measure_146 : decode cX2_measure 146 = .ok (.iconst 1, 1) := by decide +kernel
theorem dX2_measure_147 : decode cX2_measure 147 = .ok (.isub, 1) := by decide +kernel
theorem dX2_measure_148 : decode cX2_measure 148 = .ok (.iload 7, 2) := by decide +kernel
theorem dX2_measure_150 : decode cX2_measure 150 = .ok (.invokestatic 54, 3) := by decide +kernel
theorem dX2_measure_153 : decode cX2_measure 153 = .ok (.isub, 1) := by decide +kernel
theorem dX2_measure_154 : decode cX2_measure 154 = .ok (.invokevirtual 46, 3) := by decide +kernel
theorem dX2_measure_31 : decode cX2_measure 31 = .ok (.iload 5, 2) := by decide +kernel
theorem dX2_measure_33 : decode cX2_measure 33 = .ok (.bipush 81, 2) := by decide +kernel
theorem dX2_measure_35 : decode cX2_measure 35 = .ok (.if_icmp .ge 202, 3) := by decide +kernel
theorem dX2_measure_237 : decode cX2_measure 237 = .ok (.return_, 1) := by decide +kernel
theorem dX2_measure_38 : decode cX2_measure 38 = .ok (.iload 5, 2) := by decide +kernel
theorem dX2_measure_40 : decode cX2_measure 40 = .ok (.aload_n 0, 1) := by decide +kernel
theorem dX2_measure_41 : decode cX2_measure 41 = .ok (.getfield 38, 3) := by decide +kernel
theorem dX2_measure_44 : decode cX2_measure 44 = .ok (.if_icmp .ge 193, 3) := by decide +kernel
theorem dX2_measure_47 : decode cX2_measure 47 = .ok (.aload_n 0, 1) := by decide +kernel
theorem dX2_measure_48 : decode cX2_measure 48 = .ok (.getfield 16, 3) := by decide +kernel
theorem dX2_measure_51 : decode cX2_measure 51 = .ok (.iload 5, 2) := by decide +kernel
theorem dX2_measure_53 : decode cX2_measure 53 = .ok (.iaload, 1) := by decide +kernel
theorem dX2_measure_54 : decode cX2_measure 54 = .ok (.bipush 9, 2) := by decide +kernel
theorem dX2_measure_56 : decode cX2_measure 56 = .ok (.irem, 1) := by decide +kernel
theorem dX2_measure_57 : decode cX2_measure 57 = .ok (.istore 6, 2) := by decide +kernel
theorem dX2_measure_59 : decode cX2_measure 59 = .ok (.aload_n 0, 1) := by decide +kernel
theorem dX2_measure_60 : decode cX2_measure 60 = .ok (.getfield 16, 3) := by decide +kernel
theorem dX2_measure_63 : decode cX2_measure 63 = .ok (.iload 5, 2) := by decide +kernel
theorem dX2_measure_65 : decode cX2_measure 65 = .ok (.iaload, 1) := by decide +kernel
theorem dX2_measure_66 : decode cX2_measure 66 = .ok (.bipush 9, 2) := by decide +kernel
theorem dX2_measure_68 : decode cX2_measure 68 = .ok (.idiv, 1) := by decide +kernel
theorem dX2_measure_69 : decode cX2_measure 69 = .ok (.istore 7, 2) := by decide +kernel
theorem dX2_measure_71 : decode cX2_measure 71 = .ok (.aload 4, 2) := by decide +kernel
theorem dX2_measure_73 : decode cX2_measure 73 = .ok (.aload_n 0, 1) := by decide +kernel
theorem dX2_measure_74 : decode cX2_measure 74 = .ok (.getfield 16, 3) := by decide +kernel
theorem dX2_measure_77 : decode cX2_measure 77 = .ok (.iload 5, 2) := by decide +kernel
theorem dX2_measure_79 : decode cX2_measure 79 = .ok (.iaload, 1) := by decide +kernel
theorem dX2_measure_80 : decode cX2_measure 80 = .ok (.iaload, 1) := by decide +kernel
theorem dX2_measure_81 : decode cX2_measure 81 = .ok (.istore 8, 2) := by decide +kernel
theorem dX2_measure_83 : decode cX2_measure 83 = .ok (.lload_n 1, 1) := by decide +kernel
theorem dX2_measure_84 : decode cX2_measure 84 = .ok (.aload_n 3, 1) := by decide +kernel
theorem dX2_measure_85 : decode cX2_measure 85 = .ok (.iload 6, 2) := by decide +kernel
theorem dX2_measure_87 : decode cX2_measure 87 = .ok (.iload 7, 2) := by decide +kernel
theorem dX2_measure_89 : decode cX2_measure 89 = .ok (.invokestatic 50, 3) := by decide +kernel
theorem dX2_measure_92 : decode cX2_measure 92 = .ok (.ifCond .eq 26, 3) := by decide +kernel
theorem dX2_measure_95 : decode cX2_measure 95 = .ok (.aload_n 0, 1) := by decide +kernel
theorem dX2_measure_96 : decode cX2_measure 96 = .ok (.iload 6, 2) := by decide +kernel
theorem dX2_measure_98 : decode cX2_measure 98 = .ok (.iconst 1, 1) := by decide +kernel
theorem dX2_measure_99 : decode cX2_measure 99 = .ok (.iadd, 1) := by decide +kernel
theorem dX2_measure_100 : decode cX2_measure 100 = .ok (.iload 7, 2) := by decide +kernel
theorem dX2_measure_102 : decode cX2_measure 102 = .ok (.invokestatic 22, 3) := by decide +kernel
theorem dX2_measure_105 : decode cX2_measure 105 = .ok (.iload 8, 2) := by decide +kernel
theorem dX2_measure_107 : decode cX2_measure 107 = .ok (.iload 6, 2) := by decide +kernel
theorem dX2_measure_109 : decode cX2_measure 109 = .ok (.iload 7, 2) := by decide +kernel
theorem dX2_measure_111 : decode cX2_measure 111 = .ok (.invokestatic 54, 3) := by decide +kernel
theorem dX2_measure_114 : decode cX2_measure 114 = .ok (.iadd, 1) := by decide +kernel
theorem dX2_measure_115 : decode cX2_measure 115 = .ok (.invokevirtual 46, 3) := by decide +kernel
theorem dX2_measure_0 : decode cX2_measure 0 = .ok (.aload 4, 2) := by decide +kernel
theorem dX2_measure_2 : decode cX2_measure 2 = .ok (.sipush 1000, 3) := by decide +kernel
set_option maxRecDepth 20000 in
theorem ggX2_measure_J7_fill_53178 : GoodIn wsX2_measure wsJ7_fill_53178 := goodIn_r _ [7] rfl (by decide +kernel)
set_option maxRecDepth 20000 in
theorem gX2_measure_J7_fill_53178 : GoodIn wsX2_measure (va_wsS RX2 32 yJ7_fill_53178 wsJ7_fill_53178) := goodIn_app (goodIn_of _ (by decide +kernel)) ggX2_measure_J7_fill_53178
theorem dX2_measure_5 : decode cX2_measure 5 = .ok (.invokestatic 32, 3) := by decide +kernel
theorem dX2_measure_8 : decode cX2_measure 8 = .ok (.aload_n 0, 1) := by decide +kernel
theorem dX2_measure_9 : decode cX2_measure 9 = .ok (.aload 4, 2) := by decide +kernel
theorem dX2_measure_11 : decode cX2_measure 11 = .ok (.putfield 19, 3) := by decide +kernel
theorem dX2_measure_14 : decode cX2_measure 14 = .ok (.aload_n 0, 1) := by decide +kernel
theorem dX2_measure_15 : decode cX2_measure 15 = .ok (.iconst 0, 1) := by decide +kernel
theorem dX2_measure_16 : decode cX2_measure 16 = .ok (.putfield 38, 3) := by decide +kernel
theorem dX2_measure_19 : decode cX2_measure 19 = .ok (.aload_n 0, 1) := by decide +kernel
theorem dX2_measure_20 : decode cX2_measure 20 = .ok (.lload_n 1, 1) := by decide +kernel
set_option maxRecDepth 20000 in
theorem ggX2_measure_X2_firstPoint : GoodIn wsX2_measure wsX2_firstPoint := goodIn_r _ [11, 12, 13, 14, 15, 16, 17, 10, 18] rfl (by decide +kernel)
set_option maxRecDepth 20000 in
theorem gX2_measure_X2_firstPoint : GoodIn wsX2_measure (va_wsS RX2 42 yX2_firstPoint wsX2_firstPoint) := goodIn_app (goodIn_r _ [8, 9, 10] rfl (by decide +kernel)) ggX2_measure_X2_firstPoint
theorem dX2_measure_21 : decode cX2_measure 21 = .ok (.invokestatic 42, 3) := by decide +kernel
theorem dX2_measure_24 : decode cX2_measure 24 = .ok (.iconst 0, 1) := by decide +kernel
theorem dX2_measure_25 : decode cX2_measure 25 = .ok (.invokevirtual 46, 3) := by decide +kernel
theorem dX2_measure_28 : decode cX2_measure 28 = .ok (.iconst 0, 1) := by decide +kernel
theorem dX2_measure_29 : decode cX2_measure 29 = .ok (.istore 5, 2) := by decide +kernel
set_option maxRecDepth 20000 in
theorem ihX2_measure_2 : ∀ w ∈ u_ws RX2 TX2 5, w ∈ wsX2_measure := fun _ h => List.mem_cons_of_mem _ (List.mem_append_left _ (List.mem_append_right _ h))
set_option maxHeartbeats 4000000 in
set_option maxRecDepth 100000 in
theorem t_X2_measure4 (l : Launch) (D : va_G) (cy : Nat → ClassId) (a : Nat → Nat) (sz : Nat) (J : Nat → Int64) (I : Nat → Int32) (O : Nat → Option Nat) (R : Nat → Nat → Int32) (RO : Nat → Nat → Option Nat) (LL : va_W) (Y : va_W) (x0 : Int64) (x1 : Nat) (y1 : Int32) (al1 ac1 : Int64) (hm1 : laC x1 y1 al1 ac1 ∈ Y) (hQ : ∀ i, i < 81 → vp_in (R 6 i) 81) : Met l yX2_measure wsX2_measure ({ frames := 3, cells := 0, slots := 0, locals := 69 }) (va_Pc [.ref (a 3), .long x0, .ref x1, .ref (a 4)] (PW D cy sz (CT cy a J I O R RO (LL ++ Y)))) (va_Qv (fun (u : TS) => ∃ (w0 : Int32), ∃ (w1 : Option Nat), ∃ (w2 : Nat → Int32), ∃ (w3 : Nat → Int32), ((∀ i, i < 81 → vp_in (w3 i) 81)) ∧ u = (J, (va_up I 99 w0), (va_up O 100 w1), (va_up (va_up R 4 w2) 6 w3), RO, LL, Y)) (BW D (va_A (CT cy a J I O R RO (LL ++ Y)) sz) (CTu cy a)) (va_A (CT cy a J I O R RO (LL ++ Y)) sz)) 0 0 (va_A (CT cy a J I O R RO (LL ++ Y)) sz) := by
  refine Met.ofW (cc := cX2_measure) (maxL := 9) (ret := none) (by decide) rfl ?_
  intro p e s m args below meth c s₁ B hml hv
  obtain ⟨rfl, rfl, hP, hK, hN, hD0⟩ := hv
  have hx := B.exec
  have hb := B.bytes
  have hr := B.returns
  have hts := atoms_spec (ws := wsX2_measure) B.pre
  have hown : s.vm.findClass RX2 = some m.cls := findClass_of_methodNamed B.named
  have hlocks := B.notSynchronized
  have hw0 := hts (.fieldLink RX2 38 "ParquetLayer$Heights" "queued" "I") (by decide +kernel)
  have hw1 := hts (.fieldLink RX2 16 "ParquetLayer$Heights" "queue" "[I") (by decide +kernel)
  have hw2 := hts (.fieldLink RX2 19 "ParquetLayer$Heights" "target" "[I") (by decide +kernel)
  have hi2 := ihX2_measure_2
  have hD := hD0.self (sz := s.heap.size)
  generalize hAe : va_A (CT cy a J I O R RO (LL ++ Y)) s.heap.size = A at hD ⊢
  have hA : ∀ q : Nat, s.heap.size ≤ q → A q := fun q h => by rw [← hAe]; exact Or.inr h
  have hS : va_S A s.heap s.heap [] := va_S.rf
  have hl := lv_entry ([.ref (a 3), .long x0, .ref x1, .ref (a 4)]) (n := 9) (Nat.le_of_ble_eq_true rfl)
  rw [lg_entry_eq]
  generalize (lg_sl ([.ref (a 3), .long x0, .ref x1, .ref (a 4)]) ++ List.replicate (9 - (lg_sl ([.ref (a 3), .long x0, .ref x1, .ref (a 4)])).length) Slot.unset).toArray = ls at hl ⊢
  have hl : lv_has ls 9 [(0, .ref (a 3)), (1, .long x0), (3, .ref x1), (4, .ref (a 4))] := hl
  have lp31 : ∀ (n31 : Nat), ∀ (i : Nat) (m0_31 : Int32) (m1_31 : Option Nat) (m2_31 : Nat → Int32) (m3_31 : Nat → Int32), (i ≤ 81) → (m1_31 = some (a 4)) → (vp_in m0_31 82) → (∀ i, i < 81 → vp_in (m3_31 i) 81) → (81 - i) < n31 → ∀ (H : Heap) (locs : List Loc), va_P D vwCl (CT cy a J (va_up I 99 m0_31) (va_up O 100 m1_31) (va_up (va_up R 4 m2_31) 6 m3_31) RO (LL ++ Y)) H → va_D A (CT cy a J (va_up I 99 m0_31) (va_up O 100 m1_31) (va_up (va_up R 4 m2_31) 6 m3_31) RO (LL ++ Y)) → va_S A s.heap H locs → ∀ (ls : Array Slot), lv_has ls 9 [(0, .ref (a 3)), (1, .long x0), (3, .ref x1), (4, .ref (a 4)), (5, .int (nI i))] → W p l e (headSpec wsX2_measure ({ frames := 3, cells := 0, slots := 0, locals := 69 })).room s m ([.ref (a 3), .long x0, .ref x1, .ref (a 4)] : List Value).toArray below meth c H locs 0 0 (MQ below (va_Qv (fun (u : TS) => ∃ (w0 : Int32), ∃ (w1 : Option Nat), ∃ (w2 : Nat → Int32), ∃ (w3 : Nat → Int32), ((∀ i, i < 81 → vp_in (w3 i) 81)) ∧ u = (J, (va_up I 99 w0), (va_up O 100 w1), (va_up (va_up R 4 w2) 6 w3), RO, LL, Y)) (BW D A (CTu cy a)) A) ([.ref (a 3), .long x0, .ref x1, .ref (a 4)] : List Value).toArray s 0 0 A) (F0 m 31 ls []) := by
    intro n31
    induction n31 with
    | zero => intro i m0_31 m1_31 m2_31 m3_31 hi hT hq hQ hn; exact absurd hn (Nat.not_lt_zero _)
    | succ n31 ih31 =>
      intro i m0_31 m1_31 m2_31 m3_31 hi hT hq hQ hn31 H locs hP hD hS ls hl
      have lp118 : ∀ (v6_118 : Int32) (v7_118 : Int32) (v8_118 : Int32) (m0_118 : Int32) (m1_118 : Option Nat) (m2_118 : Nat → Int32) (m3_118 : Nat → Int32), (m1_118 = some (a 4)) → (vp_in m0_118 82) → (∀ i, i < 81 → vp_in (m3_118 i) 81) → (i < 81) → ∀ (H : Heap) (locs : List Loc), va_P D vwCl (CT cy a J (va_up I 99 m0_118) (va_up O 100 m1_118) (va_up (va_up R 4 m2_118) 6 m3_118) RO (LL ++ Y)) H → va_D A (CT cy a J (va_up I 99 m0_118) (va_up O 100 m1_118) (va_up (va_up R 4 m2_118) 6 m3_118) RO (LL ++ Y)) → va_S A s.heap H locs → ∀ (ls : Array Slot), lv_has ls 9 [(0, .ref (a 3)), (1, .long x0), (3, .ref x1), (4, .ref (a 4)), (5, .int (nI i)), (6, .int v6_118), (7, .int v7_118), (8, .int v8_118)] → W p l e (headSpec wsX2_measure ({ frames := 3, cells := 0, slots := 0, locals := 69 })).room s m ([.ref (a 3), .long x0, .ref x1, .ref (a 4)] : List Value).toArray below meth c H locs 0 0 (MQ below (va_Qv (fun (u : TS) => ∃ (w0 : Int32), ∃ (w1 : Option Nat), ∃ (w2 : Nat → Int32), ∃ (w3 : Nat → Int32), ((∀ i, i < 81 → vp_in (w3 i) 81)) ∧ u = (J, (va_up I 99 w0), (va_up O 100 w1), (va_up (va_up R 4 w2) 6 w3), RO, LL, Y)) (BW D A (CTu cy a)) A) ([.ref (a 3), .long x0, .ref x1, .ref (a 4)] : List Value).toArray s 0 0 A) (F0 m 118 ls []) := by
        intro v6_118 v7_118 v8_118 m0_118 m1_118 m2_118 m3_118 hT hq hQ hlt_i H locs hP hD hS ls hl
        have lp157 : ∀ (v6_157 : Int32) (v7_157 : Int32) (v8_157 : Int32) (m0_157 : Int32) (m1_157 : Option Nat) (m2_157 : Nat → Int32) (m3_157 : Nat → Int32), (m1_157 = some (a 4)) → (vp_in m0_157 82) → (∀ i, i < 81 → vp_in (m3_157 i) 81) → (i < 81) → ∀ (H : Heap) (locs : List Loc), va_P D vwCl (CT cy a J (va_up I 99 m0_157) (va_up O 100 m1_157) (va_up (va_up R 4 m2_157) 6 m3_157) RO (LL ++ Y)) H → va_D A (CT cy a J (va_up I 99 m0_157) (va_up O 100 m1_157) (va_up (va_up R 4 m2_157) 6 m3_157) RO (LL ++ Y)) → va_S A s.heap H locs → ∀ (ls : Array Slot), lv_has ls 9 [(0, .ref (a 3)), (1, .long x0), (3, .ref x1), (4, .ref (a 4)), (5, .int (nI i)), (6, .int v6_157), (7, .int v7_157), (8, .int v8_157)] → W p l e (headSpec wsX2_measure ({ frames := 3, cells := 0, slots := 0, locals := 69 })).room s m ([.ref (a 3), .long x0, .ref x1, .ref (a 4)] : List Value).toArray below meth c H locs 0 0 (MQ below (va_Qv (fun (u : TS) => ∃ (w0 : Int32), ∃ (w1 : Option Nat), ∃ (w2 : Nat → Int32), ∃ (w3 : Nat → Int32), ((∀ i, i < 81 → vp_in (w3 i) 81)) ∧ u = (J, (va_up I 99 w0), (va_up O 100 w1), (va_up (va_up R 4 w2) 6 w3), RO, LL, Y)) (BW D A (CTu cy a)) A) ([.ref (a 3), .long x0, .ref x1, .ref (a 4)] : List Value).toArray s 0 0 A) (F0 m 157 ls []) := by
          intro v6_157 v7_157 v8_157 m0_157 m1_157 m2_157 m3_157 hT hq hQ hlt_i H locs hP hD hS ls hl
          have lp192 : ∀ (v6_192 : Int32) (v7_192 : Int32) (v8_192 : Int32) (m0_192 : Int32) (m1_192 : Option Nat) (m2_192 : Nat → Int32) (m3_192 : Nat → Int32), (m1_192 = some (a 4)) → (vp_in m0_192 82) → (∀ i, i < 81 → vp_in (m3_192 i) 81) → (i < 81) → ∀ (H : Heap) (locs : List Loc), va_P D vwCl (CT cy a J (va_up I 99 m0_192) (va_up O 100 m1_192) (va_up (va_up R 4 m2_192) 6 m3_192) RO (LL ++ Y)) H → va_D A (CT cy a J (va_up I 99 m0_192) (va_up O 100 m1_192) (va_up (va_up R 4 m2_192) 6 m3_192) RO (LL ++ Y)) → va_S A s.heap H locs → ∀ (ls : Array Slot), lv_has ls 9 [(0, .ref (a 3)), (1, .long x0), (3, .ref x1), (4, .ref (a 4)), (5, .int (nI i)), (6, .int v6_192), (7, .int v7_192), (8, .int v8_192)] → W p l e (headSpec wsX2_measure ({ frames := 3, cells := 0, slots := 0, locals := 69 })).room s m ([.ref (a 3), .long x0, .ref x1, .ref (a 4)] : List Value).toArray below meth c H locs 0 0 (MQ below (va_Qv (fun (u : TS) => ∃ (w0 : Int32), ∃ (w1 : Option Nat), ∃ (w2 : Nat → Int32), ∃ (w3 : Nat → Int32), ((∀ i, i < 81 → vp_in (w3 i) 81)) ∧ u = (J, (va_up I 99 w0), (va_up O 100 w1), (va_up (va_up R 4 w2) 6 w3), RO, LL, Y)) (BW D A (CTu cy a)) A) ([.ref (a 3), .long x0, .ref x1, .ref (a 4)] : List Value).toArray s 0 0 A) (F0 m 192 ls []) := by
            intro v6_192 v7_192 v8_192 m0_192 m1_192 m2_192 m3_192 hT hq hQ hlt_i H locs hP hD hS ls hl
            refine lv_lload_n hx hb dX2_measure_192 rfl (lv_at hl 1 rfl) ?_
            refine lv_aload_n hx hb dX2_measure_193 rfl (lv_at hl 2 rfl) ?_
            refine lv_iload hx hb dX2_measure_194 (lv_at hl 5 rfl) ?_
            refine lv_iload hx hb dX2_measure_196 (lv_at hl 6 rfl) ?_
            refine lv_iconst (v := 1) hx hb dX2_measure_198 (by decide) ?_
            refine lv_isub hx hb dX2_measure_199 ?_
            obtain ⟨k_1, hk_2⟩ : ∃ k : Nat, (CT cy a J (va_up I 99 m0_192) (va_up O 100 m1_192) (va_up (va_up R 4 m2_192) 6 m3_192) RO (LL ++ Y))[k]? = some (x1, .inr (2, [.int y1, .long al1, .long ac1])) := pixT hm1
            refine kWRa_i (As := [.long x0, .ref x1, .int v6_192, .int (v7_192 - 1)]) (rest := []) ⟨hx, hb, hml, hown, hts⟩ (t_X2_isOpenSteep l D cy _ (CT cy a J (va_up I 99 m0_192) (va_up O 100 m1_192) (va_up (va_up R 4 m2_192) 6 m3_192) RO (LL ++ Y)) k_1 x1 y1 al1 ac1 hk_2 x0 v6_192 (v7_192 - 1)) (va_cwS 4 hts gX2_measure_X2_isOpenSteep rfl rfl rfl (by decide +kernel) ⟨Nat.le_of_ble_eq_true rfl, Nat.le_of_ble_eq_true rfl⟩) hK hN hP hD rfl hl.1 rfl (Nat.le_of_ble_eq_true rfl) dX2_measure_200 ⟨Nat.le_of_ble_eq_true rfl, Nat.le_of_ble_eq_true rfl⟩ (fun r_3 hr_4 => ?_)
            obtain ⟨zb_5, rfl⟩ := hr_4
            refine lv_if_eq (tgt := 231) hx hb dX2_measure_203 (by decide) (fun c_6 => ?_) (fun c_6 => ?_)
            · replace c_6 := bI_f c_6
              refine lv_iinc (v := nI (i + 1)) (lv' := [(5, .int (nI (i + 1))), (0, .ref (a 3)), (1, .long x0), (3, .ref x1), (4, .ref (a 4)), (6, .int v6_192), (7, .int v7_192), (8, .int v8_192)]) hx hb dX2_measure_231 hl (k := 4) rfl (nI_1 _) (by decide) rfl (fun ls hl => ?_)
              refine lv_goto (tgt := 31) hx hb dX2_measure_234 (by decide) ?_
              exact ih31 (i + 1) m0_192 m1_192 m2_192 m3_192 (by omega) hT hq hQ (by omega) _ _ hP hD hS ls (lv_sub hl [1, 2, 3, 4, 0] rfl)
            · replace c_6 := bI_t c_6
              refine lv_aload_n hx hb dX2_measure_206 rfl (lv_at hl 0 rfl) ?_
              refine lv_iload hx hb dX2_measure_207 (lv_at hl 5 rfl) ?_
              refine lv_iload hx hb dX2_measure_209 (lv_at hl 6 rfl) ?_
              refine lv_iconst (v := 1) hx hb dX2_measure_211 (by decide) ?_
              refine lv_isub hx hb dX2_measure_212 ?_
              refine kS_i (As := [.int v6_192, .int (v7_192 - 1)]) (rest := [.ref (a 3)]) ⟨hx, hb, hml, hown, hts⟩ (c_X2_pointOf l v6_192 (v7_192 - 1)) (va_cwS 2 hts gX2_measure_X2_pointOf rfl rfl rfl (by decide +kernel) ⟨Nat.le_of_ble_eq_true rfl, Nat.le_of_ble_eq_true rfl⟩) rfl hl.1 rfl (Nat.le_of_ble_eq_true rfl) dX2_measure_213 ⟨Nat.le_of_ble_eq_true rfl, Nat.le_of_ble_eq_true rfl⟩ ?_
              refine lv_iload hx hb dX2_measure_216 (lv_at hl 7 rfl) ?_
              refine lv_iload hx hb dX2_measure_218 (lv_at hl 5 rfl) ?_
              refine lv_iload hx hb dX2_measure_220 (lv_at hl 6 rfl) ?_
              refine lv_iconst (v := 1) hx hb dX2_measure_222 (by decide) ?_
              refine lv_isub hx hb dX2_measure_223 ?_
              refine kSa_i (As := [.int v6_192, .int (v7_192 - 1)]) (rest := [.int v8_192, .int (9 * (v7_192 - 1) + v6_192), .ref (a 3)]) ⟨hx, hb, hml, hown, hts⟩ (t_X2_riseRight l v6_192 (v7_192 - 1) ) (va_cwS 2 hts gX2_measure_X2_riseRight rfl rfl rfl (by decide +kernel) ⟨Nat.le_of_ble_eq_true rfl, Nat.le_of_ble_eq_true rfl⟩) rfl hl.1 rfl (Nat.le_of_ble_eq_true rfl) dX2_measure_224 ⟨Nat.le_of_ble_eq_true rfl, Nat.le_of_ble_eq_true rfl⟩ (fun r_7 hr_8 => ?_)
              refine lv_iadd hx hb dX2_measure_227 ?_
              refine kM_v (As := [.int (9 * (v7_192 - 1) + v6_192), .int (v8_192 + r_7)]) (rest := []) (q0 := 3) ⟨hx, hb, hml, hown, hts⟩ (t_X2_reach4 l D cy a _ J (va_up I 99 m0_192) (va_up O 100 m1_192) (va_up (va_up R 4 m2_192) 6 m3_192) RO LL Y (9 * (v7_192 - 1) + v6_192) (v8_192 + r_7) hT hq hQ  ) (cwV 2 hts gX2_measure_X2_reach rfl rfl rfl (by decide +kernel) ⟨Nat.le_of_ble_eq_true rfl, Nat.le_of_ble_eq_true rfl⟩) hK hN hP hD hS hA rfl rfl rfl hl.1 rfl (Nat.le_of_ble_eq_true rfl) dX2_measure_228 ⟨Nat.le_of_ble_eq_true rfl, Nat.le_of_ble_eq_true rfl⟩ (fun u H locs hw hP hD hS => ?_)
              obtain ⟨w_10, w_11, w_12, w_13, ⟨hp_14, hp_15, hp_16⟩, rfl⟩ := hw
              have hP : va_P D vwCl (CT cy a J (va_up I 99 w_10) (va_up O 100 w_11) (va_up (va_up R 4 w_12) 6 w_13) RO (LL ++ Y)) H := hP
              have hD : va_D A (CT cy a J (va_up I 99 w_10) (va_up O 100 w_11) (va_up (va_up R 4 w_12) 6 w_13) RO (LL ++ Y)) := hD
              refine lv_iinc (v := nI (i + 1)) (lv' := [(5, .int (nI (i + 1))), (0, .ref (a 3)), (1, .long x0), (3, .ref x1), (4, .ref (a 4)), (6, .int v6_192), (7, .int v7_192), (8, .int v8_192)]) hx hb dX2_measure_231 hl (k := 4) rfl (nI_1 _) (by decide) rfl (fun ls hl => ?_)
              refine lv_goto (tgt := 31) hx hb dX2_measure_234 (by decide) ?_
              exact ih31 (i + 1) w_10 w_11 w_12 w_13 (by omega) hp_14 hp_15 hp_16 (by omega) _ _ hP hD hS ls (lv_sub hl [1, 2, 3, 4, 0] rfl)
          refine lv_lload_n hx hb dX2_measure_157 rfl (lv_at hl 1 rfl) ?_
          refine lv_aload_n hx hb dX2_measure_158 rfl (lv_at hl 2 rfl) ?_
          refine lv_iload hx hb dX2_measure_159 (lv_at hl 5 rfl) ?_
          refine lv_iload hx hb dX2_measure_161 (lv_at hl 6 rfl) ?_
          obtain ⟨k_17, hk_18⟩ : ∃ k : Nat, (CT cy a J (va_up I 99 m0_157) (va_up O 100 m1_157) (va_up (va_up R 4 m2_157) 6 m3_157) RO (LL ++ Y))[k]? = some (x1, .inr (2, [.int y1, .long al1, .long ac1])) := pixT hm1
          refine kWRa_i (As := [.long x0, .ref x1, .int v6_157, .int v7_157]) (rest := []) ⟨hx, hb, hml, hown, hts⟩ (t_X2_isOpenSteep l D cy _ (CT cy a J (va_up I 99 m0_157) (va_up O 100 m1_157) (va_up (va_up R 4 m2_157) 6 m3_157) RO (LL ++ Y)) k_17 x1 y1 al1 ac1 hk_18 x0 v6_157 v7_157) (va_cwS 4 hts gX2_measure_X2_isOpenSteep rfl rfl rfl (by decide +kernel) ⟨Nat.le_of_ble_eq_true rfl, Nat.le_of_ble_eq_true rfl⟩) hK hN hP hD rfl hl.1 rfl (Nat.le_of_ble_eq_true rfl) dX2_measure_163 ⟨Nat.le_of_ble_eq_true rfl, Nat.le_of_ble_eq_true rfl⟩ (fun r_19 hr_20 => ?_)
          obtain ⟨zb_21, rfl⟩ := hr_20
          refine lv_if_eq (tgt := 192) hx hb dX2_measure_166 (by decide) (fun c_22 => ?_) (fun c_22 => ?_)
          · replace c_22 := bI_f c_22
            exact lp192 v6_157 v7_157 v8_157 m0_157 m1_157 m2_157 m3_157 hT hq hQ hlt_i  _ _ hP hD hS ls (lv_sub hl [0, 1, 2, 3, 4, 5, 6, 7] rfl)
          · replace c_22 := bI_t c_22
            refine lv_aload_n hx hb dX2_measure_169 rfl (lv_at hl 0 rfl) ?_
            refine lv_iload hx hb dX2_measure_170 (lv_at hl 5 rfl) ?_
            refine lv_iload hx hb dX2_measure_172 (lv_at hl 6 rfl) ?_
            refine lv_iconst (v := 1) hx hb dX2_measure_174 (by decide) ?_
            refine lv_iadd hx hb dX2_measure_175 ?_
            refine kS_i (As := [.int v6_157, .int (v7_157 + 1)]) (rest := [.ref (a 3)]) ⟨hx, hb, hml, hown, hts⟩ (c_X2_pointOf l v6_157 (v7_157 + 1)) (va_cwS 2 hts gX2_measure_X2_pointOf rfl rfl rfl (by decide +kernel) ⟨Nat.le_of_ble_eq_true rfl, Nat.le_of_ble_eq_true rfl⟩) rfl hl.1 rfl (Nat.le_of_ble_eq_true rfl) dX2_measure_176 ⟨Nat.le_of_ble_eq_true rfl, Nat.le_of_ble_eq_true rfl⟩ ?_
            refine lv_iload hx hb dX2_measure_179 (lv_at hl 7 rfl) ?_
            refine lv_iload hx hb dX2_measure_181 (lv_at hl 5 rfl) ?_
            refine lv_iload hx hb dX2_measure_183 (lv_at hl 6 rfl) ?_
            refine kSa_i (As := [.int v6_157, .int v7_157]) (rest := [.int v8_157, .int (9 * (v7_157 + 1) + v6_157), .ref (a 3)]) ⟨hx, hb, hml, hown, hts⟩ (t_X2_riseRight l v6_157 v7_157 ) (va_cwS 2 hts gX2_measure_X2_riseRight rfl rfl rfl (by decide +kernel) ⟨Nat.le_of_ble_eq_true rfl, Nat.le_of_ble_eq_true rfl⟩) rfl hl.1 rfl (Nat.le_of_ble_eq_true rfl) dX2_measure_185 ⟨Nat.le_of_ble_eq_true rfl, Nat.le_of_ble_eq_true rfl⟩ (fun r_23 hr_24 => ?_)
            refine lv_isub hx hb dX2_measure_188 ?_
            refine kM_v (As := [.int (9 * (v7_157 + 1) + v6_157), .int (v8_157 - r_23)]) (rest := []) (q0 := 3) ⟨hx, hb, hml, hown, hts⟩ (t_X2_reach4 l D cy a _ J (va_up I 99 m0_157) (va_up O 100 m1_157) (va_up (va_up R 4 m2_157) 6 m3_157) RO LL Y (9 * (v7_157 + 1) + v6_157) (v8_157 - r_23) hT hq hQ  ) (cwV 2 hts gX2_measure_X2_reach rfl rfl rfl (by decide +kernel) ⟨Nat.le_of_ble_eq_true rfl, Nat.le_of_ble_eq_true rfl⟩) hK hN hP hD hS hA rfl rfl rfl hl.1 rfl (Nat.le_of_ble_eq_true rfl) dX2_measure_189 ⟨Nat.le_of_ble_eq_true rfl, Nat.le_of_ble_eq_true rfl⟩ (fun u H locs hw hP hD hS => ?_)
            obtain ⟨w_26, w_27, w_28, w_29, ⟨hp_30, hp_31, hp_32⟩, rfl⟩ := hw
            have hP : va_P D vwCl (CT cy a J (va_up I 99 w_26) (va_up O 100 w_27) (va_up (va_up R 4 w_28) 6 w_29) RO (LL ++ Y)) H := hP
            have hD : va_D A (CT cy a J (va_up I 99 w_26) (va_up O 100 w_27) (va_up (va_up R 4 w_28) 6 w_29) RO (LL ++ Y)) := hD
            exact lp192 v6_157 v7_157 v8_157 w_26 w_27 w_28 w_29 hp_30 hp_31 hp_32 hlt_i  _ _ hP hD hS ls (lv_sub hl [0, 1, 2, 3, 4, 5, 6, 7] rfl)
        refine lv_lload_n hx hb dX2_measure_118 rfl (lv_at hl 1 rfl) ?_
        refine lv_aload_n hx hb dX2_measure_119 rfl (lv_at hl 2 rfl) ?_
        refine lv_iload hx hb dX2_measure_120 (lv_at hl 5 rfl) ?_
        refine lv_iconst (v := 1) hx hb dX2_measure_122 (by decide) ?_
        refine lv_isub hx hb dX2_measure_123 ?_
        refine lv_iload hx hb dX2_measure_124 (lv_at hl 6 rfl) ?_
        obtain ⟨k_33, hk_34⟩ : ∃ k : Nat, (CT cy a J (va_up I 99 m0_118) (va_up O 100 m1_118) (va_up (va_up R 4 m2_118) 6 m3_118) RO (LL ++ Y))[k]? = some (x1, .inr (2, [.int y1, .long al1, .long ac1])) := pixT hm1
        refine kWRa_i (As := [.long x0, .ref x1, .int (v6_118 - 1), .int v7_118]) (rest := []) ⟨hx, hb, hml, hown, hts⟩ (t_X2_isOpenFlat l D cy _ (CT cy a J (va_up I 99 m0_118) (va_up O 100 m1_118) (va_up (va_up R 4 m2_118) 6 m3_118) RO (LL ++ Y)) k_33 x1 y1 al1 ac1 hk_34 x0 (v6_118 - 1) v7_118) (va_cwS 4 hts gX2_measure_X2_isOpenFlat rfl rfl rfl (by decide +kernel) ⟨Nat.le_of_ble_eq_true rfl, Nat.le_of_ble_eq_true rfl⟩) hK hN hP hD rfl hl.1 rfl (Nat.le_of_ble_eq_true rfl) dX2_measure_126 ⟨Nat.le_of_ble_eq_true rfl, Nat.le_of_ble_eq_true rfl⟩ (fun r_35 hr_36 => ?_)
        obtain ⟨zb_37, rfl⟩ := hr_36
        refine lv_if_eq (tgt := 157) hx hb dX2_measure_129 (by decide) (fun c_38 => ?_) (fun c_38 => ?_)
        · replace c_38 := bI_f c_38
          exact lp157 v6_118 v7_118 v8_118 m0_118 m1_118 m2_118 m3_118 hT hq hQ hlt_i  _ _ hP hD hS ls (lv_sub hl [0, 1, 2, 3, 4, 5, 6, 7] rfl)
        · replace c_38 := bI_t c_38
          refine lv_aload_n hx hb dX2_measure_132 rfl (lv_at hl 0 rfl) ?_
          refine lv_iload hx hb dX2_measure_133 (lv_at hl 5 rfl) ?_
          refine lv_iconst (v := 1) hx hb dX2_measure_135 (by decide) ?_
          refine lv_isub hx hb dX2_measure_136 ?_
          refine lv_iload hx hb dX2_measure_137 (lv_at hl 6 rfl) ?_
          refine kS_i (As := [.int (v6_118 - 1), .int v7_118]) (rest := [.ref (a 3)]) ⟨hx, hb, hml, hown, hts⟩ (c_X2_pointOf l (v6_118 - 1) v7_118) (va_cwS 2 hts gX2_measure_X2_pointOf rfl rfl rfl (by decide +kernel) ⟨Nat.le_of_ble_eq_true rfl, Nat.le_of_ble_eq_true rfl⟩) rfl hl.1 rfl (Nat.le_of_ble_eq_true rfl) dX2_measure_139 ⟨Nat.le_of_ble_eq_true rfl, Nat.le_of_ble_eq_true rfl⟩ ?_
          refine lv_iload hx hb dX2_measure_142 (lv_at hl 7 rfl) ?_
          refine lv_iload hx hb dX2_measure_144 (lv_at hl 5 rfl) ?_
          refine lv_iconst (v := 1) hx hb dX2_measure_146 (by decide) ?_
          refine lv_isub hx hb dX2_measure_147 ?_
          refine lv_iload hx hb dX2_measure_148 (lv_at hl 6 rfl) ?_
          refine kSa_i (As := [.int (v6_118 - 1), .int v7_118]) (rest := [.int v8_118, .int (9 * v7_118 + (v6_118 - 1)), .ref (a 3)]) ⟨hx, hb, hml, hown, hts⟩ (t_X2_riseRight l (v6_118 - 1) v7_118 ) (va_cwS 2 hts gX2_measure_X2_riseRight rfl rfl rfl (by decide +kernel) ⟨Nat.le_of_ble_eq_true rfl, Nat.le_of_ble_eq_true rfl⟩) rfl hl.1 rfl (Nat.le_of_ble_eq_true rfl) dX2_measure_150 ⟨Nat.le_of_ble_eq_true rfl, Nat.le_of_ble_eq_true rfl⟩ (fun r_39 hr_40 => ?_)
          refine lv_isub hx hb dX2_measure_153 ?_
          refine kM_v (As := [.int (9 * v7_118 + (v6_118 - 1)), .int (v8_118 - r_39)]) (rest := []) (q0 := 3) ⟨hx, hb, hml, hown, hts⟩ (t_X2_reach4 l D cy a _ J (va_up I 99 m0_118) (va_up O 100 m1_118) (va_up (va_up R 4 m2_118) 6 m3_118) RO LL Y (9 * v7_118 + (v6_118 - 1)) (v8_118 - r_39) hT hq hQ  ) (cwV 2 hts gX2_measure_X2_reach rfl rfl rfl (by decide +kernel) ⟨Nat.le_of_ble_eq_true rfl, Nat.le_of_ble_eq_true rfl⟩) hK hN hP hD hS hA rfl rfl rfl hl.1 rfl (Nat.le_of_ble_eq_true rfl) dX2_measure_154 ⟨Nat.le_of_ble_eq_true rfl, Nat.le_of_ble_eq_true rfl⟩ (fun u H locs hw hP hD hS => ?_)
          obtain ⟨w_42, w_43, w_44, w_45, ⟨hp_46, hp_47, hp_48⟩, rfl⟩ := hw
          have hP : va_P D vwCl (CT cy a J (va_up I 99 w_42) (va_up O 100 w_43) (va_up (va_up R 4 w_44) 6 w_45) RO (LL ++ Y)) H := hP
          have hD : va_D A (CT cy a J (va_up I 99 w_42) (va_up O 100 w_43) (va_up (va_up R 4 w_44) 6 w_45) RO (LL ++ Y)) := hD
          exact lp157 v6_118 v7_118 v8_118 w_42 w_43 w_44 w_45 hp_46 hp_47 hp_48 hlt_i  _ _ hP hD hS ls (lv_sub hl [0, 1, 2, 3, 4, 5, 6, 7] rfl)
      refine lv_iload hx hb dX2_measure_31 (lv_at hl 4 rfl) ?_
      refine lv_bipush (v := 81) hx hb dX2_measure_33 (by decide) ?_
      refine lv_icmp_ge (tgt := 237) hx hb dX2_measure_35 (by decide) (fun c_49 => ?_) (fun c_49 => ?_)
      · exact wret_v hx hb hr hlocks (J, (va_up I 99 m0_31), (va_up O 100 m1_31), (va_up (va_up R 4 m2_31) 6 m3_31), RO, LL, Y) ⟨m0_31, m1_31, m2_31, m3_31, hQ, rfl⟩ hP hD hS dX2_measure_237
      · have hlt_i := ctr_lt (N := 81) (by decide) hi c_49
        refine lv_iload hx hb dX2_measure_38 (lv_at hl 4 rfl) ?_
        refine lv_aload_n hx hb dX2_measure_40 rfl (lv_at hl 0 rfl) ?_
        refine va_get (D := D) (ci := 1) (v := .int m0_31) (C := RX2) (T := TX2) (N := 5) hx hb hts hi2 hown hK hP 3 rfl rfl 3 (by decide) hw0 (fun _ h9 => h9) rfl dX2_measure_41 ?_
        refine lv_icmp_ge (tgt := 237) hx hb dX2_measure_44 (by decide) (fun c_50 => ?_) (fun c_50 => ?_)
        · exact wret_v hx hb hr hlocks (J, (va_up I 99 m0_31), (va_up O 100 m1_31), (va_up (va_up R 4 m2_31) 6 m3_31), RO, LL, Y) ⟨m0_31, m1_31, m2_31, m3_31, hQ, rfl⟩ hP hD hS dX2_measure_237
        · refine lv_aload_n hx hb dX2_measure_47 rfl (lv_at hl 0 rfl) ?_
          refine va_get (D := D) (ci := 1) (v := .ref (a 6)) (C := RX2) (T := TX2) (N := 5) hx hb hts hi2 hown hK hP 3 rfl rfl 2 (by decide) hw1 (fun _ h9 => h9) rfl dX2_measure_48 ?_
          refine lv_iload hx hb dX2_measure_51 (lv_at hl 4 rfl) ?_
          refine va_iald hx hb hK hP 6 0 rfl rfl (vp_in_nI hlt_i (by decide)) dX2_measure_53 ?_
          refine lv_bipush (v := 9) hx hb dX2_measure_54 (by decide) ?_
          refine lv_irem hx hb dX2_measure_56 (by decide) ?_
          refine lv_istore (lv' := [(6, .int ((m3_31 (nI i).toNatClampNeg) - (m3_31 (nI i).toNatClampNeg) / 9 * 9)), (0, .ref (a 3)), (1, .long x0), (3, .ref x1), (4, .ref (a 4)), (5, .int (nI i))]) hx hb dX2_measure_57 hl (by decide) rfl (fun ls hl => ?_)
          refine lv_aload_n hx hb dX2_measure_59 rfl (lv_at hl 1 rfl) ?_
          refine va_get (D := D) (ci := 1) (v := .ref (a 6)) (C := RX2) (T := TX2) (N := 5) hx hb hts hi2 hown hK hP 3 rfl rfl 2 (by decide) hw1 (fun _ h9 => h9) rfl dX2_measure_60 ?_
          refine lv_iload hx hb dX2_measure_63 (lv_at hl 5 rfl) ?_
          refine va_iald hx hb hK hP 6 0 rfl rfl (vp_in_nI hlt_i (by decide)) dX2_measure_65 ?_
          refine lv_bipush (v := 9) hx hb dX2_measure_66 (by decide) ?_
          refine lv_idiv hx hb dX2_measure_68 (by decide) ?_
          refine lv_istore (lv' := [(7, .int ((m3_31 (nI i).toNatClampNeg) / 9)), (6, .int ((m3_31 (nI i).toNatClampNeg) - (m3_31 (nI i).toNatClampNeg) / 9 * 9)), (0, .ref (a 3)), (1, .long x0), (3, .ref x1), (4, .ref (a 4)), (5, .int (nI i))]) hx hb dX2_measure_69 hl (by decide) rfl (fun ls hl => ?_)
          refine lv_aload hx hb dX2_measure_71 (lv_at hl 5 rfl) ?_
          refine lv_aload_n hx hb dX2_measure_73 rfl (lv_at hl 2 rfl) ?_
          refine va_get (D := D) (ci := 1) (v := .ref (a 6)) (C := RX2) (T := TX2) (N := 5) hx hb hts hi2 hown hK hP 3 rfl rfl 2 (by decide) hw1 (fun _ h9 => h9) rfl dX2_measure_74 ?_
          refine lv_iload hx hb dX2_measure_77 (lv_at hl 6 rfl) ?_
          refine va_iald hx hb hK hP 6 0 rfl rfl (vp_in_nI hlt_i (by decide)) dX2_measure_79 ?_
          refine va_iald hx hb hK hP 4 0 rfl rfl (hQ _ (in_lt (vp_in_nI hlt_i (by decide)))) dX2_measure_80 ?_
          refine lv_istore (lv' := [(8, .int (m2_31 (m3_31 (nI i).toNatClampNeg).toNatClampNeg)), (7, .int ((m3_31 (nI i).toNatClampNeg) / 9)), (6, .int ((m3_31 (nI i).toNatClampNeg) - (m3_31 (nI i).toNatClampNeg) / 9 * 9)), (0, .ref (a 3)), (1, .long x0), (3, .ref x1), (4, .ref (a 4)), (5, .int (nI i))]) hx hb dX2_measure_81 hl (by decide) rfl (fun ls hl => ?_)
          refine lv_lload_n hx hb dX2_measure_83 rfl (lv_at hl 4 rfl) ?_
          refine lv_aload_n hx hb dX2_measure_84 rfl (lv_at hl 5 rfl) ?_
          refine lv_iload hx hb dX2_measure_85 (lv_at hl 2 rfl) ?_
          refine lv_iload hx hb dX2_measure_87 (lv_at hl 1 rfl) ?_
          obtain ⟨k_51, hk_52⟩ : ∃ k : Nat, (CT cy a J (va_up I 99 m0_31) (va_up O 100 m1_31) (va_up (va_up R 4 m2_31) 6 m3_31) RO (LL ++ Y))[k]? = some (x1, .inr (2, [.int y1, .long al1, .long ac1])) := pixT hm1
          refine kWRa_i (As := [.long x0, .ref x1, .int ((m3_31 (nI i).toNatClampNeg) - (m3_31 (nI i).toNatClampNeg) / 9 * 9), .int ((m3_31 (nI i).toNatClampNeg) / 9)]) (rest := []) ⟨hx, hb, hml, hown, hts⟩ (t_X2_isOpenFlat l D cy _ (CT cy a J (va_up I 99 m0_31) (va_up O 100 m1_31) (va_up (va_up R 4 m2_31) 6 m3_31) RO (LL ++ Y)) k_51 x1 y1 al1 ac1 hk_52 x0 ((m3_31 (nI i).toNatClampNeg) - (m3_31 (nI i).toNatClampNeg) / 9 * 9) ((m3_31 (nI i).toNatClampNeg) / 9)) (va_cwS 4 hts gX2_measure_X2_isOpenFlat rfl rfl rfl (by decide +kernel) ⟨Nat.le_of_ble_eq_true rfl, Nat.le_of_ble_eq_true rfl⟩) hK hN hP hD rfl hl.1 rfl (Nat.le_of_ble_eq_true rfl) dX2_measure_89 ⟨Nat.le_of_ble_eq_true rfl, Nat.le_of_ble_eq_true rfl⟩ (fun r_53 hr_54 => ?_)
          obtain ⟨zb_55, rfl⟩ := hr_54
          refine lv_if_eq (tgt := 118) hx hb dX2_measure_92 (by decide) (fun c_56 => ?_) (fun c_56 => ?_)
          · replace c_56 := bI_f c_56
            exact lp118 ((m3_31 (nI i).toNatClampNeg) - (m3_31 (nI i).toNatClampNeg) / 9 * 9) ((m3_31 (nI i).toNatClampNeg) / 9) (m2_31 (m3_31 (nI i).toNatClampNeg).toNatClampNeg) m0_31 m1_31 m2_31 m3_31 hT hq hQ hlt_i  _ _ hP hD hS ls (lv_sub hl [3, 4, 5, 6, 7, 2, 1, 0] rfl)
          · replace c_56 := bI_t c_56
            refine lv_aload_n hx hb dX2_measure_95 rfl (lv_at hl 3 rfl) ?_
            refine lv_iload hx hb dX2_measure_96 (lv_at hl 2 rfl) ?_
            refine lv_iconst (v := 1) hx hb dX2_measure_98 (by decide) ?_
            refine lv_iadd hx hb dX2_measure_99 ?_
            refine lv_iload hx hb dX2_measure_100 (lv_at hl 1 rfl) ?_
            refine kS_i (As := [.int (((m3_31 (nI i).toNatClampNeg) - (m3_31 (nI i).toNatClampNeg) / 9 * 9) + 1), .int ((m3_31 (nI i).toNatClampNeg) / 9)]) (rest := [.ref (a 3)]) ⟨hx, hb, hml, hown, hts⟩ (c_X2_pointOf l (((m3_31 (nI i).toNatClampNeg) - (m3_31 (nI i).toNatClampNeg) / 9 * 9) + 1) ((m3_31 (nI i).toNatClampNeg) / 9)) (va_cwS 2 hts gX2_measure_X2_pointOf rfl rfl rfl (by decide +kernel) ⟨Nat.le_of_ble_eq_true rfl, Nat.le_of_ble_eq_true rfl⟩) rfl hl.1 rfl (Nat.le_of_ble_eq_true rfl) dX2_measure_102 ⟨Nat.le_of_ble_eq_true rfl, Nat.le_of_ble_eq_true rfl⟩ ?_
            refine lv_iload hx hb dX2_measure_105 (lv_at hl 0 rfl) ?_
            refine lv_iload hx hb dX2_measure_107 (lv_at hl 2 rfl) ?_
            refine lv_iload hx hb dX2_measure_109 (lv_at hl 1 rfl) ?_
            refine kSa_i (As := [.int ((m3_31 (nI i).toNatClampNeg) - (m3_31 (nI i).toNatClampNeg) / 9 * 9), .int ((m3_31 (nI i).toNatClampNeg) / 9)]) (rest := [.int (m2_31 (m3_31 (nI i).toNatClampNeg).toNatClampNeg), .int (9 * ((m3_31 (nI i).toNatClampNeg) / 9) + (((m3_31 (nI i).toNatClampNeg) - (m3_31 (nI i).toNatClampNeg) / 9 * 9) + 1)), .ref (a 3)]) ⟨hx, hb, hml, hown, hts⟩ (t_X2_riseRight l ((m3_31 (nI i).toNatClampNeg) - (m3_31 (nI i).toNatClampNeg) / 9 * 9) ((m3_31 (nI i).toNatClampNeg) / 9) ) (va_cwS 2 hts gX2_measure_X2_riseRight rfl rfl rfl (by decide +kernel) ⟨Nat.le_of_ble_eq_true rfl, Nat.le_of_ble_eq_true rfl⟩) rfl hl.1 rfl (Nat.le_of_ble_eq_true rfl) dX2_measure_111 ⟨Nat.le_of_ble_eq_true rfl, Nat.le_of_ble_eq_true rfl⟩ (fun r_57 hr_58 => ?_)
            refine lv_iadd hx hb dX2_measure_114 ?_
            refine kM_v (As := [.int (9 * ((m3_31 (nI i).toNatClampNeg) / 9) + (((m3_31 (nI i).toNatClampNeg) - (m3_31 (nI i).toNatClampNeg) / 9 * 9) + 1)), .int ((m2_31 (m3_31 (nI i).toNatClampNeg).toNatClampNeg) + r_57)]) (rest := []) (q0 := 3) ⟨hx, hb, hml, hown, hts⟩ (t_X2_reach4 l D cy a _ J (va_up I 99 m0_31) (va_up O 100 m1_31) (va_up (va_up R 4 m2_31) 6 m3_31) RO LL Y (9 * ((m3_31 (nI i).toNatClampNeg) / 9) + (((m3_31 (nI i).toNatClampNeg) - (m3_31 (nI i).toNatClampNeg) / 9 * 9) + 1)) ((m2_31 (m3_31 (nI i).toNatClampNeg).toNatClampNeg) + r_57) hT hq hQ  ) (cwV 2 hts gX2_measure_X2_reach rfl rfl rfl (by decide +kernel) ⟨Nat.le_of_ble_eq_true rfl, Nat.le_of_ble_eq_true rfl⟩) hK hN hP hD hS hA rfl rfl rfl hl.1 rfl (Nat.le_of_ble_eq_true rfl) dX2_measure_115 ⟨Nat.le_of_ble_eq_true rfl, Nat.le_of_ble_eq_true rfl⟩ (fun u H locs hw hP hD hS => ?_)
            obtain ⟨w_60, w_61, w_62, w_63, ⟨hp_64, hp_65, hp_66⟩, rfl⟩ := hw
            have hP : va_P D vwCl (CT cy a J (va_up I 99 w_60) (va_up O 100 w_61) (va_up (va_up R 4 w_62) 6 w_63) RO (LL ++ Y)) H := hP
            have hD : va_D A (CT cy a J (va_up I 99 w_60) (va_up O 100 w_61) (va_up (va_up R 4 w_62) 6 w_63) RO (LL ++ Y)) := hD
            exact lp118 ((m3_31 (nI i).toNatClampNeg) - (m3_31 (nI i).toNatClampNeg) / 9 * 9) ((m3_31 (nI i).toNatClampNeg) / 9) (m2_31 (m3_31 (nI i).toNatClampNeg).toNatClampNeg) w_60 w_61 w_62 w_63 hp_64 hp_65 hp_66 hlt_i  _ _ hP hD hS ls (lv_sub hl [3, 4, 5, 6, 7, 2, 1, 0] rfl)
  have hP : va_P D vwCl (CT cy a J (va_up I 99 (I 99)) (va_up O 100 (O 100)) (va_up (va_up R 4 (R 4)) 6 (R 6)) RO (LL ++ Y)) s.heap := hP
  have hD : va_D A (CT cy a J (va_up I 99 (I 99)) (va_up O 100 (O 100)) (va_up (va_up R 4 (R 4)) 6 (R 6)) RO (LL ++ Y)) := hD
  refine lv_aload hx hb dX2_measure_0 (lv_at hl 3 rfl) ?_
  refine lv_sipush (v := 1000) hx hb dX2_measure_2 (by decide) ?_
  refine kW_v (As := [.ref (a 4), .int 1000]) (rest := []) ⟨hx, hb, hml, hown, hts⟩ (t_fill4 l D cy a _ J (va_up I 99 (I 99)) (va_up O 100 (O 100)) (va_up (va_up R 4 (R 4)) 6 (R 6)) RO LL Y (1000 : Int32)   ) (va_cwS 2 hts gX2_measure_J7_fill_53178 rfl rfl rfl (by decide +kernel) ⟨Nat.le_of_ble_eq_true rfl, Nat.le_of_ble_eq_true rfl⟩) hK hN hP hD hS hA rfl hl.1 rfl (Nat.le_of_ble_eq_true rfl) dX2_measure_5 ⟨Nat.le_of_ble_eq_true rfl, Nat.le_of_ble_eq_true rfl⟩ (fun u H locs hw hP hD hS => ?_)
  obtain ⟨w_68, -, rfl⟩ := hw
  have hP : va_P D vwCl (CT cy a J (va_up I 99 (I 99)) (va_up O 100 (O 100)) (va_up (va_up R 4 w_68) 6 (R 6)) RO (LL ++ Y)) H := hP
  have hD : va_D A (CT cy a J (va_up I 99 (I 99)) (va_up O 100 (O 100)) (va_up (va_up R 4 w_68) 6 (R 6)) RO (LL ++ Y)) := hD
  refine lv_aload_n hx hb dX2_measure_8 rfl (lv_at hl 0 rfl) ?_
  refine lv_aload hx hb dX2_measure_9 (lv_at hl 3 rfl) ?_
  refine va_put (D := D) (ci := 1) (v := .ref (a 4)) (ty := .array .int) (C := RX2) (T := TX2) (N := 5) hx hb hts hi2 tyX2 tyX2_ok nmX2 hown hK hP hD hS 3 rfl rfl 4 (by decide) hw2 (fun _ h9 => h9) rfl (by decide +kernel) rfl rfl (Nat.le_of_ble_eq_true rfl) dX2_measure_11 (fun H locs hP hD hS => ?_)
  have hP : va_P D vwCl (CT cy a J (va_up I 99 (I 99)) (va_up O 100 (some (a 4))) (va_up (va_up R 4 w_68) 6 (R 6)) RO (LL ++ Y)) H := hP
  have hD : va_D A (CT cy a J (va_up I 99 (I 99)) (va_up O 100 (some (a 4))) (va_up (va_up R 4 w_68) 6 (R 6)) RO (LL ++ Y)) := hD
  refine lv_aload_n hx hb dX2_measure_14 rfl (lv_at hl 0 rfl) ?_
  refine lv_iconst (v := 0) hx hb dX2_measure_15 (by decide) ?_
  refine va_put (D := D) (ci := 1) (v := .int 0) (ty := .int) (C := RX2) (T := TX2) (N := 5) hx hb hts hi2 tyX2 tyX2_ok nmX2 hown hK hP hD hS 3 rfl rfl 3 (by decide) hw0 (fun _ h9 => h9) rfl (by decide +kernel) rfl rfl (Nat.le_of_ble_eq_true rfl) dX2_measure_16 (fun H locs hP hD hS => ?_)
  have hP : va_P D vwCl (CT cy a J (va_up I 99 0) (va_up O 100 (some (a 4))) (va_up (va_up R 4 w_68) 6 (R 6)) RO (LL ++ Y)) H := hP
  have hD : va_D A (CT cy a J (va_up I 99 0) (va_up O 100 (some (a 4))) (va_up (va_up R 4 w_68) 6 (R 6)) RO (LL ++ Y)) := hD
  refine lv_aload_n hx hb dX2_measure_19 rfl (lv_at hl 0 rfl) ?_
  refine lv_lload_n hx hb dX2_measure_20 rfl (lv_at hl 1 rfl) ?_
  refine kSa_i (As := [.long x0]) (rest := [.ref (a 3)]) ⟨hx, hb, hml, hown, hts⟩ (t_X2_firstPoint l x0 ) (va_cwS 1 hts gX2_measure_X2_firstPoint rfl rfl rfl (by decide +kernel) ⟨Nat.le_of_ble_eq_true rfl, Nat.le_of_ble_eq_true rfl⟩) rfl hl.1 rfl (Nat.le_of_ble_eq_true rfl) dX2_measure_21 ⟨Nat.le_of_ble_eq_true rfl, Nat.le_of_ble_eq_true rfl⟩ (fun r_69 hr_70 => ?_)
  refine lv_iconst (v := 0) hx hb dX2_measure_24 (by decide) ?_
  refine kM_v (As := [.int r_69, .int 0]) (rest := []) (q0 := 3) ⟨hx, hb, hml, hown, hts⟩ (t_X2_reach4 l D cy a _ J (va_up I 99 0) (va_up O 100 (some (a 4))) (va_up (va_up R 4 w_68) 6 (R 6)) RO LL Y r_69 (0 : Int32) rfl z82 hQ  ) (cwV 2 hts gX2_measure_X2_reach rfl rfl rfl (by decide +kernel) ⟨Nat.le_of_ble_eq_true rfl, Nat.le_of_ble_eq_true rfl⟩) hK hN hP hD hS hA rfl rfl rfl hl.1 rfl (Nat.le_of_ble_eq_true rfl) dX2_measure_25 ⟨Nat.le_of_ble_eq_true rfl, Nat.le_of_ble_eq_true rfl⟩ (fun u H locs hw hP hD hS => ?_)
  obtain ⟨w_72, w_73, w_74, w_75, ⟨hp_76, hp_77, hp_78⟩, rfl⟩ := hw
  have hP : va_P D vwCl (CT cy a J (va_up I 99 w_72) (va_up O 100 w_73) (va_up (va_up R 4 w_74) 6 w_75) RO (LL ++ Y)) H := hP
  have hD : va_D A (CT cy a J (va_up I 99 w_72) (va_up O 100 w_73) (va_up (va_up R 4 w_74) 6 w_75) RO (LL ++ Y)) := hD
  refine lv_iconst (v := 0) hx hb dX2_measure_28 (by decide) ?_
  refine lv_istore (lv' := [(5, .int 0), (0, .ref (a 3)), (1, .long x0), (3, .ref x1), (4, .ref (a 4))]) hx hb dX2_measure_29 hl (by decide) rfl (fun ls hl => ?_)
  exact lp31 _ 0 w_72 w_73 w_74 w_75 (by omega) hp_76 hp_77 hp_78 (Nat.lt_succ_self _) _ _ hP hD hS ls (lv_sub hl [1, 2, 3, 4, 0] rfl)
set_option maxHeartbeats 4000000 in
set_option maxRecDepth 100000 in
theorem t_X2_reach5 (l : Launch) (D : va_G) (cy : Nat → ClassId) (a : Nat → Nat) (sz : Nat) (J : Nat → Int64) (I : Nat → Int32) (O : Nat → Option Nat) (R : Nat → Nat → Int32) (RO : Nat → Nat → Option Nat) (LL : va_W) (Y : va_W) (x0 : Int32) (x1 : Int32) (hT : O 100 = some (a 5)) (hq : vp_in (I 99) 82) (hQ : ∀ i, i < 81 → vp_in (R 6 i) 81) : Met l yX2_reach wsX2_reach ({ frames := 0, cells := 0, slots := 0, locals := 0 }) (va_Pc [.ref (a 3), .int x0, .int x1] (PW D cy sz (CT cy a J I O R RO (LL ++ Y)))) (va_Qv (fun (u : TS) => ∃ (w0 : Int32), ∃ (w1 : Option Nat), ∃ (w2 : Nat → Int32), ∃ (w3 : Nat → Int32), ((w1 = some (a 5)) ∧ (vp_in w0 82) ∧ (∀ i, i < 81 → vp_in (w3 i) 81)) ∧ u = (J, (va_up I 99 w0), (va_up O 100 w1), (va_up (va_up R 5 w2) 6 w3), RO, LL, Y)) (BW D (va_A (CT cy a J I O R RO (LL ++ Y)) sz) (CTu cy a)) (va_A (CT cy a J I O R RO (LL ++ Y)) sz)) 0 0 (va_A (CT cy a J I O R RO (LL ++ Y)) sz) := by
  refine Met.ofW (cc := cX2_reach) (maxL := 3) (ret := none) (by decide) rfl ?_
  intro p e s m args below meth c s₁ B hml hv
  obtain ⟨rfl, rfl, hP, hK, hN, hD0⟩ := hv
  have hx := B.exec
  have hb := B.bytes
  have hr := B.returns
  have hts := atoms_spec (ws := wsX2_reach) B.pre
  have hown : s.vm.findClass RX2 = some m.cls := findClass_of_methodNamed B.named
  have hlocks := B.notSynchronized
  have hw0 := hts (.fieldLink RX2 19 "ParquetLayer$Heights" "target" "[I") (by decide +kernel)
  have hw1 := hts (.fieldLink RX2 38 "ParquetLayer$Heights" "queued" "I") (by decide +kernel)
  have hw2 := hts (.fieldLink RX2 16 "ParquetLayer$Heights" "queue" "[I") (by decide +kernel)
  have hi2 := ihX2_reach_2
  have hD := hD0.self (sz := s.heap.size)
  generalize hAe : va_A (CT cy a J I O R RO (LL ++ Y)) s.heap.size = A at hD ⊢
  have hA : ∀ q : Nat, s.heap.size ≤ q → A q := fun q h => by rw [← hAe]; exact Or.inr h
  have hS : va_S A s.heap s.heap [] := va_S.rf
  have hl := lv_entry ([.ref (a 3), .int x0, .int x1]) (n := 3) (Nat.le_of_ble_eq_true rfl)
  rw [lg_entry_eq]
  generalize (lg_sl ([.ref (a 3), .int x0, .int x1]) ++ List.replicate (3 - (lg_sl ([.ref (a 3), .int x0, .int x1])).length) Slot.unset).toArray = ls at hl ⊢
  have hl : lv_has ls 3 [(0, .ref (a 3)), (1, .int x0), (2, .int x1)] := hl
  have hP : va_P D vwCl (CT cy a J (va_up I 99 (I 99)) (va_up O 100 (O 100)) (va_up (va_up R 5 (R 5)) 6 (R 6)) RO (LL ++ Y)) s.heap := hP
  have hD : va_D A (CT cy a J (va_up I 99 (I 99)) (va_up O 100 (O 100)) (va_up (va_up R 5 (R 5)) 6 (R 6)) RO (LL ++ Y)) := hD
  rw [hT] at hP hD
  refine lv_iload_n hx hb dX2_reach_0 rfl (lv_at hl 1 rfl) ?_
  refine lv_if_lt (tgt := 58) hx hb dX2_reach_1 (by decide) (fun c_1 => ?_) (fun c_1 => ?_)
  · exact wret_v hx hb hr hlocks (J, (va_up I 99 (I 99)), (va_up O 100 (some (a 5))), (va_up (va_up R 5 (R 5)) 6 (R 6)), RO, LL, Y) ⟨(I 99), (some (a 5)), (R 5), (R 6), ⟨rfl, hq, hQ⟩, rfl⟩ hP hD hS dX2_reach_58
  · refine lv_iload_n hx hb dX2_reach_4 rfl (lv_at hl 1 rfl) ?_
    refine lv_bipush (v := 81) hx hb dX2_reach_5 (by decide) ?_
    refine lv_icmp_ge (tgt := 58) hx hb dX2_reach_7 (by decide) (fun c_2 => ?_) (fun c_2 => ?_)
    · exact wret_v hx hb hr hlocks (J, (va_up I 99 (I 99)), (va_up O 100 (some (a 5))), (va_up (va_up R 5 (R 5)) 6 (R 6)), RO, LL, Y) ⟨(I 99), (some (a 5)), (R 5), (R 6), ⟨rfl, hq, hQ⟩, rfl⟩ hP hD hS dX2_reach_58
    · refine lv_aload_n hx hb dX2_reach_10 rfl (lv_at hl 0 rfl) ?_
      refine va_get (D := D) (ci := 1) (v := .ref (a 5)) (C := RX2) (T := TX2) (N := 5) hx hb hts hi2 hown hK hP 3 rfl rfl 4 (by decide) hw0 (fun _ h9 => h9) rfl dX2_reach_11 ?_
      refine lv_iload_n hx hb dX2_reach_14 rfl (lv_at hl 1 rfl) ?_
      refine va_iald hx hb hK hP 5 0 rfl rfl (in81f c_1 c_2) dX2_reach_15 ?_
      refine lv_sipush (v := 1000) hx hb dX2_reach_16 (by decide) ?_
      refine lv_icmp_ne (tgt := 58) hx hb dX2_reach_19 (by decide) (fun c_3 => ?_) (fun c_3 => ?_)
      · exact wret_v hx hb hr hlocks (J, (va_up I 99 (I 99)), (va_up O 100 (some (a 5))), (va_up (va_up R 5 (R 5)) 6 (R 6)), RO, LL, Y) ⟨(I 99), (some (a 5)), (R 5), (R 6), ⟨rfl, hq, hQ⟩, rfl⟩ hP hD hS dX2_reach_58
      · refine lv_aload_n hx hb dX2_reach_22 rfl (lv_at hl 0 rfl) ?_
        refine va_get (D := D) (ci := 1) (v := .int (I 99)) (C := RX2) (T := TX2) (N := 5) hx hb hts hi2 hown hK hP 3 rfl rfl 3 (by decide) hw1 (fun _ h9 => h9) rfl dX2_reach_23 ?_
        refine lv_bipush (v := 81) hx hb dX2_reach_26 (by decide) ?_
        refine lv_icmp_ge (tgt := 58) hx hb dX2_reach_28 (by decide) (fun c_4 => ?_) (fun c_4 => ?_)
        · exact wret_v hx hb hr hlocks (J, (va_up I 99 (I 99)), (va_up O 100 (some (a 5))), (va_up (va_up R 5 (R 5)) 6 (R 6)), RO, LL, Y) ⟨(I 99), (some (a 5)), (R 5), (R 6), ⟨rfl, hq, hQ⟩, rfl⟩ hP hD hS dX2_reach_58
        · refine lv_aload_n hx hb dX2_reach_31 rfl (lv_at hl 0 rfl) ?_
          refine va_get (D := D) (ci := 1) (v := .ref (a 5)) (C := RX2) (T := TX2) (N := 5) hx hb hts hi2 hown hK hP 3 rfl rfl 4 (by decide) hw0 (fun _ h9 => h9) rfl dX2_reach_32 ?_
          refine lv_iload_n hx hb dX2_reach_35 rfl (lv_at hl 1 rfl) ?_
          refine lv_iload_n hx hb dX2_reach_36 rfl (lv_at hl 2 rfl) ?_
          refine va_iast hx hb hK hP hD hS 5 0 rfl rfl (in81f c_1 c_2) dX2_reach_37 (fun H locs hP hD hS => ?_)
          have hP : va_P D vwCl (CT cy a J (va_up I 99 (I 99)) (va_up O 100 (some (a 5))) (va_up (va_up R 5 (upd (R 5) x0.toNatClampNeg x1)) 6 (R 6)) RO (LL ++ Y)) H := hP
          have hD : va_D A (CT cy a J (va_up I 99 (I 99)) (va_up O 100 (some (a 5))) (va_up (va_up R 5 (upd (R 5) x0.toNatClampNeg x1)) 6 (R 6)) RO (LL ++ Y)) := hD
          refine lv_aload_n hx hb dX2_reach_38 rfl (lv_at hl 0 rfl) ?_
          refine va_get (D := D) (ci := 1) (v := .ref (a 6)) (C := RX2) (T := TX2) (N := 5) hx hb hts hi2 hown hK hP 3 rfl rfl 2 (by decide) hw2 (fun _ h9 => h9) rfl dX2_reach_39 ?_
          refine lv_aload_n hx hb dX2_reach_42 rfl (lv_at hl 0 rfl) ?_
          refine va_get (D := D) (ci := 1) (v := .int (I 99)) (C := RX2) (T := TX2) (N := 5) hx hb hts hi2 hown hK hP 3 rfl rfl 3 (by decide) hw1 (fun _ h9 => h9) rfl dX2_reach_43 ?_
          refine lv_iload_n hx hb dX2_reach_46 rfl (lv_at hl 1 rfl) ?_
          refine va_iast hx hb hK hP hD hS 6 0 rfl rfl (q81 hq c_4) dX2_reach_47 (fun H locs hP hD hS => ?_)
          have hP : va_P D vwCl (CT cy a J (va_up I 99 (I 99)) (va_up O 100 (some (a 5))) (va_up (va_up R 5 (upd (R 5) x0.toNatClampNeg x1)) 6 (upd (R 6) (I 99).toNatClampNeg x0)) RO (LL ++ Y)) H := hP
          have hD : va_D A (CT cy a J (va_up I 99 (I 99)) (va_up O 100 (some (a 5))) (va_up (va_up R 5 (upd (R 5) x0.toNatClampNeg x1)) 6 (upd (R 6) (I 99).toNatClampNeg x0)) RO (LL ++ Y)) := hD
          refine lv_aload_n hx hb dX2_reach_48 rfl (lv_at hl 0 rfl) ?_
          refine lv_dup hx hb dX2_reach_49 rfl ?_
          refine va_get (D := D) (ci := 1) (v := .int (I 99)) (C := RX2) (T := TX2) (N := 5) hx hb hts hi2 hown hK hP 3 rfl rfl 3 (by decide) hw1 (fun _ h9 => h9) rfl dX2_reach_50 ?_
          refine lv_iconst (v := 1) hx hb dX2_reach_53 (by decide) ?_
          refine lv_iadd hx hb dX2_reach_54 ?_
          refine va_put (D := D) (ci := 1) (v := .int ((I 99) + 1)) (ty := .int) (C := RX2) (T := TX2) (N := 5) hx hb hts hi2 tyX2 tyX2_ok nmX2 hown hK hP hD hS 3 rfl rfl 3 (by decide) hw1 (fun _ h9 => h9) rfl (by decide +kernel) rfl rfl (Nat.le_of_ble_eq_true rfl) dX2_reach_55 (fun H locs hP hD hS => ?_)
          have hP : va_P D vwCl (CT cy a J (va_up I 99 ((I 99) + 1)) (va_up O 100 (some (a 5))) (va_up (va_up R 5 (upd (R 5) x0.toNatClampNeg x1)) 6 (upd (R 6) (I 99).toNatClampNeg x0)) RO (LL ++ Y)) H := hP
          have hD : va_D A (CT cy a J (va_up I 99 ((I 99) + 1)) (va_up O 100 (some (a 5))) (va_up (va_up R 5 (upd (R 5) x0.toNatClampNeg x1)) 6 (upd (R 6) (I 99).toNatClampNeg x0)) RO (LL ++ Y)) := hD
          exact wret_v hx hb hr hlocks (J, (va_up I 99 ((I 99) + 1)), (va_up O 100 (some (a 5))), (va_up (va_up R 5 (upd (R 5) x0.toNatClampNeg x1)) 6 (upd (R 6) (I 99).toNatClampNeg x0)), RO, LL, Y) ⟨((I 99) + 1), (some (a 5)), (upd (R 5) x0.toNatClampNeg x1), (upd (R 6) (I 99).toNatClampNeg x0), ⟨rfl, (q82 (q81 hq c_4)), (all81 hQ (in81f c_1 c_2))⟩, rfl⟩ hP hD hS dX2_reach_58
set_option maxHeartbeats 4000000 in
set_option maxRecDepth 100000 in
theorem t_X2_measure5 (l : Launch) (D : va_G) (cy : Nat → ClassId) (a : Nat → Nat) (sz : Nat) (J : Nat → Int64) (I : Nat → Int32) (O : Nat → Option Nat) (R : Nat → Nat → Int32) (RO : Nat → Nat → Option Nat) (LL : va_W) (Y : va_W) (x0 : Int64) (x1 : Nat) (y1 : Int32) (al1 ac1 : Int64) (hm1 : laC x1 y1 al1 ac1 ∈ Y) (hQ : ∀ i, i < 81 → vp_in (R 6 i) 81) : Met l yX2_measure wsX2_measure ({ frames := 3, cells := 0, slots := 0, locals := 69 }) (va_Pc [.ref (a 3), .long x0, .ref x1, .ref (a 5)] (PW D cy sz (CT cy a J I O R RO (LL ++ Y)))) (va_Qv (fun (u : TS) => ∃ (w0 : Int32), ∃ (w1 : Option Nat), ∃ (w2 : Nat → Int32), ∃ (w3 : Nat → Int32), ((∀ i, i < 81 → vp_in (w3 i) 81)) ∧ u = (J, (va_up I 99 w0), (va_up O 100 w1), (va_up (va_up R 5 w2) 6 w3), RO, LL, Y)) (BW D (va_A (CT cy a J I O R RO (LL ++ Y)) sz) (CTu cy a)) (va_A (CT cy a J I O R RO (LL ++ Y)) sz)) 0 0 (va_A (CT cy a J I O R RO (LL ++ Y)) sz) := by
  refine Met.ofW (cc := cX2_measure) (maxL := 9) (ret := none) (by decide) rfl ?_
  intro p e s m args below meth c s₁ B hml hv
  obtain ⟨rfl, rfl, hP, hK, hN, hD0⟩ := hv
  have hx := B.exec
  have hb := B.bytes
  have hr := B.returns
  have hts := atoms_spec (ws := wsX2_measure) B.pre
  have hown : s.vm.findClass RX2 = some m.cls := findClass_of_methodNamed B.named
  have hlocks := B.notSynchronized
  have hw0 := hts (.fieldLink RX2 38 "ParquetLayer$Heights" "queued" "I") (by decide +kernel)
  have hw1 := hts (.fieldLink RX2 16 "ParquetLayer$Heights" "queue" "[I") (by decide +kernel)
  have hw2 := hts (.fieldLink RX2 19 "ParquetLayer$Heights" "target" "[I") (by decide +kernel)
  have hi2 := ihX2_measure_2
  have hD := hD0.self (sz := s.heap.size)
  generalize hAe : va_A (CT cy a J I O R RO (LL ++ Y)) s.heap.size = A at hD ⊢
  have hA : ∀ q : Nat, s.heap.size ≤ q → A q := fun q h => by rw [← hAe]; exact Or.inr h
  have hS : va_S A s.heap s.heap [] := va_S.rf
  have hl := lv_entry ([.ref (a 3), .long x0, .ref x1, .ref (a 5)]) (n := 9) (Nat.le_of_ble_eq_true rfl)
  rw [lg_entry_eq]
  generalize (lg_sl ([.ref (a 3), .long x0, .ref x1, .ref (a 5)]) ++ List.replicate (9 - (lg_sl ([.ref (a 3), .long x0, .ref x1, .ref (a 5)])).length) Slot.unset).toArray = ls at hl ⊢
  have hl : lv_has ls 9 [(0, .ref (a 3)), (1, .long x0), (3, .ref x1), (4, .ref (a 5))] := hl
  have lp31 : ∀ (n31 : Nat), ∀ (i : Nat) (m0_31 : Int32) (m1_31 : Option Nat) (m2_31 : Nat → Int32) (m3_31 : Nat → Int32), (i ≤ 81) → (m1_31 = some (a 5)) → (vp_in m0_31 82) → (∀ i, i < 81 → vp_in (m3_31 i) 81) → (81 - i) < n31 → ∀ (H : Heap) (locs : List Loc), va_P D vwCl (CT cy a J (va_up I 99 m0_31) (va_up O 100 m1_31) (va_up (va_up R 5 m2_31) 6 m3_31) RO (LL ++ Y)) H → va_D A (CT cy a J (va_up I 99 m0_31) (va_up O 100 m1_31) (va_up (va_up R 5 m2_31) 6 m3_31) RO (LL ++ Y)) → va_S A s.heap H locs → ∀ (ls : Array Slot), lv_has ls 9 [(0, .ref (a 3)), (1, .long x0), (3, .ref x1), (4, .ref (a 5)), (5, .int (nI i))] → W p l e (headSpec wsX2_measure ({ frames := 3, cells := 0, slots := 0, locals := 69 })).room s m ([.ref (a 3), .long x0, .ref x1, .ref (a 5)] : List Value).toArray below meth c H locs 0 0 (MQ below (va_Qv (fun (u : TS) => ∃ (w0 : Int32), ∃ (w1 : Option Nat), ∃ (w2 : Nat → Int32), ∃ (w3 : Nat → Int32), ((∀ i, i < 81 → vp_in (w3 i) 81)) ∧ u = (J, (va_up I 99 w0), (va_up O 100 w1), (va_up (va_up R 5 w2) 6 w3), RO, LL, Y)) (BW D A (CTu cy a)) A) ([.ref (a 3), .long x0, .ref x1, .ref (a 5)] : List Value).toArray s 0 0 A) (F0 m 31 ls []) := by
    intro n31
    induction n31 with
    | zero => intro i m0_31 m1_31 m2_31 m3_31 hi hT hq hQ hn; exact absurd hn (Nat.not_lt_zero _)
    | succ n31 ih31 =>
      intro i m0_31 m1_31 m2_31 m3_31 hi hT hq hQ hn31 H locs hP hD hS ls hl
      have lp118 : ∀ (v6_118 : Int32) (v7_118 : Int32) (v8_118 : Int32) (m0_118 : Int32) (m1_118 : Option Nat) (m2_118 : Nat → Int32) (m3_118 : Nat → Int32), (m1_118 = some (a 5)) → (vp_in m0_118 82) → (∀ i, i < 81 → vp_in (m3_118 i) 81) → (i < 81) → ∀ (H : Heap) (locs : List Loc), va_P D vwCl (CT cy a J (va_up I 99 m0_118) (va_up O 100 m1_118) (va_up (va_up R 5 m2_118) 6 m3_118) RO (LL ++ Y)) H → va_D A (CT cy a J (va_up I 99 m0_118) (va_up O 100 m1_118) (va_up (va_up R 5 m2_118) 6 m3_118) RO (LL ++ Y)) → va_S A s.heap H locs → ∀ (ls : Array Slot), lv_has ls 9 [(0, .ref (a 3)), (1, .long x0), (3, .ref x1), (4, .ref (a 5)), (5, .int (nI i)), (6, .int v6_118), (7, .int v7_118), (8, .int v8_118)] → W p l e (headSpec wsX2_measure ({ frames := 3, cells := 0, slots := 0, locals := 69 })).room s m ([.ref (a 3), .long x0, .ref x1, .ref (a 5)] : List Value).toArray below meth c H locs 0 0 (MQ below (va_Qv (fun (u : TS) => ∃ (w0 : Int32), ∃ (w1 : Option Nat), ∃ (w2 : Nat → Int32), ∃ (w3 : Nat → Int32), ((∀ i, i < 81 → vp_in (w3 i) 81)) ∧ u = (J, (va_up I 99 w0), (va_up O 100 w1), (va_up (va_up R 5 w2) 6 w3), RO, LL, Y)) (BW D A (CTu cy a)) A) ([.ref (a 3), .long x0, .ref x1, .ref (a 5)] : List Value).toArray s 0 0 A) (F0 m 118 ls []) := by
        intro v6_118 v7_118 v8_118 m0_118 m1_118 m2_118 m3_118 hT hq hQ hlt_i H locs hP hD hS ls hl
        have lp157 : ∀ (v6_157 : Int32) (v7_157 : Int32) (v8_157 : Int32) (m0_157 : Int32) (m1_157 : Option Nat) (m2_157 : Nat → Int32) (m3_157 : Nat → Int32), (m1_157 = some (a 5)) → (vp_in m0_157 82) → (∀ i, i < 81 → vp_in (m3_157 i) 81) → (i < 81) → ∀ (H : Heap) (locs : List Loc), va_P D vwCl (CT cy a J (va_up I 99 m0_157) (va_up O 100 m1_157) (va_up (va_up R 5 m2_157) 6 m3_157) RO (LL ++ Y)) H → va_D A (CT cy a J (va_up I 99 m0_157) (va_up O 100 m1_157) (va_up (va_up R 5 m2_157) 6 m3_157) RO (LL ++ Y)) → va_S A s.heap H locs → ∀ (ls : Array Slot), lv_has ls 9 [(0, .ref (a 3)), (1, .long x0), (3, .ref x1), (4, .ref (a 5)), (5, .int (nI i)), (6, .int v6_157), (7, .int v7_157), (8, .int v8_157)] → W p l e (headSpec wsX2_measure ({ frames := 3, cells := 0, slots := 0, locals := 69 })).room s m ([.ref (a 3), .long x0, .ref x1, .ref (a 5)] : List Value).toArray below meth c H locs 0 0 (MQ below (va_Qv (fun (u : TS) => ∃ (w0 : Int32), ∃ (w1 : Option Nat), ∃ (w2 : Nat → Int32), ∃ (w3 : Nat → Int32), ((∀ i, i < 81 → vp_in (w3 i) 81)) ∧ u = (J, (va_up I 99 w0), (va_up O 100 w1), (va_up (va_up R 5 w2) 6 w3), RO, LL, Y)) (BW D A (CTu cy a)) A) ([.ref (a 3), .long x0, .ref x1, .ref (a 5)] : List Value).toArray s 0 0 A) (F0 m 157 ls []) := by
          intro v6_157 v7_157 v8_157 m0_157 m1_157 m2_157 m3_157 hT hq hQ hlt_i H locs hP hD hS ls hl
          have lp192 : ∀ (v6_192 : Int32) (v7_192 : Int32) (v8_192 : Int32) (m0_192 : Int32) (m1_192 : Option Nat) (m2_192 : Nat → Int32) (m3_192 : Nat → Int32), (m1_192 = some (a 5)) → (vp_in m0_192 82) → (∀ i, i < 81 → vp_in (m3_192 i) 81) → (i < 81) → ∀ (H : Heap) (locs : List Loc), va_P D vwCl (CT cy a J (va_up I 99 m0_192) (va_up O 100 m1_192) (va_up (va_up R 5 m2_192) 6 m3_192) RO (LL ++ Y)) H → va_D A (CT cy a J (va_up I 99 m0_192) (va_up O 100 m1_192) (va_up (va_up R 5 m2_192) 6 m3_192) RO (LL ++ Y)) → va_S A s.heap H locs → ∀ (ls : Array Slot), lv_has ls 9 [(0, .ref (a 3)), (1, .long x0), (3, .ref x1), (4, .ref (a 5)), (5, .int (nI i)), (6, .int v6_192), (7, .int v7_192), (8, .int v8_192)] → W p l e (headSpec wsX2_measure ({ frames := 3, cells := 0, slots := 0, locals := 69 })).room s m ([.ref (a 3), .long x0, .ref x1, .ref (a 5)] : List Value).toArray below meth c H locs 0 0 (MQ below (va_Qv (fun (u : TS) => ∃ (w0 : Int32), ∃ (w1 : Option Nat), ∃ (w2 : Nat → Int32), ∃ (w3 : Nat → Int32), ((∀ i, i < 81 → vp_in (w3 i) 81)) ∧ u = (J, (va_up I 99 w0), (va_up O 100 w1), (va_up (va_up R 5 w2) 6 w3), RO, LL, Y)) (BW D A (CTu cy a)) A) ([.ref (a 3), .long x0, .ref x1, .ref (a 5)] : List Value).toArray s 0 0 A) (F0 m 192 ls []) := by
            intro v6_192 v7_192 v8_192 m0_192 m1_192 m2_192 m3_192 hT hq hQ hlt_i H locs hP hD hS ls hl
            refine lv_lload_n hx hb dX2_measure_192 rfl (lv_at hl 1 rfl) ?_
            refine lv_aload_n hx hb dX2_measure_193 rfl (lv_at hl 2 rfl) ?_
            refine lv_iload hx hb dX2_measure_194 (lv_at hl 5 rfl) ?_
            refine lv_iload hx hb dX2_measure_196 (lv_at hl 6 rfl) ?_
            refine lv_iconst (v := 1) hx hb dX2_measure_198 (by decide) ?_
            refine lv_isub hx hb dX2_measure_199 ?_
            obtain ⟨k_1, hk_2⟩ : ∃ k : Nat, (CT cy a J (va_up I 99 m0_192) (va_up O 100 m1_192) (va_up (va_up R 5 m2_192) 6 m3_192) RO (LL ++ Y))[k]? = some (x1, .inr (2, [.int y1, .long al1, .long ac1])) := pixT hm1
            refine kWRa_i (As := [.long x0, .ref x1, .int v6_192, .int (v7_192 - 1)]) (rest := []) ⟨hx, hb, hml, hown, hts⟩ (t_X2_isOpenSteep l D cy _ (CT cy a J (va_up I 99 m0_192) (va_up O 100 m1_192) (va_up (va_up R 5 m2_192) 6 m3_192) RO (LL ++ Y)) k_1 x1 y1 al1 ac1 hk_2 x0 v6_192 (v7_192 - 1)) (va_cwS 4 hts gX2_measure_X2_isOpenSteep rfl rfl rfl (by decide +kernel) ⟨Nat.le_of_ble_eq_true rfl, Nat.le_of_ble_eq_true rfl⟩) hK hN hP hD rfl hl.1 rfl (Nat.le_of_ble_eq_true rfl) dX2_measure_200 ⟨Nat.le_of_ble_eq_true rfl, Nat.le_of_ble_eq_true rfl⟩ (fun r_3 hr_4 => ?_)
            obtain ⟨zb_5, rfl⟩ := hr_4
            refine lv_if_eq (tgt := 231) hx hb dX2_measure_203 (by decide) (fun c_6 => ?_) (fun c_6 => ?_)
            · replace c_6 := bI_f c_6
              refine lv_iinc (v := nI (i + 1)) (lv' := [(5, .int (nI (i + 1))), (0, .ref (a 3)), (1, .long x0), (3, .ref x1), (4, .ref (a 5)), (6, .int v6_192), (7, .int v7_192), (8, .int v8_192)]) hx hb dX2_measure_231 hl (k := 4) rfl (nI_1 _) (by decide) rfl (fun ls hl => ?_)
              refine lv_goto (tgt := 31) hx hb dX2_measure_234 (by decide) ?_
              exact ih31 (i + 1) m0_192 m1_192 m2_192 m3_192 (by omega) hT hq hQ (by omega) _ _ hP hD hS ls (lv_sub hl [1, 2, 3, 4, 0] rfl)
            · replace c_6 := bI_t c_6
              refine lv_aload_n hx hb dX2_measure_206 rfl (lv_at hl 0 rfl) ?_
              refine lv_iload hx hb dX2_measure_207 (lv_at hl 5 rfl) ?_
              refine lv_iload hx hb dX2_measure_209 (lv_at hl 6 rfl) ?_
              refine lv_iconst (v := 1) hx hb dX2_measure_211 (by decide) ?_
              refine lv_isub hx hb dX2_measure_212 ?_
              refine kS_i (As := [.int v6_192, .int (v7_192 - 1)]) (rest := [.ref (a 3)]) ⟨hx, hb, hml, hown, hts⟩ (c_X2_pointOf l v6_192 (v7_192 - 1)) (va_cwS 2 hts gX2_measure_X2_pointOf rfl rfl rfl (by decide +kernel) ⟨Nat.le_of_ble_eq_true rfl, Nat.le_of_ble_eq_true rfl⟩) rfl hl.1 rfl (Nat.le_of_ble_eq_true rfl) dX2_measure_213 ⟨Nat.le_of_ble_eq_true rfl, Nat.le_of_ble_eq_true rfl⟩ ?_
              refine lv_iload hx hb dX2_measure_216 (lv_at hl 7 rfl) ?_
              refine lv_iload hx hb dX2_measure_218 (lv_at hl 5 rfl) ?_
              refine lv_iload hx hb dX2_measure_220 (lv_at hl 6 rfl) ?_
              refine lv_iconst (v := 1) hx hb dX2_measure_222 (by decide) ?_
              refine lv_isub hx hb dX2_measure_223 ?_
              refine kSa_i (As := [.int v6_192, .int (v7_192 - 1)]) (rest := [.int v8_192, .int (9 * (v7_192 - 1) + v6_192), .ref (a 3)]) ⟨hx, hb, hml, hown, hts⟩ (t_X2_riseRight l v6_192 (v7_192 - 1) ) (va_cwS 2 hts gX2_measure_X2_riseRight rfl rfl rfl (by decide +kernel) ⟨Nat.le_of_ble_eq_true rfl, Nat.le_of_ble_eq_true rfl⟩) rfl hl.1 rfl (Nat.le_of_ble_eq_true rfl) dX2_measure_224 ⟨Nat.le_of_ble_eq_true rfl, Nat.le_of_ble_eq_true rfl⟩ (fun r_7 hr_8 => ?_)
              refine lv_iadd hx hb dX2_measure_227 ?_
              refine kM_v (As := [.int (9 * (v7_192 - 1) + v6_192), .int (v8_192 + r_7)]) (rest := []) (q0 := 3) ⟨hx, hb, hml, hown, hts⟩ (t_X2_reach5 l D cy a _ J (va_up I 99 m0_192) (va_up O 100 m1_192) (va_up (va_up R 5 m2_192) 6 m3_192) RO LL Y (9 * (v7_192 - 1) + v6_192) (v8_192 + r_7) hT hq hQ  ) (cwV 2 hts gX2_measure_X2_reach rfl rfl rfl (by decide +kernel) ⟨Nat.le_of_ble_eq_true rfl, Nat.le_of_ble_eq_true rfl⟩) hK hN hP hD hS hA rfl rfl rfl hl.1 rfl (Nat.le_of_ble_eq_true rfl) dX2_measure_228 ⟨Nat.le_of_ble_eq_true rfl, Nat.le_of_ble_eq_true rfl⟩ (fun u H locs hw hP hD hS => ?_)
              obtain ⟨w_10, w_11, w_12, w_13, ⟨hp_14, hp_15, hp_16⟩, rfl⟩ := hw
              have hP : va_P D vwCl (CT cy a J (va_up I 99 w_10) (va_up O 100 w_11) (va_up (va_up R 5 w_12) 6 w_13) RO (LL ++ Y)) H := hP
              have hD : va_D A (CT cy a J (va_up I 99 w_10) (va_up O 100 w_11) (va_up (va_up R 5 w_12) 6 w_13) RO (LL ++ Y)) := hD
              refine lv_iinc (v := nI (i + 1)) (lv' := [(5, .int (nI (i + 1))), (0, .ref (a 3)), (1, .long x0), (3, .ref x1), (4, .ref (a 5)), (6, .int v6_192), (7, .int v7_192), (8, .int v8_192)]) hx hb dX2_measure_231 hl (k := 4) rfl (nI_1 _) (by decide) rfl (fun ls hl => ?_)
              refine lv_goto (tgt := 31) hx hb dX2_measure_234 (by decide) ?_
              exact ih31 (i + 1) w_10 w_11 w_12 w_13 (by omega) hp_14 hp_15 hp_16 (by omega) _ _ hP hD hS ls (lv_sub hl [1, 2, 3, 4, 0] rfl)
          refine lv_lload_n hx hb dX2_measure_157 rfl (lv_at hl 1 rfl) ?_
          refine lv_aload_n hx hb dX2_measure_158 rfl (lv_at hl 2 rfl) ?_
          refine lv_iload hx hb dX2_measure_159 (lv_at hl 5 rfl) ?_
          refine lv_iload hx hb dX2_measure_161 (lv_at hl 6 rfl) ?_
          obtain ⟨k_17, hk_18⟩ : ∃ k : Nat, (CT cy a J (va_up I 99 m0_157) (va_up O 100 m1_157) (va_up (va_up R 5 m2_157) 6 m3_157) RO (LL ++ Y))[k]? = some (x1, .inr (2, [.int y1, .long al1, .long ac1])) := pixT hm1
          refine kWRa_i (As := [.long x0, .ref x1, .int v6_157, .int v7_157]) (rest := []) ⟨hx, hb, hml, hown, hts⟩ (t_X2_isOpenSteep l D cy _ (CT cy a J (va_up I 99 m0_157) (va_up O 100 m1_157) (va_up (va_up R 5 m2_157) 6 m3_157) RO (LL ++ Y)) k_17 x1 y1 al1 ac1 hk_18 x0 v6_157 v7_157) (va_cwS 4 hts gX2_measure_X2_isOpenSteep rfl rfl rfl (by decide +kernel) ⟨Nat.le_of_ble_eq_true rfl, Nat.le_of_ble_eq_true rfl⟩) hK hN hP hD rfl hl.1 rfl (Nat.le_of_ble_eq_true rfl) dX2_measure_163 ⟨Nat.le_of_ble_eq_true rfl, Nat.le_of_ble_eq_true rfl⟩ (fun r_19 hr_20 => ?_)
          obtain ⟨zb_21, rfl⟩ := hr_20
          refine lv_if_eq (tgt := 192) hx hb dX2_measure_166 (by decide) (fun c_22 => ?_) (fun c_22 => ?_)
          · replace c_22 := bI_f c_22
            exact lp192 v6_157 v7_157 v8_157 m0_157 m1_157 m2_157 m3_157 hT hq hQ hlt_i  _ _ hP hD hS ls (lv_sub hl [0, 1, 2, 3, 4, 5, 6, 7] rfl)
          · replace c_22 := bI_t c_22
            refine lv_aload_n hx hb dX2_measure_169 rfl (lv_at hl 0 rfl) ?_
            refine lv_iload hx hb dX2_measure_170 (lv_at hl 5 rfl) ?_
            refine lv_iload hx hb dX2_measure_172 (lv_at hl 6 rfl) ?_
            refine lv_iconst (v := 1) hx hb dX2_measure_174 (by decide) ?_
            refine lv_iadd hx hb dX2_measure_175 ?_
            refine kS_i (As := [.int v6_157, .int (v7_157 + 1)]) (rest := [.ref (a 3)]) ⟨hx, hb, hml, hown, hts⟩ (c_X2_pointOf l v6_157 (v7_157 + 1)) (va_cwS 2 hts gX2_measure_X2_pointOf rfl rfl rfl (by decide +kernel) ⟨Nat.le_of_ble_eq_true rfl, Nat.le_of_ble_eq_true rfl⟩) rfl hl.1 rfl (Nat.le_of_ble_eq_true rfl) dX2_measure_176 ⟨Nat.le_of_ble_eq_true rfl, Nat.le_of_ble_eq_true rfl⟩ ?_
            refine lv_iload hx hb dX2_measure_179 (lv_at hl 7 rfl) ?_
            refine lv_iload hx hb dX2_measure_181 (lv_at hl 5 rfl) ?_
            refine lv_iload hx hb dX2_measure_183 (lv_at hl 6 rfl) ?_
            refine kSa_i (As := [.int v6_157, .int v7_157]) (rest := [.int v8_157, .int (9 * (v7_157 + 1) + v6_157), .ref (a 3)]) ⟨hx, hb, hml, hown, hts⟩ (t_X2_riseRight l v6_157 v7_157 ) (va_cwS 2 hts gX2_measure_X2_riseRight rfl rfl rfl (by decide +kernel) ⟨Nat.le_of_ble_eq_true rfl, Nat.le_of_ble_eq_true rfl⟩) rfl hl.1 rfl (Nat.le_of_ble_eq_true rfl) dX2_measure_185 ⟨Nat.le_of_ble_eq_true rfl, Nat.le_of_ble_eq_true rfl⟩ (fun r_23 hr_24 => ?_)
            refine lv_isub hx hb dX2_measure_188 ?_
            refine kM_v (As := [.int (9 * (v7_157 + 1) + v6_157), .int (v8_157 - r_23)]) (rest := []) (q0 := 3) ⟨hx, hb, hml, hown, hts⟩ (t_X2_reach5 l D cy a _ J (va_up I 99 m0_157) (va_up O 100 m1_157) (va_up (va_up R 5 m2_157) 6 m3_157) RO LL Y (9 * (v7_157 + 1) + v6_157) (v8_157 - r_23) hT hq hQ  ) (cwV 2 hts gX2_measure_X2_reach rfl rfl rfl (by decide +kernel) ⟨Nat.le_of_ble_eq_true rfl, Nat.le_of_ble_eq_true rfl⟩) hK hN hP hD hS hA rfl rfl rfl hl.1 rfl (Nat.le_of_ble_eq_true rfl) dX2_measure_189 ⟨Nat.le_of_ble_eq_true rfl, Nat.le_of_ble_eq_true rfl⟩ (fun u H locs hw hP hD hS => ?_)
            obtain ⟨w_26, w_27, w_28, w_29, ⟨hp_30, hp_31, hp_32⟩, rfl⟩ := hw
            have hP : va_P D vwCl (CT cy a J (va_up I 99 w_26) (va_up O 100 w_27) (va_up (va_up R 5 w_28) 6 w_29) RO (LL ++ Y)) H := hP
            have hD : va_D A (CT cy a J (va_up I 99 w_26) (va_up O 100 w_27) (va_up (va_up R 5 w_28) 6 w_29) RO (LL ++ Y)) := hD
            exact lp192 v6_157 v7_157 v8_157 w_26 w_27 w_28 w_29 hp_30 hp_31 hp_32 hlt_i  _ _ hP hD hS ls (lv_sub hl [0, 1, 2, 3, 4, 5, 6, 7] rfl)
        refine lv_lload_n hx hb dX2_measure_118 rfl (lv_at hl 1 rfl) ?_
        refine lv_aload_n hx hb dX2_measure_119 rfl (lv_at hl 2 rfl) ?_
        refine lv_iload hx hb dX2_measure_120 (lv_at hl 5 rfl) ?_
        refine lv_iconst (v := 1) hx hb dX2_measure_122 (by decide) ?_
        refine lv_isub hx hb dX2_measure_123 ?_
        refine lv_iload hx hb dX2_measure_124 (lv_at hl 6 rfl) ?_
        obtain ⟨k_33, hk_34⟩ : ∃ k : Nat, (CT cy a J (va_up I 99 m0_118) (va_up O 100 m1_118) (va_up (va_up R 5 m2_118) 6 m3_118) RO (LL ++ Y))[k]? = some (x1, .inr (2, [.int y1, .long al1, .long ac1])) := pixT hm1
        refine kWRa_i (As := [.long x0, .ref x1, .int (v6_118 - 1), .int v7_118]) (rest := []) ⟨hx, hb, hml, hown, hts⟩ (t_X2_isOpenFlat l D cy _ (CT cy a J (va_up I 99 m0_118) (va_up O 100 m1_118) (va_up (va_up R 5 m2_118) 6 m3_118) RO (LL ++ Y)) k_33 x1 y1 al1 ac1 hk_34 x0 (v6_118 - 1) v7_118) (va_cwS 4 hts gX2_measure_X2_isOpenFlat rfl rfl rfl (by decide +kernel) ⟨Nat.le_of_ble_eq_true rfl, Nat.le_of_ble_eq_true rfl⟩) hK hN hP hD rfl hl.1 rfl (Nat.le_of_ble_eq_true rfl) dX2_measure_126 ⟨Nat.le_of_ble_eq_true rfl, Nat.le_of_ble_eq_true rfl⟩ (fun r_35 hr_36 => ?_)
        obtain ⟨zb_37, rfl⟩ := hr_36
        refine lv_if_eq (tgt := 157) hx hb dX2_measure_129 (by decide) (fun c_38 => ?_) (fun c_38 => ?_)
        · replace c_38 := bI_f c_38
          exact lp157 v6_118 v7_118 v8_118 m0_118 m1_118 m2_118 m3_118 hT hq hQ hlt_i  _ _ hP hD hS ls (lv_sub hl [0, 1, 2, 3, 4, 5, 6, 7] rfl)
        · replace c_38 := bI_t c_38
          refine lv_aload_n hx hb dX2_measure_132 rfl (lv_at hl 0 rfl) ?_
          refine lv_iload hx hb dX2_measure_133 (lv_at hl 5 rfl) ?_
          refine lv_iconst (v := 1) hx hb dX2_measure_135 (by decide) ?_
          refine lv_isub hx hb dX2_measure_136 ?_
          refine lv_iload hx hb dX2_measure_137 (lv_at hl 6 rfl) ?_
          refine kS_i (As := [.int (v6_118 - 1), .int v7_118]) (rest := [.ref (a 3)]) ⟨hx, hb, hml, hown, hts⟩ (c_X2_pointOf l (v6_118 - 1) v7_118) (va_cwS 2 hts gX2_measure_X2_pointOf rfl rfl rfl (by decide +kernel) ⟨Nat.le_of_ble_eq_true rfl, Nat.le_of_ble_eq_true rfl⟩) rfl hl.1 rfl (Nat.le_of_ble_eq_true rfl) dX2_measure_139 ⟨Nat.le_of_ble_eq_true rfl, Nat.le_of_ble_eq_true rfl⟩ ?_
          refine lv_iload hx hb dX2_measure_142 (lv_at hl 7 rfl) ?_
          refine lv_iload hx hb dX2_measure_144 (lv_at hl 5 rfl) ?_
          refine lv_iconst (v := 1) hx hb dX2_measure_146 (by decide) ?_
          refine lv_isub hx hb dX2_measure_147 ?_
          refine lv_iload hx hb dX2_measure_148 (lv_at hl 6 rfl) ?_
          refine kSa_i (As := [.int (v6_118 - 1), .int v7_118]) (rest := [.int v8_118, .int (9 * v7_118 + (v6_118 - 1)), .ref (a 3)]) ⟨hx, hb, hml, hown, hts⟩ (t_X2_riseRight l (v6_118 - 1) v7_118 ) (va_cwS 2 hts gX2_measure_X2_riseRight rfl rfl rfl (by decide +kernel) ⟨Nat.le_of_ble_eq_true rfl, Nat.le_of_ble_eq_true rfl⟩) rfl hl.1 rfl (Nat.le_of_ble_eq_true rfl) dX2_measure_150 ⟨Nat.le_of_ble_eq_true rfl, Nat.le_of_ble_eq_true rfl⟩ (fun r_39 hr_40 => ?_)
          refine lv_isub hx hb dX2_measure_153 ?_
          refine kM_v (As := [.int (9 * v7_118 + (v6_118 - 1)), .int (v8_118 - r_39)]) (rest := []) (q0 := 3) ⟨hx, hb, hml, hown, hts⟩ (t_X2_reach5 l D cy a _ J (va_up I 99 m0_118) (va_up O 100 m1_118) (va_up (va_up R 5 m2_118) 6 m3_118) RO LL Y (9 * v7_118 + (v6_118 - 1)) (v8_118 - r_39) hT hq hQ  ) (cwV 2 hts gX2_measure_X2_reach rfl rfl rfl (by decide +kernel) ⟨Nat.le_of_ble_eq_true rfl, Nat.le_of_ble_eq_true rfl⟩) hK hN hP hD hS hA rfl rfl rfl hl.1 rfl (Nat.le_of_ble_eq_true rfl) dX2_measure_154 ⟨Nat.le_of_ble_eq_true rfl, Nat.le_of_ble_eq_true rfl⟩ (fun u H locs hw hP hD hS => ?_)
          obtain ⟨w_42, w_43, w_44, w_45, ⟨hp_46, hp_47, hp_48⟩, rfl⟩ := hw
          have hP : va_P D vwCl (CT cy a J (va_up I 99 w_42) (va_up O 100 w_43) (va_up (va_up R 5 w_44) 6 w_45) RO (LL ++ Y)) H := hP
          have hD : va_D A (CT cy a J (va_up I 99 w_42) (va_up O 100 w_43) (va_up (va_up R 5 w_44) 6 w_45) RO (LL ++ Y)) := hD
          exact lp157 v6_118 v7_118 v8_118 w_42 w_43 w_44 w_45 hp_46 hp_47 hp_48 hlt_i  _ _ hP hD hS ls (lv_sub hl [0, 1, 2, 3, 4, 5, 6, 7] rfl)
      refine lv_iload hx hb dX2_measure_31 (lv_at hl 4 rfl) ?_
      refine lv_bipush (v := 81) hx hb dX2_measure_33 (by decide) ?_
      refine lv_icmp_ge (tgt := 237) hx hb dX2_measure_35 (by decide) (fun c_49 => ?_) (fun c_49 => ?_)
      · exact wret_v hx hb hr hlocks (J, (va_up I 99 m0_31), (va_up O 100 m1_31), (va_up (va_up R 5 m2_31) 6 m3_31), RO, LL, Y) ⟨m0_31, m1_31, m2_31, m3_31, hQ, rfl⟩ hP hD hS dX2_measure_237
      · have hlt_i := ctr_lt (N := 81) (by decide) hi c_49
        refine lv_iload hx hb dX2_measure_38 (lv_at hl 4 rfl) ?_
        refine lv_aload_n hx hb dX2_measure_40 rfl (lv_at hl 0 rfl) ?_
        refine va_get (D := D) (ci := 1) (v := .int m0_31) (C := RX2) (T := TX2) (N := 5) hx hb hts hi2 hown hK hP 3 rfl rfl 3 (by decide) hw0 (fun _ h9 => h9) rfl dX2_measure_41 ?_
        refine lv_icmp_ge (tgt := 237) hx hb dX2_measure_44 (by decide) (fun c_50 => ?_) (fun c_50 => ?_)
        · exact wret_v hx hb hr hlocks (J, (va_up I 99 m0_31), (va_up O 100 m1_31), (va_up (va_up R 5 m2_31) 6 m3_31), RO, LL, Y) ⟨m0_31, m1_31, m2_31, m3_31, hQ, rfl⟩ hP hD hS dX2_measure_237
        · refine lv_aload_n hx hb dX2_measure_47 rfl (lv_at hl 0 rfl) ?_
          refine va_get (D := D) (ci := 1) (v := .ref (a 6)) (C := RX2) (T := TX2) (N := 5) hx hb hts hi2 hown hK hP 3 rfl rfl 2 (by decide) hw1 (fun _ h9 => h9) rfl dX2_measure_48 ?_
          refine lv_iload hx hb dX2_measure_51 (lv_at hl 4 rfl) ?_
          refine va_iald hx hb hK hP 6 0 rfl rfl (vp_in_nI hlt_i (by decide)) dX2_measure_53 ?_
          refine lv_bipush (v := 9) hx hb dX2_measure_54 (by decide) ?_
          refine lv_irem hx hb dX2_measure_56 (by decide) ?_
          refine lv_istore (lv' := [(6, .int ((m3_31 (nI i).toNatClampNeg) - (m3_31 (nI i).toNatClampNeg) / 9 * 9)), (0, .ref (a 3)), (1, .long x0), (3, .ref x1), (4, .ref (a 5)), (5, .int (nI i))]) hx hb dX2_measure_57 hl (by decide) rfl (fun ls hl => ?_)
          refine lv_aload_n hx hb dX2_measure_59 rfl (lv_at hl 1 rfl) ?_
          refine va_get (D := D) (ci := 1) (v := .ref (a 6)) (C := RX2) (T := TX2) (N := 5) hx hb hts hi2 hown hK hP 3 rfl rfl 2 (by decide) hw1 (fun _ h9 => h9) rfl dX2_measure_60 ?_
          refine lv_iload hx hb dX2_measure_63 (lv_at hl 5 rfl) ?_
          refine va_iald hx hb hK hP 6 0 rfl rfl (vp_in_nI hlt_i (by decide)) dX2_measure_65 ?_
          refine lv_bipush (v := 9) hx hb dX2_measure_66 (by decide) ?_
          refine lv_idiv hx hb dX2_measure_68 (by decide) ?_
          refine lv_istore (lv' := [(7, .int ((m3_31 (nI i).toNatClampNeg) / 9)), (6, .int ((m3_31 (nI i).toNatClampNeg) - (m3_31 (nI i).toNatClampNeg) / 9 * 9)), (0, .ref (a 3)), (1, .long x0), (3, .ref x1), (4, .ref (a 5)), (5, .int (nI i))]) hx hb dX2_measure_69 hl (by decide) rfl (fun ls hl => ?_)
          refine lv_aload hx hb dX2_measure_71 (lv_at hl 5 rfl) ?_
          refine lv_aload_n hx hb dX2_measure_73 rfl (lv_at hl 2 rfl) ?_
          refine va_get (D := D) (ci := 1) (v := .ref (a 6)) (C := RX2) (T := TX2) (N := 5) hx hb hts hi2 hown hK hP 3 rfl rfl 2 (by decide) hw1 (fun _ h9 => h9) rfl dX2_measure_74 ?_
          refine lv_iload hx hb dX2_measure_77 (lv_at hl 6 rfl) ?_
          refine va_iald hx hb hK hP 6 0 rfl rfl (vp_in_nI hlt_i (by decide)) dX2_measure_79 ?_
          refine va_iald hx hb hK hP 5 0 rfl rfl (hQ _ (in_lt (vp_in_nI hlt_i (by decide)))) dX2_measure_80 ?_
          refine lv_istore (lv' := [(8, .int (m2_31 (m3_31 (nI i).toNatClampNeg).toNatClampNeg)), (7, .int ((m3_31 (nI i).toNatClampNeg) / 9)), (6, .int ((m3_31 (nI i).toNatClampNeg) - (m3_31 (nI i).toNatClampNeg) / 9 * 9)), (0, .ref (a 3)), (1, .long x0), (3, .ref x1), (4, .ref (a 5)), (5, .int (nI i))]) hx hb dX2_measure_81 hl (by decide) rfl (fun ls hl => ?_)
          refine lv_lload_n hx hb dX2_measure_83 rfl (lv_at hl 4 rfl) ?_
          refine lv_aload_n hx hb dX2_measure_84 rfl (lv_at hl 5 rfl) ?_
          refine lv_iload hx hb dX2_measure_85 (lv_at hl 2 rfl) ?_
          refine lv_iload hx hb dX2_measure_87 (lv_at hl 1 rfl) ?_
          obtain ⟨k_51, hk_52⟩ : ∃ k : Nat, (CT cy a J (va_up I 99 m0_31) (va_up O 100 m1_31) (va_up (va_up R 5 m2_31) 6 m3_31) RO (LL ++ Y))[k]? = some (x1, .inr (2, [.int y1, .long al1, .long ac1])) := pixT hm1
          refine kWRa_i (As := [.long x0, .ref x1, .int ((m3_31 (nI i).toNatClampNeg) - (m3_31 (nI i).toNatClampNeg) / 9 * 9), .int ((m3_31 (nI i).toNatClampNeg) / 9)]) (rest := []) ⟨hx, hb, hml, hown, hts⟩ (t_X2_isOpenFlat l D cy _ (CT cy a J (va_up I 99 m0_31) (va_up O 100 m1_31) (va_up (va_up R 5 m2_31) 6 m3_31) RO (LL ++ Y)) k_51 x1 y1 al1 ac1 hk_52 x0 ((m3_31 (nI i).toNatClampNeg) - (m3_31 (nI i).toNatClampNeg) / 9 * 9) ((m3_31 (nI i).toNatClampNeg) / 9)) (va_cwS 4 hts gX2_measure_X2_isOpenFlat rfl rfl rfl (by decide +kernel) ⟨Nat.le_of_ble_eq_true rfl, Nat.le_of_ble_eq_true rfl⟩) hK hN hP hD rfl hl.1 rfl (Nat.le_of_ble_eq_true rfl) dX2_measure_89 ⟨Nat.le_of_ble_eq_true rfl, Nat.le_of_ble_eq_true rfl⟩ (fun r_53 hr_54 => ?_)
          obtain ⟨zb_55, rfl⟩ := hr_54
          refine lv_if_eq (tgt := 118) hx hb dX2_measure_92 (by decide) (fun c_56 => ?_) (fun c_56 => ?_)
          · replace c_56 := bI_f c_56
            exact lp118 ((m3_31 (nI i).toNatClampNeg) - (m3_31 (nI i).toNatClampNeg) / 9 * 9) ((m3_31 (nI i).toNatClampNeg) / 9) (m2_31 (m3_31 (nI i).toNatClampNeg).toNatClampNeg) m0_31 m1_31 m2_31 m3_31 hT hq hQ hlt_i  _ _ hP hD hS ls (lv_sub hl [3, 4, 5, 6, 7, 2, 1, 0] rfl)
          · replace c_56 := bI_t c_56
            refine lv_aload_n hx hb dX2_measure_95 rfl (lv_at hl 3 rfl) ?_
            refine lv_iload hx hb dX2_measure_96 (lv_at hl 2 rfl) ?_
            refine lv_iconst (v := 1) hx hb dX2_measure_98 (by decide) ?_
            refine lv_iadd hx hb dX2_measure_99 ?_
            refine lv_iload hx hb dX2_measure_100 (lv_at hl 1 rfl) ?_
            refine kS_i (As := [.int (((m3_31 (nI i).toNatClampNeg) - (m3_31 (nI i).toNatClampNeg) / 9 * 9) + 1), .int ((m3_31 (nI i).toNatClampNeg) / 9)]) (rest := [.ref (a 3)]) ⟨hx, hb, hml, hown, hts⟩ (c_X2_pointOf l (((m3_31 (nI i).toNatClampNeg) - (m3_31 (nI i).toNatClampNeg) / 9 * 9) + 1) ((m3_31 (nI i).toNatClampNeg) / 9)) (va_cwS 2 hts gX2_measure_X2_pointOf rfl rfl rfl (by decide +kernel) ⟨Nat.le_of_ble_eq_true rfl, Nat.le_of_ble_eq_true rfl⟩) rfl hl.1 rfl (Nat.le_of_ble_eq_true rfl) dX2_measure_102 ⟨Nat.le_of_ble_eq_true rfl, Nat.le_of_ble_eq_true rfl⟩ ?_
            refine lv_iload hx hb dX2_measure_105 (lv_at hl 0 rfl) ?_
            refine lv_iload hx hb dX2_measure_107 (lv_at hl 2 rfl) ?_
            refine lv_iload hx hb dX2_measure_109 (lv_at hl 1 rfl) ?_
            refine kSa_i (As := [.int ((m3_31 (nI i).toNatClampNeg) - (m3_31 (nI i).toNatClampNeg) / 9 * 9), .int ((m3_31 (nI i).toNatClampNeg) / 9)]) (rest := [.int (m2_31 (m3_31 (nI i).toNatClampNeg).toNatClampNeg), .int (9 * ((m3_31 (nI i).toNatClampNeg) / 9) + (((m3_31 (nI i).toNatClampNeg) - (m3_31 (nI i).toNatClampNeg) / 9 * 9) + 1)), .ref (a 3)]) ⟨hx, hb, hml, hown, hts⟩ (t_X2_riseRight l ((m3_31 (nI i).toNatClampNeg) - (m3_31 (nI i).toNatClampNeg) / 9 * 9) ((m3_31 (nI i).toNatClampNeg) / 9) ) (va_cwS 2 hts gX2_measure_X2_riseRight rfl rfl rfl (by decide +kernel) ⟨Nat.le_of_ble_eq_true rfl, Nat.le_of_ble_eq_true rfl⟩) rfl hl.1 rfl (Nat.le_of_ble_eq_true rfl) dX2_measure_111 ⟨Nat.le_of_ble_eq_true rfl, Nat.le_of_ble_eq_true rfl⟩ (fun r_57 hr_58 => ?_)
            refine lv_iadd hx hb dX2_measure_114 ?_
            refine kM_v (As := [.int (9 * ((m3_31 (nI i).toNatClampNeg) / 9) + (((m3_31 (nI i).toNatClampNeg) - (m3_31 (nI i).toNatClampNeg) / 9 * 9) + 1)), .int ((m2_31 (m3_31 (nI i).toNatClampNeg).toNatClampNeg) + r_57)]) (rest := []) (q0 := 3) ⟨hx, hb, hml, hown, hts⟩ (t_X2_reach5 l D cy a _ J (va_up I 99 m0_31) (va_up O 100 m1_31) (va_up (va_up R 5 m2_31) 6 m3_31) RO LL Y (9 * ((m3_31 (nI i).toNatClampNeg) / 9) + (((m3_31 (nI i).toNatClampNeg) - (m3_31 (nI i).toNatClampNeg) / 9 * 9) + 1)) ((m2_31 (m3_31 (nI i).toNatClampNeg).toNatClampNeg) + r_57) hT hq hQ  ) (cwV 2 hts gX2_measure_X2_reach rfl rfl rfl (by decide +kernel) ⟨Nat.le_of_ble_eq_true rfl, Nat.le_of_ble_eq_true rfl⟩) hK hN hP hD hS hA rfl rfl rfl hl.1 rfl (Nat.le_of_ble_eq_true rfl) dX2_measure_115 ⟨Nat.le_of_ble_eq_true rfl, Nat.le_of_ble_eq_true rfl⟩ (fun u H locs hw hP hD hS => ?_)
            obtain ⟨w_60, w_61, w_62, w_63, ⟨hp_64, hp_65, hp_66⟩, rfl⟩ := hw
            have hP : va_P D vwCl (CT cy a J (va_up I 99 w_60) (va_up O 100 w_61) (va_up (va_up R 5 w_62) 6 w_63) RO (LL ++ Y)) H := hP
            have hD : va_D A (CT cy a J (va_up I 99 w_60) (va_up O 100 w_61) (va_up (va_up R 5 w_62) 6 w_63) RO (LL ++ Y)) := hD
            exact lp118 ((m3_31 (nI i).toNatClampNeg) - (m3_31 (nI i).toNatClampNeg) / 9 * 9) ((m3_31 (nI i).toNatClampNeg) / 9) (m2_31 (m3_31 (nI i).toNatClampNeg).toNatClampNeg) w_60 w_61 w_62 w_63 hp_64 hp_65 hp_66 hlt_i  _ _ hP hD hS ls (lv_sub hl [3, 4, 5, 6, 7, 2, 1, 0] rfl)
  have hP : va_P D vwCl (CT cy a J (va_up I 99 (I 99)) (va_up O 100 (O 100)) (va_up (va_up R 5 (R 5)) 6 (R 6)) RO (LL ++ Y)) s.heap := hP
  have hD : va_D A (CT cy a J (va_up I 99 (I 99)) (va_up O 100 (O 100)) (va_up (va_up R 5 (R 5)) 6 (R 6)) RO (LL ++ Y)) := hD
  refine lv_aload hx hb dX2_measure_0 (lv_at hl 3 rfl) ?_
  refine lv_sipush (v := 1000) hx hb dX2_measure_2 (by decide) ?_
  refine kW_v (As := [.ref (a 5), .int 1000]) (rest := []) ⟨hx, hb, hml, hown, hts⟩ (t_fill5 l D cy a _ J (va_up I 99 (I 99)) (va_up O 100 (O 100)) (va_up (va_up R 5 (R 5)) 6 (R 6)) RO LL Y (1000 : Int32)   ) (va_cwS 2 hts gX2_measure_J7_fill_53178 rfl rfl rfl (by decide +kernel) ⟨Nat.le_of_ble_eq_true rfl, Nat.le_of_ble_eq_true rfl⟩) hK hN hP hD hS hA rfl hl.1 rfl (Nat.le_of_ble_eq_true rfl) dX2_measure_5 ⟨Nat.le_of_ble_eq_true rfl, Nat.le_of_ble_eq_true rfl⟩ (fun u H locs hw hP hD hS => ?_)
  obtain ⟨w_68, -, rfl⟩ := hw
  have hP : va_P D vwCl (CT cy a J (va_up I 99 (I 99)) (va_up O 100 (O 100)) (va_up (va_up R 5 w_68) 6 (R 6)) RO (LL ++ Y)) H := hP
  have hD : va_D A (CT cy a J (va_up I 99 (I 99)) (va_up O 100 (O 100)) (va_up (va_up R 5 w_68) 6 (R 6)) RO (LL ++ Y)) := hD
  refine lv_aload_n hx hb dX2_measure_8 rfl (lv_at hl 0 rfl) ?_
  refine lv_aload hx hb dX2_measure_9 (lv_at hl 3 rfl) ?_
  refine va_put (D := D) (ci := 1) (v := .ref (a 5)) (ty := .array .int) (C := RX2) (T := TX2) (N := 5) hx hb hts hi2 tyX2 tyX2_ok nmX2 hown hK hP hD hS 3 rfl rfl 4 (by decide) hw2 (fun _ h9 => h9) rfl (by decide +kernel) rfl rfl (Nat.le_of_ble_eq_true rfl) dX2_measure_11 (fun H locs hP hD hS => ?_)
  have hP : va_P D vwCl (CT cy a J (va_up I 99 (I 99)) (va_up O 100 (some (a 5))) (va_up (va_up R 5 w_68) 6 (R 6)) RO (LL ++ Y)) H := hP
  have hD : va_D A (CT cy a J (va_up I 99 (I 99)) (va_up O 100 (some (a 5))) (va_up (va_up R 5 w_68) 6 (R 6)) RO (LL ++ Y)) := hD
  refine lv_aload_n hx hb dX2_measure_14 rfl (lv_at hl 0 rfl) ?_
  refine lv_iconst (v := 0) hx hb dX2_measure_15 (by decide) ?_
  refine va_put (D := D) (ci := 1) (v := .int 0) (ty := .int) (C := RX2) (T := TX2) (N := 5) hx hb hts hi2 tyX2 tyX2_ok nmX2 hown hK hP hD hS 3 rfl rfl 3 (by decide) hw0 (fun _ h9 => h9) rfl (by decide +kernel) rfl rfl (Nat.le_of_ble_eq_true rfl) dX2_measure_16 (fun H locs hP hD hS => ?_)
  have hP : va_P D vwCl (CT cy a J (va_up I 99 0) (va_up O 100 (some (a 5))) (va_up (va_up R 5 w_68) 6 (R 6)) RO (LL ++ Y)) H := hP
  have hD : va_D A (CT cy a J (va_up I 99 0) (va_up O 100 (some (a 5))) (va_up (va_up R 5 w_68) 6 (R 6)) RO (LL ++ Y)) := hD
  refine lv_aload_n hx hb dX2_measure_19 rfl (lv_at hl 0 rfl) ?_
  refine lv_lload_n hx hb dX2_measure_20 rfl (lv_at hl 1 rfl) ?_
  refine kSa_i (As := [.long x0]) (rest := [.ref (a 3)]) ⟨hx, hb, hml, hown, hts⟩ (t_X2_firstPoint l x0 ) (va_cwS 1 hts gX2_measure_X2_firstPoint rfl rfl rfl (by decide +kernel) ⟨Nat.le_of_ble_eq_true rfl, Nat.le_of_ble_eq_true rfl⟩) rfl hl.1 rfl (Nat.le_of_ble_eq_true rfl) dX2_measure_21 ⟨Nat.le_of_ble_eq_true rfl, Nat.le_of_ble_eq_true rfl⟩ (fun r_69 hr_70 => ?_)
  refine lv_iconst (v := 0) hx hb dX2_measure_24 (by decide) ?_
  refine kM_v (As := [.int r_69, .int 0]) (rest := []) (q0 := 3) ⟨hx, hb, hml, hown, hts⟩ (t_X2_reach5 l D cy a _ J (va_up I 99 0) (va_up O 100 (some (a 5))) (va_up (va_up R 5 w_68) 6 (R 6)) RO LL Y r_69 (0 : Int32) rfl z82 hQ  ) (cwV 2 hts gX2_measure_X2_reach rfl rfl rfl (by decide +kernel) ⟨Nat.le_of_ble_eq_true rfl, Nat.le_of_ble_eq_true rfl⟩) hK hN hP hD hS hA rfl rfl rfl hl.1 rfl (Nat.le_of_ble_eq_true rfl) dX2_measure_25 ⟨Nat.le_of_ble_eq_true rfl, Nat.le_of_ble_eq_true rfl⟩ (fun u H locs hw hP hD hS => ?_)
  obtain ⟨w_72, w_73, w_74, w_75, ⟨hp_76, hp_77, hp_78⟩, rfl⟩ := hw
  have hP : va_P D vwCl (CT cy a J (va_up I 99 w_72) (va_up O 100 w_73) (va_up (va_up R 5 w_74) 6 w_75) RO (LL ++ Y)) H := hP
  have hD : va_D A (CT cy a J (va_up I 99 w_72) (va_up O 100 w_73) (va_up (va_up R 5 w_74) 6 w_75) RO (LL ++ Y)) := hD
  refine lv_iconst (v := 0) hx hb dX2_measure_28 (by decide) ?_
  refine lv_istore (lv' := [(5, .int 0), (0, .ref (a 3)), (1, .long x0), (3, .ref x1), (4, .ref (a 5))]) hx hb dX2_measure_29 hl (by decide) rfl (fun ls hl => ?_)
  exact lp31 _ 0 w_72 w_73 w_74 w_75 (by omega) hp_76 hp_77 hp_78 (Nat.lt_succ_self _) _ _ hP hD hS ls (lv_sub hl [1, 2, 3, 4, 0] rfl)
theorem dX2_distance_4 : decode cX2_distance 4 = .ok (.iload_n 2, 1) := by decide +kernel
theorem dX2_distance_5 : decode cX2_distance 5 = .ok (.bipush 81, 2) := by decide +kernel
theorem dX2_distance_7 : decode cX2_distance 7 = .ok (.if_icmp .ge 28, 3) := by decide +kernel
theorem dX2_distance_35 : decode cX2_distance 35 = .ok (.iload_n 1, 1) := by decide +kernel
theorem dX2_distance_36 : decode cX2_distance 36 = .ok (.iconst 4, 1) := by decide +kernel
theorem dX2_distance_37 : decode cX2_distance 37 = .ok (.idiv, 1) := by decide +kernel
theorem dX2_distance_38 : decode cX2_distance 38 = .ok (.ireturn, 1) := by decide +kernel
theorem dX2_distance_10 : decode cX2_distance 10 = .ok (.iload_n 1, 1) := by decide +kernel
theorem dX2_distance_11 : decode cX2_distance 11 = .ok (.aload_n 0, 1) := by decide +kernel
theorem dX2_distance_12 : decode cX2_distance 12 = .ok (.getfield 9, 3) := by decide +kernel
theorem dX2_distance_15 : decode cX2_distance 15 = .ok (.iload_n 2, 1) := by decide +kernel
theorem dX2_distance_16 : decode cX2_distance 16 = .ok (.iaload, 1) := by decide +kernel
theorem dX2_distance_17 : decode cX2_distance 17 = .ok (.aload_n 0, 1) := by decide +kernel
theorem dX2_distance_18 : decode cX2_distance 18 = .ok (.getfield 13, 3) := by decide +kernel
theorem dX2_distance_21 : decode cX2_distance 21 = .ok (.iload_n 2, 1) := by decide +kernel
theorem dX2_distance_22 : decode cX2_distance 22 = .ok (.iaload, 1) := by decide +kernel
theorem dX2_distance_23 : decode cX2_distance 23 = .ok (.isub, 1) := by decide +kernel
theorem dX2_distance_24 : decode cX2_distance 24 = .ok (.invokestatic 73, 3) := by decide +kernel
theorem dX2_distance_27 : decode cX2_distance 27 = .ok (.iadd, 1) := by decide +kernel
theorem dX2_distance_28 : decode cX2_distance 28 = .ok (.istore_n 1, 1) := by decide +kernel
theorem dX2_distance_29 : decode cX2_distance 29 = .ok (.iinc 2 1, 3) := by decide +kernel
theorem dX2_distance_32 : decode cX2_distance 32 = .ok (.goto (-28), 3) := by decide +kernel
theorem dX2_distance_0 : decode cX2_distance 0 = .ok (.iconst 0, 1) := by decide +kernel
theorem dX2_distance_1 : decode cX2_distance 1 = .ok (.istore_n 1, 1) := by decide +kernel
theorem dX2_distance_2 : decode cX2_distance 2 = .ok (.iconst 0, 1) := by decide +kernel
theorem dX2_distance_3 : decode cX2_distance 3 = .ok (.istore_n 2, 1) := by decide +kernel
set_option maxRecDepth 20000 in
theorem ihX2_distance_2 : ∀ w ∈ u_ws RX2 TX2 5, w ∈ wsX2_distance := fun _ h => List.mem_cons_of_mem _ (List.mem_append_right _ h)
set_option maxHeartbeats 4000000 in
set_option maxRecDepth 100000 in
theorem t_X2_distance (l : Launch) (D : va_G) (cy : Nat → ClassId) (a : Nat → Nat) (sz : Nat) (J : Nat → Int64) (I : Nat → Int32) (O : Nat → Option Nat) (R : Nat → Nat → Int32) (RO : Nat → Nat → Option Nat) (LL : va_W) (Y : va_W)  : Met l yX2_distance wsX2_distance ({ frames := 1, cells := 0, slots := 0, locals := 29 }) (va_Pc [.ref (a 3)] (PW D cy sz (CT cy a J I O R RO (LL ++ Y)))) (vp_Si (fun r => True)) 0 0 (fun _ => False) := by
  refine Met.ofW (cc := cX2_distance) (maxL := 3) (ret := (some .int)) (by decide) rfl ?_
  intro p e s m args below meth c s₁ B hml hv
  obtain ⟨rfl, rfl, hP, hK, hN, hD0⟩ := hv
  have hx := B.exec
  have hb := B.bytes
  have hr := B.returns
  have hts := atoms_spec (ws := wsX2_distance) B.pre
  have hown : s.vm.findClass RX2 = some m.cls := findClass_of_methodNamed B.named
  have hlocks := B.notSynchronized
  have hw0 := hts (.fieldLink RX2 9 "ParquetLayer$Heights" "here" "[I") (by decide +kernel)
  have hw1 := hts (.fieldLink RX2 13 "ParquetLayer$Heights" "there" "[I") (by decide +kernel)
  have hw2 := hts (.methodLink RX2 73 Lib.Math.abs.name) (by decide +kernel)
  have hw3 := hts (.static Lib.Math.abs.name) (by decide +kernel)
  have hw4 := hts (.initialized "java/lang/Math") (by decide +kernel)
  have hw5 := hts (.code Lib.Math.abs.name Lib.Math.abs.code 1 (some .int)) (by decide +kernel)
  have hi2 := ihX2_distance_2
  have hD := hD0
  have hl := lv_entry ([.ref (a 3)]) (n := 3) (Nat.le_of_ble_eq_true rfl)
  rw [lg_entry_eq]
  generalize (lg_sl ([.ref (a 3)]) ++ List.replicate (3 - (lg_sl ([.ref (a 3)])).length) Slot.unset).toArray = ls at hl ⊢
  have hl : lv_has ls 3 [(0, .ref (a 3))] := hl
  have lp4 : ∀ (n4 : Nat), ∀ (i : Nat) (v1_4 : Int32), (i ≤ 81) → (81 - i) < n4 → ∀ (ls : Array Slot), lv_has ls 3 [(0, .ref (a 3)), (1, .int v1_4), (2, .int (nI i))] → W p l e (headSpec wsX2_distance ({ frames := 1, cells := 0, slots := 0, locals := 29 })).room s m ([.ref (a 3)] : List Value).toArray below meth c s.heap [] 0 0 (MQ below (vp_Si (fun r => True)) ([.ref (a 3)] : List Value).toArray s 0 0 (fun _ => False)) (F0 m 4 ls []) := by
    intro n4
    induction n4 with
    | zero => intro i v1_4 hi hn; exact absurd hn (Nat.not_lt_zero _)
    | succ n4 ih4 =>
      intro i v1_4 hi hn4 ls hl
      refine lv_iload_n hx hb dX2_distance_4 rfl (lv_at hl 2 rfl) ?_
      refine lv_bipush (v := 81) hx hb dX2_distance_5 (by decide) ?_
      refine lv_icmp_ge (tgt := 35) hx hb dX2_distance_7 (by decide) (fun c_1 => ?_) (fun c_1 => ?_)
      · refine lv_iload_n hx hb dX2_distance_35 rfl (lv_at hl 1 rfl) ?_
        refine lv_iconst (v := 4) hx hb dX2_distance_36 (by decide) ?_
        refine lv_idiv hx hb dX2_distance_37 (by decide) ?_
        exact aret_i hx hb hr hlocks trivial dX2_distance_38
      · have hlt_i := ctr_lt (N := 81) (by decide) hi c_1
        refine lv_iload_n hx hb dX2_distance_10 rfl (lv_at hl 1 rfl) ?_
        refine lv_aload_n hx hb dX2_distance_11 rfl (lv_at hl 0 rfl) ?_
        refine va_get (D := D) (ci := 1) (v := .ref (a 4)) (C := RX2) (T := TX2) (N := 5) hx hb hts hi2 hown hK hP 3 rfl rfl 0 (by decide) hw0 (fun _ h9 => h9) rfl dX2_distance_12 ?_
        refine lv_iload_n hx hb dX2_distance_15 rfl (lv_at hl 2 rfl) ?_
        refine va_iald hx hb hK hP 4 0 rfl rfl (vp_in_nI hlt_i (by decide)) dX2_distance_16 ?_
        refine lv_aload_n hx hb dX2_distance_17 rfl (lv_at hl 0 rfl) ?_
        refine va_get (D := D) (ci := 1) (v := .ref (a 5)) (C := RX2) (T := TX2) (N := 5) hx hb hts hi2 hown hK hP 3 rfl rfl 1 (by decide) hw1 (fun _ h9 => h9) rfl dX2_distance_18 ?_
        refine lv_iload_n hx hb dX2_distance_21 rfl (lv_at hl 2 rfl) ?_
        refine va_iald hx hb hK hP 5 0 rfl rfl (vp_in_nI hlt_i (by decide)) dX2_distance_22 ?_
        refine lv_isub hx hb dX2_distance_23 ?_
        refine va_mabs hx hb (by rw [hml]; exact hl.1.symm) hown hw2 hw3 hw4 hw5 (Nat.le_of_ble_eq_true rfl) (Nat.le_of_ble_eq_true rfl) (Nat.le_of_ble_eq_true rfl) (Nat.le_of_ble_eq_true rfl) dX2_distance_24 ?_
        refine lv_iadd hx hb dX2_distance_27 ?_
        refine lv_istore_n (lv' := [(1, .int (v1_4 + (if 0 ≤ (((R 4) (nI i).toNatClampNeg) - ((R 5) (nI i).toNatClampNeg)) then (((R 4) (nI i).toNatClampNeg) - ((R 5) (nI i).toNatClampNeg)) else 0 - (((R 4) (nI i).toNatClampNeg) - ((R 5) (nI i).toNatClampNeg))))), (0, .ref (a 3)), (2, .int (nI i))]) hx hb dX2_distance_28 rfl hl (by decide) rfl (fun ls hl => ?_)
        refine lv_iinc (v := nI (i + 1)) (lv' := [(2, .int (nI (i + 1))), (1, .int (v1_4 + (if 0 ≤ (((R 4) (nI i).toNatClampNeg) - ((R 5) (nI i).toNatClampNeg)) then (((R 4) (nI i).toNatClampNeg) - ((R 5) (nI i).toNatClampNeg)) else 0 - (((R 4) (nI i).toNatClampNeg) - ((R 5) (nI i).toNatClampNeg))))), (0, .ref (a 3))]) hx hb dX2_distance_29 hl (k := 2) rfl (nI_1 _) (by decide) rfl (fun ls hl => ?_)
        refine lv_goto (tgt := 4) hx hb dX2_distance_32 (by decide) ?_
        exact ih4 (i + 1) (v1_4 + (if 0 ≤ (((R 4) (nI i).toNatClampNeg) - ((R 5) (nI i).toNatClampNeg)) then (((R 4) (nI i).toNatClampNeg) - ((R 5) (nI i).toNatClampNeg)) else 0 - (((R 4) (nI i).toNatClampNeg) - ((R 5) (nI i).toNatClampNeg)))) (by omega) (by omega) ls (lv_sub hl [2, 1, 0] rfl)
  refine lv_iconst (v := 0) hx hb dX2_distance_0 (by decide) ?_
  refine lv_istore_n (lv' := [(1, .int 0), (0, .ref (a 3))]) hx hb dX2_distance_1 rfl hl (by decide) rfl (fun ls hl => ?_)
  refine lv_iconst (v := 0) hx hb dX2_distance_2 (by decide) ?_
  refine lv_istore_n (lv' := [(2, .int 0), (1, .int 0), (0, .ref (a 3))]) hx hb dX2_distance_3 rfl hl (by decide) rfl (fun ls hl => ?_)
  exact lp4 _ 0 (0 : Int32) (by omega) (Nat.lt_succ_self _) ls (lv_sub hl [2, 1, 0] rfl)
theorem dX2_mix_2 : decode cX2_mix 2 = .ok (.iload_n 2, 1) := by decide +kernel
theorem dX2_mix_3 : decode cX2_mix 3 = .ok (.bipush 81, 2) := by decide +kernel
theorem dX2_mix_5 : decode cX2_mix 5 = .ok (.if_icmp .ge 52, 3) := by decide +kernel
theorem dX2_mix_57 : decode cX2_mix 57 = .ok (.return_, 1) := by decide +kernel
theorem dX2_mix_8 : decode cX2_mix 8 = .ok (.aload_n 0, 1) := by decide +kernel
theorem dX2_mix_9 : decode cX2_mix 9 = .ok (.getfield 9, 3) := by decide +kernel
theorem dX2_mix_12 : decode cX2_mix 12 = .ok (.iload_n 2, 1) := by decide +kernel
theorem dX2_mix_13 : decode cX2_mix 13 = .ok (.iload_n 1, 1) := by decide +kernel
theorem dX2_mix_14 : decode cX2_mix 14 = .ok (.ifCond .eq 21, 3) := by decide +kernel
theorem dX2_mix_35 : decode cX2_mix 35 = .ok (.aload_n 0, 1) := by decide +kernel
theorem dX2_mix_36 : decode cX2_mix 36 = .ok (.getfield 9, 3) := by decide +kernel
theorem dX2_mix_39 : decode cX2_mix 39 = .ok (.iload_n 2, 1) := by decide +kernel
theorem dX2_mix_40 : decode cX2_mix 40 = .ok (.iaload, 1) := by decide +kernel
theorem dX2_mix_41 : decode cX2_mix 41 = .ok (.aload_n 0, 1) := by decide +kernel
theorem dX2_mix_42 : decode cX2_mix 42 = .ok (.getfield 13, 3) := by decide +kernel
theorem dX2_mix_45 : decode cX2_mix 45 = .ok (.iload_n 2, 1) := by decide +kernel
theorem dX2_mix_46 : decode cX2_mix 46 = .ok (.iaload, 1) := by decide +kernel
theorem dX2_mix_47 : decode cX2_mix 47 = .ok (.invokestatic 82, 3) := by decide +kernel
theorem dX2_mix_50 : decode cX2_mix 50 = .ok (.iastore, 1) := by decide +kernel
theorem dX2_mix_51 : decode cX2_mix 51 = .ok (.iinc 2 1, 3) := by decide +kernel
theorem dX2_mix_54 : decode cX2_mix 54 = .ok (.goto (-52), 3) := by decide +kernel
theorem dX2_mix_17 : decode cX2_mix 17 = .ok (.aload_n 0, 1) := by decide +kernel
theorem dX2_mix_18 : decode cX2_mix 18 = .ok (.getfield 9, 3) := by decide +kernel
theorem dX2_mix_21 : decode cX2_mix 21 = .ok (.iload_n 2, 1) := by decide +kernel
theorem dX2_mix_22 : decode cX2_mix 22 = .ok (.iaload, 1) := by decide +kernel
theorem dX2_mix_23 : decode cX2_mix 23 = .ok (.aload_n 0, 1) := by decide +kernel
theorem dX2_mix_24 : decode cX2_mix 24 = .ok (.getfield 13, 3) := by decide +kernel
theorem dX2_mix_27 : decode cX2_mix 27 = .ok (.iload_n 2, 1) := by decide +kernel
theorem dX2_mix_28 : decode cX2_mix 28 = .ok (.iaload, 1) := by decide +kernel
theorem dX2_mix_29 : decode cX2_mix 29 = .ok (.invokestatic 79, 3) := by decide +kernel
theorem dX2_mix_32 : decode cX2_mix 32 = .ok (.goto 18, 3) := by decide +kernel
theorem dX2_mix_0 : decode cX2_mix 0 = .ok (.iconst 0, 1) := by decide +kernel
theorem dX2_mix_1 : decode cX2_mix 1 = .ok (.istore_n 2, 1) := by decide +kernel
set_option maxRecDepth 20000 in
theorem ihX2_mix_2 : ∀ w ∈ u_ws RX2 TX2 5, w ∈ wsX2_mix := fun _ h => List.mem_cons_of_mem _ (List.mem_append_right _ h)
set_option maxHeartbeats 4000000 in
set_option maxRecDepth 100000 in
theorem t_X2_mix (l : Launch) (D : va_G) (cy : Nat → ClassId) (a : Nat → Nat) (sz : Nat) (J : Nat → Int64) (I : Nat → Int32) (O : Nat → Option Nat) (R : Nat → Nat → Int32) (RO : Nat → Nat → Option Nat) (LL : va_W) (Y : va_W) (x0 : Bool) : Met l yX2_mix wsX2_mix ({ frames := 1, cells := 0, slots := 0, locals := 29 }) (va_Pc [.ref (a 3), .int (bI x0)] (PW D cy sz (CT cy a J I O R RO (LL ++ Y)))) (va_Qv (fun (u : TS) => ∃ (w0 : Nat → Int32), (True) ∧ u = (J, I, O, (va_up R 4 w0), RO, LL, Y)) (BW D (va_A (CT cy a J I O R RO (LL ++ Y)) sz) (CTu cy a)) (va_A (CT cy a J I O R RO (LL ++ Y)) sz)) 0 0 (va_A (CT cy a J I O R RO (LL ++ Y)) sz) := by
  refine Met.ofW (cc := cX2_mix) (maxL := 3) (ret := none) (by decide) rfl ?_
  intro p e s m args below meth c s₁ B hml hv
  obtain ⟨rfl, rfl, hP, hK, hN, hD0⟩ := hv
  have hx := B.exec
  have hb := B.bytes
  have hr := B.returns
  have hts := atoms_spec (ws := wsX2_mix) B.pre
  have hown : s.vm.findClass RX2 = some m.cls := findClass_of_methodNamed B.named
  have hlocks := B.notSynchronized
  have hw0 := hts (.fieldLink RX2 9 "ParquetLayer$Heights" "here" "[I") (by decide +kernel)
  have hw1 := hts (.fieldLink RX2 13 "ParquetLayer$Heights" "there" "[I") (by decide +kernel)
  have hw2 := hts (.methodLink RX2 82 Lib.Math.min.name) (by decide +kernel)
  have hw3 := hts (.static Lib.Math.min.name) (by decide +kernel)
  have hw4 := hts (.initialized "java/lang/Math") (by decide +kernel)
  have hw5 := hts (.code Lib.Math.min.name Lib.Math.min.code 2 (some .int)) (by decide +kernel)
  have hw6 := hts (.methodLink RX2 79 Lib.Math.max.name) (by decide +kernel)
  have hw7 := hts (.static Lib.Math.max.name) (by decide +kernel)
  have hw8 := hts (.code Lib.Math.max.name Lib.Math.max.code 2 (some .int)) (by decide +kernel)
  have hi2 := ihX2_mix_2
  have hD := hD0.self (sz := s.heap.size)
  generalize hAe : va_A (CT cy a J I O R RO (LL ++ Y)) s.heap.size = A at hD ⊢
  have hA : ∀ q : Nat, s.heap.size ≤ q → A q := fun q h => by rw [← hAe]; exact Or.inr h
  have hS : va_S A s.heap s.heap [] := va_S.rf
  have hl := lv_entry ([.ref (a 3), .int (bI x0)]) (n := 3) (Nat.le_of_ble_eq_true rfl)
  rw [lg_entry_eq]
  generalize (lg_sl ([.ref (a 3), .int (bI x0)]) ++ List.replicate (3 - (lg_sl ([.ref (a 3), .int (bI x0)])).length) Slot.unset).toArray = ls at hl ⊢
  have hl : lv_has ls 3 [(0, .ref (a 3)), (1, .int (bI x0))] := hl
  have lp2 : ∀ (n2 : Nat), ∀ (i : Nat) (m0_2 : Nat → Int32), (i ≤ 81) → (81 - i) < n2 → ∀ (H : Heap) (locs : List Loc), va_P D vwCl (CT cy a J I O (va_up R 4 m0_2) RO (LL ++ Y)) H → va_D A (CT cy a J I O (va_up R 4 m0_2) RO (LL ++ Y)) → va_S A s.heap H locs → ∀ (ls : Array Slot), lv_has ls 3 [(0, .ref (a 3)), (1, .int (bI x0)), (2, .int (nI i))] → W p l e (headSpec wsX2_mix ({ frames := 1, cells := 0, slots := 0, locals := 29 })).room s m ([.ref (a 3), .int (bI x0)] : List Value).toArray below meth c H locs 0 0 (MQ below (va_Qv (fun (u : TS) => ∃ (w0 : Nat → Int32), (True) ∧ u = (J, I, O, (va_up R 4 w0), RO, LL, Y)) (BW D A (CTu cy a)) A) ([.ref (a 3), .int (bI x0)] : List Value).toArray s 0 0 A) (F0 m 2 ls []) := by
    intro n2
    induction n2 with
    | zero => intro i m0_2 hi hn; exact absurd hn (Nat.not_lt_zero _)
    | succ n2 ih2 =>
      intro i m0_2 hi hn2 H locs hP hD hS ls hl
      refine lv_iload_n hx hb dX2_mix_2 rfl (lv_at hl 2 rfl) ?_
      refine lv_bipush (v := 81) hx hb dX2_mix_3 (by decide) ?_
      refine lv_icmp_ge (tgt := 57) hx hb dX2_mix_5 (by decide) (fun c_1 => ?_) (fun c_1 => ?_)
      · exact wret_v hx hb hr hlocks (J, I, O, (va_up R 4 m0_2), RO, LL, Y) ⟨m0_2, trivial, rfl⟩ hP hD hS dX2_mix_57
      · have hlt_i := ctr_lt (N := 81) (by decide) hi c_1
        refine lv_aload_n hx hb dX2_mix_8 rfl (lv_at hl 0 rfl) ?_
        refine va_get (D := D) (ci := 1) (v := .ref (a 4)) (C := RX2) (T := TX2) (N := 5) hx hb hts hi2 hown hK hP 3 rfl rfl 0 (by decide) hw0 (fun _ h9 => h9) rfl dX2_mix_9 ?_
        refine lv_iload_n hx hb dX2_mix_12 rfl (lv_at hl 2 rfl) ?_
        refine lv_iload_n hx hb dX2_mix_13 rfl (lv_at hl 1 rfl) ?_
        refine lv_if_eq (tgt := 35) hx hb dX2_mix_14 (by decide) (fun c_2 => ?_) (fun c_2 => ?_)
        · replace c_2 := bI_f c_2
          refine lv_aload_n hx hb dX2_mix_35 rfl (lv_at hl 0 rfl) ?_
          refine va_get (D := D) (ci := 1) (v := .ref (a 4)) (C := RX2) (T := TX2) (N := 5) hx hb hts hi2 hown hK hP 3 rfl rfl 0 (by decide) hw0 (fun _ h9 => h9) rfl dX2_mix_36 ?_
          refine lv_iload_n hx hb dX2_mix_39 rfl (lv_at hl 2 rfl) ?_
          refine va_iald hx hb hK hP 4 0 rfl rfl (vp_in_nI hlt_i (by decide)) dX2_mix_40 ?_
          refine lv_aload_n hx hb dX2_mix_41 rfl (lv_at hl 0 rfl) ?_
          refine va_get (D := D) (ci := 1) (v := .ref (a 5)) (C := RX2) (T := TX2) (N := 5) hx hb hts hi2 hown hK hP 3 rfl rfl 1 (by decide) hw1 (fun _ h9 => h9) rfl dX2_mix_42 ?_
          refine lv_iload_n hx hb dX2_mix_45 rfl (lv_at hl 2 rfl) ?_
          refine va_iald hx hb hK hP 5 0 rfl rfl (vp_in_nI hlt_i (by decide)) dX2_mix_46 ?_
          refine va_mmin hx hb (by rw [hml]; exact hl.1.symm) hown hw2 hw3 hw4 hw5 (Nat.le_of_ble_eq_true rfl) (Nat.le_of_ble_eq_true rfl) (Nat.le_of_ble_eq_true rfl) (Nat.le_of_ble_eq_true rfl) dX2_mix_47 ?_
          refine va_iast hx hb hK hP hD hS 4 0 rfl rfl (vp_in_nI hlt_i (by decide)) dX2_mix_50 (fun H locs hP hD hS => ?_)
          have hP : va_P D vwCl (CT cy a J I O (va_up R 4 (upd m0_2 (nI i).toNatClampNeg (if ((R 5) (nI i).toNatClampNeg) < (m0_2 (nI i).toNatClampNeg) then ((R 5) (nI i).toNatClampNeg) else (m0_2 (nI i).toNatClampNeg)))) RO (LL ++ Y)) H := hP
          have hD : va_D A (CT cy a J I O (va_up R 4 (upd m0_2 (nI i).toNatClampNeg (if ((R 5) (nI i).toNatClampNeg) < (m0_2 (nI i).toNatClampNeg) then ((R 5) (nI i).toNatClampNeg) else (m0_2 (nI i).toNatClampNeg)))) RO (LL ++ Y)) := hD
          refine lv_iinc (v := nI (i + 1)) (lv' := [(2, .int (nI (i + 1))), (0, .ref (a 3)), (1, .int (bI x0))]) hx hb dX2_mix_51 hl (k := 2) rfl (nI_1 _) (by decide) rfl (fun ls hl => ?_)
          refine lv_goto (tgt := 2) hx hb dX2_mix_54 (by decide) ?_
          exact ih2 (i + 1) (upd m0_2 (nI i).toNatClampNeg (if ((R 5) (nI i).toNatClampNeg) < (m0_2 (nI i).toNatClampNeg) then ((R 5) (nI i).toNatClampNeg) else (m0_2 (nI i).toNatClampNeg))) (by omega) (by omega) _ _ hP hD hS ls (lv_sub hl [1, 2, 0] rfl)
        · replace c_2 := bI_t c_2
          refine lv_aload_n hx hb dX2_mix_17 rfl (lv_at hl 0 rfl) ?_
          refine va_get (D := D) (ci := 1) (v := .ref (a 4)) (C := RX2) (T := TX2) (N := 5) hx hb hts hi2 hown hK hP 3 rfl rfl 0 (by decide) hw0 (fun _ h9 => h9) rfl dX2_mix_18 ?_
          refine lv_iload_n hx hb dX2_mix_21 rfl (lv_at hl 2 rfl) ?_
          refine va_iald hx hb hK hP 4 0 rfl rfl (vp_in_nI hlt_i (by decide)) dX2_mix_22 ?_
          refine lv_aload_n hx hb dX2_mix_23 rfl (lv_at hl 0 rfl) ?_
          refine va_get (D := D) (ci := 1) (v := .ref (a 5)) (C := RX2) (T := TX2) (N := 5) hx hb hts hi2 hown hK hP 3 rfl rfl 1 (by decide) hw1 (fun _ h9 => h9) rfl dX2_mix_24 ?_
          refine lv_iload_n hx hb dX2_mix_27 rfl (lv_at hl 2 rfl) ?_
          refine va_iald hx hb hK hP 5 0 rfl rfl (vp_in_nI hlt_i (by decide)) dX2_mix_28 ?_
          refine va_mmax hx hb (by rw [hml]; exact hl.1.symm) hown hw6 hw7 hw4 hw8 (Nat.le_of_ble_eq_true rfl) (Nat.le_of_ble_eq_true rfl) (Nat.le_of_ble_eq_true rfl) (Nat.le_of_ble_eq_true rfl) dX2_mix_29 ?_
          refine lv_goto (tgt := 50) hx hb dX2_mix_32 (by decide) ?_
          refine va_iast hx hb hK hP hD hS 4 0 rfl rfl (vp_in_nI hlt_i (by decide)) dX2_mix_50 (fun H locs hP hD hS => ?_)
          have hP : va_P D vwCl (CT cy a J I O (va_up R 4 (upd m0_2 (nI i).toNatClampNeg (if (m0_2 (nI i).toNatClampNeg) < ((R 5) (nI i).toNatClampNeg) then ((R 5) (nI i).toNatClampNeg) else (m0_2 (nI i).toNatClampNeg)))) RO (LL ++ Y)) H := hP
          have hD : va_D A (CT cy a J I O (va_up R 4 (upd m0_2 (nI i).toNatClampNeg (if (m0_2 (nI i).toNatClampNeg) < ((R 5) (nI i).toNatClampNeg) then ((R 5) (nI i).toNatClampNeg) else (m0_2 (nI i).toNatClampNeg)))) RO (LL ++ Y)) := hD
          refine lv_iinc (v := nI (i + 1)) (lv' := [(2, .int (nI (i + 1))), (0, .ref (a 3)), (1, .int (bI x0))]) hx hb dX2_mix_51 hl (k := 2) rfl (nI_1 _) (by decide) rfl (fun ls hl => ?_)
          refine lv_goto (tgt := 2) hx hb dX2_mix_54 (by decide) ?_
          exact ih2 (i + 1) (upd m0_2 (nI i).toNatClampNeg (if (m0_2 (nI i).toNatClampNeg) < ((R 5) (nI i).toNatClampNeg) then ((R 5) (nI i).toNatClampNeg) else (m0_2 (nI i).toNatClampNeg))) (by omega) (by omega) _ _ hP hD hS ls (lv_sub hl [1, 2, 0] rfl)
  have hP : va_P D vwCl (CT cy a J I O (va_up R 4 (R 4)) RO (LL ++ Y)) s.heap := hP
  have hD : va_D A (CT cy a J I O (va_up R 4 (R 4)) RO (LL ++ Y)) := hD
  refine lv_iconst (v := 0) hx hb dX2_mix_0 (by decide) ?_
  refine lv_istore_n (lv' := [(2, .int 0), (0, .ref (a 3)), (1, .int (bI x0))]) hx hb dX2_mix_1 rfl hl (by decide) rfl (fun ls hl => ?_)
  exact lp2 _ 0 (R 4) (by omega) (Nat.lt_succ_self _) _ _ hP hD hS ls (lv_sub hl [1, 2, 0] rfl)
theorem dX2_acrossStones_5 : decode cX2_acrossStones 5 = .ok (.iload 5, 2) := by decide +kernel
theorem dX2_acrossStones_7 : decode cX2_acrossStones 7 = .ok (.bipush 56, 2) := by decide +kernel
theorem dX2_acrossStones_9 : decode cX2_acrossStones 9 = .ok (.if_icmp .ge 90, 3) := by decide +kernel
theorem dX2_acrossStones_99 : decode cX2_acrossStones 99 = .ok (.lload_n 3, 1) := by decide +kernel
theorem dX2_acrossStones_100 : decode cX2_acrossStones 100 = .ok (.lreturn, 1) := by decide +kernel
theorem dX2_acrossStones_12 : decode cX2_acrossStones 12 = .ok (.iload 5, 2) := by decide +kernel
theorem dX2_acrossStones_14 : decode cX2_acrossStones 14 = .ok (.bipush 8, 2) := by decide +kernel
theorem dX2_acrossStones_16 : decode cX2_acrossStones 16 = .ok (.irem, 1) := by decide +kernel
theorem dX2_acrossStones_17 : decode cX2_acrossStones 17 = .ok (.iload 5, 2) := by decide +kernel
theorem dX2_acrossStones_19 : decode cX2_acrossStones 19 = .ok (.bipush 8, 2) := by decide +kernel
theorem dX2_acrossStones_21 : decode cX2_acrossStones 21 = .ok (.idiv, 1) := by decide +kernel
theorem dX2_acrossStones_22 : decode cX2_acrossStones 22 = .ok (.iconst 1, 1) := by decide +kernel
theorem dX2_acrossStones_23 : decode cX2_acrossStones 23 = .ok (.iadd, 1) := by decide +kernel
set_option maxRecDepth 20000 in
theorem ggX2_acrossStones_X2_pointOf : GoodIn wsX2_acrossStones wsX2_pointOf := goodIn_r _ [9] rfl (by decide +kernel)
set_option maxRecDepth 20000 in
theorem gX2_acrossStones_X2_pointOf : GoodIn wsX2_acrossStones (va_wsS RX2 22 yX2_pointOf wsX2_pointOf) := goodIn_app (goodIn_r _ [6, 7, 8] rfl (by decide +kernel)) ggX2_acrossStones_X2_pointOf
theorem dX2_acrossStones_24 : decode cX2_acrossStones 24 = .ok (.invokestatic 22, 3) := by decide +kernel
theorem dX2_acrossStones_27 : decode cX2_acrossStones 27 = .ok (.istore 6, 2) := by decide +kernel
theorem dX2_acrossStones_29 : decode cX2_acrossStones 29 = .ok (.lload_n 1, 1) := by decide +kernel
theorem dX2_acrossStones_30 : decode cX2_acrossStones 30 = .ok (.iload 5, 2) := by decide +kernel
set_option maxRecDepth 20000 in
theorem ggX2_acrossStones_X1_holds : GoodIn wsX2_acrossStones wsX1_holds := goodIn_r _ [13] rfl (by decide +kernel)
set_option maxRecDepth 20000 in
theorem gX2_acrossStones_X1_holds : GoodIn wsX2_acrossStones (va_wsS RX2 60 yX1_holds wsX1_holds) := goodIn_app (goodIn_r _ [10, 11, 12] rfl (by decide +kernel)) ggX2_acrossStones_X1_holds
theorem dX2_acrossStones_32 : decode cX2_acrossStones 32 = .ok (.invokestatic 60, 3) := by decide +kernel
theorem dX2_acrossStones_35 : decode cX2_acrossStones 35 = .ok (.ifCond .eq 19, 3) := by decide +kernel
theorem dX2_acrossStones_54 : decode cX2_acrossStones 54 = .ok (.iconst 0, 1) := by decide +kernel
theorem dX2_acrossStones_55 : decode cX2_acrossStones 55 = .ok (.istore 7, 2) := by decide +kernel
theorem dX2_acrossStones_57 : decode cX2_acrossStones 57 = .ok (.iload 7, 2) := by decide +kernel
theorem dX2_acrossStones_59 : decode cX2_acrossStones 59 = .ok (.ifCond .eq 34, 3) := by decide +kernel
theorem dX2_acrossStones_93 : decode cX2_acrossStones 93 = .ok (.iinc 5 1, 3) := by decide +kernel
theorem dX2_acrossStones_96 : decode cX2_acrossStones 96 = .ok (.goto (-91), 3) := by decide +kernel
theorem dX2_acrossStones_38 : decode cX2_acrossStones 38 = .ok (.lload_n 1, 1) := by decide +kernel
theorem dX2_acrossStones_39 : decode cX2_acrossStones 39 = .ok (.iload 5, 2) := by decide +kernel
theorem dX2_acrossStones_41 : decode cX2_acrossStones 41 = .ok (.bipush 8, 2) := by decide +kernel
theorem dX2_acrossStones_43 : decode cX2_acrossStones 43 = .ok (.iadd, 1) := by decide +kernel
theorem dX2_acrossStones_44 : decode cX2_acrossStones 44 = .ok (.invokestatic 60, 3) := by decide +kernel
theorem dX2_acrossStones_47 : decode cX2_acrossStones 47 = .ok (.ifCond .eq 7, 3) := by decide +kernel
theorem dX2_acrossStones_50 : decode cX2_acrossStones 50 = .ok (.iconst 1, 1) := by decide +kernel
theorem dX2_acrossStones_51 : decode cX2_acrossStones 51 = .ok (.goto 4, 3) := by decide +kernel
theorem dX2_acrossStones_62 : decode cX2_acrossStones 62 = .ok (.aload_n 0, 1) := by decide +kernel
theorem dX2_acrossStones_63 : decode cX2_acrossStones 63 = .ok (.getfield 9, 3) := by decide +kernel
theorem dX2_acrossStones_66 : decode cX2_acrossStones 66 = .ok (.iload 6, 2) := by decide +kernel
theorem dX2_acrossStones_68 : decode cX2_acrossStones 68 = .ok (.iaload, 1) := by decide +kernel
theorem dX2_acrossStones_69 : decode cX2_acrossStones 69 = .ok (.aload_n 0, 1) := by decide +kernel
theorem dX2_acrossStones_70 : decode cX2_acrossStones 70 = .ok (.getfield 9, 3) := by decide +kernel
theorem dX2_acrossStones_73 : decode cX2_acrossStones 73 = .ok (.iload 6, 2) := by decide +kernel
theorem dX2_acrossStones_75 : decode cX2_acrossStones 75 = .ok (.iconst 1, 1) := by decide +kernel
theorem dX2_acrossStones_76 : decode cX2_acrossStones 76 = .ok (.iadd, 1) := by decide +kernel
theorem dX2_acrossStones_77 : decode cX2_acrossStones 77 = .ok (.iaload, 1) := by decide +kernel
theorem dX2_acrossStones_78 : decode cX2_acrossStones 78 = .ok (.isub, 1) := by decide +kernel
theorem dX2_acrossStones_79 : decode cX2_acrossStones 79 = .ok (.invokestatic 73, 3) := by decide +kernel
theorem dX2_acrossStones_82 : decode cX2_acrossStones 82 = .ok (.iconst 3, 1) := by decide +kernel
theorem dX2_acrossStones_83 : decode cX2_acrossStones 83 = .ok (.if_icmp .ne 10, 3) := by decide +kernel
theorem dX2_acrossStones_86 : decode cX2_acrossStones 86 = .ok (.lload_n 3, 1) := by decide +kernel
theorem dX2_acrossStones_87 : decode cX2_acrossStones 87 = .ok (.lconst 1, 1) := by decide +kernel
theorem dX2_acrossStones_88 : decode cX2_acrossStones 88 = .ok (.iload 5, 2) := by decide +kernel
theorem dX2_acrossStones_90 : decode cX2_acrossStones 90 = .ok (.lshl, 1) := by decide +kernel
theorem dX2_acrossStones_91 : decode cX2_acrossStones 91 = .ok (.lor, 1) := by decide +kernel
theorem dX2_acrossStones_92 : decode cX2_acrossStones 92 = .ok (.lstore_n 3, 1) := by decide +kernel
theorem dX2_acrossStones_0 : decode cX2_acrossStones 0 = .ok (.lconst 0, 1) := by decide +kernel
theorem dX2_acrossStones_1 : decode cX2_acrossStones 1 = .ok (.lstore_n 3, 1) := by decide +kernel
theorem dX2_acrossStones_2 : decode cX2_acrossStones 2 = .ok (.iconst 0, 1) := by decide +kernel
theorem dX2_acrossStones_3 : decode cX2_acrossStones 3 = .ok (.istore 5, 2) := by decide +kernel
set_option maxRecDepth 20000 in
theorem ihX2_acrossStones_2 : ∀ w ∈ u_ws RX2 TX2 5, w ∈ wsX2_acrossStones := fun _ h => List.mem_cons_of_mem _ (List.mem_append_right _ h)
set_option maxHeartbeats 4000000 in
set_option maxRecDepth 100000 in
theorem t_X2_acrossStones (l : Launch) (D : va_G) (cy : Nat → ClassId) (a : Nat → Nat) (sz : Nat) (J : Nat → Int64) (I : Nat → Int32) (O : Nat → Option Nat) (R : Nat → Nat → Int32) (RO : Nat → Nat → Option Nat) (LL : va_W) (Y : va_W) (x0 : Int64) : Met l yX2_acrossStones wsX2_acrossStones ({ frames := 1, cells := 0, slots := 0, locals := 29 }) (va_Pc [.ref (a 3), .long x0] (PW D cy sz (CT cy a J I O R RO (LL ++ Y)))) (vp_Sl (fun r => True)) 0 0 (fun _ => False) := by
  refine Met.ofW (cc := cX2_acrossStones) (maxL := 8) (ret := (some .long)) (by decide) rfl ?_
  intro p e s m args below meth c s₁ B hml hv
  obtain ⟨rfl, rfl, hP, hK, hN, hD0⟩ := hv
  have hx := B.exec
  have hb := B.bytes
  have hr := B.returns
  have hts := atoms_spec (ws := wsX2_acrossStones) B.pre
  have hown : s.vm.findClass RX2 = some m.cls := findClass_of_methodNamed B.named
  have hlocks := B.notSynchronized
  have hw0 := hts (.fieldLink RX2 9 "ParquetLayer$Heights" "here" "[I") (by decide +kernel)
  have hw1 := hts (.methodLink RX2 73 Lib.Math.abs.name) (by decide +kernel)
  have hw2 := hts (.static Lib.Math.abs.name) (by decide +kernel)
  have hw3 := hts (.initialized "java/lang/Math") (by decide +kernel)
  have hw4 := hts (.code Lib.Math.abs.name Lib.Math.abs.code 1 (some .int)) (by decide +kernel)
  have hi2 := ihX2_acrossStones_2
  have hD := hD0
  have hl := lv_entry ([.ref (a 3), .long x0]) (n := 8) (Nat.le_of_ble_eq_true rfl)
  rw [lg_entry_eq]
  generalize (lg_sl ([.ref (a 3), .long x0]) ++ List.replicate (8 - (lg_sl ([.ref (a 3), .long x0])).length) Slot.unset).toArray = ls at hl ⊢
  have hl : lv_has ls 8 [(0, .ref (a 3)), (1, .long x0)] := hl
  have lp5 : ∀ (n5 : Nat), ∀ (i : Nat) (v3_5 : Int64), (i ≤ 56) → (56 - i) < n5 → ∀ (ls : Array Slot), lv_has ls 8 [(0, .ref (a 3)), (1, .long x0), (3, .long v3_5), (5, .int (nI i))] → W p l e (headSpec wsX2_acrossStones ({ frames := 1, cells := 0, slots := 0, locals := 29 })).room s m ([.ref (a 3), .long x0] : List Value).toArray below meth c s.heap [] 0 0 (MQ below (vp_Sl (fun r => True)) ([.ref (a 3), .long x0] : List Value).toArray s 0 0 (fun _ => False)) (F0 m 5 ls []) := by
    intro n5
    induction n5 with
    | zero => intro i v3_5 hi hn; exact absurd hn (Nat.not_lt_zero _)
    | succ n5 ih5 =>
      intro i v3_5 hi hn5 ls hl
      refine lv_iload hx hb dX2_acrossStones_5 (lv_at hl 3 rfl) ?_
      refine lv_bipush (v := 56) hx hb dX2_acrossStones_7 (by decide) ?_
      refine lv_icmp_ge (tgt := 99) hx hb dX2_acrossStones_9 (by decide) (fun c_1 => ?_) (fun c_1 => ?_)
      · refine lv_lload_n hx hb dX2_acrossStones_99 rfl (lv_at hl 2 rfl) ?_
        exact aret_l hx hb hr hlocks trivial dX2_acrossStones_100
      · have hlt_i := ctr_lt (N := 56) (by decide) hi c_1
        refine lv_iload hx hb dX2_acrossStones_12 (lv_at hl 3 rfl) ?_
        refine lv_bipush (v := 8) hx hb dX2_acrossStones_14 (by decide) ?_
        refine lv_irem hx hb dX2_acrossStones_16 (by decide) ?_
        refine lv_iload hx hb dX2_acrossStones_17 (lv_at hl 3 rfl) ?_
        refine lv_bipush (v := 8) hx hb dX2_acrossStones_19 (by decide) ?_
        refine lv_idiv hx hb dX2_acrossStones_21 (by decide) ?_
        refine lv_iconst (v := 1) hx hb dX2_acrossStones_22 (by decide) ?_
        refine lv_iadd hx hb dX2_acrossStones_23 ?_
        refine kS_i (As := [.int ((nI i) - (nI i) / 8 * 8), .int (((nI i) / 8) + 1)]) (rest := []) ⟨hx, hb, hml, hown, hts⟩ (c_X2_pointOf l ((nI i) - (nI i) / 8 * 8) (((nI i) / 8) + 1)) (va_cwS 2 hts gX2_acrossStones_X2_pointOf rfl rfl rfl (by decide +kernel) ⟨Nat.le_of_ble_eq_true rfl, Nat.le_of_ble_eq_true rfl⟩) rfl hl.1 rfl (Nat.le_of_ble_eq_true rfl) dX2_acrossStones_24 ⟨Nat.le_of_ble_eq_true rfl, Nat.le_of_ble_eq_true rfl⟩ ?_
        refine lv_istore (lv' := [(6, .int (9 * (((nI i) / 8) + 1) + ((nI i) - (nI i) / 8 * 8))), (0, .ref (a 3)), (1, .long x0), (3, .long v3_5), (5, .int (nI i))]) hx hb dX2_acrossStones_27 hl (by decide) rfl (fun ls hl => ?_)
        refine lv_lload_n hx hb dX2_acrossStones_29 rfl (lv_at hl 2 rfl) ?_
        refine lv_iload hx hb dX2_acrossStones_30 (lv_at hl 4 rfl) ?_
        refine kS_i (As := [.long x0, .int (nI i)]) (rest := []) ⟨hx, hb, hml, hown, hts⟩ (c_X1_holds l x0 (nI i)) (va_cwS 2 hts gX2_acrossStones_X1_holds rfl rfl rfl (by decide +kernel) ⟨Nat.le_of_ble_eq_true rfl, Nat.le_of_ble_eq_true rfl⟩) rfl hl.1 rfl (Nat.le_of_ble_eq_true rfl) dX2_acrossStones_32 ⟨Nat.le_of_ble_eq_true rfl, Nat.le_of_ble_eq_true rfl⟩ ?_
        refine lv_if_eq (tgt := 54) hx hb dX2_acrossStones_35 (by decide) (fun c_2 => ?_) (fun c_2 => ?_)
        · replace c_2 := bI_f c_2
          refine lv_iconst (v := 0) hx hb dX2_acrossStones_54 (by decide) ?_
          refine lv_istore (lv' := [(7, .int 0), (6, .int (9 * (((nI i) / 8) + 1) + ((nI i) - (nI i) / 8 * 8))), (0, .ref (a 3)), (1, .long x0), (3, .long v3_5), (5, .int (nI i))]) hx hb dX2_acrossStones_55 hl (by decide) rfl (fun ls hl => ?_)
          refine lv_iload hx hb dX2_acrossStones_57 (lv_at hl 0 rfl) ?_
          refine lv_if_eq (tgt := 93) hx hb dX2_acrossStones_59 (by decide) (fun c_3 => ?_) (fun c_3 => absurd (by decide) c_3)
          refine lv_iinc (v := nI (i + 1)) (lv' := [(5, .int (nI (i + 1))), (7, .int 0), (6, .int (9 * (((nI i) / 8) + 1) + ((nI i) - (nI i) / 8 * 8))), (0, .ref (a 3)), (1, .long x0), (3, .long v3_5)]) hx hb dX2_acrossStones_93 hl (k := 5) rfl (nI_1 _) (by decide) rfl (fun ls hl => ?_)
          refine lv_goto (tgt := 5) hx hb dX2_acrossStones_96 (by decide) ?_
          exact ih5 (i + 1) v3_5 (by omega) (by omega) ls (lv_sub hl [3, 4, 5, 0] rfl)
        · replace c_2 := bI_t c_2
          refine lv_lload_n hx hb dX2_acrossStones_38 rfl (lv_at hl 2 rfl) ?_
          refine lv_iload hx hb dX2_acrossStones_39 (lv_at hl 4 rfl) ?_
          refine lv_bipush (v := 8) hx hb dX2_acrossStones_41 (by decide) ?_
          refine lv_iadd hx hb dX2_acrossStones_43 ?_
          refine kS_i (As := [.long x0, .int ((nI i) + 8)]) (rest := []) ⟨hx, hb, hml, hown, hts⟩ (c_X1_holds l x0 ((nI i) + 8)) (va_cwS 2 hts gX2_acrossStones_X1_holds rfl rfl rfl (by decide +kernel) ⟨Nat.le_of_ble_eq_true rfl, Nat.le_of_ble_eq_true rfl⟩) rfl hl.1 rfl (Nat.le_of_ble_eq_true rfl) dX2_acrossStones_44 ⟨Nat.le_of_ble_eq_true rfl, Nat.le_of_ble_eq_true rfl⟩ ?_
          refine lv_if_eq (tgt := 54) hx hb dX2_acrossStones_47 (by decide) (fun c_4 => ?_) (fun c_4 => ?_)
          · replace c_4 := bI_f c_4
            refine lv_iconst (v := 0) hx hb dX2_acrossStones_54 (by decide) ?_
            refine lv_istore (lv' := [(7, .int 0), (6, .int (9 * (((nI i) / 8) + 1) + ((nI i) - (nI i) / 8 * 8))), (0, .ref (a 3)), (1, .long x0), (3, .long v3_5), (5, .int (nI i))]) hx hb dX2_acrossStones_55 hl (by decide) rfl (fun ls hl => ?_)
            refine lv_iload hx hb dX2_acrossStones_57 (lv_at hl 0 rfl) ?_
            refine lv_if_eq (tgt := 93) hx hb dX2_acrossStones_59 (by decide) (fun c_5 => ?_) (fun c_5 => absurd (by decide) c_5)
            refine lv_iinc (v := nI (i + 1)) (lv' := [(5, .int (nI (i + 1))), (7, .int 0), (6, .int (9 * (((nI i) / 8) + 1) + ((nI i) - (nI i) / 8 * 8))), (0, .ref (a 3)), (1, .long x0), (3, .long v3_5)]) hx hb dX2_acrossStones_93 hl (k := 5) rfl (nI_1 _) (by decide) rfl (fun ls hl => ?_)
            refine lv_goto (tgt := 5) hx hb dX2_acrossStones_96 (by decide) ?_
            exact ih5 (i + 1) v3_5 (by omega) (by omega) ls (lv_sub hl [3, 4, 5, 0] rfl)
          · replace c_4 := bI_t c_4
            refine lv_iconst (v := 1) hx hb dX2_acrossStones_50 (by decide) ?_
            refine lv_goto (tgt := 55) hx hb dX2_acrossStones_51 (by decide) ?_
            refine lv_istore (lv' := [(7, .int 1), (6, .int (9 * (((nI i) / 8) + 1) + ((nI i) - (nI i) / 8 * 8))), (0, .ref (a 3)), (1, .long x0), (3, .long v3_5), (5, .int (nI i))]) hx hb dX2_acrossStones_55 hl (by decide) rfl (fun ls hl => ?_)
            refine lv_iload hx hb dX2_acrossStones_57 (lv_at hl 0 rfl) ?_
            refine lv_if_eq (tgt := 93) hx hb dX2_acrossStones_59 (by decide) (fun c_6 => absurd c_6 (by decide)) (fun c_6 => ?_)
            refine lv_aload_n hx hb dX2_acrossStones_62 rfl (lv_at hl 2 rfl) ?_
            refine va_get (D := D) (ci := 1) (v := .ref (a 4)) (C := RX2) (T := TX2) (N := 5) hx hb hts hi2 hown hK hP 3 rfl rfl 0 (by decide) hw0 (fun _ h9 => h9) rfl dX2_acrossStones_63 ?_
            refine lv_iload hx hb dX2_acrossStones_66 (lv_at hl 1 rfl) ?_
            refine va_iald hx hb hK hP 4 0 rfl rfl (acs_t ⟨i, hlt_i⟩) dX2_acrossStones_68 ?_
            refine lv_aload_n hx hb dX2_acrossStones_69 rfl (lv_at hl 2 rfl) ?_
            refine va_get (D := D) (ci := 1) (v := .ref (a 4)) (C := RX2) (T := TX2) (N := 5) hx hb hts hi2 hown hK hP 3 rfl rfl 0 (by decide) hw0 (fun _ h9 => h9) rfl dX2_acrossStones_70 ?_
            refine lv_iload hx hb dX2_acrossStones_73 (lv_at hl 1 rfl) ?_
            refine lv_iconst (v := 1) hx hb dX2_acrossStones_75 (by decide) ?_
            refine lv_iadd hx hb dX2_acrossStones_76 ?_
            refine va_iald hx hb hK hP 4 0 rfl rfl (acs_t1 ⟨i, hlt_i⟩) dX2_acrossStones_77 ?_
            refine lv_isub hx hb dX2_acrossStones_78 ?_
            refine va_mabs hx hb (by rw [hml]; exact hl.1.symm) hown hw1 hw2 hw3 hw4 (Nat.le_of_ble_eq_true rfl) (Nat.le_of_ble_eq_true rfl) (Nat.le_of_ble_eq_true rfl) (Nat.le_of_ble_eq_true rfl) dX2_acrossStones_79 ?_
            refine lv_iconst (v := 3) hx hb dX2_acrossStones_82 (by decide) ?_
            refine lv_icmp_ne (tgt := 93) hx hb dX2_acrossStones_83 (by decide) (fun c_7 => ?_) (fun c_7 => ?_)
            · refine lv_iinc (v := nI (i + 1)) (lv' := [(5, .int (nI (i + 1))), (7, .int 1), (6, .int (9 * (((nI i) / 8) + 1) + ((nI i) - (nI i) / 8 * 8))), (0, .ref (a 3)), (1, .long x0), (3, .long v3_5)]) hx hb dX2_acrossStones_93 hl (k := 5) rfl (nI_1 _) (by decide) rfl (fun ls hl => ?_)
              refine lv_goto (tgt := 5) hx hb dX2_acrossStones_96 (by decide) ?_
              exact ih5 (i + 1) v3_5 (by omega) (by omega) ls (lv_sub hl [3, 4, 5, 0] rfl)
            · refine lv_lload_n hx hb dX2_acrossStones_86 rfl (lv_at hl 4 rfl) ?_
              refine lv_lconst (v := 1) hx hb dX2_acrossStones_87 (by decide) ?_
              refine lv_iload hx hb dX2_acrossStones_88 (lv_at hl 5 rfl) ?_
              refine lv_lshl (v := (1 : Int64) <<< ((nI i : Int32).toInt64 &&& 63)) hx hb dX2_acrossStones_90 rfl ?_
              refine lv_lor hx hb dX2_acrossStones_91 ?_
              refine lv_lstore_n (lv' := [(3, .long (v3_5 ||| ((1 : Int64) <<< ((nI i : Int32).toInt64 &&& 63)))), (7, .int 1), (6, .int (9 * (((nI i) / 8) + 1) + ((nI i) - (nI i) / 8 * 8))), (0, .ref (a 3)), (1, .long x0), (5, .int (nI i))]) hx hb dX2_acrossStones_92 rfl hl (by decide) rfl (fun ls hl => ?_)
              refine lv_iinc (v := nI (i + 1)) (lv' := [(5, .int (nI (i + 1))), (3, .long (v3_5 ||| ((1 : Int64) <<< ((nI i : Int32).toInt64 &&& 63)))), (7, .int 1), (6, .int (9 * (((nI i) / 8) + 1) + ((nI i) - (nI i) / 8 * 8))), (0, .ref (a 3)), (1, .long x0)]) hx hb dX2_acrossStones_93 hl (k := 5) rfl (nI_1 _) (by decide) rfl (fun ls hl => ?_)
              refine lv_goto (tgt := 5) hx hb dX2_acrossStones_96 (by decide) ?_
              exact ih5 (i + 1) (v3_5 ||| ((1 : Int64) <<< ((nI i : Int32).toInt64 &&& 63))) (by omega) (by omega) ls (lv_sub hl [4, 5, 1, 0] rfl)
  refine lv_lconst (v := 0) hx hb dX2_acrossStones_0 (by decide) ?_
  refine lv_lstore_n (lv' := [(3, .long 0), (0, .ref (a 3)), (1, .long x0)]) hx hb dX2_acrossStones_1 rfl hl (by decide) rfl (fun ls hl => ?_)
  refine lv_iconst (v := 0) hx hb dX2_acrossStones_2 (by decide) ?_
  refine lv_istore (lv' := [(5, .int 0), (3, .long 0), (0, .ref (a 3)), (1, .long x0)]) hx hb dX2_acrossStones_3 hl (by decide) rfl (fun ls hl => ?_)
  exact lp5 _ 0 (0 : Int64) (by omega) (Nat.lt_succ_self _) ls (lv_sub hl [2, 3, 1, 0] rfl)
