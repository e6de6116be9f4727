theorem dX9_stone_0 : decode cX9_stone 0 = .ok (.iload_n 1, 1) := by decide +kernel
set_option maxRecDepth 20000 in
theorem ggX9_stone_X9_isKind : GoodIn wsX9_stone wsX9_isKind := goodIn_r _ [16] rfl (by decide +kernel)
set_option maxRecDepth 20000 in
theorem gX9_stone_X9_isKind : GoodIn wsX9_stone (va_wsS RX9 88 yX9_isKind wsX9_isKind) := goodIn_app (goodIn_r _ [13, 14, 15] rfl (by decide +kernel)) ggX9_stone_X9_isKind
theorem dX9_stone_1 : decode cX9_stone 1 = .ok (.invokestatic 88, 3) := by decide +kernel
theorem dX9_stone_4 : decode cX9_stone 4 = .ok (.ifCond .eq 19, 3) := by decide +kernel
theorem dX9_stone_23 : decode cX9_stone 23 = .ok (.aload_n 0, 1) := by decide +kernel
theorem dX9_stone_24 : decode cX9_stone 24 = .ok (.ldc 43, 2) := by decide +kernel
set_option maxRecDepth 20000 in
theorem ggX9_stone_X9_finding : GoodIn wsX9_stone wsX9_finding := goodIn_r _ [27, 28, 100, 101, 102, 103, 104, 105, 106, 107, 108, 109, 110] rfl (by decide +kernel)
set_option maxRecDepth 20000 in
theorem gX9_stone_X9_finding : GoodIn wsX9_stone (wsV RX9 44 RX9 yX9_finding wsX9_finding) := goodIn_app (goodIn_r _ [24, 25, 26, 15] rfl (by decide +kernel)) ggX9_stone_X9_finding
theorem dX9_stone_26 : decode cX9_stone 26 = .ok (.invokevirtual 44, 3) := by decide +kernel
theorem dX9_stone_29 : decode cX9_stone 29 = .ok (.ireturn, 1) := by decide +kernel
theorem dX9_stone_7 : decode cX9_stone 7 = .ok (.iload_n 2, 1) := by decide +kernel
set_option maxRecDepth 20000 in
theorem ggX9_stone_X1_isField : GoodIn wsX9_stone wsX1_isField := goodIn_r _ [20] rfl (by decide +kernel)
set_option maxRecDepth 20000 in
theorem gX9_stone_X1_isField : GoodIn wsX9_stone (va_wsS RX9 60 yX1_isField wsX1_isField) := goodIn_app (goodIn_r _ [17, 18, 19] rfl (by decide +kernel)) ggX9_stone_X1_isField
theorem dX9_stone_8 : decode cX9_stone 8 = .ok (.invokestatic 60, 3) := by decide +kernel
theorem dX9_stone_11 : decode cX9_stone 11 = .ok (.ifCond .eq 12, 3) := by decide +kernel
theorem dX9_stone_14 : decode cX9_stone 14 = .ok (.iload_n 1, 1) := by decide +kernel
theorem dX9_stone_15 : decode cX9_stone 15 = .ok (.iload 4, 2) := by decide +kernel
set_option maxRecDepth 20000 in
theorem ggX9_stone_X9_fitsColour : GoodIn wsX9_stone wsX9_fitsColour := goodIn_r _ [23] rfl (by decide +kernel)
set_option maxRecDepth 20000 in
theorem gX9_stone_X9_fitsColour : GoodIn wsX9_stone (va_wsS RX9 91 yX9_fitsColour wsX9_fitsColour) := goodIn_app (goodIn_r _ [21, 22, 15] rfl (by decide +kernel)) ggX9_stone_X9_fitsColour
theorem dX9_stone_17 : decode cX9_stone 17 = .ok (.invokestatic 91, 3) := by decide +kernel
theorem dX9_stone_20 : decode cX9_stone 20 = .ok (.ifCond .ne 10, 3) := by decide +kernel
theorem dX9_stone_30 : decode cX9_stone 30 = .ok (.aload_n 0, 1) := by decide +kernel
theorem dX9_stone_31 : decode cX9_stone 31 = .ok (.iload_n 2, 1) := by decide +kernel
theorem dX9_stone_32 : decode cX9_stone 32 = .ok (.iload_n 3, 1) := by decide +kernel
set_option maxRecDepth 20000 in
theorem ggX9_stone_X9_isPlace : GoodIn wsX9_stone wsX9_isPlace := goodIn_r _ [32, 9, 33, 34, 35, 19, 36, 100, 101, 102, 103, 104, 105, 106, 107, 108, 109, 110] rfl (by decide +kernel)
set_option maxRecDepth 20000 in
theorem gX9_stone_X9_isPlace : GoodIn wsX9_stone (wsV RX9 95 RX9 yX9_isPlace wsX9_isPlace) := goodIn_app (goodIn_r _ [29, 30, 31, 15] rfl (by decide +kernel)) ggX9_stone_X9_isPlace
theorem dX9_stone_33 : decode cX9_stone 33 = .ok (.invokevirtual 95, 3) := by decide +kernel
theorem dX9_stone_36 : decode cX9_stone 36 = .ok (.ifCond .ne 10, 3) := by decide +kernel
theorem dX9_stone_46 : decode cX9_stone 46 = .ok (.aload_n 0, 1) := by decide +kernel
set_option maxRecDepth 20000 in
theorem ggX9_stone_X9_stoneCount : GoodIn wsX9_stone wsX9_stoneCount := goodIn_r _ [40, 6, 41, 100, 101, 102, 103, 104, 105, 106, 107, 108, 109, 110, 93, 94, 95, 96, 97, 98, 99] rfl (by decide +kernel)
set_option maxRecDepth 20000 in
theorem gX9_stone_X9_stoneCount : GoodIn wsX9_stone (wsV RX9 100 RX9 yX9_stoneCount wsX9_stoneCount) := goodIn_app (goodIn_r _ [37, 38, 39, 15] rfl (by decide +kernel)) ggX9_stone_X9_stoneCount
theorem dX9_stone_47 : decode cX9_stone 47 = .ok (.invokevirtual 100, 3) := by decide +kernel
theorem dX9_stone_50 : decode cX9_stone 50 = .ok (.istore 5, 2) := by decide +kernel
theorem dX9_stone_52 : decode cX9_stone 52 = .ok (.new 104, 3) := by decide +kernel
theorem dX9_stone_55 : decode cX9_stone 55 = .ok (.dup, 1) := by decide +kernel
theorem dX9_stone_56 : decode cX9_stone 56 = .ok (.aload_n 0, 1) := by decide +kernel
theorem dX9_stone_57 : decode cX9_stone 57 = .ok (.getfield 106, 3) := by decide +kernel
theorem dX9_stone_60 : decode cX9_stone 60 = .ok (.iload 5, 2) := by decide +kernel
theorem dX9_stone_62 : decode cX9_stone 62 = .ok (.iload_n 1, 1) := by decide +kernel
theorem dX9_stone_63 : decode cX9_stone 63 = .ok (.iload_n 2, 1) := by decide +kernel
theorem dX9_stone_64 : decode cX9_stone 64 = .ok (.iload_n 3, 1) := by decide +kernel
theorem dX9_stone_65 : decode cX9_stone 65 = .ok (.iload 4, 2) := by decide +kernel
set_option maxRecDepth 20000 in
theorem ggX9_stone_X7_init : GoodIn wsX9_stone wsX7_init := goodIn_r _ [44, 45, 46, 47, 48, 49, 50, 51, 52, 53, 54, 55, 35, 19, 36, 93, 94, 95, 96, 97, 98, 99] rfl (by decide +kernel)
set_option maxRecDepth 20000 in
theorem gX9_stone_X7_init : GoodIn wsX9_stone (wsX7_init) := ggX9_stone_X7_init
theorem dX9_stone_67 : decode cX9_stone 67 = .ok (.invokespecial 110, 3) := by decide +kernel
theorem dX9_stone_70 : decode cX9_stone 70 = .ok (.astore 6, 2) := by decide +kernel
theorem dX9_stone_72 : decode cX9_stone 72 = .ok (.aload 6, 2) := by decide +kernel
set_option maxRecDepth 20000 in
theorem ggX9_stone_X7_isGlued : GoodIn wsX9_stone wsX7_isGlued := goodIn_r _ [59, 50, 60, 15, 61, 93, 94, 95, 96, 97, 98, 99] rfl (by decide +kernel)
set_option maxRecDepth 20000 in
theorem gX9_stone_X7_isGlued : GoodIn wsX9_stone (wsV RX9 113 RX7 yX7_isGlued wsX7_isGlued) := goodIn_app (goodIn_r _ [56, 57, 58, 5] rfl (by decide +kernel)) ggX9_stone_X7_isGlued
theorem dX9_stone_74 : decode cX9_stone 74 = .ok (.invokevirtual 113, 3) := by decide +kernel
theorem dX9_stone_77 : decode cX9_stone 77 = .ok (.ifCond .eq 25, 3) := by decide +kernel
theorem dX9_stone_102 : decode cX9_stone 102 = .ok (.iload_n 1, 1) := by decide +kernel
theorem dX9_stone_103 : decode cX9_stone 103 = .ok (.iconst 3, 1) := by decide +kernel
theorem dX9_stone_104 : decode cX9_stone 104 = .ok (.if_icmp .ne 25, 3) := by decide +kernel
theorem dX9_stone_129 : decode cX9_stone 129 = .ok (.iload 5, 2) := by decide +kernel
theorem dX9_stone_131 : decode cX9_stone 131 = .ok (.bipush 20, 2) := by decide +kernel
theorem dX9_stone_133 : decode cX9_stone 133 = .ok (.if_icmp .lt 10, 3) := by decide +kernel
theorem dX9_stone_143 : decode cX9_stone 143 = .ok (.aload_n 0, 1) := by decide +kernel
set_option maxRecDepth 20000 in
theorem ggX9_stone_X9_keepPast : GoodIn wsX9_stone wsX9_keepPast := goodIn_r _ [80, 81, 82, 83, 84, 85, 9, 6, 12, 86, 87, 88, 89, 46, 47, 90, 91, 92, 100, 101, 102, 103, 104, 105, 106, 107, 108, 109, 110, 111, 112, 113] rfl (by decide +kernel)
set_option maxRecDepth 20000 in
theorem gX9_stone_X9_keepPast : GoodIn wsX9_stone (wsV RX9 130 RX9 yX9_keepPast wsX9_keepPast) := goodIn_app (goodIn_r _ [77, 78, 79, 15] rfl (by decide +kernel)) ggX9_stone_X9_keepPast
theorem dX9_stone_144 : decode cX9_stone 144 = .ok (.invokevirtual 130, 3) := by decide +kernel
theorem dX9_stone_147 : decode cX9_stone 147 = .ok (.aload_n 0, 1) := by decide +kernel
theorem dX9_stone_148 : decode cX9_stone 148 = .ok (.aload 6, 2) := by decide +kernel
theorem dX9_stone_150 : decode cX9_stone 150 = .ok (.putfield 106, 3) := by decide +kernel
theorem dX9_stone_153 : decode cX9_stone 153 = .ok (.aload_n 0, 1) := by decide +kernel
theorem dX9_stone_154 : decode cX9_stone 154 = .ok (.aconst_null, 1) := by decide +kernel
theorem dX9_stone_155 : decode cX9_stone 155 = .ok (.putfield 133, 3) := by decide +kernel
theorem dX9_stone_158 : decode cX9_stone 158 = .ok (.iload 5, 2) := by decide +kernel
theorem dX9_stone_160 : decode cX9_stone 160 = .ok (.ireturn, 1) := by decide +kernel
theorem dX9_stone_136 : decode cX9_stone 136 = .ok (.aload_n 0, 1) := by decide +kernel
theorem dX9_stone_137 : decode cX9_stone 137 = .ok (.ldc 129, 2) := by decide +kernel
theorem dX9_stone_139 : decode cX9_stone 139 = .ok (.invokevirtual 44, 3) := by decide +kernel
theorem dX9_stone_142 : decode cX9_stone 142 = .ok (.ireturn, 1) := by decide +kernel
theorem dX9_stone_107 : decode cX9_stone 107 = .ok (.aload 6, 2) := by decide +kernel
theorem dX9_stone_109 : decode cX9_stone 109 = .ok (.getfield 116, 3) := by decide +kernel
theorem dX9_stone_112 : decode cX9_stone 112 = .ok (.aload_n 0, 1) := by decide +kernel
theorem dX9_stone_113 : decode cX9_stone 113 = .ok (.getfield 48, 3) := by decide +kernel
set_option maxRecDepth 20000 in
theorem ggX9_stone_X1_touchesOutside : GoodIn wsX9_stone wsX1_touchesOutside := goodIn_r _ [69, 70, 71, 72, 73, 19, 74, 75, 76] rfl (by decide +kernel)
set_option maxRecDepth 20000 in
theorem gX9_stone_X1_touchesOutside : GoodIn wsX9_stone (va_wsS RX9 124 yX1_touchesOutside wsX1_touchesOutside) := goodIn_app (goodIn_r _ [67, 68, 19] rfl (by decide +kernel)) ggX9_stone_X1_touchesOutside
theorem dX9_stone_116 : decode cX9_stone 116 = .ok (.invokestatic 124, 3) := by decide +kernel
theorem dX9_stone_119 : decode cX9_stone 119 = .ok (.ifCond .ne 10, 3) := by decide +kernel
theorem dX9_stone_122 : decode cX9_stone 122 = .ok (.aload_n 0, 1) := by decide +kernel
theorem dX9_stone_123 : decode cX9_stone 123 = .ok (.ldc 128, 2) := by decide +kernel
theorem dX9_stone_125 : decode cX9_stone 125 = .ok (.invokevirtual 44, 3) := by decide +kernel
theorem dX9_stone_128 : decode cX9_stone 128 = .ok (.ireturn, 1) := by decide +kernel
theorem dX9_stone_80 : decode cX9_stone 80 = .ok (.aload 6, 2) := by decide +kernel
theorem dX9_stone_82 : decode cX9_stone 82 = .ok (.getfield 116, 3) := by decide +kernel
theorem dX9_stone_85 : decode cX9_stone 85 = .ok (.aload_n 0, 1) := by decide +kernel
set_option maxRecDepth 20000 in
theorem ggX9_stone_X9_gluedFields : GoodIn wsX9_stone wsX9_gluedFields := goodIn_r _ [65, 6, 7, 66, 56, 57, 58, 5, 59, 50, 60, 15, 61, 100, 101, 102, 103, 104, 105, 106, 107, 108, 109, 110, 93, 94, 95, 96, 97, 98, 99] rfl (by decide +kernel)
set_option maxRecDepth 20000 in
theorem gX9_stone_X9_gluedFields : GoodIn wsX9_stone (wsV RX9 119 RX9 yX9_gluedFields wsX9_gluedFields) := goodIn_app (goodIn_r _ [62, 63, 64, 15] rfl (by decide +kernel)) ggX9_stone_X9_gluedFields
theorem dX9_stone_86 : decode cX9_stone 86 = .ok (.invokevirtual 119, 3) := by decide +kernel
theorem dX9_stone_89 : decode cX9_stone 89 = .ok (.land, 1) := by decide +kernel
theorem dX9_stone_90 : decode cX9_stone 90 = .ok (.lconst 0, 1) := by decide +kernel
theorem dX9_stone_91 : decode cX9_stone 91 = .ok (.lcmp, 1) := by decide +kernel
theorem dX9_stone_92 : decode cX9_stone 92 = .ok (.ifCond .eq 10, 3) := by decide +kernel
theorem dX9_stone_95 : decode cX9_stone 95 = .ok (.aload_n 0, 1) := by decide +kernel
theorem dX9_stone_96 : decode cX9_stone 96 = .ok (.ldc 123, 2) := by decide +kernel
theorem dX9_stone_98 : decode cX9_stone 98 = .ok (.invokevirtual 44, 3) := by decide +kernel
theorem dX9_stone_101 : decode cX9_stone 101 = .ok (.ireturn, 1) := by decide +kernel
theorem dX9_stone_39 : decode cX9_stone 39 = .ok (.aload_n 0, 1) := by decide +kernel
theorem dX9_stone_40 : decode cX9_stone 40 = .ok (.ldc 99, 2) := by decide +kernel
theorem dX9_stone_42 : decode cX9_stone 42 = .ok (.invokevirtual 44, 3) := by decide +kernel
theorem dX9_stone_45 : decode cX9_stone 45 = .ok (.ireturn, 1) := by decide +kernel
set_option maxRecDepth 20000 in
theorem ihX9_stone_7 : ∀ w ∈ u_ws RX7 TX7 7, w ∈ wsX9_stone := fun _ h => List.mem_cons_of_mem _ (List.mem_append_left _ (List.mem_append_left _ (List.mem_append_right _ h)))
set_option maxRecDepth 20000 in
theorem ihX9_stone_9 : ∀ w ∈ u_ws RX9 TX9 11, w ∈ wsX9_stone := fun _ h => List.mem_cons_of_mem _ (List.mem_append_left _ (List.mem_append_right _ h))
set_option maxHeartbeats 4000000 in
set_option maxRecDepth 100000 in
theorem x_X9_stone (l : Launch) (D : va_G) (cy : Nat → ClassId) (a : Nat → Nat) (sz : Nat) (J : Nat → Int64) (I : Nat → Int32) (O : Nat → Option Nat) (R : Nat → Nat → Int32) (RO : Nat → Nat → Option Nat) (LL : va_W) (Y : va_W) (x0 : Int32) (x1 : Int32) (x2 : Bool) (x3 : Int32) (fl : Int64) (S : List Int32) (P : List PE) (hRA : RCf Y (J 6) (O 7) (I 9) (RO 2) fl S P) (hM : CI a Y I O RO) : Met l yX9_stone wsX9_stone ({ frames := 3, cells := 2, slots := 10, locals := 65 }) (va_Pc [.ref (a 0), .int x0, .int x1, .int (bI x2), .int x3] (PW D cy sz (CT cy a J I O R RO (LL ++ Y)))) (va_Qi (fun r (u : TS) => ∃ (w0 : Int32), ∃ (w1 : Int32), ∃ (w2 : Option Nat), ∃ (w3 : Option Nat), ∃ (w4 : Nat → Option Nat), ∃ (Y9 : va_W), (r = (aStoA fl S x0 x1 x2 x3) ∧ (vp_in w0 21) ∧ (chO Y9 w2) ∧ (layO Y9 w3) ∧ (∀ i, i < 20 → pasO Y9 (w4 i)) ∧ (∀ c, c ∈ Y → c ∈ Y9) ∧ (RCf Y9 (J 6) w2 w0 w4 fl (aStoS fl S x0 x1 x2 x3) (aStoP fl S P x0 x1 x2 x3))) ∧ u = (J, (va_up (va_up I 9 w0) 10 w1), (va_up (va_up O 7 w2) 8 w3), R, (va_up RO 2 w4), LL, Y9)) (BW D (va_A (CT cy a J I O R RO (LL ++ Y)) sz) (CTu cy a)) (va_A (CT cy a J I O R RO (LL ++ Y)) sz)) 2 10 (va_A (CT cy a J I O R RO (LL ++ Y)) sz) := by
  refine Met.ofW (cc := cX9_stone) (maxL := 7) (ret := (some .int)) (by decide) rfl ?_
  intro p e s m args below meth c s₁ B hml hv
  obtain ⟨rfl, rfl, hP, hK, hN, hD0⟩ := hv
  have hx := B.exec
  have hb := B.bytes
  have hr := B.returns
  have hts := atoms_spec (ws := wsX9_stone) B.pre
  have hown : s.vm.findClass RX9 = some m.cls := findClass_of_methodNamed B.named
  have hlocks := B.notSynchronized
  have hw0 := hts (.constant RX9 43 (-100001)) (by decide +kernel)
  have hw1 := hts (.classLink RX9 104 RX7) (by decide +kernel)
  have hw2 := hts (.instantiable RX7 7) (by decide +kernel)
  have hw3 := hts (.initialized RX7) (by decide +kernel)
  have hw4 := hts (.fieldLink RX9 106 "ParquetLayer" "latest" "LParquetLayer$Stone;") (by decide +kernel)
  have hw5 := hts (.instanceMethod yX7_init) (by decide +kernel)
  have hw6 := hts (.methodLink RX9 110 yX7_init) (by decide +kernel)
  have hw7 := hts (.fieldLink RX9 133 "ParquetLayer" "hand" "LParquetLayer$Laying;") (by decide +kernel)
  have hw8 := hts (.constant RX9 129 (-100005)) (by decide +kernel)
  have hw9 := hts (.fieldLink RX9 116 "ParquetLayer$Stone" "cover" "J") (by decide +kernel)
  have hw10 := hts (.fieldLink RX9 48 "ParquetLayer" "fields" "J") (by decide +kernel)
  have hw11 := hts (.constant RX9 128 (-100004)) (by decide +kernel)
  have hw12 := hts (.constant RX9 123 (-100007)) (by decide +kernel)
  have hw13 := hts (.constant RX9 99 (-100003)) (by decide +kernel)
  have hi7 := ihX9_stone_7
  have hi9 := ihX9_stone_9
  have hD := hD0.self (sz := s.heap.size)
  generalize hAe : va_A (CT cy a J I O R RO (LL ++ Y)) s.heap.size = A at hD ⊢
  have hA : ∀ q : Nat, s.heap.size ≤ q → A q := fun q h => by rw [← hAe]; exact Or.inr h
  have hS : va_S A s.heap s.heap [] := va_S.rf
  have hl := lv_entry ([.ref (a 0), .int x0, .int x1, .int (bI x2), .int x3]) (n := 7) (Nat.le_of_ble_eq_true rfl)
  rw [lg_entry_eq]
  generalize (lg_sl ([.ref (a 0), .int x0, .int x1, .int (bI x2), .int x3]) ++ List.replicate (7 - (lg_sl ([.ref (a 0), .int x0, .int x1, .int (bI x2), .int x3])).length) Slot.unset).toArray = ls at hl ⊢
  have hl : lv_has ls 7 [(0, .ref (a 0)), (1, .int x0), (2, .int x1), (3, .int (bI x2)), (4, .int x3)] := hl
  have hRO0 := hM.2.2.2.2.2.2.2.2.1
  have hRO1 := hM.2.2.2.2.2.2.2.2.2.1
  have hRO2 := hM.2.2.2.2.2.2.2.2.2.2.1
  have hRO3 := hM.2.2.2.2.2.2.2.2.2.2.2
  have hP : va_P D vwCl (CT cy a J (va_up (va_up I 9 (I 9)) 10 (I 10)) (va_up (va_up O 7 (O 7)) 8 (O 8)) R (va_up RO 2 (RO 2)) (LL ++ Y)) s.heap := hP
  have hD : va_D A (CT cy a J (va_up (va_up I 9 (I 9)) 10 (I 10)) (va_up (va_up O 7 (O 7)) 8 (O 8)) R (va_up RO 2 (RO 2)) (LL ++ Y)) := hD
  refine lv_iload_n hx hb dX9_stone_0 rfl (lv_at hl 1 rfl) ?_
  refine kS_i (As := [.int x0]) (rest := []) ⟨hx, hb, hml, hown, hts⟩ (c_X9_isKind l x0) (va_cwS 1 hts gX9_stone_X9_isKind rfl rfl rfl (by decide +kernel) ⟨Nat.le_of_ble_eq_true rfl, Nat.le_of_ble_eq_true rfl⟩) rfl hl.1 rfl (Nat.le_of_ble_eq_true rfl) dX9_stone_1 ⟨Nat.le_of_ble_eq_true rfl, Nat.le_of_ble_eq_true rfl⟩ ?_
  refine lv_if_eq (tgt := 23) hx hb dX9_stone_4 (by decide) (fun c_1 => ?_) (fun c_1 => ?_)
  · replace c_1 := bI_f c_1
    refine lv_aload_n hx hb dX9_stone_23 rfl (lv_at hl 0 rfl) ?_
    refine lv_ldc (v := (-100001)) hx hb hown hw0 dX9_stone_24 ?_
    refine kM_i (As := [.int (-100001)]) (rest := []) (q0 := 0) ⟨hx, hb, hml, hown, hts⟩ (t_X9_finding l D cy a _ J (va_up (va_up I 9 (I 9)) 10 (I 10)) (va_up (va_up O 7 (O 7)) 8 (O 8)) R (va_up RO 2 (RO 2)) LL Y ((-100001) : Int32)   ) (cwV 1 hts gX9_stone_X9_finding rfl rfl rfl (by decide +kernel) ⟨Nat.le_of_ble_eq_true rfl, Nat.le_of_ble_eq_true rfl⟩) hK hN hP hD hS hA rfl rfl rfl hl.1 rfl (Nat.le_of_ble_eq_true rfl) dX9_stone_26 ⟨Nat.le_of_ble_eq_true rfl, Nat.le_of_ble_eq_true rfl⟩ (fun r_2 u H locs hw hP hD hS => ?_)
    obtain ⟨w_3, rfl, rfl⟩ := hw
    have hP : va_P D vwCl (CT cy a J (va_up (va_up I 9 (I 9)) 10 w_3) (va_up (va_up O 7 (O 7)) 8 (O 8)) R (va_up RO 2 (RO 2)) (LL ++ Y)) H := hP
    have hD : va_D A (CT cy a J (va_up (va_up I 9 (I 9)) 10 w_3) (va_up (va_up O 7 (O 7)) 8 (O 8)) R (va_up RO 2 (RO 2)) (LL ++ Y)) := hD
    refine W.widen (k := 2) (n := 10) (Nat.le_of_ble_eq_true rfl) (Nat.le_of_ble_eq_true rfl) ?_
    exact wret_i hx hb hr hlocks (J, (va_up (va_up I 9 (I 9)) 10 w_3), (va_up (va_up O 7 (O 7)) 8 (O 8)), R, (va_up RO 2 (RO 2)), LL, Y) ⟨(I 9), w_3, (O 7), (O 8), (RO 2), Y, ⟨(sto_no (P := P) (sw1 (sg_1 c_1)) (by decide)).1, hM.1, hM.2.1, hM.2.2.1, hM.2.2.2.1, (fun _ h => h), (stoC_no (sw1 (sg_1 c_1)) (by decide) (RCf_mono (fun _ h => h) hRA))⟩, rfl⟩ hP hD hS dX9_stone_29
  · replace c_1 := bI_t c_1
    refine lv_iload_n hx hb dX9_stone_7 rfl (lv_at hl 2 rfl) ?_
    refine kS_i (As := [.int x1]) (rest := []) ⟨hx, hb, hml, hown, hts⟩ (c_X1_isField l x1) (va_cwS 1 hts gX9_stone_X1_isField rfl rfl rfl (by decide +kernel) ⟨Nat.le_of_ble_eq_true rfl, Nat.le_of_ble_eq_true rfl⟩) rfl hl.1 rfl (Nat.le_of_ble_eq_true rfl) dX9_stone_8 ⟨Nat.le_of_ble_eq_true rfl, Nat.le_of_ble_eq_true rfl⟩ ?_
    refine lv_if_eq (tgt := 23) hx hb dX9_stone_11 (by decide) (fun c_4 => ?_) (fun c_4 => ?_)
    · replace c_4 := bI_f c_4
      refine lv_aload_n hx hb dX9_stone_23 rfl (lv_at hl 0 rfl) ?_
      refine lv_ldc (v := (-100001)) hx hb hown hw0 dX9_stone_24 ?_
      refine kM_i (As := [.int (-100001)]) (rest := []) (q0 := 0) ⟨hx, hb, hml, hown, hts⟩ (t_X9_finding l D cy a _ J (va_up (va_up I 9 (I 9)) 10 (I 10)) (va_up (va_up O 7 (O 7)) 8 (O 8)) R (va_up RO 2 (RO 2)) LL Y ((-100001) : Int32)   ) (cwV 1 hts gX9_stone_X9_finding rfl rfl rfl (by decide +kernel) ⟨Nat.le_of_ble_eq_true rfl, Nat.le_of_ble_eq_true rfl⟩) hK hN hP hD hS hA rfl rfl rfl hl.1 rfl (Nat.le_of_ble_eq_true rfl) dX9_stone_26 ⟨Nat.le_of_ble_eq_true rfl, Nat.le_of_ble_eq_true rfl⟩ (fun r_5 u H locs hw hP hD hS => ?_)
      obtain ⟨w_6, rfl, rfl⟩ := hw
      have hP : va_P D vwCl (CT cy a J (va_up (va_up I 9 (I 9)) 10 w_6) (va_up (va_up O 7 (O 7)) 8 (O 8)) R (va_up RO 2 (RO 2)) (LL ++ Y)) H := hP
      have hD : va_D A (CT cy a J (va_up (va_up I 9 (I 9)) 10 w_6) (va_up (va_up O 7 (O 7)) 8 (O 8)) R (va_up RO 2 (RO 2)) (LL ++ Y)) := hD
      refine W.widen (k := 2) (n := 10) (Nat.le_of_ble_eq_true rfl) (Nat.le_of_ble_eq_true rfl) ?_
      exact wret_i hx hb hr hlocks (J, (va_up (va_up I 9 (I 9)) 10 w_6), (va_up (va_up O 7 (O 7)) 8 (O 8)), R, (va_up RO 2 (RO 2)), LL, Y) ⟨(I 9), w_6, (O 7), (O 8), (RO 2), Y, ⟨(sto_no (P := P) (sw1 (sg_2 c_4)) (by decide)).1, hM.1, hM.2.1, hM.2.2.1, hM.2.2.2.1, (fun _ h => h), (stoC_no (sw1 (sg_2 c_4)) (by decide) (RCf_mono (fun _ h => h) hRA))⟩, rfl⟩ hP hD hS dX9_stone_29
    · replace c_4 := bI_t c_4
      refine lv_iload_n hx hb dX9_stone_14 rfl (lv_at hl 1 rfl) ?_
      refine lv_iload hx hb dX9_stone_15 (lv_at hl 4 rfl) ?_
      refine kS_i (As := [.int x0, .int x3]) (rest := []) ⟨hx, hb, hml, hown, hts⟩ (c_X9_fitsColour l x0 x3) (va_cwS 2 hts gX9_stone_X9_fitsColour rfl rfl rfl (by decide +kernel) ⟨Nat.le_of_ble_eq_true rfl, Nat.le_of_ble_eq_true rfl⟩) rfl hl.1 rfl (Nat.le_of_ble_eq_true rfl) dX9_stone_17 ⟨Nat.le_of_ble_eq_true rfl, Nat.le_of_ble_eq_true rfl⟩ ?_
      refine lv_if_ne (tgt := 30) hx hb dX9_stone_20 (by decide) (fun c_7 => ?_) (fun c_7 => ?_)
      · replace c_7 := bI_t c_7
        refine lv_aload_n hx hb dX9_stone_30 rfl (lv_at hl 0 rfl) ?_
        refine lv_iload_n hx hb dX9_stone_31 rfl (lv_at hl 2 rfl) ?_
        refine lv_iload_n hx hb dX9_stone_32 rfl (lv_at hl 3 rfl) ?_
        refine kR_i (As := [.int x1, .int (bI x2)]) (rest := []) (q0 := 0) ⟨hx, hb, hml, hown, hts⟩ (x_X9_isPlace l D cy a _ J (va_up (va_up I 9 (I 9)) 10 (I 10)) (va_up (va_up O 7 (O 7)) 8 (O 8)) R (va_up RO 2 (RO 2)) LL Y x1 x2  ) (cwV 2 hts gX9_stone_X9_isPlace rfl rfl rfl (by decide +kernel) ⟨Nat.le_of_ble_eq_true rfl, Nat.le_of_ble_eq_true rfl⟩) hK hN hP hD rfl rfl rfl hl.1 rfl (Nat.le_of_ble_eq_true rfl) dX9_stone_33 ⟨Nat.le_of_ble_eq_true rfl, Nat.le_of_ble_eq_true rfl⟩ ?_
        refine lv_if_ne (tgt := 46) hx hb dX9_stone_36 (by decide) (fun c_8 => ?_) (fun c_8 => ?_)
        · replace c_8 := bI_t c_8
          refine lv_aload_n hx hb dX9_stone_46 rfl (lv_at hl 0 rfl) ?_
          refine kR_i (As := []) (rest := []) (q0 := 0) ⟨hx, hb, hml, hown, hts⟩ (x_X9_stoneCount l D cy a _ J (va_up (va_up I 9 (I 9)) 10 (I 10)) (va_up (va_up O 7 (O 7)) 8 (O 8)) R (va_up RO 2 (RO 2)) LL Y  fl S P hRA ⟨hM.1, hM.2.1, hM.2.2.1, hM.2.2.2.1, hM.2.2.2.2.1, hM.2.2.2.2.2.1, hM.2.2.2.2.2.2.1, hM.2.2.2.2.2.2.2.1, hRO0, hRO1, hRO2, hRO3⟩) (cwV 0 hts gX9_stone_X9_stoneCount rfl rfl rfl (by decide +kernel) ⟨Nat.le_of_ble_eq_true rfl, Nat.le_of_ble_eq_true rfl⟩) hK hN hP hD rfl rfl rfl hl.1 rfl (Nat.le_of_ble_eq_true rfl) dX9_stone_47 ⟨Nat.le_of_ble_eq_true rfl, Nat.le_of_ble_eq_true rfl⟩ ?_
          refine lv_istore (lv' := [(5, .int (nI S.length)), (0, .ref (a 0)), (1, .int x0), (2, .int x1), (3, .int (bI x2)), (4, .int x3)]) hx hb dX9_stone_50 hl (by decide) rfl (fun ls hl => ?_)
          refine va_new (ci := 6) (fs := [.null, .int 0, .int 0, .int 0, .int 0, .int 0, .long 0]) (C := RX7) (T := TX7) (N := 7) hx hb hts hi7 tyX7 tyX7_ok hown hw1 hw2 hw3 hK hP hD hS hA rfl (fun j hj => by rcases (show j = 0 ∨ j = 1 ∨ j = 2 ∨ j = 3 ∨ j = 4 ∨ j = 5 ∨ j = 6 by omega) with rfl | rfl | rfl | rfl | rfl | rfl | rfl <;> rfl) (Nat.le_of_ble_eq_true rfl) (Nat.le_of_ble_eq_true rfl) dX9_stone_52 (fun q_9 H hP hD hS => ?_)
          have hP : va_P D vwCl (CT cy a J (va_up (va_up I 9 (I 9)) 10 (I 10)) (va_up (va_up O 7 (O 7)) 8 (O 8)) R (va_up RO 2 (RO 2)) (LL ++ Y) ++ [(q_9, .inr (6, [.null, .int 0, .int 0, .int 0, .int 0, .int 0, .long 0]))]) H := hP
          have hD : va_D A (CT cy a J (va_up (va_up I 9 (I 9)) 10 (I 10)) (va_up (va_up O 7 (O 7)) 8 (O 8)) R (va_up RO 2 (RO 2)) (LL ++ Y) ++ [(q_9, .inr (6, [.null, .int 0, .int 0, .int 0, .int 0, .int 0, .long 0]))]) := hD
          refine lv_dup hx hb dX9_stone_55 rfl ?_
          refine lv_aload_n hx hb dX9_stone_56 rfl (lv_at hl 1 rfl) ?_
          refine va_get (D := D) (ci := 8) (v := va_rf (O 7)) (C := RX9) (T := TX9) (N := 11) hx hb hts hi9 hown hK hP 0 rfl rfl 7 (by decide) hw4 (fun _ h9 => h9) rfl dX9_stone_57 ?_
          refine lv_iload hx hb dX9_stone_60 (lv_at hl 0 rfl) ?_
          refine lv_iload_n hx hb dX9_stone_62 rfl (lv_at hl 2 rfl) ?_
          refine lv_iload_n hx hb dX9_stone_63 rfl (lv_at hl 3 rfl) ?_
          refine lv_iload_n hx hb dX9_stone_64 rfl (lv_at hl 4 rfl) ?_
          refine lv_iload hx hb dX9_stone_65 (lv_at hl 5 rfl) ?_
          refine kNew_v (As := [va_rf (O 7), .int (nI S.length), .int x0, .int x1, .int (bI x2), .int x3]) (rest := [.ref q_9]) (X := CT cy a J (va_up (va_up I 9 (I 9)) 10 (I 10)) (va_up (va_up O 7 (O 7)) 8 (O 8)) R (va_up RO 2 (RO 2)) (LL ++ Y)) ⟨hx, hb, hml, hown, hts⟩ (ct_X7_init l D cy q_9 _ (O 7) (nI S.length) x0 x1 x2 x3) (cwI 6 hts gX9_stone_X7_init rfl rfl rfl hw3 hw6 hw5 rfl (by decide +kernel) ⟨Nat.le_of_ble_eq_true rfl, Nat.le_of_ble_eq_true rfl⟩) hK hN hP hD hS hA rfl hl.1 rfl (Nat.le_of_ble_eq_true rfl) dX9_stone_67 ⟨Nat.le_of_ble_eq_true rfl, Nat.le_of_ble_eq_true rfl⟩ (fun u H locs hw hP hD hS => ?_)
          have hP : va_P D vwCl (CT cy a J (va_up (va_up I 9 (I 9)) 10 (I 10)) (va_up (va_up O 7 (O 7)) 8 (O 8)) R (va_up RO 2 (RO 2)) (LL ++ Y) ++ [(q_9, .inr (6, [va_rf (O 7), .int (nI S.length), .int x0, .int x1, .int (bI x2), .int x3, .long (g_place x1 x2)]))]) H := hP
          have hD : va_D A (CT cy a J (va_up (va_up I 9 (I 9)) 10 (I 10)) (va_up (va_up O 7 (O 7)) 8 (O 8)) R (va_up RO 2 (RO 2)) (LL ++ Y) ++ [(q_9, .inr (6, [va_rf (O 7), .int (nI S.length), .int x0, .int x1, .int (bI x2), .int x3, .long (g_place x1 x2)]))]) := hD
          have hP : va_P D vwCl (CT cy a J (va_up (va_up I 9 (I 9)) 10 (I 10)) (va_up (va_up O 7 (O 7)) 8 (O 8)) R (va_up RO 2 (RO 2)) (LL ++ (Y ++ [(q_9, .inr (6, [va_rf (O 7), .int (nI S.length), .int x0, .int x1, .int (bI x2), .int x3, .long (g_place x1 x2)]))]))) H := by rw [← List.append_assoc]; exact hP
          have hD : va_D A (CT cy a J (va_up (va_up I 9 (I 9)) 10 (I 10)) (va_up (va_up O 7 (O 7)) 8 (O 8)) R (va_up RO 2 (RO 2)) (LL ++ (Y ++ [(q_9, .inr (6, [va_rf (O 7), .int (nI S.length), .int x0, .int x1, .int (bI x2), .int x3, .long (g_place x1 x2)]))]))) := by rw [← List.append_assoc]; exact hD
          have hs_10 : ∀ c, c ∈ Y → c ∈ (Y ++ [(q_9, .inr (6, [va_rf (O 7), .int (nI S.length), .int x0, .int x1, .int (bI x2), .int x3, .long (g_place x1 x2)]))]) := fun c h => List.mem_append_left _ h
          have hi_11 : chO (Y ++ [(q_9, .inr (6, [va_rf (O 7), .int (nI S.length), .int x0, .int x1, .int (bI x2), .int x3, .long (g_place x1 x2)]))]) (O 7) := chO_mono hs_10 hM.2.1
          have hi_12 : layO (Y ++ [(q_9, .inr (6, [va_rf (O 7), .int (nI S.length), .int x0, .int x1, .int (bI x2), .int x3, .long (g_place x1 x2)]))]) (O 8) := layO_mono hs_10 hM.2.2.1
          have hi_13 : ∀ i, i < 20 → pasO (Y ++ [(q_9, .inr (6, [va_rf (O 7), .int (nI S.length), .int x0, .int x1, .int (bI x2), .int x3, .long (g_place x1 x2)]))]) ((RO 2) i) := pas_mono hs_10 hM.2.2.2.1
          have hmono_14 : ∀ c, c ∈ Y → c ∈ (Y ++ [(q_9, .inr (6, [va_rf (O 7), .int (nI S.length), .int x0, .int x1, .int (bI x2), .int x3, .long (g_place x1 x2)]))]) := fun c h => hs_10 c ((fun _ h => h) c h)
          refine lv_astore (lv' := [(6, .ref q_9), (5, .int (nI S.length)), (0, .ref (a 0)), (1, .int x0), (2, .int x1), (3, .int (bI x2)), (4, .int x3)]) hx hb dX9_stone_70 hl (by decide) rfl (fun ls hl => ?_)
          refine lv_aload hx hb dX9_stone_72 (lv_at hl 0 rfl) ?_
          obtain ⟨k_15, hk_16⟩ : ∃ k : Nat, (CT cy a J (va_up (va_up I 9 (I 9)) 10 (I 10)) (va_up (va_up O 7 (O 7)) 8 (O 8)) R (va_up RO 2 (RO 2)) (LL ++ (Y ++ [(q_9, .inr (6, [va_rf (O 7), .int (nI S.length), .int x0, .int x1, .int (bI x2), .int x3, .long (g_place x1 x2)]))])))[k]? = some (q_9, .inr (6, [va_rf (O 7), .int (nI S.length), .int x0, .int x1, .int (bI x2), .int x3, .long (g_place x1 x2)])) := pixT mem_last
          refine kR_i (As := []) (rest := []) (q0 := k_15) ⟨hx, hb, hml, hown, hts⟩ (x_X7_isGlued l D cy _ (CT cy a J (va_up (va_up I 9 (I 9)) 10 (I 10)) (va_up (va_up O 7 (O 7)) 8 (O 8)) R (va_up RO 2 (RO 2)) (LL ++ (Y ++ [(q_9, .inr (6, [va_rf (O 7), .int (nI S.length), .int x0, .int x1, .int (bI x2), .int x3, .long (g_place x1 x2)]))]))) k_15 q_9 (O 7) (nI S.length) x0 x1 x2 x3 (g_place x1 x2) hk_16) (cwV 0 hts gX9_stone_X7_isGlued rfl rfl rfl (by decide +kernel) ⟨Nat.le_of_ble_eq_true rfl, Nat.le_of_ble_eq_true rfl⟩) hK hN hP hD hk_16 rfl rfl hl.1 rfl (Nat.le_of_ble_eq_true rfl) dX9_stone_74 ⟨Nat.le_of_ble_eq_true rfl, Nat.le_of_ble_eq_true rfl⟩ ?_
          refine lv_if_eq (tgt := 102) hx hb dX9_stone_77 (by decide) (fun c_17 => ?_) (fun c_17 => ?_)
          · replace c_17 := bI_f c_17
            refine lv_iload_n hx hb dX9_stone_102 rfl (lv_at hl 3 rfl) ?_
            refine lv_iconst (v := 3) hx hb dX9_stone_103 (by decide) ?_
            refine lv_icmp_ne (tgt := 129) hx hb dX9_stone_104 (by decide) (fun c_18 => ?_) (fun c_18 => ?_)
            · refine lv_iload hx hb dX9_stone_129 (lv_at hl 1 rfl) ?_
              refine lv_bipush (v := 20) hx hb dX9_stone_131 (by decide) ?_
              refine lv_icmp_lt (tgt := 143) hx hb dX9_stone_133 (by decide) (fun c_19 => ?_) (fun c_19 => ?_)
              · refine lv_aload_n hx hb dX9_stone_143 rfl (lv_at hl 2 rfl) ?_
                refine kM_v (As := []) (rest := []) (q0 := 0) ⟨hx, hb, hml, hown, hts⟩ (x_X9_keepPast l D cy a _ J (va_up (va_up I 9 (I 9)) 10 (I 10)) (va_up (va_up O 7 (O 7)) 8 (O 8)) R (va_up RO 2 (RO 2)) LL (Y ++ [(q_9, .inr (6, [va_rf (O 7), .int (nI S.length), .int x0, .int x1, .int (bI x2), .int x3, .long (g_place x1 x2)]))])  fl S P (RCf_mono hmono_14 hRA) ⟨hM.1, hi_11, hi_12, hi_13, hM.2.2.2.2.1, hM.2.2.2.2.2.1, hM.2.2.2.2.2.2.1, hM.2.2.2.2.2.2.2.1, hRO0, hRO1, hRO2, hRO3⟩ ) (cwV 0 hts gX9_stone_X9_keepPast rfl rfl rfl (by decide +kernel) ⟨Nat.le_of_ble_eq_true rfl, Nat.le_of_ble_eq_true rfl⟩) hK hN hP hD hS hA rfl rfl rfl hl.1 rfl (Nat.le_of_ble_eq_true rfl) dX9_stone_144 ⟨Nat.le_of_ble_eq_true rfl, Nat.le_of_ble_eq_true rfl⟩ (fun u H locs hw hP hD hS => ?_)
                obtain ⟨w_21, w_22, Y_23, ⟨hi_24, hi_25, hs_26, hp_27⟩, rfl⟩ := hw
                have hi_28 : chO Y_23 (O 7) := chO_mono hs_26 hi_11
                have hi_29 : layO Y_23 (O 8) := layO_mono hs_26 hi_12
                have hmono_30 : ∀ c, c ∈ Y → c ∈ Y_23 := fun c h => hs_26 c (hmono_14 c h)
                have hP : va_P D vwCl (CT cy a J (va_up (va_up I 9 w_21) 10 (I 10)) (va_up (va_up O 7 (O 7)) 8 (O 8)) R (va_up RO 2 w_22) (LL ++ Y_23)) H := hP
                have hD : va_D A (CT cy a J (va_up (va_up I 9 w_21) 10 (I 10)) (va_up (va_up O 7 (O 7)) 8 (O 8)) R (va_up RO 2 w_22) (LL ++ Y_23)) := hD
                refine lv_aload_n hx hb dX9_stone_147 rfl (lv_at hl 2 rfl) ?_
                refine lv_aload hx hb dX9_stone_148 (lv_at hl 0 rfl) ?_
                refine va_put (D := D) (ci := 8) (v := .ref q_9) (ty := .object "ParquetLayer$Stone") (C := RX9) (T := TX9) (N := 11) hx hb hts hi9 tyX9 tyX9_ok nmX9 hown hK hP hD hS 0 rfl rfl 7 (by decide) hw4 (fun _ h9 => h9) rfl (by decide +kernel) rfl rfl (Nat.le_of_ble_eq_true rfl) dX9_stone_150 (fun H locs hP hD hS => ?_)
                have hP : va_P D vwCl (CT cy a J (va_up (va_up I 9 w_21) 10 (I 10)) (va_up (va_up O 7 (some q_9)) 8 (O 8)) R (va_up RO 2 w_22) (LL ++ Y_23)) H := hP
                have hD : va_D A (CT cy a J (va_up (va_up I 9 w_21) 10 (I 10)) (va_up (va_up O 7 (some q_9)) 8 (O 8)) R (va_up RO 2 w_22) (LL ++ Y_23)) := hD
                have hi_31 : chO Y_23 (some q_9) := (chO_mono hs_26 ⟨S.length + 1, q_9, _, _, _, _, _, _, rfl, mem_last, chain_mono hs_10 _ _ (chR_ch _ _ hRA.2.1.1)⟩)
                refine lv_aload_n hx hb dX9_stone_153 rfl (lv_at hl 2 rfl) ?_
                refine lv_null hx hb dX9_stone_154 ?_
                refine va_put (D := D) (ci := 8) (v := .null) (ty := .object "ParquetLayer$Laying") (C := RX9) (T := TX9) (N := 11) hx hb hts hi9 tyX9 tyX9_ok nmX9 hown hK hP hD hS 0 rfl rfl 8 (by decide) hw7 (fun _ h9 => h9) rfl (by decide +kernel) rfl rfl (Nat.le_of_ble_eq_true rfl) dX9_stone_155 (fun H locs hP hD hS => ?_)
                have hP : va_P D vwCl (CT cy a J (va_up (va_up I 9 w_21) 10 (I 10)) (va_up (va_up O 7 (some q_9)) 8 none) R (va_up RO 2 w_22) (LL ++ Y_23)) H := hP
                have hD : va_D A (CT cy a J (va_up (va_up I 9 w_21) 10 (I 10)) (va_up (va_up O 7 (some q_9)) 8 none) R (va_up RO 2 w_22) (LL ++ Y_23)) := hD
                have hi_32 : layO Y_23 none := lay_none
                refine lv_iload hx hb dX9_stone_158 (lv_at hl 1 rfl) ?_
                exact wret_i hx hb hr hlocks (J, (va_up (va_up I 9 w_21) 10 (I 10)), (va_up (va_up O 7 (some q_9)) 8 none), R, (va_up RO 2 w_22), LL, Y_23) ⟨w_21, (I 10), (some q_9), none, w_22, Y_23, ⟨(sto_ok (P := P) (sw6 (sg_t c_1 c_4 c_7) (pl_yes hRA.1 c_4 c_8).1 (pl_yes hRA.1 c_4 c_8).2 (nt_u c_17) (fun z => c_18 z.1) (Nat.ne_of_lt (ln_lt hRA.2.1.2 c_19)))).1, hi_24, hi_31, hi_32, hi_25, hmono_30, (stoC_ok (sw6 (sg_t c_1 c_4 c_7) (pl_yes hRA.1 c_4 c_8).1 (pl_yes hRA.1 c_4 c_8).2 (nt_u c_17) (fun z => c_18 z.1) (Nat.ne_of_lt (ln_lt hRA.2.1.2 c_19))) hp_27 (ln_lt hRA.2.1.2 c_19) (st_new (sg_t c_1 c_4 c_7) (pl_yes hRA.1 c_4 c_8).1 (hs_26 _ mem_last) (chR_mono hmono_30 _ _ hRA.2.1.1)))⟩, rfl⟩ hP hD hS dX9_stone_160
              · refine lv_aload_n hx hb dX9_stone_136 rfl (lv_at hl 2 rfl) ?_
                refine lv_ldc (v := (-100005)) hx hb hown hw8 dX9_stone_137 ?_
                refine kM_i (As := [.int (-100005)]) (rest := []) (q0 := 0) ⟨hx, hb, hml, hown, hts⟩ (t_X9_finding l D cy a _ J (va_up (va_up I 9 (I 9)) 10 (I 10)) (va_up (va_up O 7 (O 7)) 8 (O 8)) R (va_up RO 2 (RO 2)) LL (Y ++ [(q_9, .inr (6, [va_rf (O 7), .int (nI S.length), .int x0, .int x1, .int (bI x2), .int x3, .long (g_place x1 x2)]))]) ((-100005) : Int32)   ) (cwV 1 hts gX9_stone_X9_finding rfl rfl rfl (by decide +kernel) ⟨Nat.le_of_ble_eq_true rfl, Nat.le_of_ble_eq_true rfl⟩) hK hN hP hD hS hA rfl rfl rfl hl.1 rfl (Nat.le_of_ble_eq_true rfl) dX9_stone_139 ⟨Nat.le_of_ble_eq_true rfl, Nat.le_of_ble_eq_true rfl⟩ (fun r_33 u H locs hw hP hD hS => ?_)
                obtain ⟨w_34, rfl, rfl⟩ := hw
                have hP : va_P D vwCl (CT cy a J (va_up (va_up I 9 (I 9)) 10 w_34) (va_up (va_up O 7 (O 7)) 8 (O 8)) R (va_up RO 2 (RO 2)) (LL ++ (Y ++ [(q_9, .inr (6, [va_rf (O 7), .int (nI S.length), .int x0, .int x1, .int (bI x2), .int x3, .long (g_place x1 x2)]))]))) H := hP
                have hD : va_D A (CT cy a J (va_up (va_up I 9 (I 9)) 10 w_34) (va_up (va_up O 7 (O 7)) 8 (O 8)) R (va_up RO 2 (RO 2)) (LL ++ (Y ++ [(q_9, .inr (6, [va_rf (O 7), .int (nI S.length), .int x0, .int x1, .int (bI x2), .int x3, .long (g_place x1 x2)]))]))) := hD
                refine W.widen (k := 2) (n := 10) (Nat.le_of_ble_eq_true rfl) (Nat.le_of_ble_eq_true rfl) ?_
                exact wret_i hx hb hr hlocks (J, (va_up (va_up I 9 (I 9)) 10 w_34), (va_up (va_up O 7 (O 7)) 8 (O 8)), R, (va_up RO 2 (RO 2)), LL, Y ++ [(q_9, .inr (6, [va_rf (O 7), .int (nI S.length), .int x0, .int x1, .int (bI x2), .int x3, .long (g_place x1 x2)]))]) ⟨(I 9), w_34, (O 7), (O 8), (RO 2), (Y ++ [(q_9, .inr (6, [va_rf (O 7), .int (nI S.length), .int x0, .int x1, .int (bI x2), .int x3, .long (g_place x1 x2)]))]), ⟨(sto_no (P := P) (sw5 (sg_t c_1 c_4 c_7) (pl_yes hRA.1 c_4 c_8).1 (pl_yes hRA.1 c_4 c_8).2 (nt_u c_17) (fun z => c_18 z.1) (ln_ge hRA.2.1.2 c_19)) (by decide)).1, hM.1, hi_11, hi_12, hi_13, hmono_14, (stoC_no (sw5 (sg_t c_1 c_4 c_7) (pl_yes hRA.1 c_4 c_8).1 (pl_yes hRA.1 c_4 c_8).2 (nt_u c_17) (fun z => c_18 z.1) (ln_ge hRA.2.1.2 c_19)) (by decide) (RCf_mono hmono_14 hRA))⟩, rfl⟩ hP hD hS dX9_stone_142
            · refine lv_aload hx hb dX9_stone_107 (lv_at hl 0 rfl) ?_
              obtain ⟨k_35, hk_36⟩ : ∃ k : Nat, (CT cy a J (va_up (va_up I 9 (I 9)) 10 (I 10)) (va_up (va_up O 7 (O 7)) 8 (O 8)) R (va_up RO 2 (RO 2)) (LL ++ (Y ++ [(q_9, .inr (6, [va_rf (O 7), .int (nI S.length), .int x0, .int x1, .int (bI x2), .int x3, .long (g_place x1 x2)]))])))[k]? = some (q_9, .inr (6, [va_rf (O 7), .int (nI S.length), .int x0, .int x1, .int (bI x2), .int x3, .long (g_place x1 x2)])) := pixT mem_last
              refine va_get (D := D) (ci := 6) (v := .long (g_place x1 x2)) (C := RX7) (T := TX7) (N := 7) hx hb hts hi7 hown hK hP k_35 hk_36 rfl 6 (by decide) hw9 (fun _ h9 => h9) rfl dX9_stone_109 ?_
              refine lv_aload_n hx hb dX9_stone_112 rfl (lv_at hl 2 rfl) ?_
              refine va_get (D := D) (ci := 8) (v := .long (J 6)) (C := RX9) (T := TX9) (N := 11) hx hb hts hi9 hown hK hP 0 rfl rfl 6 (by decide) hw10 (fun _ h9 => h9) rfl dX9_stone_113 ?_
              refine kS_i (As := [.long (g_place x1 x2), .long (J 6)]) (rest := []) ⟨hx, hb, hml, hown, hts⟩ (x_X1_touchesOutside l (g_place x1 x2) (J 6)) (va_cwS 2 hts gX9_stone_X1_touchesOutside rfl rfl rfl (by decide +kernel) ⟨Nat.le_of_ble_eq_true rfl, Nat.le_of_ble_eq_true rfl⟩) rfl hl.1 rfl (Nat.le_of_ble_eq_true rfl) dX9_stone_116 ⟨Nat.le_of_ble_eq_true rfl, Nat.le_of_ble_eq_true rfl⟩ ?_
              refine lv_if_ne (tgt := 129) hx hb dX9_stone_119 (by decide) (fun c_37 => ?_) (fun c_37 => ?_)
              · replace c_37 := bI_t c_37
                refine lv_iload hx hb dX9_stone_129 (lv_at hl 1 rfl) ?_
                refine lv_bipush (v := 20) hx hb dX9_stone_131 (by decide) ?_
                refine lv_icmp_lt (tgt := 143) hx hb dX9_stone_133 (by decide) (fun c_38 => ?_) (fun c_38 => ?_)
                · refine lv_aload_n hx hb dX9_stone_143 rfl (lv_at hl 2 rfl) ?_
                  refine kM_v (As := []) (rest := []) (q0 := 0) ⟨hx, hb, hml, hown, hts⟩ (x_X9_keepPast l D cy a _ J (va_up (va_up I 9 (I 9)) 10 (I 10)) (va_up (va_up O 7 (O 7)) 8 (O 8)) R (va_up RO 2 (RO 2)) LL (Y ++ [(q_9, .inr (6, [va_rf (O 7), .int (nI S.length), .int x0, .int x1, .int (bI x2), .int x3, .long (g_place x1 x2)]))])  fl S P (RCf_mono hmono_14 hRA) ⟨hM.1, hi_11, hi_12, hi_13, hM.2.2.2.2.1, hM.2.2.2.2.2.1, hM.2.2.2.2.2.2.1, hM.2.2.2.2.2.2.2.1, hRO0, hRO1, hRO2, hRO3⟩ ) (cwV 0 hts gX9_stone_X9_keepPast rfl rfl rfl (by decide +kernel) ⟨Nat.le_of_ble_eq_true rfl, Nat.le_of_ble_eq_true rfl⟩) hK hN hP hD hS hA rfl rfl rfl hl.1 rfl (Nat.le_of_ble_eq_true rfl) dX9_stone_144 ⟨Nat.le_of_ble_eq_true rfl, Nat.le_of_ble_eq_true rfl⟩ (fun u H locs hw hP hD hS => ?_)
                  obtain ⟨w_40, w_41, Y_42, ⟨hi_43, hi_44, hs_45, hp_46⟩, rfl⟩ := hw
                  have hi_47 : chO Y_42 (O 7) := chO_mono hs_45 hi_11
                  have hi_48 : layO Y_42 (O 8) := layO_mono hs_45 hi_12
                  have hmono_49 : ∀ c, c ∈ Y → c ∈ Y_42 := fun c h => hs_45 c (hmono_14 c h)
                  have hP : va_P D vwCl (CT cy a J (va_up (va_up I 9 w_40) 10 (I 10)) (va_up (va_up O 7 (O 7)) 8 (O 8)) R (va_up RO 2 w_41) (LL ++ Y_42)) H := hP
                  have hD : va_D A (CT cy a J (va_up (va_up I 9 w_40) 10 (I 10)) (va_up (va_up O 7 (O 7)) 8 (O 8)) R (va_up RO 2 w_41) (LL ++ Y_42)) := hD
                  refine lv_aload_n hx hb dX9_stone_147 rfl (lv_at hl 2 rfl) ?_
                  refine lv_aload hx hb dX9_stone_148 (lv_at hl 0 rfl) ?_
                  refine va_put (D := D) (ci := 8) (v := .ref q_9) (ty := .object "ParquetLayer$Stone") (C := RX9) (T := TX9) (N := 11) hx hb hts hi9 tyX9 tyX9_ok nmX9 hown hK hP hD hS 0 rfl rfl 7 (by decide) hw4 (fun _ h9 => h9) rfl (by decide +kernel) rfl rfl (Nat.le_of_ble_eq_true rfl) dX9_stone_150 (fun H locs hP hD hS => ?_)
                  have hP : va_P D vwCl (CT cy a J (va_up (va_up I 9 w_40) 10 (I 10)) (va_up (va_up O 7 (some q_9)) 8 (O 8)) R (va_up RO 2 w_41) (LL ++ Y_42)) H := hP
                  have hD : va_D A (CT cy a J (va_up (va_up I 9 w_40) 10 (I 10)) (va_up (va_up O 7 (some q_9)) 8 (O 8)) R (va_up RO 2 w_41) (LL ++ Y_42)) := hD
                  have hi_50 : chO Y_42 (some q_9) := (chO_mono hs_45 ⟨S.length + 1, q_9, _, _, _, _, _, _, rfl, mem_last, chain_mono hs_10 _ _ (chR_ch _ _ hRA.2.1.1)⟩)
                  refine lv_aload_n hx hb dX9_stone_153 rfl (lv_at hl 2 rfl) ?_
                  refine lv_null hx hb dX9_stone_154 ?_
                  refine va_put (D := D) (ci := 8) (v := .null) (ty := .object "ParquetLayer$Laying") (C := RX9) (T := TX9) (N := 11) hx hb hts hi9 tyX9 tyX9_ok nmX9 hown hK hP hD hS 0 rfl rfl 8 (by decide) hw7 (fun _ h9 => h9) rfl (by decide +kernel) rfl rfl (Nat.le_of_ble_eq_true rfl) dX9_stone_155 (fun H locs hP hD hS => ?_)
                  have hP : va_P D vwCl (CT cy a J (va_up (va_up I 9 w_40) 10 (I 10)) (va_up (va_up O 7 (some q_9)) 8 none) R (va_up RO 2 w_41) (LL ++ Y_42)) H := hP
                  have hD : va_D A (CT cy a J (va_up (va_up I 9 w_40) 10 (I 10)) (va_up (va_up O 7 (some q_9)) 8 none) R (va_up RO 2 w_41) (LL ++ Y_42)) := hD
                  have hi_51 : layO Y_42 none := lay_none
                  refine lv_iload hx hb dX9_stone_158 (lv_at hl 1 rfl) ?_
                  exact wret_i hx hb hr hlocks (J, (va_up (va_up I 9 w_40) 10 (I 10)), (va_up (va_up O 7 (some q_9)) 8 none), R, (va_up RO 2 w_41), LL, Y_42) ⟨w_40, (I 10), (some q_9), none, w_41, Y_42, ⟨(sto_ok (P := P) (sw6 (sg_t c_1 c_4 c_7) (pl_yes hRA.1 c_4 c_8).1 (pl_yes hRA.1 c_4 c_8).2 (nt_u c_17) (fun z => absurd z.2 (by rw [← hRA.1, tcN c_4 (pl_yes hRA.1 c_4 c_8).1 c_37]; decide)) (Nat.ne_of_lt (ln_lt hRA.2.1.2 c_38)))).1, hi_43, hi_50, hi_51, hi_44, hmono_49, (stoC_ok (sw6 (sg_t c_1 c_4 c_7) (pl_yes hRA.1 c_4 c_8).1 (pl_yes hRA.1 c_4 c_8).2 (nt_u c_17) (fun z => absurd z.2 (by rw [← hRA.1, tcN c_4 (pl_yes hRA.1 c_4 c_8).1 c_37]; decide)) (Nat.ne_of_lt (ln_lt hRA.2.1.2 c_38))) hp_46 (ln_lt hRA.2.1.2 c_38) (st_new (sg_t c_1 c_4 c_7) (pl_yes hRA.1 c_4 c_8).1 (hs_45 _ mem_last) (chR_mono hmono_49 _ _ hRA.2.1.1)))⟩, rfl⟩ hP hD hS dX9_stone_160
                · refine lv_aload_n hx hb dX9_stone_136 rfl (lv_at hl 2 rfl) ?_
                  refine lv_ldc (v := (-100005)) hx hb hown hw8 dX9_stone_137 ?_
                  refine kM_i (As := [.int (-100005)]) (rest := []) (q0 := 0) ⟨hx, hb, hml, hown, hts⟩ (t_X9_finding l D cy a _ J (va_up (va_up I 9 (I 9)) 10 (I 10)) (va_up (va_up O 7 (O 7)) 8 (O 8)) R (va_up RO 2 (RO 2)) LL (Y ++ [(q_9, .inr (6, [va_rf (O 7), .int (nI S.length), .int x0, .int x1, .int (bI x2), .int x3, .long (g_place x1 x2)]))]) ((-100005) : Int32)   ) (cwV 1 hts gX9_stone_X9_finding rfl rfl rfl (by decide +kernel) ⟨Nat.le_of_ble_eq_true rfl, Nat.le_of_ble_eq_true rfl⟩) hK hN hP hD hS hA rfl rfl rfl hl.1 rfl (Nat.le_of_ble_eq_true rfl) dX9_stone_139 ⟨Nat.le_of_ble_eq_true rfl, Nat.le_of_ble_eq_true rfl⟩ (fun r_52 u H locs hw hP hD hS => ?_)
                  obtain ⟨w_53, rfl, rfl⟩ := hw
                  have hP : va_P D vwCl (CT cy a J (va_up (va_up I 9 (I 9)) 10 w_53) (va_up (va_up O 7 (O 7)) 8 (O 8)) R (va_up RO 2 (RO 2)) (LL ++ (Y ++ [(q_9, .inr (6, [va_rf (O 7), .int (nI S.length), .int x0, .int x1, .int (bI x2), .int x3, .long (g_place x1 x2)]))]))) H := hP
                  have hD : va_D A (CT cy a J (va_up (va_up I 9 (I 9)) 10 w_53) (va_up (va_up O 7 (O 7)) 8 (O 8)) R (va_up RO 2 (RO 2)) (LL ++ (Y ++ [(q_9, .inr (6, [va_rf (O 7), .int (nI S.length), .int x0, .int x1, .int (bI x2), .int x3, .long (g_place x1 x2)]))]))) := hD
                  refine W.widen (k := 2) (n := 10) (Nat.le_of_ble_eq_true rfl) (Nat.le_of_ble_eq_true rfl) ?_
                  exact wret_i hx hb hr hlocks (J, (va_up (va_up I 9 (I 9)) 10 w_53), (va_up (va_up O 7 (O 7)) 8 (O 8)), R, (va_up RO 2 (RO 2)), LL, Y ++ [(q_9, .inr (6, [va_rf (O 7), .int (nI S.length), .int x0, .int x1, .int (bI x2), .int x3, .long (g_place x1 x2)]))]) ⟨(I 9), w_53, (O 7), (O 8), (RO 2), (Y ++ [(q_9, .inr (6, [va_rf (O 7), .int (nI S.length), .int x0, .int x1, .int (bI x2), .int x3, .long (g_place x1 x2)]))]), ⟨(sto_no (P := P) (sw5 (sg_t c_1 c_4 c_7) (pl_yes hRA.1 c_4 c_8).1 (pl_yes hRA.1 c_4 c_8).2 (nt_u c_17) (fun z => absurd z.2 (by rw [← hRA.1, tcN c_4 (pl_yes hRA.1 c_4 c_8).1 c_37]; decide)) (ln_ge hRA.2.1.2 c_38)) (by decide)).1, hM.1, hi_11, hi_12, hi_13, hmono_14, (stoC_no (sw5 (sg_t c_1 c_4 c_7) (pl_yes hRA.1 c_4 c_8).1 (pl_yes hRA.1 c_4 c_8).2 (nt_u c_17) (fun z => absurd z.2 (by rw [← hRA.1, tcN c_4 (pl_yes hRA.1 c_4 c_8).1 c_37]; decide)) (ln_ge hRA.2.1.2 c_38)) (by decide) (RCf_mono hmono_14 hRA))⟩, rfl⟩ hP hD hS dX9_stone_142
              · replace c_37 := bI_f c_37
                refine lv_aload_n hx hb dX9_stone_122 rfl (lv_at hl 2 rfl) ?_
                refine lv_ldc (v := (-100004)) hx hb hown hw11 dX9_stone_123 ?_
                refine kM_i (As := [.int (-100004)]) (rest := []) (q0 := 0) ⟨hx, hb, hml, hown, hts⟩ (t_X9_finding l D cy a _ J (va_up (va_up I 9 (I 9)) 10 (I 10)) (va_up (va_up O 7 (O 7)) 8 (O 8)) R (va_up RO 2 (RO 2)) LL (Y ++ [(q_9, .inr (6, [va_rf (O 7), .int (nI S.length), .int x0, .int x1, .int (bI x2), .int x3, .long (g_place x1 x2)]))]) ((-100004) : Int32)   ) (cwV 1 hts gX9_stone_X9_finding rfl rfl rfl (by decide +kernel) ⟨Nat.le_of_ble_eq_true rfl, Nat.le_of_ble_eq_true rfl⟩) hK hN hP hD hS hA rfl rfl rfl hl.1 rfl (Nat.le_of_ble_eq_true rfl) dX9_stone_125 ⟨Nat.le_of_ble_eq_true rfl, Nat.le_of_ble_eq_true rfl⟩ (fun r_54 u H locs hw hP hD hS => ?_)
                obtain ⟨w_55, rfl, rfl⟩ := hw
                have hP : va_P D vwCl (CT cy a J (va_up (va_up I 9 (I 9)) 10 w_55) (va_up (va_up O 7 (O 7)) 8 (O 8)) R (va_up RO 2 (RO 2)) (LL ++ (Y ++ [(q_9, .inr (6, [va_rf (O 7), .int (nI S.length), .int x0, .int x1, .int (bI x2), .int x3, .long (g_place x1 x2)]))]))) H := hP
                have hD : va_D A (CT cy a J (va_up (va_up I 9 (I 9)) 10 w_55) (va_up (va_up O 7 (O 7)) 8 (O 8)) R (va_up RO 2 (RO 2)) (LL ++ (Y ++ [(q_9, .inr (6, [va_rf (O 7), .int (nI S.length), .int x0, .int x1, .int (bI x2), .int x3, .long (g_place x1 x2)]))]))) := hD
                refine W.widen (k := 2) (n := 10) (Nat.le_of_ble_eq_true rfl) (Nat.le_of_ble_eq_true rfl) ?_
                exact wret_i hx hb hr hlocks (J, (va_up (va_up I 9 (I 9)) 10 w_55), (va_up (va_up O 7 (O 7)) 8 (O 8)), R, (va_up RO 2 (RO 2)), LL, Y ++ [(q_9, .inr (6, [va_rf (O 7), .int (nI S.length), .int x0, .int x1, .int (bI x2), .int x3, .long (g_place x1 x2)]))]) ⟨(I 9), w_55, (O 7), (O 8), (RO 2), (Y ++ [(q_9, .inr (6, [va_rf (O 7), .int (nI S.length), .int x0, .int x1, .int (bI x2), .int x3, .long (g_place x1 x2)]))]), ⟨(sto_no (P := P) (sw4 (sg_t c_1 c_4 c_7) (pl_yes hRA.1 c_4 c_8).1 (pl_yes hRA.1 c_4 c_8).2 (nt_u c_17) ⟨c_18, (by rw [← hRA.1]; exact tcN c_4 (pl_yes hRA.1 c_4 c_8).1 c_37)⟩) (by decide)).1, hM.1, hi_11, hi_12, hi_13, hmono_14, (stoC_no (sw4 (sg_t c_1 c_4 c_7) (pl_yes hRA.1 c_4 c_8).1 (pl_yes hRA.1 c_4 c_8).2 (nt_u c_17) ⟨c_18, (by rw [← hRA.1]; exact tcN c_4 (pl_yes hRA.1 c_4 c_8).1 c_37)⟩) (by decide) (RCf_mono hmono_14 hRA))⟩, rfl⟩ hP hD hS dX9_stone_128
          · replace c_17 := bI_t c_17
            refine lv_aload hx hb dX9_stone_80 (lv_at hl 0 rfl) ?_
            obtain ⟨k_56, hk_57⟩ : ∃ k : Nat, (CT cy a J (va_up (va_up I 9 (I 9)) 10 (I 10)) (va_up (va_up O 7 (O 7)) 8 (O 8)) R (va_up RO 2 (RO 2)) (LL ++ (Y ++ [(q_9, .inr (6, [va_rf (O 7), .int (nI S.length), .int x0, .int x1, .int (bI x2), .int x3, .long (g_place x1 x2)]))])))[k]? = some (q_9, .inr (6, [va_rf (O 7), .int (nI S.length), .int x0, .int x1, .int (bI x2), .int x3, .long (g_place x1 x2)])) := pixT mem_last
            refine va_get (D := D) (ci := 6) (v := .long (g_place x1 x2)) (C := RX7) (T := TX7) (N := 7) hx hb hts hi7 hown hK hP k_56 hk_57 rfl 6 (by decide) hw9 (fun _ h9 => h9) rfl dX9_stone_82 ?_
            refine lv_aload_n hx hb dX9_stone_85 rfl (lv_at hl 2 rfl) ?_
            refine kR_l (As := []) (rest := [.long (g_place x1 x2)]) (q0 := 0) ⟨hx, hb, hml, hown, hts⟩ (x_X9_gluedFields l D cy a _ J (va_up (va_up I 9 (I 9)) 10 (I 10)) (va_up (va_up O 7 (O 7)) 8 (O 8)) R (va_up RO 2 (RO 2)) LL (Y ++ [(q_9, .inr (6, [va_rf (O 7), .int (nI S.length), .int x0, .int x1, .int (bI x2), .int x3, .long (g_place x1 x2)]))])  fl S P (RCf_mono hmono_14 hRA) ⟨hM.1, hi_11, hi_12, hi_13, hM.2.2.2.2.1, hM.2.2.2.2.2.1, hM.2.2.2.2.2.2.1, hM.2.2.2.2.2.2.2.1, hRO0, hRO1, hRO2, hRO3⟩) (cwV 0 hts gX9_stone_X9_gluedFields rfl rfl rfl (by decide +kernel) ⟨Nat.le_of_ble_eq_true rfl, Nat.le_of_ble_eq_true rfl⟩) hK hN hP hD rfl rfl rfl hl.1 rfl (Nat.le_of_ble_eq_true rfl) dX9_stone_86 ⟨Nat.le_of_ble_eq_true rfl, Nat.le_of_ble_eq_true rfl⟩ ?_
            refine lv_land hx hb dX9_stone_89 ?_
            refine lv_lconst (v := 0) hx hb dX9_stone_90 (by decide) ?_
            refine W.lcmp hx hb dX9_stone_91 ?_
            refine lv_if_eq (tgt := 102) hx hb dX9_stone_92 (by decide) (fun c_58 => ?_) (fun c_58 => ?_)
            · replace c_58 := (lg_cmp_eq _ _).mp c_58
              refine lv_iload_n hx hb dX9_stone_102 rfl (lv_at hl 3 rfl) ?_
              refine lv_iconst (v := 3) hx hb dX9_stone_103 (by decide) ?_
              refine lv_icmp_ne (tgt := 129) hx hb dX9_stone_104 (by decide) (fun c_59 => ?_) (fun c_59 => ?_)
              · refine lv_iload hx hb dX9_stone_129 (lv_at hl 1 rfl) ?_
                refine lv_bipush (v := 20) hx hb dX9_stone_131 (by decide) ?_
                refine lv_icmp_lt (tgt := 143) hx hb dX9_stone_133 (by decide) (fun c_60 => ?_) (fun c_60 => ?_)
                · refine lv_aload_n hx hb dX9_stone_143 rfl (lv_at hl 2 rfl) ?_
                  refine kM_v (As := []) (rest := []) (q0 := 0) ⟨hx, hb, hml, hown, hts⟩ (x_X9_keepPast l D cy a _ J (va_up (va_up I 9 (I 9)) 10 (I 10)) (va_up (va_up O 7 (O 7)) 8 (O 8)) R (va_up RO 2 (RO 2)) LL (Y ++ [(q_9, .inr (6, [va_rf (O 7), .int (nI S.length), .int x0, .int x1, .int (bI x2), .int x3, .long (g_place x1 x2)]))])  fl S P (RCf_mono hmono_14 hRA) ⟨hM.1, hi_11, hi_12, hi_13, hM.2.2.2.2.1, hM.2.2.2.2.2.1, hM.2.2.2.2.2.2.1, hM.2.2.2.2.2.2.2.1, hRO0, hRO1, hRO2, hRO3⟩ ) (cwV 0 hts gX9_stone_X9_keepPast rfl rfl rfl (by decide +kernel) ⟨Nat.le_of_ble_eq_true rfl, Nat.le_of_ble_eq_true rfl⟩) hK hN hP hD hS hA rfl rfl rfl hl.1 rfl (Nat.le_of_ble_eq_true rfl) dX9_stone_144 ⟨Nat.le_of_ble_eq_true rfl, Nat.le_of_ble_eq_true rfl⟩ (fun u H locs hw hP hD hS => ?_)
                  obtain ⟨w_62, w_63, Y_64, ⟨hi_65, hi_66, hs_67, hp_68⟩, rfl⟩ := hw
                  have hi_69 : chO Y_64 (O 7) := chO_mono hs_67 hi_11
                  have hi_70 : layO Y_64 (O 8) := layO_mono hs_67 hi_12
                  have hmono_71 : ∀ c, c ∈ Y → c ∈ Y_64 := fun c h => hs_67 c (hmono_14 c h)
                  have hP : va_P D vwCl (CT cy a J (va_up (va_up I 9 w_62) 10 (I 10)) (va_up (va_up O 7 (O 7)) 8 (O 8)) R (va_up RO 2 w_63) (LL ++ Y_64)) H := hP
                  have hD : va_D A (CT cy a J (va_up (va_up I 9 w_62) 10 (I 10)) (va_up (va_up O 7 (O 7)) 8 (O 8)) R (va_up RO 2 w_63) (LL ++ Y_64)) := hD
                  refine lv_aload_n hx hb dX9_stone_147 rfl (lv_at hl 2 rfl) ?_
                  refine lv_aload hx hb dX9_stone_148 (lv_at hl 0 rfl) ?_
                  refine va_put (D := D) (ci := 8) (v := .ref q_9) (ty := .object "ParquetLayer$Stone") (C := RX9) (T := TX9) (N := 11) hx hb hts hi9 tyX9 tyX9_ok nmX9 hown hK hP hD hS 0 rfl rfl 7 (by decide) hw4 (fun _ h9 => h9) rfl (by decide +kernel) rfl rfl (Nat.le_of_ble_eq_true rfl) dX9_stone_150 (fun H locs hP hD hS => ?_)
                  have hP : va_P D vwCl (CT cy a J (va_up (va_up I 9 w_62) 10 (I 10)) (va_up (va_up O 7 (some q_9)) 8 (O 8)) R (va_up RO 2 w_63) (LL ++ Y_64)) H := hP
                  have hD : va_D A (CT cy a J (va_up (va_up I 9 w_62) 10 (I 10)) (va_up (va_up O 7 (some q_9)) 8 (O 8)) R (va_up RO 2 w_63) (LL ++ Y_64)) := hD
                  have hi_72 : chO Y_64 (some q_9) := (chO_mono hs_67 ⟨S.length + 1, q_9, _, _, _, _, _, _, rfl, mem_last, chain_mono hs_10 _ _ (chR_ch _ _ hRA.2.1.1)⟩)
                  refine lv_aload_n hx hb dX9_stone_153 rfl (lv_at hl 2 rfl) ?_
                  refine lv_null hx hb dX9_stone_154 ?_
                  refine va_put (D := D) (ci := 8) (v := .null) (ty := .object "ParquetLayer$Laying") (C := RX9) (T := TX9) (N := 11) hx hb hts hi9 tyX9 tyX9_ok nmX9 hown hK hP hD hS 0 rfl rfl 8 (by decide) hw7 (fun _ h9 => h9) rfl (by decide +kernel) rfl rfl (Nat.le_of_ble_eq_true rfl) dX9_stone_155 (fun H locs hP hD hS => ?_)
                  have hP : va_P D vwCl (CT cy a J (va_up (va_up I 9 w_62) 10 (I 10)) (va_up (va_up O 7 (some q_9)) 8 none) R (va_up RO 2 w_63) (LL ++ Y_64)) H := hP
                  have hD : va_D A (CT cy a J (va_up (va_up I 9 w_62) 10 (I 10)) (va_up (va_up O 7 (some q_9)) 8 none) R (va_up RO 2 w_63) (LL ++ Y_64)) := hD
                  have hi_73 : layO Y_64 none := lay_none
                  refine lv_iload hx hb dX9_stone_158 (lv_at hl 1 rfl) ?_
                  exact wret_i hx hb hr hlocks (J, (va_up (va_up I 9 w_62) 10 (I 10)), (va_up (va_up O 7 (some q_9)) 8 none), R, (va_up RO 2 w_63), LL, Y_64) ⟨w_62, (I 10), (some q_9), none, w_63, Y_64, ⟨(sto_ok (P := P) (sw6 (sg_t c_1 c_4 c_7) (pl_yes hRA.1 c_4 c_8).1 (pl_yes hRA.1 c_4 c_8).2 (nt_g c_4 c_58) (fun z => c_59 z.1) (Nat.ne_of_lt (ln_lt hRA.2.1.2 c_60)))).1, hi_65, hi_72, hi_73, hi_66, hmono_71, (stoC_ok (sw6 (sg_t c_1 c_4 c_7) (pl_yes hRA.1 c_4 c_8).1 (pl_yes hRA.1 c_4 c_8).2 (nt_g c_4 c_58) (fun z => c_59 z.1) (Nat.ne_of_lt (ln_lt hRA.2.1.2 c_60))) hp_68 (ln_lt hRA.2.1.2 c_60) (st_new (sg_t c_1 c_4 c_7) (pl_yes hRA.1 c_4 c_8).1 (hs_67 _ mem_last) (chR_mono hmono_71 _ _ hRA.2.1.1)))⟩, rfl⟩ hP hD hS dX9_stone_160
                · refine lv_aload_n hx hb dX9_stone_136 rfl (lv_at hl 2 rfl) ?_
                  refine lv_ldc (v := (-100005)) hx hb hown hw8 dX9_stone_137 ?_
                  refine kM_i (As := [.int (-100005)]) (rest := []) (q0 := 0) ⟨hx, hb, hml, hown, hts⟩ (t_X9_finding l D cy a _ J (va_up (va_up I 9 (I 9)) 10 (I 10)) (va_up (va_up O 7 (O 7)) 8 (O 8)) R (va_up RO 2 (RO 2)) LL (Y ++ [(q_9, .inr (6, [va_rf (O 7), .int (nI S.length), .int x0, .int x1, .int (bI x2), .int x3, .long (g_place x1 x2)]))]) ((-100005) : Int32)   ) (cwV 1 hts gX9_stone_X9_finding rfl rfl rfl (by decide +kernel) ⟨Nat.le_of_ble_eq_true rfl, Nat.le_of_ble_eq_true rfl⟩) hK hN hP hD hS hA rfl rfl rfl hl.1 rfl (Nat.le_of_ble_eq_true rfl) dX9_stone_139 ⟨Nat.le_of_ble_eq_true rfl, Nat.le_of_ble_eq_true rfl⟩ (fun r_74 u H locs hw hP hD hS => ?_)
                  obtain ⟨w_75, rfl, rfl⟩ := hw
                  have hP : va_P D vwCl (CT cy a J (va_up (va_up I 9 (I 9)) 10 w_75) (va_up (va_up O 7 (O 7)) 8 (O 8)) R (va_up RO 2 (RO 2)) (LL ++ (Y ++ [(q_9, .inr (6, [va_rf (O 7), .int (nI S.length), .int x0, .int x1, .int (bI x2), .int x3, .long (g_place x1 x2)]))]))) H := hP
                  have hD : va_D A (CT cy a J (va_up (va_up I 9 (I 9)) 10 w_75) (va_up (va_up O 7 (O 7)) 8 (O 8)) R (va_up RO 2 (RO 2)) (LL ++ (Y ++ [(q_9, .inr (6, [va_rf (O 7), .int (nI S.length), .int x0, .int x1, .int (bI x2), .int x3, .long (g_place x1 x2)]))]))) := hD
                  refine W.widen (k := 2) (n := 10) (Nat.le_of_ble_eq_true rfl) (Nat.le_of_ble_eq_true rfl) ?_
                  exact wret_i hx hb hr hlocks (J, (va_up (va_up I 9 (I 9)) 10 w_75), (va_up (va_up O 7 (O 7)) 8 (O 8)), R, (va_up RO 2 (RO 2)), LL, Y ++ [(q_9, .inr (6, [va_rf (O 7), .int (nI S.length), .int x0, .int x1, .int (bI x2), .int x3, .long (g_place x1 x2)]))]) ⟨(I 9), w_75, (O 7), (O 8), (RO 2), (Y ++ [(q_9, .inr (6, [va_rf (O 7), .int (nI S.length), .int x0, .int x1, .int (bI x2), .int x3, .long (g_place x1 x2)]))]), ⟨(sto_no (P := P) (sw5 (sg_t c_1 c_4 c_7) (pl_yes hRA.1 c_4 c_8).1 (pl_yes hRA.1 c_4 c_8).2 (nt_g c_4 c_58) (fun z => c_59 z.1) (ln_ge hRA.2.1.2 c_60)) (by decide)).1, hM.1, hi_11, hi_12, hi_13, hmono_14, (stoC_no (sw5 (sg_t c_1 c_4 c_7) (pl_yes hRA.1 c_4 c_8).1 (pl_yes hRA.1 c_4 c_8).2 (nt_g c_4 c_58) (fun z => c_59 z.1) (ln_ge hRA.2.1.2 c_60)) (by decide) (RCf_mono hmono_14 hRA))⟩, rfl⟩ hP hD hS dX9_stone_142
              · refine lv_aload hx hb dX9_stone_107 (lv_at hl 0 rfl) ?_
                obtain ⟨k_76, hk_77⟩ : ∃ k : Nat, (CT cy a J (va_up (va_up I 9 (I 9)) 10 (I 10)) (va_up (va_up O 7 (O 7)) 8 (O 8)) R (va_up RO 2 (RO 2)) (LL ++ (Y ++ [(q_9, .inr (6, [va_rf (O 7), .int (nI S.length), .int x0, .int x1, .int (bI x2), .int x3, .long (g_place x1 x2)]))])))[k]? = some (q_9, .inr (6, [va_rf (O 7), .int (nI S.length), .int x0, .int x1, .int (bI x2), .int x3, .long (g_place x1 x2)])) := pixT mem_last
                refine va_get (D := D) (ci := 6) (v := .long (g_place x1 x2)) (C := RX7) (T := TX7) (N := 7) hx hb hts hi7 hown hK hP k_76 hk_77 rfl 6 (by decide) hw9 (fun _ h9 => h9) rfl dX9_stone_109 ?_
                refine lv_aload_n hx hb dX9_stone_112 rfl (lv_at hl 2 rfl) ?_
                refine va_get (D := D) (ci := 8) (v := .long (J 6)) (C := RX9) (T := TX9) (N := 11) hx hb hts hi9 hown hK hP 0 rfl rfl 6 (by decide) hw10 (fun _ h9 => h9) rfl dX9_stone_113 ?_
                refine kS_i (As := [.long (g_place x1 x2), .long (J 6)]) (rest := []) ⟨hx, hb, hml, hown, hts⟩ (x_X1_touchesOutside l (g_place x1 x2) (J 6)) (va_cwS 2 hts gX9_stone_X1_touchesOutside rfl rfl rfl (by decide +kernel) ⟨Nat.le_of_ble_eq_true rfl, Nat.le_of_ble_eq_true rfl⟩) rfl hl.1 rfl (Nat.le_of_ble_eq_true rfl) dX9_stone_116 ⟨Nat.le_of_ble_eq_true rfl, Nat.le_of_ble_eq_true rfl⟩ ?_
                refine lv_if_ne (tgt := 129) hx hb dX9_stone_119 (by decide) (fun c_78 => ?_) (fun c_78 => ?_)
                · replace c_78 := bI_t c_78
                  refine lv_iload hx hb dX9_stone_129 (lv_at hl 1 rfl) ?_
                  refine lv_bipush (v := 20) hx hb dX9_stone_131 (by decide) ?_
                  refine lv_icmp_lt (tgt := 143) hx hb dX9_stone_133 (by decide) (fun c_79 => ?_) (fun c_79 => ?_)
                  · refine lv_aload_n hx hb dX9_stone_143 rfl (lv_at hl 2 rfl) ?_
                    refine kM_v (As := []) (rest := []) (q0 := 0) ⟨hx, hb, hml, hown, hts⟩ (x_X9_keepPast l D cy a _ J (va_up (va_up I 9 (I 9)) 10 (I 10)) (va_up (va_up O 7 (O 7)) 8 (O 8)) R (va_up RO 2 (RO 2)) LL (Y ++ [(q_9, .inr (6, [va_rf (O 7), .int (nI S.length), .int x0, .int x1, .int (bI x2), .int x3, .long (g_place x1 x2)]))])  fl S P (RCf_mono hmono_14 hRA) ⟨hM.1, hi_11, hi_12, hi_13, hM.2.2.2.2.1, hM.2.2.2.2.2.1, hM.2.2.2.2.2.2.1, hM.2.2.2.2.2.2.2.1, hRO0, hRO1, hRO2, hRO3⟩ ) (cwV 0 hts gX9_stone_X9_keepPast rfl rfl rfl (by decide +kernel) ⟨Nat.le_of_ble_eq_true rfl, Nat.le_of_ble_eq_true rfl⟩) hK hN hP hD hS hA rfl rfl rfl hl.1 rfl (Nat.le_of_ble_eq_true rfl) dX9_stone_144 ⟨Nat.le_of_ble_eq_true rfl, Nat.le_of_ble_eq_true rfl⟩ (fun u H locs hw hP hD hS => ?_)
                    obtain ⟨w_81, w_82, Y_83, ⟨hi_84, hi_85, hs_86, hp_87⟩, rfl⟩ := hw
                    have hi_88 : chO Y_83 (O 7) := chO_mono hs_86 hi_11
                    have hi_89 : layO Y_83 (O 8) := layO_mono hs_86 hi_12
                    have hmono_90 : ∀ c, c ∈ Y → c ∈ Y_83 := fun c h => hs_86 c (hmono_14 c h)
                    have hP : va_P D vwCl (CT cy a J (va_up (va_up I 9 w_81) 10 (I 10)) (va_up (va_up O 7 (O 7)) 8 (O 8)) R (va_up RO 2 w_82) (LL ++ Y_83)) H := hP
                    have hD : va_D A (CT cy a J (va_up (va_up I 9 w_81) 10 (I 10)) (va_up (va_up O 7 (O 7)) 8 (O 8)) R (va_up RO 2 w_82) (LL ++ Y_83)) := hD
                    refine lv_aload_n hx hb dX9_stone_147 rfl (lv_at hl 2 rfl) ?_
                    refine lv_aload hx hb dX9_stone_148 (lv_at hl 0 rfl) ?_
                    refine va_put (D := D) (ci := 8) (v := .ref q_9) (ty := .object "ParquetLayer$Stone") (C := RX9) (T := TX9) (N := 11) hx hb hts hi9 tyX9 tyX9_ok nmX9 hown hK hP hD hS 0 rfl rfl 7 (by decide) hw4 (fun _ h9 => h9) rfl (by decide +kernel) rfl rfl (Nat.le_of_ble_eq_true rfl) dX9_stone_150 (fun H locs hP hD hS => ?_)
                    have hP : va_P D vwCl (CT cy a J (va_up (va_up I 9 w_81) 10 (I 10)) (va_up (va_up O 7 (some q_9)) 8 (O 8)) R (va_up RO 2 w_82) (LL ++ Y_83)) H := hP
                    have hD : va_D A (CT cy a J (va_up (va_up I 9 w_81) 10 (I 10)) (va_up (va_up O 7 (some q_9)) 8 (O 8)) R (va_up RO 2 w_82) (LL ++ Y_83)) := hD
                    have hi_91 : chO Y_83 (some q_9) := (chO_mono hs_86 ⟨S.length + 1, q_9, _, _, _, _, _, _, rfl, mem_last, chain_mono hs_10 _ _ (chR_ch _ _ hRA.2.1.1)⟩)
                    refine lv_aload_n hx hb dX9_stone_153 rfl (lv_at hl 2 rfl) ?_
                    refine lv_null hx hb dX9_stone_154 ?_
                    refine va_put (D := D) (ci := 8) (v := .null) (ty := .object "ParquetLayer$Laying") (C := RX9) (T := TX9) (N := 11) hx hb hts hi9 tyX9 tyX9_ok nmX9 hown hK hP hD hS 0 rfl rfl 8 (by decide) hw7 (fun _ h9 => h9) rfl (by decide +kernel) rfl rfl (Nat.le_of_ble_eq_true rfl) dX9_stone_155 (fun H locs hP hD hS => ?_)
                    have hP : va_P D vwCl (CT cy a J (va_up (va_up I 9 w_81) 10 (I 10)) (va_up (va_up O 7 (some q_9)) 8 none) R (va_up RO 2 w_82) (LL ++ Y_83)) H := hP
                    have hD : va_D A (CT cy a J (va_up (va_up I 9 w_81) 10 (I 10)) (va_up (va_up O 7 (some q_9)) 8 none) R (va_up RO 2 w_82) (LL ++ Y_83)) := hD
                    have hi_92 : layO Y_83 none := lay_none
                    refine lv_iload hx hb dX9_stone_158 (lv_at hl 1 rfl) ?_
                    exact wret_i hx hb hr hlocks (J, (va_up (va_up I 9 w_81) 10 (I 10)), (va_up (va_up O 7 (some q_9)) 8 none), R, (va_up RO 2 w_82), LL, Y_83) ⟨w_81, (I 10), (some q_9), none, w_82, Y_83, ⟨(sto_ok (P := P) (sw6 (sg_t c_1 c_4 c_7) (pl_yes hRA.1 c_4 c_8).1 (pl_yes hRA.1 c_4 c_8).2 (nt_g c_4 c_58) (fun z => absurd z.2 (by rw [← hRA.1, tcN c_4 (pl_yes hRA.1 c_4 c_8).1 c_78]; decide)) (Nat.ne_of_lt (ln_lt hRA.2.1.2 c_79)))).1, hi_84, hi_91, hi_92, hi_85, hmono_90, (stoC_ok (sw6 (sg_t c_1 c_4 c_7) (pl_yes hRA.1 c_4 c_8).1 (pl_yes hRA.1 c_4 c_8).2 (nt_g c_4 c_58) (fun z => absurd z.2 (by rw [← hRA.1, tcN c_4 (pl_yes hRA.1 c_4 c_8).1 c_78]; decide)) (Nat.ne_of_lt (ln_lt hRA.2.1.2 c_79))) hp_87 (ln_lt hRA.2.1.2 c_79) (st_new (sg_t c_1 c_4 c_7) (pl_yes hRA.1 c_4 c_8).1 (hs_86 _ mem_last) (chR_mono hmono_90 _ _ hRA.2.1.1)))⟩, rfl⟩ hP hD hS dX9_stone_160
                  · refine lv_aload_n hx hb dX9_stone_136 rfl (lv_at hl 2 rfl) ?_
                    refine lv_ldc (v := (-100005)) hx hb hown hw8 dX9_stone_137 ?_
                    refine kM_i (As := [.int (-100005)]) (rest := []) (q0 := 0) ⟨hx, hb, hml, hown, hts⟩ (t_X9_finding l D cy a _ J (va_up (va_up I 9 (I 9)) 10 (I 10)) (va_up (va_up O 7 (O 7)) 8 (O 8)) R (va_up RO 2 (RO 2)) LL (Y ++ [(q_9, .inr (6, [va_rf (O 7), .int (nI S.length), .int x0, .int x1, .int (bI x2), .int x3, .long (g_place x1 x2)]))]) ((-100005) : Int32)   ) (cwV 1 hts gX9_stone_X9_finding rfl rfl rfl (by decide +kernel) ⟨Nat.le_of_ble_eq_true rfl, Nat.le_of_ble_eq_true rfl⟩) hK hN hP hD hS hA rfl rfl rfl hl.1 rfl (Nat.le_of_ble_eq_true rfl) dX9_stone_139 ⟨Nat.le_of_ble_eq_true rfl, Nat.le_of_ble_eq_true rfl⟩ (fun r_93 u H locs hw hP hD hS => ?_)
                    obtain ⟨w_94, rfl, rfl⟩ := hw
                    have hP : va_P D vwCl (CT cy a J (va_up (va_up I 9 (I 9)) 10 w_94) (va_up (va_up O 7 (O 7)) 8 (O 8)) R (va_up RO 2 (RO 2)) (LL ++ (Y ++ [(q_9, .inr (6, [va_rf (O 7), .int (nI S.length), .int x0, .int x1, .int (bI x2), .int x3, .long (g_place x1 x2)]))]))) H := hP
                    have hD : va_D A (CT cy a J (va_up (va_up I 9 (I 9)) 10 w_94) (va_up (va_up O 7 (O 7)) 8 (O 8)) R (va_up RO 2 (RO 2)) (LL ++ (Y ++ [(q_9, .inr (6, [va_rf (O 7), .int (nI S.length), .int x0, .int x1, .int (bI x2), .int x3, .long (g_place x1 x2)]))]))) := hD
                    refine W.widen (k := 2) (n := 10) (Nat.le_of_ble_eq_true rfl) (Nat.le_of_ble_eq_true rfl) ?_
                    exact wret_i hx hb hr hlocks (J, (va_up (va_up I 9 (I 9)) 10 w_94), (va_up (va_up O 7 (O 7)) 8 (O 8)), R, (va_up RO 2 (RO 2)), LL, Y ++ [(q_9, .inr (6, [va_rf (O 7), .int (nI S.length), .int x0, .int x1, .int (bI x2), .int x3, .long (g_place x1 x2)]))]) ⟨(I 9), w_94, (O 7), (O 8), (RO 2), (Y ++ [(q_9, .inr (6, [va_rf (O 7), .int (nI S.length), .int x0, .int x1, .int (bI x2), .int x3, .long (g_place x1 x2)]))]), ⟨(sto_no (P := P) (sw5 (sg_t c_1 c_4 c_7) (pl_yes hRA.1 c_4 c_8).1 (pl_yes hRA.1 c_4 c_8).2 (nt_g c_4 c_58) (fun z => absurd z.2 (by rw [← hRA.1, tcN c_4 (pl_yes hRA.1 c_4 c_8).1 c_78]; decide)) (ln_ge hRA.2.1.2 c_79)) (by decide)).1, hM.1, hi_11, hi_12, hi_13, hmono_14, (stoC_no (sw5 (sg_t c_1 c_4 c_7) (pl_yes hRA.1 c_4 c_8).1 (pl_yes hRA.1 c_4 c_8).2 (nt_g c_4 c_58) (fun z => absurd z.2 (by rw [← hRA.1, tcN c_4 (pl_yes hRA.1 c_4 c_8).1 c_78]; decide)) (ln_ge hRA.2.1.2 c_79)) (by decide) (RCf_mono hmono_14 hRA))⟩, rfl⟩ hP hD hS dX9_stone_142
                · replace c_78 := bI_f c_78
                  refine lv_aload_n hx hb dX9_stone_122 rfl (lv_at hl 2 rfl) ?_
                  refine lv_ldc (v := (-100004)) hx hb hown hw11 dX9_stone_123 ?_
                  refine kM_i (As := [.int (-100004)]) (rest := []) (q0 := 0) ⟨hx, hb, hml, hown, hts⟩ (t_X9_finding l D cy a _ J (va_up (va_up I 9 (I 9)) 10 (I 10)) (va_up (va_up O 7 (O 7)) 8 (O 8)) R (va_up RO 2 (RO 2)) LL (Y ++ [(q_9, .inr (6, [va_rf (O 7), .int (nI S.length), .int x0, .int x1, .int (bI x2), .int x3, .long (g_place x1 x2)]))]) ((-100004) : Int32)   ) (cwV 1 hts gX9_stone_X9_finding rfl rfl rfl (by decide +kernel) ⟨Nat.le_of_ble_eq_true rfl, Nat.le_of_ble_eq_true rfl⟩) hK hN hP hD hS hA rfl rfl rfl hl.1 rfl (Nat.le_of_ble_eq_true rfl) dX9_stone_125 ⟨Nat.le_of_ble_eq_true rfl, Nat.le_of_ble_eq_true rfl⟩ (fun r_95 u H locs hw hP hD hS => ?_)
                  obtain ⟨w_96, rfl, rfl⟩ := hw
                  have hP : va_P D vwCl (CT cy a J (va_up (va_up I 9 (I 9)) 10 w_96) (va_up (va_up O 7 (O 7)) 8 (O 8)) R (va_up RO 2 (RO 2)) (LL ++ (Y ++ [(q_9, .inr (6, [va_rf (O 7), .int (nI S.length), .int x0, .int x1, .int (bI x2), .int x3, .long (g_place x1 x2)]))]))) H := hP
                  have hD : va_D A (CT cy a J (va_up (va_up I 9 (I 9)) 10 w_96) (va_up (va_up O 7 (O 7)) 8 (O 8)) R (va_up RO 2 (RO 2)) (LL ++ (Y ++ [(q_9, .inr (6, [va_rf (O 7), .int (nI S.length), .int x0, .int x1, .int (bI x2), .int x3, .long (g_place x1 x2)]))]))) := hD
                  refine W.widen (k := 2) (n := 10) (Nat.le_of_ble_eq_true rfl) (Nat.le_of_ble_eq_true rfl) ?_
                  exact wret_i hx hb hr hlocks (J, (va_up (va_up I 9 (I 9)) 10 w_96), (va_up (va_up O 7 (O 7)) 8 (O 8)), R, (va_up RO 2 (RO 2)), LL, Y ++ [(q_9, .inr (6, [va_rf (O 7), .int (nI S.length), .int x0, .int x1, .int (bI x2), .int x3, .long (g_place x1 x2)]))]) ⟨(I 9), w_96, (O 7), (O 8), (RO 2), (Y ++ [(q_9, .inr (6, [va_rf (O 7), .int (nI S.length), .int x0, .int x1, .int (bI x2), .int x3, .long (g_place x1 x2)]))]), ⟨(sto_no (P := P) (sw4 (sg_t c_1 c_4 c_7) (pl_yes hRA.1 c_4 c_8).1 (pl_yes hRA.1 c_4 c_8).2 (nt_g c_4 c_58) ⟨c_59, (by rw [← hRA.1]; exact tcN c_4 (pl_yes hRA.1 c_4 c_8).1 c_78)⟩) (by decide)).1, hM.1, hi_11, hi_12, hi_13, hmono_14, (stoC_no (sw4 (sg_t c_1 c_4 c_7) (pl_yes hRA.1 c_4 c_8).1 (pl_yes hRA.1 c_4 c_8).2 (nt_g c_4 c_58) ⟨c_59, (by rw [← hRA.1]; exact tcN c_4 (pl_yes hRA.1 c_4 c_8).1 c_78)⟩) (by decide) (RCf_mono hmono_14 hRA))⟩, rfl⟩ hP hD hS dX9_stone_128
            · replace c_58 := fun z => c_58 ((lg_cmp_eq _ _).mpr z)
              refine lv_aload_n hx hb dX9_stone_95 rfl (lv_at hl 2 rfl) ?_
              refine lv_ldc (v := (-100007)) hx hb hown hw12 dX9_stone_96 ?_
              refine kM_i (As := [.int (-100007)]) (rest := []) (q0 := 0) ⟨hx, hb, hml, hown, hts⟩ (t_X9_finding l D cy a _ J (va_up (va_up I 9 (I 9)) 10 (I 10)) (va_up (va_up O 7 (O 7)) 8 (O 8)) R (va_up RO 2 (RO 2)) LL (Y ++ [(q_9, .inr (6, [va_rf (O 7), .int (nI S.length), .int x0, .int x1, .int (bI x2), .int x3, .long (g_place x1 x2)]))]) ((-100007) : Int32)   ) (cwV 1 hts gX9_stone_X9_finding rfl rfl rfl (by decide +kernel) ⟨Nat.le_of_ble_eq_true rfl, Nat.le_of_ble_eq_true rfl⟩) hK hN hP hD hS hA rfl rfl rfl hl.1 rfl (Nat.le_of_ble_eq_true rfl) dX9_stone_98 ⟨Nat.le_of_ble_eq_true rfl, Nat.le_of_ble_eq_true rfl⟩ (fun r_97 u H locs hw hP hD hS => ?_)
              obtain ⟨w_98, rfl, rfl⟩ := hw
              have hP : va_P D vwCl (CT cy a J (va_up (va_up I 9 (I 9)) 10 w_98) (va_up (va_up O 7 (O 7)) 8 (O 8)) R (va_up RO 2 (RO 2)) (LL ++ (Y ++ [(q_9, .inr (6, [va_rf (O 7), .int (nI S.length), .int x0, .int x1, .int (bI x2), .int x3, .long (g_place x1 x2)]))]))) H := hP
              have hD : va_D A (CT cy a J (va_up (va_up I 9 (I 9)) 10 w_98) (va_up (va_up O 7 (O 7)) 8 (O 8)) R (va_up RO 2 (RO 2)) (LL ++ (Y ++ [(q_9, .inr (6, [va_rf (O 7), .int (nI S.length), .int x0, .int x1, .int (bI x2), .int x3, .long (g_place x1 x2)]))]))) := hD
              refine W.widen (k := 2) (n := 10) (Nat.le_of_ble_eq_true rfl) (Nat.le_of_ble_eq_true rfl) ?_
              exact wret_i hx hb hr hlocks (J, (va_up (va_up I 9 (I 9)) 10 w_98), (va_up (va_up O 7 (O 7)) 8 (O 8)), R, (va_up RO 2 (RO 2)), LL, Y ++ [(q_9, .inr (6, [va_rf (O 7), .int (nI S.length), .int x0, .int x1, .int (bI x2), .int x3, .long (g_place x1 x2)]))]) ⟨(I 9), w_98, (O 7), (O 8), (RO 2), (Y ++ [(q_9, .inr (6, [va_rf (O 7), .int (nI S.length), .int x0, .int x1, .int (bI x2), .int x3, .long (g_place x1 x2)]))]), ⟨(sto_no (P := P) (sw3 (sg_t c_1 c_4 c_7) (pl_yes hRA.1 c_4 c_8).1 (pl_yes hRA.1 c_4 c_8).2 ⟨und1 c_17, ant_t c_4 c_58⟩) (by decide)).1, hM.1, hi_11, hi_12, hi_13, hmono_14, (stoC_no (sw3 (sg_t c_1 c_4 c_7) (pl_yes hRA.1 c_4 c_8).1 (pl_yes hRA.1 c_4 c_8).2 ⟨und1 c_17, ant_t c_4 c_58⟩) (by decide) (RCf_mono hmono_14 hRA))⟩, rfl⟩ hP hD hS dX9_stone_101
        · replace c_8 := bI_f c_8
          refine lv_aload_n hx hb dX9_stone_39 rfl (lv_at hl 0 rfl) ?_
          refine lv_ldc (v := (-100003)) hx hb hown hw13 dX9_stone_40 ?_
          refine kM_i (As := [.int (-100003)]) (rest := []) (q0 := 0) ⟨hx, hb, hml, hown, hts⟩ (t_X9_finding l D cy a _ J (va_up (va_up I 9 (I 9)) 10 (I 10)) (va_up (va_up O 7 (O 7)) 8 (O 8)) R (va_up RO 2 (RO 2)) LL Y ((-100003) : Int32)   ) (cwV 1 hts gX9_stone_X9_finding rfl rfl rfl (by decide +kernel) ⟨Nat.le_of_ble_eq_true rfl, Nat.le_of_ble_eq_true rfl⟩) hK hN hP hD hS hA rfl rfl rfl hl.1 rfl (Nat.le_of_ble_eq_true rfl) dX9_stone_42 ⟨Nat.le_of_ble_eq_true rfl, Nat.le_of_ble_eq_true rfl⟩ (fun r_99 u H locs hw hP hD hS => ?_)
          obtain ⟨w_100, rfl, rfl⟩ := hw
          have hP : va_P D vwCl (CT cy a J (va_up (va_up I 9 (I 9)) 10 w_100) (va_up (va_up O 7 (O 7)) 8 (O 8)) R (va_up RO 2 (RO 2)) (LL ++ Y)) H := hP
          have hD : va_D A (CT cy a J (va_up (va_up I 9 (I 9)) 10 w_100) (va_up (va_up O 7 (O 7)) 8 (O 8)) R (va_up RO 2 (RO 2)) (LL ++ Y)) := hD
          refine W.widen (k := 2) (n := 10) (Nat.le_of_ble_eq_true rfl) (Nat.le_of_ble_eq_true rfl) ?_
          exact wret_i hx hb hr hlocks (J, (va_up (va_up I 9 (I 9)) 10 w_100), (va_up (va_up O 7 (O 7)) 8 (O 8)), R, (va_up RO 2 (RO 2)), LL, Y) ⟨(I 9), w_100, (O 7), (O 8), (RO 2), Y, ⟨(sto_no (P := P) (sw2 (sg_t c_1 c_4 c_7) (pl_no hRA.1 c_4 c_8)) (by decide)).1, hM.1, hM.2.1, hM.2.2.1, hM.2.2.2.1, (fun _ h => h), (stoC_no (sw2 (sg_t c_1 c_4 c_7) (pl_no hRA.1 c_4 c_8)) (by decide) (RCf_mono (fun _ h => h) hRA))⟩, rfl⟩ hP hD hS dX9_stone_45
      · replace c_7 := bI_f c_7
        refine lv_aload_n hx hb dX9_stone_23 rfl (lv_at hl 0 rfl) ?_
        refine lv_ldc (v := (-100001)) hx hb hown hw0 dX9_stone_24 ?_
        refine kM_i (As := [.int (-100001)]) (rest := []) (q0 := 0) ⟨hx, hb, hml, hown, hts⟩ (t_X9_finding l D cy a _ J (va_up (va_up I 9 (I 9)) 10 (I 10)) (va_up (va_up O 7 (O 7)) 8 (O 8)) R (va_up RO 2 (RO 2)) LL Y ((-100001) : Int32)   ) (cwV 1 hts gX9_stone_X9_finding rfl rfl rfl (by decide +kernel) ⟨Nat.le_of_ble_eq_true rfl, Nat.le_of_ble_eq_true rfl⟩) hK hN hP hD hS hA rfl rfl rfl hl.1 rfl (Nat.le_of_ble_eq_true rfl) dX9_stone_26 ⟨Nat.le_of_ble_eq_true rfl, Nat.le_of_ble_eq_true rfl⟩ (fun r_101 u H locs hw hP hD hS => ?_)
        obtain ⟨w_102, rfl, rfl⟩ := hw
        have hP : va_P D vwCl (CT cy a J (va_up (va_up I 9 (I 9)) 10 w_102) (va_up (va_up O 7 (O 7)) 8 (O 8)) R (va_up RO 2 (RO 2)) (LL ++ Y)) H := hP
        have hD : va_D A (CT cy a J (va_up (va_up I 9 (I 9)) 10 w_102) (va_up (va_up O 7 (O 7)) 8 (O 8)) R (va_up RO 2 (RO 2)) (LL ++ Y)) := hD
        refine W.widen (k := 2) (n := 10) (Nat.le_of_ble_eq_true rfl) (Nat.le_of_ble_eq_true rfl) ?_
        exact wret_i hx hb hr hlocks (J, (va_up (va_up I 9 (I 9)) 10 w_102), (va_up (va_up O 7 (O 7)) 8 (O 8)), R, (va_up RO 2 (RO 2)), LL, Y) ⟨(I 9), w_102, (O 7), (O 8), (RO 2), Y, ⟨(sto_no (P := P) (sw1 (sg_3 c_7)) (by decide)).1, hM.1, hM.2.1, hM.2.2.1, hM.2.2.2.1, (fun _ h => h), (stoC_no (sw1 (sg_3 c_7)) (by decide) (RCf_mono (fun _ h => h) hRA))⟩, rfl⟩ hP hD hS dX9_stone_29
theorem dX9_loose_0 : decode cX9_loose 0 = .ok (.aload_n 0, 1) := by decide +kernel
theorem dX9_loose_1 : decode cX9_loose 1 = .ok (.getfield 106, 3) := by decide +kernel
theorem dX9_loose_4 : decode cX9_loose 4 = .ok (.ifnonnull 10, 3) := by decide +kernel
theorem dX9_loose_14 : decode cX9_loose 14 = .ok (.aload_n 0, 1) := by decide +kernel
set_option maxRecDepth 20000 in
theorem ggX9_loose_X9_keepPast : GoodIn wsX9_loose wsX9_keepPast := goodIn_r _ [14, 15, 16, 17, 18, 19, 20, 1, 4, 21, 22, 23, 24, 25, 26, 27, 28, 29, 35, 36, 37, 38, 39, 40, 41, 42, 43, 44, 45, 53, 54, 55] rfl (by decide +kernel)
set_option maxRecDepth 20000 in
theorem gX9_loose_X9_keepPast : GoodIn wsX9_loose (wsV RX9 130 RX9 yX9_keepPast wsX9_keepPast) := goodIn_app (goodIn_r _ [11, 12, 13, 8] rfl (by decide +kernel)) ggX9_loose_X9_keepPast
theorem dX9_loose_15 : decode cX9_loose 15 = .ok (.invokevirtual 130, 3) := by decide +kernel
theorem dX9_loose_18 : decode cX9_loose 18 = .ok (.aload_n 0, 1) := by decide +kernel
theorem dX9_loose_19 : decode cX9_loose 19 = .ok (.aload_n 0, 1) := by decide +kernel
theorem dX9_loose_20 : decode cX9_loose 20 = .ok (.getfield 106, 3) := by decide +kernel
theorem dX9_loose_23 : decode cX9_loose 23 = .ok (.getfield 138, 3) := by decide +kernel
theorem dX9_loose_26 : decode cX9_loose 26 = .ok (.putfield 106, 3) := by decide +kernel
theorem dX9_loose_29 : decode cX9_loose 29 = .ok (.aload_n 0, 1) := by decide +kernel
theorem dX9_loose_30 : decode cX9_loose 30 = .ok (.aconst_null, 1) := by decide +kernel
theorem dX9_loose_31 : decode cX9_loose 31 = .ok (.putfield 133, 3) := by decide +kernel
theorem dX9_loose_34 : decode cX9_loose 34 = .ok (.aload_n 0, 1) := by decide +kernel
set_option maxRecDepth 20000 in
theorem ggX9_loose_X9_stoneCount : GoodIn wsX9_loose wsX9_stoneCount := goodIn_r _ [33, 1, 34, 35, 36, 37, 38, 39, 40, 41, 42, 43, 44, 45, 46, 47, 48, 49, 50, 51, 52] rfl (by decide +kernel)
set_option maxRecDepth 20000 in
theorem gX9_loose_X9_stoneCount : GoodIn wsX9_loose (wsV RX9 100 RX9 yX9_stoneCount wsX9_stoneCount) := goodIn_app (goodIn_r _ [30, 31, 32, 8] rfl (by decide +kernel)) ggX9_loose_X9_stoneCount
theorem dX9_loose_35 : decode cX9_loose 35 = .ok (.invokevirtual 100, 3) := by decide +kernel
theorem dX9_loose_38 : decode cX9_loose 38 = .ok (.ireturn, 1) := by decide +kernel
theorem dX9_loose_7 : decode cX9_loose 7 = .ok (.aload_n 0, 1) := by decide +kernel
theorem dX9_loose_8 : decode cX9_loose 8 = .ok (.ldc 137, 2) := by decide +kernel
set_option maxRecDepth 20000 in
theorem ggX9_loose_X9_finding : GoodIn wsX9_loose wsX9_finding := goodIn_r _ [9, 10, 35, 36, 37, 38, 39, 40, 41, 42, 43, 44, 45] rfl (by decide +kernel)
set_option maxRecDepth 20000 in
theorem gX9_loose_X9_finding : GoodIn wsX9_loose (wsV RX9 44 RX9 yX9_finding wsX9_finding) := goodIn_app (goodIn_r _ [5, 6, 7, 8] rfl (by decide +kernel)) ggX9_loose_X9_finding
theorem dX9_loose_10 : decode cX9_loose 10 = .ok (.invokevirtual 44, 3) := by decide +kernel
theorem dX9_loose_13 : decode cX9_loose 13 = .ok (.ireturn, 1) := by decide +kernel
set_option maxRecDepth 20000 in
theorem ihX9_loose_7 : ∀ w ∈ u_ws RX7 TX7 7, w ∈ wsX9_loose := fun _ h => List.mem_cons_of_mem _ (List.mem_append_left _ (List.mem_append_right _ h))
set_option maxRecDepth 20000 in
theorem ihX9_loose_9 : ∀ w ∈ u_ws RX9 TX9 11, w ∈ wsX9_loose := fun _ h => List.mem_cons_of_mem _ (List.mem_append_left _ (List.mem_append_left _ (List.mem_append_right _ h)))
set_option maxHeartbeats 4000000 in
set_option maxRecDepth 100000 in
theorem x_X9_loose (l : Launch) (D : va_G) (cy : Nat → ClassId) (a : Nat → Nat) (sz : Nat) (J : Nat → Int64) (I : Nat → Int32) (O : Nat → Option Nat) (R : Nat → Nat → Int32) (RO : Nat → Nat → Option Nat) (LL : va_W) (Y : va_W)  (fl : Int64) (S : List Int32) (P : List PE) (hRA : RCf Y (J 6) (O 7) (I 9) (RO 2) fl S P) (hM : CI a Y I O RO) : Met l yX9_loose wsX9_loose ({ frames := 3, cells := 1, slots := 3, locals := 65 }) (va_Pc [.ref (a 0)] (PW D cy sz (CT cy a J I O R RO (LL ++ Y)))) (va_Qi (fun r (u : TS) => ∃ (w0 : Int32), ∃ (w1 : Int32), ∃ (w2 : Option Nat), ∃ (w3 : Option Nat), ∃ (w4 : Nat → Option Nat), ∃ (Y9 : va_W), (r = (aLooseA S) ∧ (vp_in w0 21) ∧ (chO Y9 w2) ∧ (layO Y9 w3) ∧ (∀ i, i < 20 → pasO Y9 (w4 i)) ∧ (∀ c, c ∈ Y → c ∈ Y9) ∧ (RCf Y9 (J 6) w2 w0 w4 fl S.tail (aLooseP fl S P))) ∧ u = (J, (va_up (va_up I 9 w0) 10 w1), (va_up (va_up O 7 w2) 8 w3), R, (va_up RO 2 w4), LL, Y9)) (BW D (va_A (CT cy a J I O R RO (LL ++ Y)) sz) (CTu cy a)) (va_A (CT cy a J I O R RO (LL ++ Y)) sz)) 1 3 (va_A (CT cy a J I O R RO (LL ++ Y)) sz) := by
  refine Met.ofW (cc := cX9_loose) (maxL := 1) (ret := (some .int)) (by decide) rfl ?_
  intro p e s m args below meth c s₁ B hml hv
  obtain ⟨rfl, rfl, hP, hK, hN, hD0⟩ := hv
  have hx := B.exec
  have hb := B.bytes
  have hr := B.returns
  have hts := atoms_spec (ws := wsX9_loose) B.pre
  have hown : s.vm.findClass RX9 = some m.cls := findClass_of_methodNamed B.named
  have hlocks := B.notSynchronized
  have hw0 := hts (.fieldLink RX9 106 "ParquetLayer" "latest" "LParquetLayer$Stone;") (by decide +kernel)
  have hw1 := hts (.fieldLink RX9 138 "ParquetLayer$Stone" "below" "LParquetLayer$Stone;") (by decide +kernel)
  have hw2 := hts (.fieldLink RX9 133 "ParquetLayer" "hand" "LParquetLayer$Laying;") (by decide +kernel)
  have hw3 := hts (.constant RX9 137 (-100006)) (by decide +kernel)
  have hi7 := ihX9_loose_7
  have hi9 := ihX9_loose_9
  have hD := hD0.self (sz := s.heap.size)
  generalize hAe : va_A (CT cy a J I O R RO (LL ++ Y)) s.heap.size = A at hD ⊢
  have hA : ∀ q : Nat, s.heap.size ≤ q → A q := fun q h => by rw [← hAe]; exact Or.inr h
  have hS : va_S A s.heap s.heap [] := va_S.rf
  have hl := lv_entry ([.ref (a 0)]) (n := 1) (Nat.le_of_ble_eq_true rfl)
  rw [lg_entry_eq]
  generalize (lg_sl ([.ref (a 0)]) ++ List.replicate (1 - (lg_sl ([.ref (a 0)])).length) Slot.unset).toArray = ls at hl ⊢
  have hl : lv_has ls 1 [(0, .ref (a 0))] := hl
  have hRO0 := hM.2.2.2.2.2.2.2.2.1
  have hRO1 := hM.2.2.2.2.2.2.2.2.2.1
  have hRO2 := hM.2.2.2.2.2.2.2.2.2.2.1
  have hRO3 := hM.2.2.2.2.2.2.2.2.2.2.2
  have hP : va_P D vwCl (CT cy a J (va_up (va_up I 9 (I 9)) 10 (I 10)) (va_up (va_up O 7 (O 7)) 8 (O 8)) R (va_up RO 2 (RO 2)) (LL ++ Y)) s.heap := hP
  have hD : va_D A (CT cy a J (va_up (va_up I 9 (I 9)) 10 (I 10)) (va_up (va_up O 7 (O 7)) 8 (O 8)) R (va_up RO 2 (RO 2)) (LL ++ Y)) := hD
  refine lv_aload_n hx hb dX9_loose_0 rfl (lv_at hl 0 rfl) ?_
  refine va_get (D := D) (ci := 8) (v := va_rf (O 7)) (C := RX9) (T := TX9) (N := 11) hx hb hts hi9 hown hK hP 0 rfl rfl 7 (by decide) hw0 (fun _ h9 => h9) rfl dX9_loose_1 ?_
  refine lv_ifnonnullO (tgt := 14) hx hb dX9_loose_4 (by decide) (fun c_1 => ?_) (fun c_1 => ?_)
  · obtain ⟨v_5, T_6, b_2, o_7, v_8, hS_9, e_4, hm_3, hp_10, hc_11⟩ := chR_some hRA.2.1.1 c_1
    rw [e_4] at hP hD
    have hi_12 : chO Y (some b_2) := by rw [← e_4]; exact hM.2.1
    refine lv_aload_n hx hb dX9_loose_14 rfl (lv_at hl 0 rfl) ?_
    refine kM_v (As := []) (rest := []) (q0 := 0) ⟨hx, hb, hml, hown, hts⟩ (x_X9_keepPast l D cy a _ J (va_up (va_up I 9 (I 9)) 10 (I 10)) (va_up (va_up O 7 (some b_2)) 8 (O 8)) R (va_up RO 2 (RO 2)) LL Y  fl S P (by rw [← e_4]; exact hRA) ⟨hM.1, hi_12, hM.2.2.1, hM.2.2.2.1, hM.2.2.2.2.1, hM.2.2.2.2.2.1, hM.2.2.2.2.2.2.1, hM.2.2.2.2.2.2.2.1, hRO0, hRO1, hRO2, hRO3⟩ ) (cwV 0 hts gX9_loose_X9_keepPast rfl rfl rfl (by decide +kernel) ⟨Nat.le_of_ble_eq_true rfl, Nat.le_of_ble_eq_true rfl⟩) hK hN hP hD hS hA rfl rfl rfl hl.1 rfl (Nat.le_of_ble_eq_true rfl) dX9_loose_15 ⟨Nat.le_of_ble_eq_true rfl, Nat.le_of_ble_eq_true rfl⟩ (fun u H locs hw hP hD hS => ?_)
    obtain ⟨w_14, w_15, Y_16, ⟨hi_17, hi_18, hs_19, hp_20⟩, rfl⟩ := hw
    have hi_21 : chO Y_16 (some b_2) := chO_mono hs_19 hi_12
    have hi_22 : layO Y_16 (O 8) := layO_mono hs_19 hM.2.2.1
    have hmono_23 : ∀ c, c ∈ Y → c ∈ Y_16 := fun c h => hs_19 c ((fun _ h => h) c h)
    have hP : va_P D vwCl (CT cy a J (va_up (va_up I 9 w_14) 10 (I 10)) (va_up (va_up O 7 (some b_2)) 8 (O 8)) R (va_up RO 2 w_15) (LL ++ Y_16)) H := hP
    have hD : va_D A (CT cy a J (va_up (va_up I 9 w_14) 10 (I 10)) (va_up (va_up O 7 (some b_2)) 8 (O 8)) R (va_up RO 2 w_15) (LL ++ Y_16)) := hD
    refine lv_aload_n hx hb dX9_loose_18 rfl (lv_at hl 0 rfl) ?_
    refine lv_aload_n hx hb dX9_loose_19 rfl (lv_at hl 0 rfl) ?_
    refine va_get (D := D) (ci := 8) (v := .ref b_2) (C := RX9) (T := TX9) (N := 11) hx hb hts hi9 hown hK hP 0 rfl rfl 7 (by decide) hw0 (fun _ h9 => h9) rfl dX9_loose_20 ?_
    obtain ⟨k_24, hk_25⟩ : ∃ k : Nat, (CT cy a J (va_up (va_up I 9 w_14) 10 (I 10)) (va_up (va_up O 7 (some b_2)) 8 (O 8)) R (va_up RO 2 w_15) (LL ++ Y_16))[k]? = some (b_2, .inr (6, [va_rf o_7, .int (nI T_6.length), .int (sK v_5), .int (sF v_5), .int (bI (m_acr v_5)), .int v_8, .long (sP v_5)])) := pixT (hs_19 _ hm_3)
    refine va_get (D := D) (ci := 6) (v := va_rf o_7) (C := RX7) (T := TX7) (N := 7) hx hb hts hi7 hown hK hP k_24 hk_25 rfl 0 (by decide) hw1 (fun _ h9 => h9) rfl dX9_loose_23 ?_
    refine va_put (D := D) (ci := 8) (v := va_rf o_7) (ty := .object "ParquetLayer$Stone") (C := RX9) (T := TX9) (N := 11) hx hb hts hi9 tyX9 tyX9_ok nmX9 hown hK hP hD hS 0 rfl rfl 7 (by decide) hw0 (fun _ h9 => h9) rfl (by decide +kernel) (onar _) (ofit _) (Nat.le_of_ble_eq_true rfl) dX9_loose_26 (fun H locs hP hD hS => ?_)
    have hP : va_P D vwCl (CT cy a J (va_up (va_up I 9 w_14) 10 (I 10)) (va_up (va_up O 7 o_7) 8 (O 8)) R (va_up RO 2 w_15) (LL ++ Y_16)) H := hP
    have hD : va_D A (CT cy a J (va_up (va_up I 9 w_14) 10 (I 10)) (va_up (va_up O 7 o_7) 8 (O 8)) R (va_up RO 2 w_15) (LL ++ Y_16)) := hD
    have hi_26 : chO Y_16 o_7 := ⟨_, chR_ch _ _ (chR_mono hs_19 _ _ hc_11)⟩
    refine lv_aload_n hx hb dX9_loose_29 rfl (lv_at hl 0 rfl) ?_
    refine lv_null hx hb dX9_loose_30 ?_
    refine va_put (D := D) (ci := 8) (v := .null) (ty := .object "ParquetLayer$Laying") (C := RX9) (T := TX9) (N := 11) hx hb hts hi9 tyX9 tyX9_ok nmX9 hown hK hP hD hS 0 rfl rfl 8 (by decide) hw2 (fun _ h9 => h9) rfl (by decide +kernel) rfl rfl (Nat.le_of_ble_eq_true rfl) dX9_loose_31 (fun H locs hP hD hS => ?_)
    have hP : va_P D vwCl (CT cy a J (va_up (va_up I 9 w_14) 10 (I 10)) (va_up (va_up O 7 o_7) 8 none) R (va_up RO 2 w_15) (LL ++ Y_16)) H := hP
    have hD : va_D A (CT cy a J (va_up (va_up I 9 w_14) 10 (I 10)) (va_up (va_up O 7 o_7) 8 none) R (va_up RO 2 w_15) (LL ++ Y_16)) := hD
    have hi_27 : layO Y_16 none := lay_none
    refine lv_aload_n hx hb dX9_loose_34 rfl (lv_at hl 0 rfl) ?_
    refine kR_i (As := []) (rest := []) (q0 := 0) ⟨hx, hb, hml, hown, hts⟩ (x_X9_stoneCount l D cy a _ J (va_up (va_up I 9 w_14) 10 (I 10)) (va_up (va_up O 7 o_7) 8 none) R (va_up RO 2 w_15) LL Y_16  fl T_6 (aKeep fl S P) (lc_c hS_9 hp_20 (chR_mono hs_19 _ _ hc_11)) ⟨hi_17, hi_26, hi_27, hi_18, hM.2.2.2.2.1, hM.2.2.2.2.2.1, hM.2.2.2.2.2.2.1, hM.2.2.2.2.2.2.2.1, hRO0, hRO1, hRO2, hRO3⟩) (cwV 0 hts gX9_loose_X9_stoneCount rfl rfl rfl (by decide +kernel) ⟨Nat.le_of_ble_eq_true rfl, Nat.le_of_ble_eq_true rfl⟩) hK hN hP hD rfl rfl rfl hl.1 rfl (Nat.le_of_ble_eq_true rfl) dX9_loose_35 ⟨Nat.le_of_ble_eq_true rfl, Nat.le_of_ble_eq_true rfl⟩ ?_
    exact wret_i hx hb hr hlocks (J, (va_up (va_up I 9 w_14) 10 (I 10)), (va_up (va_up O 7 o_7) 8 none), R, (va_up RO 2 w_15), LL, Y_16) ⟨w_14, (I 10), o_7, none, w_15, Y_16, ⟨(lsc_1 hS_9 hp_20 (chR_mono hs_19 _ _ hc_11)).2, hi_17, hi_26, hi_27, hi_18, hmono_23, (lsc_1 hS_9 hp_20 (chR_mono hs_19 _ _ hc_11)).1⟩, rfl⟩ hP hD hS dX9_loose_38
  · rw [c_1] at hP hD
    have hi_28 : chO Y none := by rw [← c_1]; exact hM.2.1
    refine lv_aload_n hx hb dX9_loose_7 rfl (lv_at hl 0 rfl) ?_
    refine lv_ldc (v := (-100006)) hx hb hown hw3 dX9_loose_8 ?_
    refine kM_i (As := [.int (-100006)]) (rest := []) (q0 := 0) ⟨hx, hb, hml, hown, hts⟩ (t_X9_finding l D cy a _ J (va_up (va_up I 9 (I 9)) 10 (I 10)) (va_up (va_up O 7 none) 8 (O 8)) R (va_up RO 2 (RO 2)) LL Y ((-100006) : Int32)   ) (cwV 1 hts gX9_loose_X9_finding rfl rfl rfl (by decide +kernel) ⟨Nat.le_of_ble_eq_true rfl, Nat.le_of_ble_eq_true rfl⟩) hK hN hP hD hS hA rfl rfl rfl hl.1 rfl (Nat.le_of_ble_eq_true rfl) dX9_loose_10 ⟨Nat.le_of_ble_eq_true rfl, Nat.le_of_ble_eq_true rfl⟩ (fun r_29 u H locs hw hP hD hS => ?_)
    obtain ⟨w_30, rfl, rfl⟩ := hw
    have hP : va_P D vwCl (CT cy a J (va_up (va_up I 9 (I 9)) 10 w_30) (va_up (va_up O 7 none) 8 (O 8)) R (va_up RO 2 (RO 2)) (LL ++ Y)) H := hP
    have hD : va_D A (CT cy a J (va_up (va_up I 9 (I 9)) 10 w_30) (va_up (va_up O 7 none) 8 (O 8)) R (va_up RO 2 (RO 2)) (LL ++ Y)) := hD
    refine W.widen (k := 1) (n := 3) (Nat.le_of_ble_eq_true rfl) (Nat.le_of_ble_eq_true rfl) ?_
    exact wret_i hx hb hr hlocks (J, (va_up (va_up I 9 (I 9)) 10 w_30), (va_up (va_up O 7 none) 8 (O 8)), R, (va_up RO 2 (RO 2)), LL, Y) ⟨(I 9), w_30, none, (O 8), (RO 2), Y, ⟨(lsc_0 c_1 hRA).2, hM.1, hi_28, hM.2.2.1, hM.2.2.2.1, (fun _ h => h), (lsc_0 c_1 hRA).1⟩, rfl⟩ hP hD hS dX9_loose_13
theorem dX9_as_0 : decode cX9_as 0 = .ok (.aload_n 0, 1) := by decide +kernel
theorem dX9_as_1 : decode cX9_as 1 = .ok (.iload_n 1, 1) := by decide +kernel
set_option maxRecDepth 20000 in
theorem ggX9_as_X9_stoneOf : GoodIn wsX9_as wsX9_stoneOf := goodIn_r _ [9, 10, 4, 11, 30, 31, 32, 33, 34, 35, 36, 37, 38, 39, 40, 23, 24, 25, 26, 27, 28, 29] rfl (by decide +kernel)
set_option maxRecDepth 20000 in
theorem gX9_as_X9_stoneOf : GoodIn wsX9_as (wsV RX9 141 RX9 yX9_stoneOf wsX9_stoneOf) := goodIn_app (goodIn_r _ [5, 6, 7, 8] rfl (by decide +kernel)) ggX9_as_X9_stoneOf
theorem dX9_as_2 : decode cX9_as 2 = .ok (.invokevirtual 141, 3) := by decide +kernel
theorem dX9_as_5 : decode cX9_as 5 = .ok (.astore_n 3, 1) := by decide +kernel
theorem dX9_as_6 : decode cX9_as 6 = .ok (.aload_n 3, 1) := by decide +kernel
theorem dX9_as_7 : decode cX9_as 7 = .ok (.ifnull 10, 3) := by decide +kernel
theorem dX9_as_17 : decode cX9_as 17 = .ok (.aload_n 0, 1) := by decide +kernel
theorem dX9_as_18 : decode cX9_as 18 = .ok (.ldc 43, 2) := by decide +kernel
set_option maxRecDepth 20000 in
theorem ggX9_as_X9_finding : GoodIn wsX9_as wsX9_finding := goodIn_r _ [18, 19, 30, 31, 32, 33, 34, 35, 36, 37, 38, 39, 40] rfl (by decide +kernel)
set_option maxRecDepth 20000 in
theorem gX9_as_X9_finding : GoodIn wsX9_as (wsV RX9 44 RX9 yX9_finding wsX9_finding) := goodIn_app (goodIn_r _ [15, 16, 17, 8] rfl (by decide +kernel)) ggX9_as_X9_finding
theorem dX9_as_20 : decode cX9_as 20 = .ok (.invokevirtual 44, 3) := by decide +kernel
theorem dX9_as_23 : decode cX9_as 23 = .ok (.ireturn, 1) := by decide +kernel
theorem dX9_as_10 : decode cX9_as 10 = .ok (.iload_n 2, 1) := by decide +kernel
set_option maxRecDepth 20000 in
theorem ggX9_as_X9_isKind : GoodIn wsX9_as wsX9_isKind := goodIn_r _ [14] rfl (by decide +kernel)
set_option maxRecDepth 20000 in
theorem gX9_as_X9_isKind : GoodIn wsX9_as (va_wsS RX9 88 yX9_isKind wsX9_isKind) := goodIn_app (goodIn_r _ [12, 13, 8] rfl (by decide +kernel)) ggX9_as_X9_isKind
theorem dX9_as_11 : decode cX9_as 11 = .ok (.invokestatic 88, 3) := by decide +kernel
theorem dX9_as_14 : decode cX9_as 14 = .ok (.ifCond .ne 10, 3) := by decide +kernel
theorem dX9_as_24 : decode cX9_as 24 = .ok (.aload_n 3, 1) := by decide +kernel
theorem dX9_as_25 : decode cX9_as 25 = .ok (.getfield 145, 3) := by decide +kernel
theorem dX9_as_28 : decode cX9_as 28 = .ok (.iload_n 2, 1) := by decide +kernel
set_option maxRecDepth 20000 in
theorem ggX9_as_X9_isUnder : GoodIn wsX9_as wsX9_isUnder := goodIn_r _ [22] rfl (by decide +kernel)
set_option maxRecDepth 20000 in
theorem gX9_as_X9_isUnder : GoodIn wsX9_as (va_wsS RX9 149 yX9_isUnder wsX9_isUnder) := goodIn_app (goodIn_r _ [20, 21, 8] rfl (by decide +kernel)) ggX9_as_X9_isUnder
theorem dX9_as_29 : decode cX9_as 29 = .ok (.invokestatic 149, 3) := by decide +kernel
theorem dX9_as_32 : decode cX9_as 32 = .ok (.ifCond .ne 10, 3) := by decide +kernel
theorem dX9_as_42 : decode cX9_as 42 = .ok (.aload_n 3, 1) := by decide +kernel
theorem dX9_as_43 : decode cX9_as 43 = .ok (.getfield 152, 3) := by decide +kernel
theorem dX9_as_46 : decode cX9_as 46 = .ok (.ireturn, 1) := by decide +kernel
theorem dX9_as_35 : decode cX9_as 35 = .ok (.aload_n 0, 1) := by decide +kernel
theorem dX9_as_36 : decode cX9_as 36 = .ok (.ldc 128, 2) := by decide +kernel
theorem dX9_as_38 : decode cX9_as 38 = .ok (.invokevirtual 44, 3) := by decide +kernel
theorem dX9_as_41 : decode cX9_as 41 = .ok (.ireturn, 1) := by decide +kernel
set_option maxRecDepth 20000 in
theorem ihX9_as_7 : ∀ w ∈ u_ws RX7 TX7 7, w ∈ wsX9_as := fun _ h => List.mem_cons_of_mem _ (List.mem_append_left _ (List.mem_append_right _ h))
set_option maxHeartbeats 4000000 in
set_option maxRecDepth 100000 in
theorem x_X9_as (l : Launch) (D : va_G) (cy : Nat → ClassId) (a : Nat → Nat) (sz : Nat) (J : Nat → Int64) (I : Nat → Int32) (O : Nat → Option Nat) (R : Nat → Nat → Int32) (RO : Nat → Nat → Option Nat) (LL : va_W) (Y : va_W) (x0 : Int32) (x1 : Int32) (fl : Int64) (S : List Int32) (P : List PE) (hRA : RCf Y (J 6) (O 7) (I 9) (RO 2) fl S P) (hM : CI a Y I O RO) : Met l yX9_as wsX9_as ({ frames := 1, cells := 0, slots := 0, locals := 22 }) (va_Pc [.ref (a 0), .int x0, .int x1] (PW D cy sz (CT cy a J I O R RO (LL ++ Y)))) (va_Qi (fun r (u : TS) => ∃ (w0 : Int32), (r = (aAs S x0 x1) ∧ (RCf Y (J 6) (O 7) (I 9) (RO 2) fl S P)) ∧ u = (J, (va_up I 10 w0), O, R, RO, LL, Y)) (BW D (va_A (CT cy a J I O R RO (LL ++ Y)) sz) (CTu cy a)) (va_A (CT cy a J I O R RO (LL ++ Y)) sz)) 0 0 (va_A (CT cy a J I O R RO (LL ++ Y)) sz) := by
  refine Met.ofW (cc := cX9_as) (maxL := 4) (ret := (some .int)) (by decide) rfl ?_
  intro p e s m args below meth c s₁ B hml hv
  obtain ⟨rfl, rfl, hP, hK, hN, hD0⟩ := hv
  have hx := B.exec
  have hb := B.bytes
  have hr := B.returns
  have hts := atoms_spec (ws := wsX9_as) B.pre
  have hown : s.vm.findClass RX9 = some m.cls := findClass_of_methodNamed B.named
  have hlocks := B.notSynchronized
  have hw0 := hts (.constant RX9 43 (-100001)) (by decide +kernel)
  have hw1 := hts (.fieldLink RX9 145 "ParquetLayer$Stone" "kind" "I") (by decide +kernel)
  have hw2 := hts (.fieldLink RX9 152 "ParquetLayer$Stone" "number" "I") (by decide +kernel)
  have hw3 := hts (.constant RX9 128 (-100004)) (by decide +kernel)
  have hi7 := ihX9_as_7
  have hD := hD0.self (sz := s.heap.size)
  generalize hAe : va_A (CT cy a J I O R RO (LL ++ Y)) s.heap.size = A at hD ⊢
  have hA : ∀ q : Nat, s.heap.size ≤ q → A q := fun q h => by rw [← hAe]; exact Or.inr h
  have hS : va_S A s.heap s.heap [] := va_S.rf
  have hl := lv_entry ([.ref (a 0), .int x0, .int x1]) (n := 4) (Nat.le_of_ble_eq_true rfl)
  rw [lg_entry_eq]
  generalize (lg_sl ([.ref (a 0), .int x0, .int x1]) ++ List.replicate (4 - (lg_sl ([.ref (a 0), .int x0, .int x1])).length) Slot.unset).toArray = ls at hl ⊢
  have hl : lv_has ls 4 [(0, .ref (a 0)), (1, .int x0), (2, .int x1)] := hl
  have hRO0 := hM.2.2.2.2.2.2.2.2.1
  have hRO1 := hM.2.2.2.2.2.2.2.2.2.1
  have hRO2 := hM.2.2.2.2.2.2.2.2.2.2.1
  have hRO3 := hM.2.2.2.2.2.2.2.2.2.2.2
  have hP : va_P D vwCl (CT cy a J (va_up I 10 (I 10)) O R RO (LL ++ Y)) s.heap := hP
  have hD : va_D A (CT cy a J (va_up I 10 (I 10)) O R RO (LL ++ Y)) := hD
  refine lv_aload_n hx hb dX9_as_0 rfl (lv_at hl 0 rfl) ?_
  refine lv_iload_n hx hb dX9_as_1 rfl (lv_at hl 1 rfl) ?_
  refine kR_q (As := [.int x0]) (rest := []) (q0 := 0) ⟨hx, hb, hml, hown, hts⟩ (x_X9_stoneOf l D cy a _ J (va_up I 10 (I 10)) O R RO LL Y x0 fl S P hRA ⟨hM.1, hM.2.1, hM.2.2.1, hM.2.2.2.1, hM.2.2.2.2.1, hM.2.2.2.2.2.1, hM.2.2.2.2.2.2.1, hM.2.2.2.2.2.2.2.1, hRO0, hRO1, hRO2, hRO3⟩) (cwV 1 hts gX9_as_X9_stoneOf rfl rfl rfl (by decide +kernel) ⟨Nat.le_of_ble_eq_true rfl, Nat.le_of_ble_eq_true rfl⟩) hK hN hP hD rfl rfl rfl hl.1 rfl (Nat.le_of_ble_eq_true rfl) dX9_as_2 ⟨Nat.le_of_ble_eq_true rfl, Nat.le_of_ble_eq_true rfl⟩ (fun r_1 hr_2 => ?_)
  refine lv_astore_nO (lv' := [(3, va_rf r_1), (0, .ref (a 0)), (1, .int x0), (2, .int x1)]) hx hb dX9_as_5 rfl hl (by decide) rfl (fun ls hl => ?_)
  refine lv_aload_nO hx hb dX9_as_6 rfl (lv_at hl 0 rfl) ?_
  refine lv_ifnullO (tgt := 17) hx hb dX9_as_7 (by decide) (fun c_3 => ?_) (fun c_3 => ?_)
  · subst c_3
    refine lv_aload_n hx hb dX9_as_17 rfl (lv_at hl 1 rfl) ?_
    refine lv_ldc (v := (-100001)) hx hb hown hw0 dX9_as_18 ?_
    refine kM_i (As := [.int (-100001)]) (rest := []) (q0 := 0) ⟨hx, hb, hml, hown, hts⟩ (t_X9_finding l D cy a _ J (va_up I 10 (I 10)) O R RO LL Y ((-100001) : Int32)   ) (cwV 1 hts gX9_as_X9_finding rfl rfl rfl (by decide +kernel) ⟨Nat.le_of_ble_eq_true rfl, Nat.le_of_ble_eq_true rfl⟩) hK hN hP hD hS hA rfl rfl rfl hl.1 rfl (Nat.le_of_ble_eq_true rfl) dX9_as_20 ⟨Nat.le_of_ble_eq_true rfl, Nat.le_of_ble_eq_true rfl⟩ (fun r_4 u H locs hw hP hD hS => ?_)
    obtain ⟨w_5, rfl, rfl⟩ := hw
    have hP : va_P D vwCl (CT cy a J (va_up I 10 w_5) O R RO (LL ++ Y)) H := hP
    have hD : va_D A (CT cy a J (va_up I 10 w_5) O R RO (LL ++ Y)) := hD
    exact wret_i hx hb hr hlocks (J, (va_up I 10 w_5), O, R, RO, LL, Y) ⟨w_5, ⟨(asC_1 (stF_none hr_2)), hRA⟩, rfl⟩ hP hD hS dX9_as_23
  · obtain ⟨b_6, o_9, v_10, v_11, e_8, hm_7, hf_12⟩ := stF_some hr_2 c_3
    subst e_8
    refine lv_iload_n hx hb dX9_as_10 rfl (lv_at hl 3 rfl) ?_
    refine kS_i (As := [.int x1]) (rest := []) ⟨hx, hb, hml, hown, hts⟩ (c_X9_isKind l x1) (va_cwS 1 hts gX9_as_X9_isKind rfl rfl rfl (by decide +kernel) ⟨Nat.le_of_ble_eq_true rfl, Nat.le_of_ble_eq_true rfl⟩) rfl hl.1 rfl (Nat.le_of_ble_eq_true rfl) dX9_as_11 ⟨Nat.le_of_ble_eq_true rfl, Nat.le_of_ble_eq_true rfl⟩ ?_
    refine lv_if_ne (tgt := 24) hx hb dX9_as_14 (by decide) (fun c_13 => ?_) (fun c_13 => ?_)
    · replace c_13 := bI_t c_13
      refine lv_aload_n hx hb dX9_as_24 rfl (lv_at hl 0 rfl) ?_
      obtain ⟨k_14, hk_15⟩ : ∃ k : Nat, (CT cy a J (va_up I 10 (I 10)) O R RO (LL ++ Y))[k]? = some (b_6, .inr (6, [va_rf o_9, .int x0, .int (sK v_10), .int (sF v_10), .int (bI (m_acr v_10)), .int v_11, .long (sP v_10)])) := pixT hm_7
      refine va_get (D := D) (ci := 6) (v := .int (sK v_10)) (C := RX7) (T := TX7) (N := 7) hx hb hts hi7 hown hK hP k_14 hk_15 rfl 2 (by decide) hw1 (fun _ h9 => h9) rfl dX9_as_25 ?_
      refine lv_iload_n hx hb dX9_as_28 rfl (lv_at hl 3 rfl) ?_
      refine kS_i (As := [.int (sK v_10), .int x1]) (rest := []) ⟨hx, hb, hml, hown, hts⟩ (c_X9_isUnder l (sK v_10) x1) (va_cwS 2 hts gX9_as_X9_isUnder rfl rfl rfl (by decide +kernel) ⟨Nat.le_of_ble_eq_true rfl, Nat.le_of_ble_eq_true rfl⟩) rfl hl.1 rfl (Nat.le_of_ble_eq_true rfl) dX9_as_29 ⟨Nat.le_of_ble_eq_true rfl, Nat.le_of_ble_eq_true rfl⟩ ?_
      refine lv_if_ne (tgt := 42) hx hb dX9_as_32 (by decide) (fun c_16 => ?_) (fun c_16 => ?_)
      · replace c_16 := bI_t c_16
        refine lv_aload_n hx hb dX9_as_42 rfl (lv_at hl 0 rfl) ?_
        obtain ⟨k_17, hk_18⟩ : ∃ k : Nat, (CT cy a J (va_up I 10 (I 10)) O R RO (LL ++ Y))[k]? = some (b_6, .inr (6, [va_rf o_9, .int x0, .int (sK v_10), .int (sF v_10), .int (bI (m_acr v_10)), .int v_11, .long (sP v_10)])) := pixT hm_7
        refine va_get (D := D) (ci := 6) (v := .int x0) (C := RX7) (T := TX7) (N := 7) hx hb hts hi7 hown hK hP k_17 hk_18 rfl 1 (by decide) hw2 (fun _ h9 => h9) rfl dX9_as_43 ?_
        exact wret_i hx hb hr hlocks (J, (va_up I 10 (I 10)), O, R, RO, LL, Y) ⟨(I 10), ⟨(as_3 (asC_e hf_12) rfl (by rw [← isK_eq]; exact c_13) c_16), hRA⟩, rfl⟩ hP hD hS dX9_as_46
      · replace c_16 := bI_f c_16
        refine lv_aload_n hx hb dX9_as_35 rfl (lv_at hl 1 rfl) ?_
        refine lv_ldc (v := (-100004)) hx hb hown hw3 dX9_as_36 ?_
        refine kM_i (As := [.int (-100004)]) (rest := []) (q0 := 0) ⟨hx, hb, hml, hown, hts⟩ (t_X9_finding l D cy a _ J (va_up I 10 (I 10)) O R RO LL Y ((-100004) : Int32)   ) (cwV 1 hts gX9_as_X9_finding rfl rfl rfl (by decide +kernel) ⟨Nat.le_of_ble_eq_true rfl, Nat.le_of_ble_eq_true rfl⟩) hK hN hP hD hS hA rfl rfl rfl hl.1 rfl (Nat.le_of_ble_eq_true rfl) dX9_as_38 ⟨Nat.le_of_ble_eq_true rfl, Nat.le_of_ble_eq_true rfl⟩ (fun r_19 u H locs hw hP hD hS => ?_)
        obtain ⟨w_20, rfl, rfl⟩ := hw
        have hP : va_P D vwCl (CT cy a J (va_up I 10 w_20) O R RO (LL ++ Y)) H := hP
        have hD : va_D A (CT cy a J (va_up I 10 w_20) O R RO (LL ++ Y)) := hD
        exact wret_i hx hb hr hlocks (J, (va_up I 10 w_20), O, R, RO, LL, Y) ⟨w_20, ⟨(as_4 (asC_e hf_12) rfl (by rw [← isK_eq]; exact c_13) c_16), hRA⟩, rfl⟩ hP hD hS dX9_as_41
    · replace c_13 := bI_f c_13
      refine lv_aload_n hx hb dX9_as_17 rfl (lv_at hl 1 rfl) ?_
      refine lv_ldc (v := (-100001)) hx hb hown hw0 dX9_as_18 ?_
      refine kM_i (As := [.int (-100001)]) (rest := []) (q0 := 0) ⟨hx, hb, hml, hown, hts⟩ (t_X9_finding l D cy a _ J (va_up I 10 (I 10)) O R RO LL Y ((-100001) : Int32)   ) (cwV 1 hts gX9_as_X9_finding rfl rfl rfl (by decide +kernel) ⟨Nat.le_of_ble_eq_true rfl, Nat.le_of_ble_eq_true rfl⟩) hK hN hP hD hS hA rfl rfl rfl hl.1 rfl (Nat.le_of_ble_eq_true rfl) dX9_as_20 ⟨Nat.le_of_ble_eq_true rfl, Nat.le_of_ble_eq_true rfl⟩ (fun r_21 u H locs hw hP hD hS => ?_)
      obtain ⟨w_22, rfl, rfl⟩ := hw
      have hP : va_P D vwCl (CT cy a J (va_up I 10 w_22) O R RO (LL ++ Y)) H := hP
      have hD : va_D A (CT cy a J (va_up I 10 w_22) O R RO (LL ++ Y)) := hD
      exact wret_i hx hb hr hlocks (J, (va_up I 10 w_22), O, R, RO, LL, Y) ⟨w_22, ⟨(as_2 (asC_e hf_12) rfl (by rw [← isK_eq]; exact c_13)), hRA⟩, rfl⟩ hP hD hS dX9_as_23
theorem dX9_undo_0 : decode cX9_undo 0 = .ok (.aload_n 0, 1) := by decide +kernel
theorem dX9_undo_1 : decode cX9_undo 1 = .ok (.getfield 314, 3) := by decide +kernel
theorem dX9_undo_4 : decode cX9_undo 4 = .ok (.ifCond .ne 10, 3) := by decide +kernel
theorem dX9_undo_14 : decode cX9_undo 14 = .ok (.aload_n 0, 1) := by decide +kernel
theorem dX9_undo_15 : decode cX9_undo 15 = .ok (.dup, 1) := by decide +kernel
theorem dX9_undo_16 : decode cX9_undo 16 = .ok (.getfield 314, 3) := by decide +kernel
theorem dX9_undo_19 : decode cX9_undo 19 = .ok (.iconst 1, 1) := by decide +kernel
theorem dX9_undo_20 : decode cX9_undo 20 = .ok (.isub, 1) := by decide +kernel
theorem dX9_undo_21 : decode cX9_undo 21 = .ok (.putfield 314, 3) := by decide +kernel
theorem dX9_undo_24 : decode cX9_undo 24 = .ok (.aload_n 0, 1) := by decide +kernel
theorem dX9_undo_25 : decode cX9_undo 25 = .ok (.getfield 17, 3) := by decide +kernel
theorem dX9_undo_28 : decode cX9_undo 28 = .ok (.aload_n 0, 1) := by decide +kernel
theorem dX9_undo_29 : decode cX9_undo 29 = .ok (.getfield 314, 3) := by decide +kernel
theorem dX9_undo_32 : decode cX9_undo 32 = .ok (.aaload, 1) := by decide +kernel
theorem dX9_undo_33 : decode cX9_undo 33 = .ok (.astore_n 1, 1) := by decide +kernel
theorem dX9_undo_34 : decode cX9_undo 34 = .ok (.aload_n 0, 1) := by decide +kernel
theorem dX9_undo_35 : decode cX9_undo 35 = .ok (.getfield 17, 3) := by decide +kernel
theorem dX9_undo_38 : decode cX9_undo 38 = .ok (.aload_n 0, 1) := by decide +kernel
theorem dX9_undo_39 : decode cX9_undo 39 = .ok (.getfield 314, 3) := by decide +kernel
theorem dX9_undo_42 : decode cX9_undo 42 = .ok (.aconst_null, 1) := by decide +kernel
theorem dX9_undo_43 : decode cX9_undo 43 = .ok (.aastore, 1) := by decide +kernel
theorem dX9_undo_44 : decode cX9_undo 44 = .ok (.aload_n 1, 1) := by decide +kernel
theorem dX9_undo_45 : decode cX9_undo 45 = .ok (.ifnull 27, 3) := by decide +kernel
theorem dX9_undo_72 : decode cX9_undo 72 = .ok (.aload_n 0, 1) := by decide +kernel
theorem dX9_undo_73 : decode cX9_undo 73 = .ok (.getfield 314, 3) := by decide +kernel
theorem dX9_undo_76 : decode cX9_undo 76 = .ok (.ireturn, 1) := by decide +kernel
theorem dX9_undo_48 : decode cX9_undo 48 = .ok (.aload_n 0, 1) := by decide +kernel
theorem dX9_undo_49 : decode cX9_undo 49 = .ok (.aload_n 1, 1) := by decide +kernel
theorem dX9_undo_50 : decode cX9_undo 50 = .ok (.getfield 317, 3) := by decide +kernel
theorem dX9_undo_53 : decode cX9_undo 53 = .ok (.putfield 48, 3) := by decide +kernel
theorem dX9_undo_56 : decode cX9_undo 56 = .ok (.aload_n 0, 1) := by decide +kernel
theorem dX9_undo_57 : decode cX9_undo 57 = .ok (.aload_n 1, 1) := by decide +kernel
theorem dX9_undo_58 : decode cX9_undo 58 = .ok (.getfield 318, 3) := by decide +kernel
theorem dX9_undo_61 : decode cX9_undo 61 = .ok (.putfield 106, 3) := by decide +kernel
theorem dX9_undo_64 : decode cX9_undo 64 = .ok (.aload_n 0, 1) := by decide +kernel
theorem dX9_undo_65 : decode cX9_undo 65 = .ok (.aload_n 1, 1) := by decide +kernel
theorem dX9_undo_66 : decode cX9_undo 66 = .ok (.getfield 319, 3) := by decide +kernel
theorem dX9_undo_69 : decode cX9_undo 69 = .ok (.putfield 133, 3) := by decide +kernel
theorem dX9_undo_7 : decode cX9_undo 7 = .ok (.aload_n 0, 1) := by decide +kernel
theorem dX9_undo_8 : decode cX9_undo 8 = .ok (.ldc 137, 2) := by decide +kernel
set_option maxRecDepth 20000 in
theorem ggX9_undo_X9_finding : GoodIn wsX9_undo wsX9_finding := goodIn_r _ [14, 15, 16, 17, 18, 19, 20, 21, 22, 23, 24, 25, 26] rfl (by decide +kernel)
set_option maxRecDepth 20000 in
theorem gX9_undo_X9_finding : GoodIn wsX9_undo (wsV RX9 44 RX9 yX9_finding wsX9_finding) := goodIn_app (goodIn_r _ [10, 11, 12, 13] rfl (by decide +kernel)) ggX9_undo_X9_finding
theorem dX9_undo_10 : decode cX9_undo 10 = .ok (.invokevirtual 44, 3) := by decide +kernel
theorem dX9_undo_13 : decode cX9_undo 13 = .ok (.ireturn, 1) := by decide +kernel
set_option maxRecDepth 20000 in
theorem ihX9_undo_5 : ∀ w ∈ u_ws RX5 TX5 3, w ∈ wsX9_undo := fun _ h => List.mem_cons_of_mem _ (List.mem_append_right _ h)
set_option maxRecDepth 20000 in
theorem ihX9_undo_9 : ∀ w ∈ u_ws RX9 TX9 11, w ∈ wsX9_undo := fun _ h => List.mem_cons_of_mem _ (List.mem_append_left _ (List.mem_append_right _ h))
set_option maxHeartbeats 4000000 in
set_option maxRecDepth 100000 in
theorem x_X9_undo (l : Launch) (D : va_G) (cy : Nat → ClassId) (a : Nat → Nat) (sz : Nat) (J : Nat → Int64) (I : Nat → Int32) (O : Nat → Option Nat) (R : Nat → Nat → Int32) (RO : Nat → Nat → Option Nat) (LL : va_W) (Y : va_W)  (fl : Int64) (S : List Int32) (P : List PE) (hRA : RCf Y (J 6) (O 7) (I 9) (RO 2) fl S P) (hM : CI a Y I O RO) : Met l yX9_undo wsX9_undo ({ frames := 1, cells := 0, slots := 0, locals := 21 }) (va_Pc [.ref (a 0)] (PW D cy sz (CT cy a J I O R RO (LL ++ Y)))) (va_Qi (fun r (u : TS) => ∃ (w0 : Int64), ∃ (w1 : Int32), ∃ (w2 : Int32), ∃ (w3 : Option Nat), ∃ (w4 : Option Nat), ∃ (w5 : Nat → Option Nat), (r = (aUndoA P) ∧ (vp_in w1 21) ∧ (chO Y w3) ∧ (layO Y w4) ∧ (∀ i, i < 20 → pasO Y (w5 i)) ∧ (RCf Y w0 w3 w1 w5 (aUndoF fl P) (aUndoS S P) (aUndoP P))) ∧ u = ((va_up J 6 w0), (va_up (va_up I 9 w1) 10 w2), (va_up (va_up O 7 w3) 8 w4), R, (va_up RO 2 w5), LL, Y)) (BW D (va_A (CT cy a J I O R RO (LL ++ Y)) sz) (CTu cy a)) (va_A (CT cy a J I O R RO (LL ++ Y)) sz)) 0 0 (va_A (CT cy a J I O R RO (LL ++ Y)) sz) := by
  refine Met.ofW (cc := cX9_undo) (maxL := 2) (ret := (some .int)) (by decide) rfl ?_
  intro p e s m args below meth c s₁ B hml hv
  obtain ⟨rfl, rfl, hP, hK, hN, hD0⟩ := hv
  have hx := B.exec
  have hb := B.bytes
  have hr := B.returns
  have hts := atoms_spec (ws := wsX9_undo) B.pre
  have hown : s.vm.findClass RX9 = some m.cls := findClass_of_methodNamed B.named
  have hlocks := B.notSynchronized
  have hw0 := hts (.fieldLink RX9 314 "ParquetLayer" "kept" "I") (by decide +kernel)
  have hw1 := hts (.fieldLink RX9 17 "ParquetLayer" "pasts" "[LParquetLayer$Past;") (by decide +kernel)
  have hw2 := hts (.fieldLink RX9 317 "ParquetLayer$Past" "fields" "J") (by decide +kernel)
  have hw3 := hts (.fieldLink RX9 48 "ParquetLayer" "fields" "J") (by decide +kernel)
  have hw4 := hts (.fieldLink RX9 318 "ParquetLayer$Past" "latest" "LParquetLayer$Stone;") (by decide +kernel)
  have hw5 := hts (.fieldLink RX9 106 "ParquetLayer" "latest" "LParquetLayer$Stone;") (by decide +kernel)
  have hw6 := hts (.fieldLink RX9 319 "ParquetLayer$Past" "hand" "LParquetLayer$Laying;") (by decide +kernel)
  have hw7 := hts (.fieldLink RX9 133 "ParquetLayer" "hand" "LParquetLayer$Laying;") (by decide +kernel)
  have hw8 := hts (.constant RX9 137 (-100006)) (by decide +kernel)
  have hi5 := ihX9_undo_5
  have hi9 := ihX9_undo_9
  have hD := hD0.self (sz := s.heap.size)
  generalize hAe : va_A (CT cy a J I O R RO (LL ++ Y)) s.heap.size = A at hD ⊢
  have hA : ∀ q : Nat, s.heap.size ≤ q → A q := fun q h => by rw [← hAe]; exact Or.inr h
  have hS : va_S A s.heap s.heap [] := va_S.rf
  have hl := lv_entry ([.ref (a 0)]) (n := 2) (Nat.le_of_ble_eq_true rfl)
  rw [lg_entry_eq]
  generalize (lg_sl ([.ref (a 0)]) ++ List.replicate (2 - (lg_sl ([.ref (a 0)])).length) Slot.unset).toArray = ls at hl ⊢
  have hl : lv_has ls 2 [(0, .ref (a 0))] := hl
  have hRO0 := hM.2.2.2.2.2.2.2.2.1
  have hRO1 := hM.2.2.2.2.2.2.2.2.2.1
  have hRO2 := hM.2.2.2.2.2.2.2.2.2.2.1
  have hRO3 := hM.2.2.2.2.2.2.2.2.2.2.2
  have hP : va_P D vwCl (CT cy a (va_up J 6 (J 6)) (va_up (va_up I 9 (I 9)) 10 (I 10)) (va_up (va_up O 7 (O 7)) 8 (O 8)) R (va_up RO 2 (RO 2)) (LL ++ Y)) s.heap := hP
  have hD : va_D A (CT cy a (va_up J 6 (J 6)) (va_up (va_up I 9 (I 9)) 10 (I 10)) (va_up (va_up O 7 (O 7)) 8 (O 8)) R (va_up RO 2 (RO 2)) (LL ++ Y)) := hD
  refine lv_aload_n hx hb dX9_undo_0 rfl (lv_at hl 0 rfl) ?_
  refine va_get (D := D) (ci := 8) (v := .int (I 9)) (C := RX9) (T := TX9) (N := 11) hx hb hts hi9 hown hK hP 0 rfl rfl 9 (by decide) hw0 (fun _ h9 => h9) rfl dX9_undo_1 ?_
  refine lv_if_ne (tgt := 14) hx hb dX9_undo_4 (by decide) (fun c_1 => ?_) (fun c_1 => ?_)
  · refine lv_aload_n hx hb dX9_undo_14 rfl (lv_at hl 0 rfl) ?_
    refine lv_dup hx hb dX9_undo_15 rfl ?_
    refine va_get (D := D) (ci := 8) (v := .int (I 9)) (C := RX9) (T := TX9) (N := 11) hx hb hts hi9 hown hK hP 0 rfl rfl 9 (by decide) hw0 (fun _ h9 => h9) rfl dX9_undo_16 ?_
    refine lv_iconst (v := 1) hx hb dX9_undo_19 (by decide) ?_
    refine lv_isub hx hb dX9_undo_20 ?_
    refine va_put (D := D) (ci := 8) (v := .int ((I 9) - 1)) (ty := .int) (C := RX9) (T := TX9) (N := 11) hx hb hts hi9 tyX9 tyX9_ok nmX9 hown hK hP hD hS 0 rfl rfl 9 (by decide) hw0 (fun _ h9 => h9) rfl (by decide +kernel) rfl rfl (Nat.le_of_ble_eq_true rfl) dX9_undo_21 (fun H locs hP hD hS => ?_)
    have hP : va_P D vwCl (CT cy a (va_up J 6 (J 6)) (va_up (va_up I 9 ((I 9) - 1)) 10 (I 10)) (va_up (va_up O 7 (O 7)) 8 (O 8)) R (va_up RO 2 (RO 2)) (LL ++ Y)) H := hP
    have hD : va_D A (CT cy a (va_up J 6 (J 6)) (va_up (va_up I 9 ((I 9) - 1)) 10 (I 10)) (va_up (va_up O 7 (O 7)) 8 (O 8)) R (va_up RO 2 (RO 2)) (LL ++ Y)) := hD
    have hi_2 : vp_in ((I 9) - 1) 21 := in_up (in_pred hM.1 c_1)
    refine lv_aload_n hx hb dX9_undo_24 rfl (lv_at hl 0 rfl) ?_
    refine va_get (D := D) (ci := 8) (v := .ref (a 2)) (C := RX9) (T := TX9) (N := 11) hx hb hts hi9 hown hK hP 0 rfl rfl 1 (by decide) hw1 (fun _ h9 => h9) rfl dX9_undo_25 ?_
    refine lv_aload_n hx hb dX9_undo_28 rfl (lv_at hl 0 rfl) ?_
    refine va_get (D := D) (ci := 8) (v := .int ((I 9) - 1)) (C := RX9) (T := TX9) (N := 11) hx hb hts hi9 hown hK hP 0 rfl rfl 9 (by decide) hw0 (fun _ h9 => h9) rfl dX9_undo_29 ?_
    refine va_aldq hx hb hK hP 2 3 rfl rfl (in_pred hM.1 c_1) dX9_undo_32 ?_
    obtain ⟨o_3, ho_4⟩ : ∃ z, z = (RO 2) ((I 9) - 1).toNatClampNeg := ⟨_, rfl⟩
    have hp_5 : pasO Y o_3 := by rw [ho_4]; exact hM.2.2.2.1 _ (in_lt (in_pred hM.1 c_1))
    refine wtop_v (y := va_rf o_3) (congrArg va_rf ho_4.symm) ?_
    refine lv_astore_nO (lv' := [(1, va_rf o_3), (0, .ref (a 0))]) hx hb dX9_undo_33 rfl hl (by decide) rfl (fun ls hl => ?_)
    refine lv_aload_n hx hb dX9_undo_34 rfl (lv_at hl 1 rfl) ?_
    refine va_get (D := D) (ci := 8) (v := .ref (a 2)) (C := RX9) (T := TX9) (N := 11) hx hb hts hi9 hown hK hP 0 rfl rfl 1 (by decide) hw1 (fun _ h9 => h9) rfl dX9_undo_35 ?_
    refine lv_aload_n hx hb dX9_undo_38 rfl (lv_at hl 1 rfl) ?_
    refine va_get (D := D) (ci := 8) (v := .int ((I 9) - 1)) (C := RX9) (T := TX9) (N := 11) hx hb hts hi9 hown hK hP 0 rfl rfl 9 (by decide) hw0 (fun _ h9 => h9) rfl dX9_undo_39 ?_
    refine lv_null hx hb dX9_undo_42 ?_
    refine kstO (o := none) hx hb hK hP hD hS 2 3 4 rfl rfl rfl (Or.inl rfl) (in_pred hM.1 c_1) dX9_undo_43 (fun H locs hP hD hS => ?_)
    have hP : va_P D vwCl (CT cy a (va_up J 6 (J 6)) (va_up (va_up I 9 ((I 9) - 1)) 10 (I 10)) (va_up (va_up O 7 (O 7)) 8 (O 8)) R (va_up RO 2 (va_up (RO 2) ((I 9) - 1).toNatClampNeg none)) (LL ++ Y)) H := hP
    have hD : va_D A (CT cy a (va_up J 6 (J 6)) (va_up (va_up I 9 ((I 9) - 1)) 10 (I 10)) (va_up (va_up O 7 (O 7)) 8 (O 8)) R (va_up RO 2 (va_up (RO 2) ((I 9) - 1).toNatClampNeg none)) (LL ++ Y)) := hD
    have hi_6 : ∀ i, i < 20 → pasO Y ((va_up (RO 2) ((I 9) - 1).toNatClampNeg none) i) := pas_up hM.2.2.2.1 pas_none
    refine lv_aload_nO hx hb dX9_undo_44 rfl (lv_at hl 0 rfl) ?_
    refine lv_ifnullO (tgt := 72) hx hb dX9_undo_45 (by decide) (fun c_7 => ?_) (fun c_7 => ?_)
    · subst c_7
      refine lv_aload_n hx hb dX9_undo_72 rfl (lv_at hl 1 rfl) ?_
      refine va_get (D := D) (ci := 8) (v := .int ((I 9) - 1)) (C := RX9) (T := TX9) (N := 11) hx hb hts hi9 hown hK hP 0 rfl rfl 9 (by decide) hw0 (fun _ h9 => h9) rfl dX9_undo_73 ?_
      exact wret_i hx hb hr hlocks ((va_up J 6 (J 6)), (va_up (va_up I 9 ((I 9) - 1)) 10 (I 10)), (va_up (va_up O 7 (O 7)) 8 (O 8)), R, (va_up RO 2 (va_up (RO 2) ((I 9) - 1).toNatClampNeg none)), LL, Y) ⟨(J 6), ((I 9) - 1), (I 10), (O 7), (O 8), (va_up (RO 2) ((I 9) - 1).toNatClampNeg none), ⟨(uc_no hRA c_1 ho_4).elim, hi_2, hM.2.1, hM.2.2.1, hi_6, (uc_no hRA c_1 ho_4).elim⟩, rfl⟩ hP hD hS dX9_undo_76
    · obtain ⟨b_8, v_11, o_12, o_13, e_14, hm_9, hc_15, hc_16, hR_17, hr_18⟩ := uc_1 hRA c_1
      have e_10 : o_3 = some b_8 := ho_4.trans e_14
      subst e_10
      refine lv_aload_n hx hb dX9_undo_48 rfl (lv_at hl 1 rfl) ?_
      refine lv_aload_n hx hb dX9_undo_49 rfl (lv_at hl 0 rfl) ?_
      obtain ⟨k_19, hk_20⟩ : ∃ k : Nat, (CT cy a (va_up J 6 (J 6)) (va_up (va_up I 9 ((I 9) - 1)) 10 (I 10)) (va_up (va_up O 7 (O 7)) 8 (O 8)) R (va_up RO 2 (va_up (RO 2) ((I 9) - 1).toNatClampNeg none)) (LL ++ Y))[k]? = some (b_8, .inr (4, [.long v_11, va_rf o_12, va_rf o_13])) := pixT hm_9
      refine va_get (D := D) (ci := 4) (v := .long v_11) (C := RX5) (T := TX5) (N := 3) hx hb hts hi5 hown hK hP k_19 hk_20 rfl 0 (by decide) hw2 (fun _ h9 => h9) rfl dX9_undo_50 ?_
      refine va_put (D := D) (ci := 8) (v := .long v_11) (ty := .long) (C := RX9) (T := TX9) (N := 11) hx hb hts hi9 tyX9 tyX9_ok nmX9 hown hK hP hD hS 0 rfl rfl 6 (by decide) hw3 (fun _ h9 => h9) rfl (by decide +kernel) rfl rfl (Nat.le_of_ble_eq_true rfl) dX9_undo_53 (fun H locs hP hD hS => ?_)
      have hP : va_P D vwCl (CT cy a (va_up J 6 v_11) (va_up (va_up I 9 ((I 9) - 1)) 10 (I 10)) (va_up (va_up O 7 (O 7)) 8 (O 8)) R (va_up RO 2 (va_up (RO 2) ((I 9) - 1).toNatClampNeg none)) (LL ++ Y)) H := hP
      have hD : va_D A (CT cy a (va_up J 6 v_11) (va_up (va_up I 9 ((I 9) - 1)) 10 (I 10)) (va_up (va_up O 7 (O 7)) 8 (O 8)) R (va_up RO 2 (va_up (RO 2) ((I 9) - 1).toNatClampNeg none)) (LL ++ Y)) := hD
      refine lv_aload_n hx hb dX9_undo_56 rfl (lv_at hl 1 rfl) ?_
      refine lv_aload_n hx hb dX9_undo_57 rfl (lv_at hl 0 rfl) ?_
      obtain ⟨k_21, hk_22⟩ : ∃ k : Nat, (CT cy a (va_up J 6 v_11) (va_up (va_up I 9 ((I 9) - 1)) 10 (I 10)) (va_up (va_up O 7 (O 7)) 8 (O 8)) R (va_up RO 2 (va_up (RO 2) ((I 9) - 1).toNatClampNeg none)) (LL ++ Y))[k]? = some (b_8, .inr (4, [.long v_11, va_rf o_12, va_rf o_13])) := pixT hm_9
      refine va_get (D := D) (ci := 4) (v := va_rf o_12) (C := RX5) (T := TX5) (N := 3) hx hb hts hi5 hown hK hP k_21 hk_22 rfl 1 (by decide) hw4 (fun _ h9 => h9) rfl dX9_undo_58 ?_
      refine va_put (D := D) (ci := 8) (v := va_rf o_12) (ty := .object "ParquetLayer$Stone") (C := RX9) (T := TX9) (N := 11) hx hb hts hi9 tyX9 tyX9_ok nmX9 hown hK hP hD hS 0 rfl rfl 7 (by decide) hw5 (fun _ h9 => h9) rfl (by decide +kernel) (onar _) (ofit _) (Nat.le_of_ble_eq_true rfl) dX9_undo_61 (fun H locs hP hD hS => ?_)
      have hP : va_P D vwCl (CT cy a (va_up J 6 v_11) (va_up (va_up I 9 ((I 9) - 1)) 10 (I 10)) (va_up (va_up O 7 o_12) 8 (O 8)) R (va_up RO 2 (va_up (RO 2) ((I 9) - 1).toNatClampNeg none)) (LL ++ Y)) H := hP
      have hD : va_D A (CT cy a (va_up J 6 v_11) (va_up (va_up I 9 ((I 9) - 1)) 10 (I 10)) (va_up (va_up O 7 o_12) 8 (O 8)) R (va_up RO 2 (va_up (RO 2) ((I 9) - 1).toNatClampNeg none)) (LL ++ Y)) := hD
      have hi_23 : chO Y o_12 := ⟨_, chR_ch _ _ hc_15⟩
      refine lv_aload_n hx hb dX9_undo_64 rfl (lv_at hl 1 rfl) ?_
      refine lv_aload_n hx hb dX9_undo_65 rfl (lv_at hl 0 rfl) ?_
      obtain ⟨k_24, hk_25⟩ : ∃ k : Nat, (CT cy a (va_up J 6 v_11) (va_up (va_up I 9 ((I 9) - 1)) 10 (I 10)) (va_up (va_up O 7 o_12) 8 (O 8)) R (va_up RO 2 (va_up (RO 2) ((I 9) - 1).toNatClampNeg none)) (LL ++ Y))[k]? = some (b_8, .inr (4, [.long v_11, va_rf o_12, va_rf o_13])) := pixT hm_9
      refine va_get (D := D) (ci := 4) (v := va_rf o_13) (C := RX5) (T := TX5) (N := 3) hx hb hts hi5 hown hK hP k_24 hk_25 rfl 2 (by decide) hw6 (fun _ h9 => h9) rfl dX9_undo_66 ?_
      refine va_put (D := D) (ci := 8) (v := va_rf o_13) (ty := .object "ParquetLayer$Laying") (C := RX9) (T := TX9) (N := 11) hx hb hts hi9 tyX9 tyX9_ok nmX9 hown hK hP hD hS 0 rfl rfl 8 (by decide) hw7 (fun _ h9 => h9) rfl (by decide +kernel) (onar _) (ofit _) (Nat.le_of_ble_eq_true rfl) dX9_undo_69 (fun H locs hP hD hS => ?_)
      have hP : va_P D vwCl (CT cy a (va_up J 6 v_11) (va_up (va_up I 9 ((I 9) - 1)) 10 (I 10)) (va_up (va_up O 7 o_12) 8 o_13) R (va_up RO 2 (va_up (RO 2) ((I 9) - 1).toNatClampNeg none)) (LL ++ Y)) H := hP
      have hD : va_D A (CT cy a (va_up J 6 v_11) (va_up (va_up I 9 ((I 9) - 1)) 10 (I 10)) (va_up (va_up O 7 o_12) 8 o_13) R (va_up RO 2 (va_up (RO 2) ((I 9) - 1).toNatClampNeg none)) (LL ++ Y)) := hD
      have hi_26 : layO Y o_13 := hc_16
      refine lv_aload_n hx hb dX9_undo_72 rfl (lv_at hl 1 rfl) ?_
      refine va_get (D := D) (ci := 8) (v := .int ((I 9) - 1)) (C := RX9) (T := TX9) (N := 11) hx hb hts hi9 hown hK hP 0 rfl rfl 9 (by decide) hw0 (fun _ h9 => h9) rfl dX9_undo_73 ?_
      exact wret_i hx hb hr hlocks ((va_up J 6 v_11), (va_up (va_up I 9 ((I 9) - 1)) 10 (I 10)), (va_up (va_up O 7 o_12) 8 o_13), R, (va_up RO 2 (va_up (RO 2) ((I 9) - 1).toNatClampNeg none)), LL, Y) ⟨v_11, ((I 9) - 1), (I 10), o_12, o_13, (va_up (RO 2) ((I 9) - 1).toNatClampNeg none), ⟨hr_18, hi_2, hi_23, hi_26, hi_6, hR_17⟩, rfl⟩ hP hD hS dX9_undo_76
  · refine lv_aload_n hx hb dX9_undo_7 rfl (lv_at hl 0 rfl) ?_
    refine lv_ldc (v := (-100006)) hx hb hown hw8 dX9_undo_8 ?_
    refine kM_i (As := [.int (-100006)]) (rest := []) (q0 := 0) ⟨hx, hb, hml, hown, hts⟩ (t_X9_finding l D cy a _ (va_up J 6 (J 6)) (va_up (va_up I 9 (I 9)) 10 (I 10)) (va_up (va_up O 7 (O 7)) 8 (O 8)) R (va_up RO 2 (RO 2)) LL Y ((-100006) : Int32)   ) (cwV 1 hts gX9_undo_X9_finding rfl rfl rfl (by decide +kernel) ⟨Nat.le_of_ble_eq_true rfl, Nat.le_of_ble_eq_true rfl⟩) hK hN hP hD hS hA rfl rfl rfl hl.1 rfl (Nat.le_of_ble_eq_true rfl) dX9_undo_10 ⟨Nat.le_of_ble_eq_true rfl, Nat.le_of_ble_eq_true rfl⟩ (fun r_27 u H locs hw hP hD hS => ?_)
    obtain ⟨w_28, rfl, rfl⟩ := hw
    have hP : va_P D vwCl (CT cy a (va_up J 6 (J 6)) (va_up (va_up I 9 (I 9)) 10 w_28) (va_up (va_up O 7 (O 7)) 8 (O 8)) R (va_up RO 2 (RO 2)) (LL ++ Y)) H := hP
    have hD : va_D A (CT cy a (va_up J 6 (J 6)) (va_up (va_up I 9 (I 9)) 10 w_28) (va_up (va_up O 7 (O 7)) 8 (O 8)) R (va_up RO 2 (RO 2)) (LL ++ Y)) := hD
    exact wret_i hx hb hr hlocks ((va_up J 6 (J 6)), (va_up (va_up I 9 (I 9)) 10 w_28), (va_up (va_up O 7 (O 7)) 8 (O 8)), R, (va_up RO 2 (RO 2)), LL, Y) ⟨(J 6), (I 9), w_28, (O 7), (O 8), (RO 2), ⟨(uc_0 hRA c_1).2, hM.1, hM.2.1, hM.2.2.1, hM.2.2.2.1, (uc_0 hRA c_1).1⟩, rfl⟩ hP hD hS dX9_undo_13
