theorem m_cnt0 : ∀ n, m_cnt 0 n = 0
  | 0 => rfl
  | n + 1 => by simp [m_cnt, m_cnt0 n, m_hasBit0]
theorem m_isOf0 (q : Int32) : m_isOf 0 q true = false := by simp [m_isOf, m_isOn0]
theorem within_in4 {x : Int32} (h : m_within x 0 3 = true) : vp_in x 4 := by
  simp [m_within, Int32.lt_iff_toInt_lt] at h
  rw [vp_in_iff]
  omega
theorem within_in64 {x : Int32} (h : m_within x 0 63 = true) : vp_in x 64 := by
  simp [m_within, Int32.lt_iff_toInt_lt] at h
  rw [vp_in_iff]
  omega
theorem ix16 {x : Int32} {i : Nat} (h : vp_in x 4) (hi : i < 16) : vp_in (16 * x + nI i) 64 := by
  obtain ⟨j, hj, rfl⟩ := vp_in_of h (by decide)
  have e : (16 : Int32) * nI j + nI i = nI (16 * j + i) := by
    rw [← nI_add, ← pk_mul]; rfl
  rw [e]
  exact vp_in_nI (by omega) (by decide)
theorem wix {a b : Nat} : (256 : Int32) * nI a + nI b = nI (256 * a + b) := by
  rw [← nI_add, ← pk_mul]; rfl
theorem wix_cl {a b : Nat} (h : 256 * a + b < 16640) : ((256 : Int32) * nI a + nI b).toNatClampNeg = 256 * a + b := by
  rw [wix]; exact nI_clamp (by omega)
theorem i32_01 {x : Int32} (h0 : ¬ x < 0) (h1 : x < 1) : x = 0 := by
  rw [Int32.lt_iff_toInt_lt] at h0 h1
  exact Int32.toInt_inj.mp (by have : (1 : Int32).toInt = 1 := rfl; have : (0 : Int32).toInt = 0 := rfl; omega)
theorem l_and1 (x : Int64) : x &&& (-1) = x := Int64.and_neg_one
def dn (k : Nat) : Int32 := nI k + (-1)
theorem dn_s (j : Nat) : dn (j + 1) = nI j := pk_m1 j
theorem dn_0 : dn 0 < 0 := by decide
theorem dn_lt {j : Nat} (h : j < 2147483648) : ¬ dn (j + 1) < 0 := by rw [dn_s]; exact nI_pos h
def rowset (y b : Int32) : Int64 := ((0 &&& (((255 : Int64) <<< (((8 : Int32) * y).toInt64 &&& 63)) ^^^ (-1))) ||| (b.toInt64 <<< (((8 : Int32) * y).toInt64 &&& 63)))
def a_row (y b : Int32) : Int32 := if m_within y 0 7 && m_within b 0 255 then nI (m_cnt (rowset y b) 64) else (-100001)
def a_fld (f r : Int32) : Int32 := if m_within f 0 63 then r else (-100001)
def a_w3 (w : Int32) : Int32 := if m_within w 0 3 then 0 else (-100001)
def a_stone (k f : Int32) (_ : Bool) (c : Int32) : Int32 := if m_within k 0 3 && m_within f 0 63 && (if k = 2 then m_within c 1 99 else decide (c = 0)) then (-100003) else (-100001)
def a_lay (n : Int32) : Int32 := if n = 0 then 1 else (-100001)
def a_turn (f : Int32) : Int32 := if m_within f 0 63 && (!decide (6 < f - f / 8 * 8) && decide (f / 8 ≤ 6)) then (-100006) else (-100001)
def a_sheet (q bits n : Int32) : Int32 := if m_within q 0 3 && (decide (bits = 0) || decide (bits = 8) || decide (bits = 16) || decide (bits = 32)) then (if n < 0 then (-100003) else if 16 < n then (-100001) else if bits = 0 then 0 else n) else (-100001)
def a_put (q : Int32) : Int32 := if m_within q 0 3 then (-100002) else (-100001)
def a_copy (q t : Int32) : Int32 := if m_within q 0 3 && m_within t 0 3 then (-100002) else (-100001)
theorem dX10_keep_208 : decode cX10_keep 208 = .ok (.iload_n 1, 1) := by decide +kernel
theorem dX10_keep_209 : decode cX10_keep 209 = .ok (.bipush 20, 2) := by decide +kernel
theorem dX10_keep_211 : decode cX10_keep 211 = .ok (.if_icmp .ge 29, 3) := by decide +kernel
theorem dX10_keep_240 : decode cX10_keep 240 = .ok (.aload_n 0, 1) := by decide +kernel
theorem dX10_keep_241 : decode cX10_keep 241 = .ok (.dup, 1) := by decide +kernel
theorem dX10_keep_242 : decode cX10_keep 242 = .ok (.getfield 78, 3) := by decide +kernel
theorem dX10_keep_245 : decode cX10_keep 245 = .ok (.iconst 1, 1) := by decide +kernel
theorem dX10_keep_246 : decode cX10_keep 246 = .ok (.iadd, 1) := by decide +kernel
theorem dX10_keep_247 : decode cX10_keep 247 = .ok (.putfield 78, 3) := by decide +kernel
theorem dX10_keep_250 : decode cX10_keep 250 = .ok (.aload_n 0, 1) := by decide +kernel
theorem dX10_keep_251 : decode cX10_keep 251 = .ok (.iconst 0, 1) := by decide +kernel
theorem dX10_keep_252 : decode cX10_keep 252 = .ok (.putfield 88, 3) := by decide +kernel
theorem dX10_keep_255 : decode cX10_keep 255 = .ok (.return_, 1) := by decide +kernel
theorem dX10_keep_214 : decode cX10_keep 214 = .ok (.aload_n 0, 1) := by decide +kernel
theorem dX10_keep_215 : decode cX10_keep 215 = .ok (.getfield 20, 3) := by decide +kernel
theorem dX10_keep_218 : decode cX10_keep 218 = .ok (.bipush 20, 2) := by decide +kernel
theorem dX10_keep_220 : decode cX10_keep 220 = .ok (.aload_n 0, 1) := by decide +kernel
theorem dX10_keep_221 : decode cX10_keep 221 = .ok (.getfield 78, 3) := by decide +kernel
theorem dX10_keep_224 : decode cX10_keep 224 = .ok (.imul, 1) := by decide +kernel
theorem dX10_keep_225 : decode cX10_keep 225 = .ok (.iload_n 1, 1) := by decide +kernel
theorem dX10_keep_226 : decode cX10_keep 226 = .ok (.iadd, 1) := by decide +kernel
theorem dX10_keep_227 : decode cX10_keep 227 = .ok (.aload_n 0, 1) := by decide +kernel
theorem dX10_keep_228 : decode cX10_keep 228 = .ok (.getfield 9, 3) := by decide +kernel
theorem dX10_keep_231 : decode cX10_keep 231 = .ok (.iload_n 1, 1) := by decide +kernel
theorem dX10_keep_232 : decode cX10_keep 232 = .ok (.iaload, 1) := by decide +kernel
theorem dX10_keep_233 : decode cX10_keep 233 = .ok (.iastore, 1) := by decide +kernel
theorem dX10_keep_234 : decode cX10_keep 234 = .ok (.iinc 1 1, 3) := by decide +kernel
theorem dX10_keep_237 : decode cX10_keep 237 = .ok (.goto (-29), 3) := by decide +kernel
theorem dX10_keep_0 : decode cX10_keep 0 = .ok (.aload_n 0, 1) := by decide +kernel
theorem dX10_keep_1 : decode cX10_keep 1 = .ok (.getfield 78, 3) := by decide +kernel
theorem dX10_keep_4 : decode cX10_keep 4 = .ok (.bipush 20, 2) := by decide +kernel
theorem dX10_keep_6 : decode cX10_keep 6 = .ok (.if_icmp .ne 135, 3) := by decide +kernel
theorem dX10_keep_141 : decode cX10_keep 141 = .ok (.aload_n 0, 1) := by decide +kernel
theorem dX10_keep_142 : decode cX10_keep 142 = .ok (.getfield 13, 3) := by decide +kernel
theorem dX10_keep_145 : decode cX10_keep 145 = .ok (.aload_n 0, 1) := by decide +kernel
theorem dX10_keep_146 : decode cX10_keep 146 = .ok (.getfield 78, 3) := by decide +kernel
theorem dX10_keep_149 : decode cX10_keep 149 = .ok (.aload_n 0, 1) := by decide +kernel
theorem dX10_keep_150 : decode cX10_keep 150 = .ok (.getfield 81, 3) := by decide +kernel
theorem dX10_keep_153 : decode cX10_keep 153 = .ok (.lastore, 1) := by decide +kernel
theorem dX10_keep_154 : decode cX10_keep 154 = .ok (.aload_n 0, 1) := by decide +kernel
theorem dX10_keep_155 : decode cX10_keep 155 = .ok (.getfield 17, 3) := by decide +kernel
theorem dX10_keep_158 : decode cX10_keep 158 = .ok (.aload_n 0, 1) := by decide +kernel
theorem dX10_keep_159 : decode cX10_keep 159 = .ok (.getfield 78, 3) := by decide +kernel
theorem dX10_keep_162 : decode cX10_keep 162 = .ok (.aload_n 0, 1) := by decide +kernel
theorem dX10_keep_163 : decode cX10_keep 163 = .ok (.getfield 85, 3) := by decide +kernel
theorem dX10_keep_166 : decode cX10_keep 166 = .ok (.iastore, 1) := by decide +kernel
theorem dX10_keep_167 : decode cX10_keep 167 = .ok (.aload_n 0, 1) := by decide +kernel
theorem dX10_keep_168 : decode cX10_keep 168 = .ok (.getfield 23, 3) := by decide +kernel
theorem dX10_keep_171 : decode cX10_keep 171 = .ok (.aload_n 0, 1) := by decide +kernel
theorem dX10_keep_172 : decode cX10_keep 172 = .ok (.getfield 78, 3) := by decide +kernel
theorem dX10_keep_175 : decode cX10_keep 175 = .ok (.aload_n 0, 1) := by decide +kernel
theorem dX10_keep_176 : decode cX10_keep 176 = .ok (.getfield 88, 3) := by decide +kernel
theorem dX10_keep_179 : decode cX10_keep 179 = .ok (.bastore, 1) := by decide +kernel
theorem dX10_keep_180 : decode cX10_keep 180 = .ok (.aload_n 0, 1) := by decide +kernel
theorem dX10_keep_181 : decode cX10_keep 181 = .ok (.getfield 27, 3) := by decide +kernel
theorem dX10_keep_184 : decode cX10_keep 184 = .ok (.aload_n 0, 1) := by decide +kernel
theorem dX10_keep_185 : decode cX10_keep 185 = .ok (.getfield 78, 3) := by decide +kernel
theorem dX10_keep_188 : decode cX10_keep 188 = .ok (.aload_n 0, 1) := by decide +kernel
theorem dX10_keep_189 : decode cX10_keep 189 = .ok (.getfield 92, 3) := by decide +kernel
theorem dX10_keep_192 : decode cX10_keep 192 = .ok (.lastore, 1) := by decide +kernel
theorem dX10_keep_193 : decode cX10_keep 193 = .ok (.aload_n 0, 1) := by decide +kernel
theorem dX10_keep_194 : decode cX10_keep 194 = .ok (.getfield 30, 3) := by decide +kernel
theorem dX10_keep_197 : decode cX10_keep 197 = .ok (.aload_n 0, 1) := by decide +kernel
theorem dX10_keep_198 : decode cX10_keep 198 = .ok (.getfield 78, 3) := by decide +kernel
theorem dX10_keep_201 : decode cX10_keep 201 = .ok (.aload_n 0, 1) := by decide +kernel
theorem dX10_keep_202 : decode cX10_keep 202 = .ok (.getfield 95, 3) := by decide +kernel
theorem dX10_keep_205 : decode cX10_keep 205 = .ok (.lastore, 1) := by decide +kernel
theorem dX10_keep_206 : decode cX10_keep 206 = .ok (.iconst 0, 1) := by decide +kernel
theorem dX10_keep_207 : decode cX10_keep 207 = .ok (.istore_n 1, 1) := by decide +kernel
set_option maxRecDepth 20000 in
theorem ihX10_keep_10 : ∀ w ∈ u_ws RX10 TX10 30, w ∈ wsX10_keep := by decide +kernel
set_option maxHeartbeats 4000000 in
set_option maxRecDepth 100000 in
theorem hv_X10_keep (l : Launch) (D : va_G) (cy : Nat → ClassId) (a : Nat → Nat) (sz : Nat)   : Met l yX10_keep wsX10_keep ({ frames := 0, cells := 0, slots := 0, locals := 0 }) (va_Pc [.ref (a 0)] (PW D cy sz (MW cy a (fun _ => 0) (fun _ => 0) (fun _ _ => 0) (fun _ _ => 0)))) (va_Qv (fun (u : MS) => True) (BW D (va_A (MW cy a (fun _ => 0) (fun _ => 0) (fun _ _ => 0) (fun _ _ => 0)) sz) (MWu cy a)) (va_A (MW cy a (fun _ => 0) (fun _ => 0) (fun _ _ => 0) (fun _ _ => 0)) sz)) 0 0 (va_A (MW cy a (fun _ => 0) (fun _ => 0) (fun _ _ => 0) (fun _ _ => 0)) sz) := by
  refine Met.ofW (cc := cX10_keep) (maxL := 3) (ret := none) (by decide) rfl ?_
  intro p e s m args below meth c s₁ B hml hv
  obtain ⟨rfl, rfl, hP, hK, hN, hD0⟩ := hv
  have hx := B.exec
  have hb := B.bytes
  have hr := B.returns
  have hts := atoms_spec (ws := wsX10_keep) B.pre
  have hown : s.vm.findClass RX10 = some m.cls := findClass_of_methodNamed B.named
  have hlocks := B.notSynchronized
  have hw0 := hts (.fieldLink RX10 78 "ParquetLayerModel" "kept" "I") (by decide +kernel)
  have hw1 := hts (.fieldLink RX10 88 "ParquetLayerModel" "isLaid" "Z") (by decide +kernel)
  have hw2 := hts (.fieldLink RX10 20 "ParquetLayerModel" "pastStone" "[I") (by decide +kernel)
  have hw3 := hts (.fieldLink RX10 9 "ParquetLayerModel" "stone" "[I") (by decide +kernel)
  have hw4 := hts (.fieldLink RX10 13 "ParquetLayerModel" "pastFloor" "[J") (by decide +kernel)
  have hw5 := hts (.fieldLink RX10 81 "ParquetLayerModel" "floor" "J") (by decide +kernel)
  have hw6 := hts (.fieldLink RX10 17 "ParquetLayerModel" "pastStones" "[I") (by decide +kernel)
  have hw7 := hts (.fieldLink RX10 85 "ParquetLayerModel" "stones" "I") (by decide +kernel)
  have hw8 := hts (.fieldLink RX10 23 "ParquetLayerModel" "pastLaid" "[Z") (by decide +kernel)
  have hw9 := hts (.fieldLink RX10 27 "ParquetLayerModel" "pastAlong" "[J") (by decide +kernel)
  have hw10 := hts (.fieldLink RX10 92 "ParquetLayerModel" "along" "J") (by decide +kernel)
  have hw11 := hts (.fieldLink RX10 30 "ParquetLayerModel" "pastAcross" "[J") (by decide +kernel)
  have hw12 := hts (.fieldLink RX10 95 "ParquetLayerModel" "across" "J") (by decide +kernel)
  have hi10 := ihX10_keep_10
  have hD := hD0.self (sz := s.heap.size)
  generalize hAe : va_A (MW cy a (fun _ => 0) (fun _ => 0) (fun _ _ => 0) (fun _ _ => 0)) s.heap.size = A at hD ⊢
  have hA : ∀ q : Nat, s.heap.size ≤ q → A q := fun q h => by rw [← hAe]; exact Or.inr h
  have hS : va_S A s.heap s.heap [] := va_S.rf
  have hl := lv_entry ([.ref (a 0)]) (n := 3) (Nat.le_of_ble_eq_true rfl)
  rw [lg_entry_eq]
  generalize (lg_sl ([.ref (a 0)]) ++ List.replicate (3 - (lg_sl ([.ref (a 0)])).length) Slot.unset).toArray = ls at hl ⊢
  have hl : lv_has ls 3 [(0, .ref (a 0))] := hl
  have lp : ∀ (n208 : Nat), ∀ (i : Nat) (R1 : Nat → Nat → Int32) (RJ1 : Nat → Nat → Int64), (i ≤ 20) → (20 - i) < n208 → ∀ (H : Heap) (locs : List Loc), va_P D vwCl (MW cy a (fun _ => 0) (fun _ => 0) R1 RJ1) H → va_D A (MW cy a (fun _ => 0) (fun _ => 0) R1 RJ1) → va_S A s.heap H locs → ∀ (ls : Array Slot), lv_has ls 3 [(0, .ref (a 0)), (1, .int (nI i))] → W p l e (headSpec wsX10_keep ({ frames := 0, cells := 0, slots := 0, locals := 0 })).room s m ([.ref (a 0)] : List Value).toArray below meth c H locs 0 0 (MQ below (va_Qv (fun (u : MS) => True) (BW D A (MWu cy a)) A) ([.ref (a 0)] : List Value).toArray s 0 0 A) (F0 m 208 ls []) := by
    intro n208
    induction n208 with
    | zero => intro i R1 RJ1 hi hn; exact absurd hn (Nat.not_lt_zero _)
    | succ n208 ih208 =>
      intro i R1 RJ1 hi hn208 H locs hP hD hS ls hl
      refine lv_iload_n hx hb dX10_keep_208 rfl (lv_at hl 1 rfl) ?_
      refine lv_bipush (v := 20) hx hb dX10_keep_209 (by decide) ?_
      refine lv_icmp_ge (tgt := 240) hx hb dX10_keep_211 (by decide) (fun c_1 => ?_) (fun c_1 => ?_)
      · have hie := ctr_ge (N := 20) (by decide) hi c_1
        subst hie
        refine lv_aload_n hx hb dX10_keep_240 rfl (lv_at hl 0 rfl) ?_
        refine lv_dup hx hb dX10_keep_241 rfl ?_
        refine va_get (D := D) (ci := 9) (v := .int 0) (C := RX10) (T := TX10) (N := 30) hx hb hts hi10 hown hK hP 0 rfl rfl 12 (by decide) hw0 (fun _ h9 => h9) rfl dX10_keep_242 ?_
        refine lv_iconst (v := 1) hx hb dX10_keep_245 (by decide) ?_
        refine lv_iadd hx hb dX10_keep_246 ?_
        refine wtop_i (y := 1) (by decide) ?_
        refine va_put (D := D) (ci := 9) (v := .int 1) (ty := .int) (C := RX10) (T := TX10) (N := 30) hx hb hts hi10 tyX10 tyX10_ok nmX10 hown hK hP hD hS 0 rfl rfl 12 (by decide) hw0 (fun _ h9 => h9) rfl (by decide +kernel) rfl rfl (Nat.le_of_ble_eq_true rfl) dX10_keep_247 (fun H locs hP hD hS => ?_)
        have hP : va_P D vwCl (MW cy a (fun _ => 0) (va_up (fun _ => 0) 12 1) R1 RJ1) H := hP
        have hD : va_D A (MW cy a (fun _ => 0) (va_up (fun _ => 0) 12 1) R1 RJ1) := hD
        refine lv_aload_n hx hb dX10_keep_250 rfl (lv_at hl 0 rfl) ?_
        refine lv_iconst (v := 0) hx hb dX10_keep_251 (by decide) ?_
        refine va_put (D := D) (ci := 9) (v := .int 0) (ty := .boolean) (C := RX10) (T := TX10) (N := 30) hx hb hts hi10 tyX10 tyX10_ok nmX10 hown hK hP hD hS 0 rfl rfl 3 (by decide) hw1 (fun _ h9 => h9) rfl (by decide +kernel) rfl rfl (Nat.le_of_ble_eq_true rfl) dX10_keep_252 (fun H locs hP hD hS => ?_)
        have hP : va_P D vwCl (MW cy a (fun _ => 0) (va_up (fun _ => 0) 12 1) R1 RJ1) H := hP
        have hD : va_D A (MW cy a (fun _ => 0) (va_up (fun _ => 0) 12 1) R1 RJ1) := hD
        exact wret_v hx hb hr hlocks ((fun _ => 0), (va_up (fun _ => 0) 12 1), R1, RJ1) trivial hP hD hS dX10_keep_255
      · have hlt := ctr_lt (N := 20) (by decide) hi c_1
        refine lv_aload_n hx hb dX10_keep_214 rfl (lv_at hl 0 rfl) ?_
        refine va_get (D := D) (ci := 9) (v := .ref (a 4)) (C := RX10) (T := TX10) (N := 30) hx hb hts hi10 hown hK hP 0 rfl rfl 8 (by decide) hw2 (fun _ h9 => h9) rfl dX10_keep_215 ?_
        refine lv_bipush (v := 20) hx hb dX10_keep_218 (by decide) ?_
        refine lv_aload_n hx hb dX10_keep_220 rfl (lv_at hl 0 rfl) ?_
        refine va_get (D := D) (ci := 9) (v := .int 0) (C := RX10) (T := TX10) (N := 30) hx hb hts hi10 hown hK hP 0 rfl rfl 12 (by decide) hw0 (fun _ h9 => h9) rfl dX10_keep_221 ?_
        refine lv_imul hx hb dX10_keep_224 ?_
        refine wtop_i (y := 0) (by decide) ?_
        refine lv_iload_n hx hb dX10_keep_225 rfl (lv_at hl 1 rfl) ?_
        refine lv_iadd hx hb dX10_keep_226 ?_
        refine wtop_i (y := nI i) (Int32.zero_add _) ?_
        refine lv_aload_n hx hb dX10_keep_227 rfl (lv_at hl 0 rfl) ?_
        refine va_get (D := D) (ci := 9) (v := .ref (a 1)) (C := RX10) (T := TX10) (N := 30) hx hb hts hi10 hown hK hP 0 rfl rfl 2 (by decide) hw3 (fun _ h9 => h9) rfl dX10_keep_228 ?_
        refine lv_iload_n hx hb dX10_keep_231 rfl (lv_at hl 1 rfl) ?_
        refine va_iald hx hb hK hP 1 0 rfl rfl (vp_in_nI (by omega) (by decide)) dX10_keep_232 ?_
        refine va_iast hx hb hK hP hD hS 4 0 rfl rfl (vp_in_nI (by omega) (by decide)) dX10_keep_233 (fun H locs hP hD hS => ?_)
        have hP : va_P D vwCl (MW cy a (fun _ => 0) (fun _ => 0) (va_up R1 4 (upd (R1 4) (nI i).toNatClampNeg ((R1 1) (nI i).toNatClampNeg))) RJ1) H := hP
        have hD : va_D A (MW cy a (fun _ => 0) (fun _ => 0) (va_up R1 4 (upd (R1 4) (nI i).toNatClampNeg ((R1 1) (nI i).toNatClampNeg))) RJ1) := hD
        refine lv_iinc (v := nI (i + 1)) (lv' := [(1, .int (nI (i + 1))), (0, .ref (a 0))]) hx hb dX10_keep_234 hl (k := 1) rfl (nI_1 _) (by decide) rfl (fun ls hl => ?_)
        refine lv_goto (tgt := 208) hx hb dX10_keep_237 (by decide) ?_
        exact ih208 (i + 1) (va_up R1 4 (upd (R1 4) (nI i).toNatClampNeg ((R1 1) (nI i).toNatClampNeg))) RJ1 (by omega) (by omega) _ _ hP hD hS ls (lv_sub hl [1, 0] rfl)
  refine lv_aload_n hx hb dX10_keep_0 rfl (lv_at hl 0 rfl) ?_
  refine va_get (D := D) (ci := 9) (v := .int 0) (C := RX10) (T := TX10) (N := 30) hx hb hts hi10 hown hK hP 0 rfl rfl 12 (by decide) hw0 (fun _ h9 => h9) rfl dX10_keep_1 ?_
  refine lv_bipush (v := 20) hx hb dX10_keep_4 (by decide) ?_
  refine lv_icmp_ne (tgt := 141) hx hb dX10_keep_6 (by decide) (fun c_2 => ?_) (fun c_2 => absurd c_2 (by decide))
  refine lv_aload_n hx hb dX10_keep_141 rfl (lv_at hl 0 rfl) ?_
  refine va_get (D := D) (ci := 9) (v := .ref (a 2)) (C := RX10) (T := TX10) (N := 30) hx hb hts hi10 hown hK hP 0 rfl rfl 6 (by decide) hw4 (fun _ h9 => h9) rfl dX10_keep_142 ?_
  refine lv_aload_n hx hb dX10_keep_145 rfl (lv_at hl 0 rfl) ?_
  refine va_get (D := D) (ci := 9) (v := .int 0) (C := RX10) (T := TX10) (N := 30) hx hb hts hi10 hown hK hP 0 rfl rfl 12 (by decide) hw0 (fun _ h9 => h9) rfl dX10_keep_146 ?_
  refine lv_aload_n hx hb dX10_keep_149 rfl (lv_at hl 0 rfl) ?_
  refine va_get (D := D) (ci := 9) (v := .long 0) (C := RX10) (T := TX10) (N := 30) hx hb hts hi10 hown hK hP 0 rfl rfl 0 (by decide) hw5 (fun _ h9 => h9) rfl dX10_keep_150 ?_
  refine va_last hx hb hK hP hD hS 2 1 rfl rfl (by unfold vp_in; decide) dX10_keep_153 (fun H locs hP hD hS => ?_)
  have hP : va_P D vwCl (MW cy a (fun _ => 0) (fun _ => 0) (fun _ _ => 0) (va_up (fun _ _ => 0) 2 (vp_updL (fun _ => 0) (0 : Int32).toNatClampNeg 0))) H := hP
  have hD : va_D A (MW cy a (fun _ => 0) (fun _ => 0) (fun _ _ => 0) (va_up (fun _ _ => 0) 2 (vp_updL (fun _ => 0) (0 : Int32).toNatClampNeg 0))) := hD
  refine lv_aload_n hx hb dX10_keep_154 rfl (lv_at hl 0 rfl) ?_
  refine va_get (D := D) (ci := 9) (v := .ref (a 3)) (C := RX10) (T := TX10) (N := 30) hx hb hts hi10 hown hK hP 0 rfl rfl 7 (by decide) hw6 (fun _ h9 => h9) rfl dX10_keep_155 ?_
  refine lv_aload_n hx hb dX10_keep_158 rfl (lv_at hl 0 rfl) ?_
  refine va_get (D := D) (ci := 9) (v := .int 0) (C := RX10) (T := TX10) (N := 30) hx hb hts hi10 hown hK hP 0 rfl rfl 12 (by decide) hw0 (fun _ h9 => h9) rfl dX10_keep_159 ?_
  refine lv_aload_n hx hb dX10_keep_162 rfl (lv_at hl 0 rfl) ?_
  refine va_get (D := D) (ci := 9) (v := .int 0) (C := RX10) (T := TX10) (N := 30) hx hb hts hi10 hown hK hP 0 rfl rfl 1 (by decide) hw7 (fun _ h9 => h9) rfl dX10_keep_163 ?_
  refine va_iast hx hb hK hP hD hS 3 0 rfl rfl (by unfold vp_in; decide) dX10_keep_166 (fun H locs hP hD hS => ?_)
  have hP : va_P D vwCl (MW cy a (fun _ => 0) (fun _ => 0) (va_up (fun _ _ => 0) 3 (upd (fun _ => 0) (0 : Int32).toNatClampNeg 0)) (va_up (fun _ _ => 0) 2 (vp_updL (fun _ => 0) (0 : Int32).toNatClampNeg 0))) H := hP
  have hD : va_D A (MW cy a (fun _ => 0) (fun _ => 0) (va_up (fun _ _ => 0) 3 (upd (fun _ => 0) (0 : Int32).toNatClampNeg 0)) (va_up (fun _ _ => 0) 2 (vp_updL (fun _ => 0) (0 : Int32).toNatClampNeg 0))) := hD
  refine lv_aload_n hx hb dX10_keep_167 rfl (lv_at hl 0 rfl) ?_
  refine va_get (D := D) (ci := 9) (v := .ref (a 5)) (C := RX10) (T := TX10) (N := 30) hx hb hts hi10 hown hK hP 0 rfl rfl 9 (by decide) hw8 (fun _ h9 => h9) rfl dX10_keep_168 ?_
  refine lv_aload_n hx hb dX10_keep_171 rfl (lv_at hl 0 rfl) ?_
  refine va_get (D := D) (ci := 9) (v := .int 0) (C := RX10) (T := TX10) (N := 30) hx hb hts hi10 hown hK hP 0 rfl rfl 12 (by decide) hw0 (fun _ h9 => h9) rfl dX10_keep_172 ?_
  refine lv_aload_n hx hb dX10_keep_175 rfl (lv_at hl 0 rfl) ?_
  refine va_get (D := D) (ci := 9) (v := .int 0) (C := RX10) (T := TX10) (N := 30) hx hb hts hi10 hown hK hP 0 rfl rfl 3 (by decide) hw1 (fun _ h9 => h9) rfl dX10_keep_176 ?_
  refine va_zast hx hb hK hP hD hS 5 2 rfl rfl (by unfold vp_in; decide) dX10_keep_179 (fun H locs hP hD hS => ?_)
  have hP : va_P D vwCl (MW cy a (fun _ => 0) (fun _ => 0) (va_up (va_up (fun _ _ => 0) 3 (upd (fun _ => 0) (0 : Int32).toNatClampNeg 0)) 5 (upd (fun _ => 0) (0 : Int32).toNatClampNeg (vp_nar .boolean 0))) (va_up (fun _ _ => 0) 2 (vp_updL (fun _ => 0) (0 : Int32).toNatClampNeg 0))) H := hP
  have hD : va_D A (MW cy a (fun _ => 0) (fun _ => 0) (va_up (va_up (fun _ _ => 0) 3 (upd (fun _ => 0) (0 : Int32).toNatClampNeg 0)) 5 (upd (fun _ => 0) (0 : Int32).toNatClampNeg (vp_nar .boolean 0))) (va_up (fun _ _ => 0) 2 (vp_updL (fun _ => 0) (0 : Int32).toNatClampNeg 0))) := hD
  refine lv_aload_n hx hb dX10_keep_180 rfl (lv_at hl 0 rfl) ?_
  refine va_get (D := D) (ci := 9) (v := .ref (a 6)) (C := RX10) (T := TX10) (N := 30) hx hb hts hi10 hown hK hP 0 rfl rfl 10 (by decide) hw9 (fun _ h9 => h9) rfl dX10_keep_181 ?_
  refine lv_aload_n hx hb dX10_keep_184 rfl (lv_at hl 0 rfl) ?_
  refine va_get (D := D) (ci := 9) (v := .int 0) (C := RX10) (T := TX10) (N := 30) hx hb hts hi10 hown hK hP 0 rfl rfl 12 (by decide) hw0 (fun _ h9 => h9) rfl dX10_keep_185 ?_
  refine lv_aload_n hx hb dX10_keep_188 rfl (lv_at hl 0 rfl) ?_
  refine va_get (D := D) (ci := 9) (v := .long 0) (C := RX10) (T := TX10) (N := 30) hx hb hts hi10 hown hK hP 0 rfl rfl 4 (by decide) hw10 (fun _ h9 => h9) rfl dX10_keep_189 ?_
  refine va_last hx hb hK hP hD hS 6 1 rfl rfl (by unfold vp_in; decide) dX10_keep_192 (fun H locs hP hD hS => ?_)
  have hP : va_P D vwCl (MW cy a (fun _ => 0) (fun _ => 0) (va_up (va_up (fun _ _ => 0) 3 (upd (fun _ => 0) (0 : Int32).toNatClampNeg 0)) 5 (upd (fun _ => 0) (0 : Int32).toNatClampNeg (vp_nar .boolean 0))) (va_up (va_up (fun _ _ => 0) 2 (vp_updL (fun _ => 0) (0 : Int32).toNatClampNeg 0)) 6 (vp_updL (fun _ => 0) (0 : Int32).toNatClampNeg 0))) H := hP
  have hD : va_D A (MW cy a (fun _ => 0) (fun _ => 0) (va_up (va_up (fun _ _ => 0) 3 (upd (fun _ => 0) (0 : Int32).toNatClampNeg 0)) 5 (upd (fun _ => 0) (0 : Int32).toNatClampNeg (vp_nar .boolean 0))) (va_up (va_up (fun _ _ => 0) 2 (vp_updL (fun _ => 0) (0 : Int32).toNatClampNeg 0)) 6 (vp_updL (fun _ => 0) (0 : Int32).toNatClampNeg 0))) := hD
  refine lv_aload_n hx hb dX10_keep_193 rfl (lv_at hl 0 rfl) ?_
  refine va_get (D := D) (ci := 9) (v := .ref (a 7)) (C := RX10) (T := TX10) (N := 30) hx hb hts hi10 hown hK hP 0 rfl rfl 11 (by decide) hw11 (fun _ h9 => h9) rfl dX10_keep_194 ?_
  refine lv_aload_n hx hb dX10_keep_197 rfl (lv_at hl 0 rfl) ?_
  refine va_get (D := D) (ci := 9) (v := .int 0) (C := RX10) (T := TX10) (N := 30) hx hb hts hi10 hown hK hP 0 rfl rfl 12 (by decide) hw0 (fun _ h9 => h9) rfl dX10_keep_198 ?_
  refine lv_aload_n hx hb dX10_keep_201 rfl (lv_at hl 0 rfl) ?_
  refine va_get (D := D) (ci := 9) (v := .long 0) (C := RX10) (T := TX10) (N := 30) hx hb hts hi10 hown hK hP 0 rfl rfl 5 (by decide) hw12 (fun _ h9 => h9) rfl dX10_keep_202 ?_
  refine va_last hx hb hK hP hD hS 7 1 rfl rfl (by unfold vp_in; decide) dX10_keep_205 (fun H locs hP hD hS => ?_)
  have hP : va_P D vwCl (MW cy a (fun _ => 0) (fun _ => 0) (va_up (va_up (fun _ _ => 0) 3 (upd (fun _ => 0) (0 : Int32).toNatClampNeg 0)) 5 (upd (fun _ => 0) (0 : Int32).toNatClampNeg (vp_nar .boolean 0))) (va_up (va_up (va_up (fun _ _ => 0) 2 (vp_updL (fun _ => 0) (0 : Int32).toNatClampNeg 0)) 6 (vp_updL (fun _ => 0) (0 : Int32).toNatClampNeg 0)) 7 (vp_updL (fun _ => 0) (0 : Int32).toNatClampNeg 0))) H := hP
  have hD : va_D A (MW cy a (fun _ => 0) (fun _ => 0) (va_up (va_up (fun _ _ => 0) 3 (upd (fun _ => 0) (0 : Int32).toNatClampNeg 0)) 5 (upd (fun _ => 0) (0 : Int32).toNatClampNeg (vp_nar .boolean 0))) (va_up (va_up (va_up (fun _ _ => 0) 2 (vp_updL (fun _ => 0) (0 : Int32).toNatClampNeg 0)) 6 (vp_updL (fun _ => 0) (0 : Int32).toNatClampNeg 0)) 7 (vp_updL (fun _ => 0) (0 : Int32).toNatClampNeg 0))) := hD
  refine lv_iconst (v := 0) hx hb dX10_keep_206 (by decide) ?_
  refine lv_istore_n (lv' := [(1, .int 0), (0, .ref (a 0))]) hx hb dX10_keep_207 rfl hl (by decide) rfl (fun ls hl => ?_)
  exact lp _ 0 (va_up (va_up (fun _ _ => 0) 3 (upd (fun _ => 0) (0 : Int32).toNatClampNeg 0)) 5 (upd (fun _ => 0) (0 : Int32).toNatClampNeg (vp_nar .boolean 0))) (va_up (va_up (va_up (fun _ _ => 0) 2 (vp_updL (fun _ => 0) (0 : Int32).toNatClampNeg 0)) 6 (vp_updL (fun _ => 0) (0 : Int32).toNatClampNeg 0)) 7 (vp_updL (fun _ => 0) (0 : Int32).toNatClampNeg 0)) (by omega) (Nat.lt_succ_self _) _ _ hP hD hS ls (lv_sub hl [1, 0] rfl)
theorem dX10_newFloor_0 : decode cX10_newFloor 0 = .ok (.iconst 0, 1) := by decide +kernel
theorem dX10_newFloor_1 : decode cX10_newFloor 1 = .ok (.istore_n 3, 1) := by decide +kernel
theorem dX10_newFloor_2 : decode cX10_newFloor 2 = .ok (.iload_n 3, 1) := by decide +kernel
theorem dX10_newFloor_3 : decode cX10_newFloor 3 = .ok (.aload_n 0, 1) := by decide +kernel
theorem dX10_newFloor_4 : decode cX10_newFloor 4 = .ok (.getfield 85, 3) := by decide +kernel
theorem dX10_newFloor_7 : decode cX10_newFloor 7 = .ok (.if_icmp .ge 40, 3) := by decide +kernel
theorem dX10_newFloor_47 : decode cX10_newFloor 47 = .ok (.iconst 0, 1) := by decide +kernel
theorem dX10_newFloor_48 : decode cX10_newFloor 48 = .ok (.istore_n 3, 1) := by decide +kernel
theorem dX10_newFloor_49 : decode cX10_newFloor 49 = .ok (.iload_n 3, 1) := by decide +kernel
theorem dX10_newFloor_50 : decode cX10_newFloor 50 = .ok (.aload_n 0, 1) := by decide +kernel
theorem dX10_newFloor_51 : decode cX10_newFloor 51 = .ok (.getfield 85, 3) := by decide +kernel
theorem dX10_newFloor_54 : decode cX10_newFloor 54 = .ok (.if_icmp .ge 42, 3) := by decide +kernel
theorem dX10_newFloor_96 : decode cX10_newFloor 96 = .ok (.aload_n 0, 1) := by decide +kernel
set_option maxRecDepth 20000 in
theorem ggX10_newFloor_X10_keep : GoodIn wsX10_newFloor wsX10_keep := goodIn_r _ [47, 48, 49, 50, 51, 52, 53, 54, 5, 1, 55, 56, 57, 11, 61, 62, 63, 64, 65, 66, 67, 68, 69, 70, 71, 72, 73, 74, 75, 76, 77, 78, 79, 80, 81, 82, 83, 84, 85, 86, 87, 88, 89, 90] (by decide +kernel) (by decide +kernel)
set_option maxRecDepth 20000 in
theorem gX10_newFloor_X10_keep : GoodIn wsX10_newFloor (wsV RX10 134 RX10 yX10_keep wsX10_keep) := goodIn_app (goodIn_of _ (by decide +kernel)) ggX10_newFloor_X10_keep
theorem dX10_newFloor_97 : decode cX10_newFloor 97 = .ok (.invokevirtual 134, 3) := by decide +kernel
theorem dX10_newFloor_100 : decode cX10_newFloor 100 = .ok (.aload_n 0, 1) := by decide +kernel
theorem dX10_newFloor_101 : decode cX10_newFloor 101 = .ok (.lload_n 1, 1) := by decide +kernel
theorem dX10_newFloor_102 : decode cX10_newFloor 102 = .ok (.putfield 81, 3) := by decide +kernel
theorem dX10_newFloor_105 : decode cX10_newFloor 105 = .ok (.aload_n 0, 1) := by decide +kernel
theorem dX10_newFloor_106 : decode cX10_newFloor 106 = .ok (.getfield 81, 3) := by decide +kernel
set_option maxRecDepth 20000 in
theorem ggX10_newFloor_X10_many : GoodIn wsX10_newFloor wsX10_many := goodIn_r _ [60, 41, 42, 9, 43] (by decide +kernel) (by decide +kernel)
set_option maxRecDepth 20000 in
theorem gX10_newFloor_X10_many : GoodIn wsX10_newFloor (va_wsS RX10 137 yX10_many wsX10_many) := goodIn_app (goodIn_of _ (by decide +kernel)) ggX10_newFloor_X10_many
theorem dX10_newFloor_109 : decode cX10_newFloor 109 = .ok (.invokestatic 137, 3) := by decide +kernel
theorem dX10_newFloor_112 : decode cX10_newFloor 112 = .ok (.ireturn, 1) := by decide +kernel
set_option maxRecDepth 20000 in
theorem ihX10_newFloor_10 : ∀ w ∈ u_ws RX10 TX10 30, w ∈ wsX10_newFloor := by decide +kernel
set_option maxHeartbeats 4000000 in
set_option maxRecDepth 100000 in
theorem hv_X10_newFloor (l : Launch) (D : va_G) (cy : Nat → ClassId) (a : Nat → Nat) (sz : Nat)  (x0 : Int64) : Met l yX10_newFloor wsX10_newFloor ({ frames := 2, cells := 0, slots := 0, locals := 45 }) (va_Pc [.ref (a 0), .long x0] (PW D cy sz (MW cy a (fun _ => 0) (fun _ => 0) (fun _ _ => 0) (fun _ _ => 0)))) (va_Qi (fun r (u : MS) => r = nI (m_cnt x0 64) ∧ True) (BW D (va_A (MW cy a (fun _ => 0) (fun _ => 0) (fun _ _ => 0) (fun _ _ => 0)) sz) (MWu cy a)) (va_A (MW cy a (fun _ => 0) (fun _ => 0) (fun _ _ => 0) (fun _ _ => 0)) sz)) 0 0 (va_A (MW cy a (fun _ => 0) (fun _ => 0) (fun _ _ => 0) (fun _ _ => 0)) sz) := by
  refine Met.ofW (cc := cX10_newFloor) (maxL := 4) (ret := (some .int)) (by decide) rfl ?_
  intro p e s m args below meth c s₁ B hml hv
  obtain ⟨rfl, rfl, hP, hK, hN, hD0⟩ := hv
  have hx := B.exec
  have hb := B.bytes
  have hr := B.returns
  have hts := atoms_spec (ws := wsX10_newFloor) B.pre
  have hown : s.vm.findClass RX10 = some m.cls := findClass_of_methodNamed B.named
  have hlocks := B.notSynchronized
  have hw0 := hts (.fieldLink RX10 85 "ParquetLayerModel" "stones" "I") (by decide +kernel)
  have hw1 := hts (.fieldLink RX10 81 "ParquetLayerModel" "floor" "J") (by decide +kernel)
  have hi10 := ihX10_newFloor_10
  have hD := hD0.self (sz := s.heap.size)
  generalize hAe : va_A (MW cy a (fun _ => 0) (fun _ => 0) (fun _ _ => 0) (fun _ _ => 0)) s.heap.size = A at hD ⊢
  have hA : ∀ q : Nat, s.heap.size ≤ q → A q := fun q h => by rw [← hAe]; exact Or.inr h
  have hS : va_S A s.heap s.heap [] := va_S.rf
  have hl := lv_entry ([.ref (a 0), .long x0]) (n := 4) (Nat.le_of_ble_eq_true rfl)
  rw [lg_entry_eq]
  generalize (lg_sl ([.ref (a 0), .long x0]) ++ List.replicate (4 - (lg_sl ([.ref (a 0), .long x0])).length) Slot.unset).toArray = ls at hl ⊢
  have hl : lv_has ls 4 [(0, .ref (a 0)), (1, .long x0)] := hl
  refine lv_iconst (v := 0) hx hb dX10_newFloor_0 (by decide) ?_
  refine lv_istore_n (lv' := [(3, .int 0), (0, .ref (a 0)), (1, .long x0)]) hx hb dX10_newFloor_1 rfl hl (by decide) rfl (fun ls hl => ?_)
  refine lv_iload_n hx hb dX10_newFloor_2 rfl (lv_at hl 0 rfl) ?_
  refine lv_aload_n hx hb dX10_newFloor_3 rfl (lv_at hl 1 rfl) ?_
  refine va_get (D := D) (ci := 9) (v := .int 0) (C := RX10) (T := TX10) (N := 30) hx hb hts hi10 hown hK hP 0 rfl rfl 1 (by decide) hw0 (fun _ h9 => h9) rfl dX10_newFloor_4 ?_
  refine lv_icmp_ge (tgt := 47) hx hb dX10_newFloor_7 (by decide) (fun c_1 => ?_) (fun c_1 => absurd (by decide) c_1)
  refine lv_iconst (v := 0) hx hb dX10_newFloor_47 (by decide) ?_
  refine lv_istore_n (lv' := [(3, .int 0), (0, .ref (a 0)), (1, .long x0)]) hx hb dX10_newFloor_48 rfl hl (by decide) rfl (fun ls hl => ?_)
  refine lv_iload_n hx hb dX10_newFloor_49 rfl (lv_at hl 0 rfl) ?_
  refine lv_aload_n hx hb dX10_newFloor_50 rfl (lv_at hl 1 rfl) ?_
  refine va_get (D := D) (ci := 9) (v := .int 0) (C := RX10) (T := TX10) (N := 30) hx hb hts hi10 hown hK hP 0 rfl rfl 1 (by decide) hw0 (fun _ h9 => h9) rfl dX10_newFloor_51 ?_
  refine lv_icmp_ge (tgt := 96) hx hb dX10_newFloor_54 (by decide) (fun c_2 => ?_) (fun c_2 => absurd (by decide) c_2)
  refine lv_aload_n hx hb dX10_newFloor_96 rfl (lv_at hl 1 rfl) ?_
  refine kM_v (As := []) (rest := []) (q0 := 0) ⟨hx, hb, hml, hown, hts⟩ (hv_X10_keep l D cy a _   ) (cwV 0 hts gX10_newFloor_X10_keep rfl rfl rfl (by decide +kernel) ⟨Nat.le_of_ble_eq_true rfl, Nat.le_of_ble_eq_true rfl⟩) hK hN hP hD hS hA rfl rfl rfl hl.1 rfl (Nat.le_of_ble_eq_true rfl) dX10_newFloor_97 ⟨Nat.le_of_ble_eq_true rfl, Nat.le_of_ble_eq_true rfl⟩ (fun u H locs hw hP hD hS => ?_)
  obtain ⟨Jh_3, Ih_4, Rh_5, RJh_6⟩ := u
  try dsimp only at hw
  have hP : va_P D vwCl (MW cy a Jh_3 Ih_4 Rh_5 RJh_6) H := hP
  have hD : va_D A (MW cy a Jh_3 Ih_4 Rh_5 RJh_6) := hD
  refine lv_aload_n hx hb dX10_newFloor_100 rfl (lv_at hl 1 rfl) ?_
  refine lv_lload_n hx hb dX10_newFloor_101 rfl (lv_at hl 2 rfl) ?_
  refine va_put (D := D) (ci := 9) (v := .long x0) (ty := .long) (C := RX10) (T := TX10) (N := 30) hx hb hts hi10 tyX10 tyX10_ok nmX10 hown hK hP hD hS 0 rfl rfl 0 (by decide) hw1 (fun _ h9 => h9) rfl (by decide +kernel) rfl rfl (Nat.le_of_ble_eq_true rfl) dX10_newFloor_102 (fun H locs hP hD hS => ?_)
  have hP : va_P D vwCl (MW cy a (va_up Jh_3 0 x0) Ih_4 Rh_5 RJh_6) H := hP
  have hD : va_D A (MW cy a (va_up Jh_3 0 x0) Ih_4 Rh_5 RJh_6) := hD
  refine lv_aload_n hx hb dX10_newFloor_105 rfl (lv_at hl 1 rfl) ?_
  refine va_get (D := D) (ci := 9) (v := .long x0) (C := RX10) (T := TX10) (N := 30) hx hb hts hi10 hown hK hP 0 rfl rfl 0 (by decide) hw1 (fun _ h9 => h9) rfl dX10_newFloor_106 ?_
  refine kS_i (As := [.long x0]) (rest := []) ⟨hx, hb, hml, hown, hts⟩ (c_X10_many l x0) (va_cwS 1 hts gX10_newFloor_X10_many rfl rfl rfl (by decide +kernel) ⟨Nat.le_of_ble_eq_true rfl, Nat.le_of_ble_eq_true rfl⟩) rfl hl.1 rfl (Nat.le_of_ble_eq_true rfl) dX10_newFloor_109 ⟨Nat.le_of_ble_eq_true rfl, Nat.le_of_ble_eq_true rfl⟩ ?_
  exact wret_i hx hb hr hlocks ((va_up Jh_3 0 x0), Ih_4, Rh_5, RJh_6) ⟨rfl, trivial⟩ hP hD hS dX10_newFloor_112
theorem dX10_row_0 : decode cX10_row 0 = .ok (.iload_n 1, 1) := by decide +kernel
theorem dX10_row_1 : decode cX10_row 1 = .ok (.iconst 0, 1) := by decide +kernel
theorem dX10_row_2 : decode cX10_row 2 = .ok (.bipush 7, 2) := by decide +kernel
set_option maxRecDepth 20000 in
theorem ggX10_row_X10_within : GoodIn wsX10_row wsX10_within := goodIn_r _ [8] (by decide +kernel) (by decide +kernel)
set_option maxRecDepth 20000 in
theorem gX10_row_X10_within : GoodIn wsX10_row (va_wsS RX10 70 yX10_within wsX10_within) := goodIn_app (goodIn_of _ (by decide +kernel)) ggX10_row_X10_within
theorem dX10_row_4 : decode cX10_row 4 = .ok (.invokestatic 70, 3) := by decide +kernel
theorem dX10_row_7 : decode cX10_row 7 = .ok (.ifCond .eq 14, 3) := by decide +kernel
theorem dX10_row_21 : decode cX10_row 21 = .ok (.aload_n 0, 1) := by decide +kernel
theorem dX10_row_22 : decode cX10_row 22 = .ok (.ldc 141, 2) := by decide +kernel
set_option maxRecDepth 20000 in
theorem ggX10_row_X10_finding : GoodIn wsX10_row wsX10_finding := goodIn_r _ [12, 13, 67, 68, 69, 70, 71, 72, 73, 74, 75, 76, 77, 78, 79, 80, 81, 82, 83, 84, 85, 86, 87, 88, 89, 90, 91, 92, 93, 94, 95, 96] (by decide +kernel) (by decide +kernel)
set_option maxRecDepth 20000 in
theorem gX10_row_X10_finding : GoodIn wsX10_row (wsV RX10 99 RX10 yX10_finding wsX10_finding) := goodIn_app (goodIn_of _ (by decide +kernel)) ggX10_row_X10_finding
theorem dX10_row_24 : decode cX10_row 24 = .ok (.invokevirtual 99, 3) := by decide +kernel
theorem dX10_row_27 : decode cX10_row 27 = .ok (.ireturn, 1) := by decide +kernel
theorem dX10_row_10 : decode cX10_row 10 = .ok (.iload_n 2, 1) := by decide +kernel
theorem dX10_row_11 : decode cX10_row 11 = .ok (.iconst 0, 1) := by decide +kernel
theorem dX10_row_12 : decode cX10_row 12 = .ok (.sipush 255, 3) := by decide +kernel
theorem dX10_row_15 : decode cX10_row 15 = .ok (.invokestatic 70, 3) := by decide +kernel
theorem dX10_row_18 : decode cX10_row 18 = .ok (.ifCond .ne 10, 3) := by decide +kernel
theorem dX10_row_28 : decode cX10_row 28 = .ok (.aload_n 0, 1) := by decide +kernel
theorem dX10_row_29 : decode cX10_row 29 = .ok (.aload_n 0, 1) := by decide +kernel
theorem dX10_row_30 : decode cX10_row 30 = .ok (.getfield 81, 3) := by decide +kernel
theorem dX10_row_33 : decode cX10_row 33 = .ok (.ldc2_w 142, 3) := by decide +kernel
theorem dX10_row_36 : decode cX10_row 36 = .ok (.bipush 8, 2) := by decide +kernel
theorem dX10_row_38 : decode cX10_row 38 = .ok (.iload_n 1, 1) := by decide +kernel
theorem dX10_row_39 : decode cX10_row 39 = .ok (.imul, 1) := by decide +kernel
theorem dX10_row_40 : decode cX10_row 40 = .ok (.lshl, 1) := by decide +kernel
theorem dX10_row_41 : decode cX10_row 41 = .ok (.ldc2_w 126, 3) := by decide +kernel
theorem dX10_row_44 : decode cX10_row 44 = .ok (.lxor, 1) := by decide +kernel
theorem dX10_row_45 : decode cX10_row 45 = .ok (.land, 1) := by decide +kernel
theorem dX10_row_46 : decode cX10_row 46 = .ok (.iload_n 2, 1) := by decide +kernel
theorem dX10_row_47 : decode cX10_row 47 = .ok (.i2l, 1) := by decide +kernel
theorem dX10_row_48 : decode cX10_row 48 = .ok (.bipush 8, 2) := by decide +kernel
theorem dX10_row_50 : decode cX10_row 50 = .ok (.iload_n 1, 1) := by decide +kernel
theorem dX10_row_51 : decode cX10_row 51 = .ok (.imul, 1) := by decide +kernel
theorem dX10_row_52 : decode cX10_row 52 = .ok (.lshl, 1) := by decide +kernel
theorem dX10_row_53 : decode cX10_row 53 = .ok (.lor, 1) := by decide +kernel
set_option maxRecDepth 20000 in
theorem ggX10_row_X10_newFloor : GoodIn wsX10_row wsX10_newFloor := goodIn_r _ [17, 18, 4, 19, 20, 2, 21, 22, 23, 7, 24, 25, 26, 27, 28, 29, 30, 31, 32, 33, 9, 10, 11, 12, 13, 34, 35, 36, 37, 38, 39, 40, 41, 42, 43, 44, 45, 46, 5, 6, 8, 47, 48, 49, 50, 51, 52, 53, 54, 55, 56, 57, 58, 59, 60, 61, 62, 63, 64, 65, 66, 67, 68, 69, 70, 71, 72, 73, 74, 75, 76, 77, 78, 79, 80, 81, 82, 83, 84, 85, 86, 87, 88, 89, 90, 91, 92, 93, 94, 95, 96] (by decide +kernel) (by decide +kernel)
set_option maxRecDepth 20000 in
theorem gX10_row_X10_newFloor : GoodIn wsX10_row (wsV RX10 144 RX10 yX10_newFloor wsX10_newFloor) := goodIn_app (goodIn_of _ (by decide +kernel)) ggX10_row_X10_newFloor
theorem dX10_row_54 : decode cX10_row 54 = .ok (.invokevirtual 144, 3) := by decide +kernel
theorem dX10_row_57 : decode cX10_row 57 = .ok (.ireturn, 1) := by decide +kernel
set_option maxRecDepth 20000 in
theorem ihX10_row_10 : ∀ w ∈ u_ws RX10 TX10 30, w ∈ wsX10_row := by decide +kernel
set_option maxHeartbeats 4000000 in
set_option maxRecDepth 100000 in
theorem mp_X10_row (l : Launch) (D : va_G) (cy : Nat → ClassId) (a : Nat → Nat) (sz : Nat) (x0 : Int32) (x1 : Int32) : Met l yX10_row wsX10_row ({ frames := 3, cells := 0, slots := 0, locals := 68 }) (va_Pc [.ref (a 0), .int x0, .int x1] (PW D cy sz (MW cy a (fun _ => 0) (fun _ => 0) (fun _ _ => 0) (fun _ _ => 0)))) (va_Qi (fun r (_ : Unit) => r = a_row x0 x1) (fun _ _ => True) (va_A (MW cy a (fun _ => 0) (fun _ => 0) (fun _ _ => 0) (fun _ _ => 0)) sz)) 0 0 (va_A (MW cy a (fun _ => 0) (fun _ => 0) (fun _ _ => 0) (fun _ _ => 0)) sz) := by
  refine Met.ofW (cc := cX10_row) (maxL := 3) (ret := (some .int)) (by decide) rfl ?_
  intro p e s m args below meth c s₁ B hml hv
  obtain ⟨rfl, rfl, hP, hK, hN, hD0⟩ := hv
  have hx := B.exec
  have hb := B.bytes
  have hr := B.returns
  have hts := atoms_spec (ws := wsX10_row) B.pre
  have hown : s.vm.findClass RX10 = some m.cls := findClass_of_methodNamed B.named
  have hlocks := B.notSynchronized
  have hw0 := hts (.constant RX10 141 (-100001)) (by decide +kernel)
  have hw1 := hts (.fieldLink RX10 81 "ParquetLayerModel" "floor" "J") (by decide +kernel)
  have hw2 := hts (.constantLong RX10 142 (255)) (by decide +kernel)
  have hw3 := hts (.constantLong RX10 126 (-1)) (by decide +kernel)
  have hi10 := ihX10_row_10
  have hD := hD0.self (sz := s.heap.size)
  generalize hAe : va_A (MW cy a (fun _ => 0) (fun _ => 0) (fun _ _ => 0) (fun _ _ => 0)) s.heap.size = A at hD ⊢
  have hA : ∀ q : Nat, s.heap.size ≤ q → A q := fun q h => by rw [← hAe]; exact Or.inr h
  have hS : va_S A s.heap s.heap [] := va_S.rf
  have hl := lv_entry ([.ref (a 0), .int x0, .int x1]) (n := 3) (Nat.le_of_ble_eq_true rfl)
  rw [lg_entry_eq]
  generalize (lg_sl ([.ref (a 0), .int x0, .int x1]) ++ List.replicate (3 - (lg_sl ([.ref (a 0), .int x0, .int x1])).length) Slot.unset).toArray = ls at hl ⊢
  have hl : lv_has ls 3 [(0, .ref (a 0)), (1, .int x0), (2, .int x1)] := hl
  refine lv_iload_n hx hb dX10_row_0 rfl (lv_at hl 1 rfl) ?_
  refine lv_iconst (v := 0) hx hb dX10_row_1 (by decide) ?_
  refine lv_bipush (v := 7) hx hb dX10_row_2 (by decide) ?_
  refine kS_i (As := [.int x0, .int 0, .int 7]) (rest := []) ⟨hx, hb, hml, hown, hts⟩ (c_X10_within l x0 0 7) (va_cwS 3 hts gX10_row_X10_within rfl rfl rfl (by decide +kernel) ⟨Nat.le_of_ble_eq_true rfl, Nat.le_of_ble_eq_true rfl⟩) rfl hl.1 rfl (Nat.le_of_ble_eq_true rfl) dX10_row_4 ⟨Nat.le_of_ble_eq_true rfl, Nat.le_of_ble_eq_true rfl⟩ ?_
  refine lv_if_eq (tgt := 21) hx hb dX10_row_7 (by decide) (fun c_1 => ?_) (fun c_1 => ?_)
  · replace c_1 := bI_f c_1
    refine lv_aload_n hx hb dX10_row_21 rfl (lv_at hl 0 rfl) ?_
    refine lv_ldc (v := (-100001)) hx hb hown hw0 dX10_row_22 ?_
    refine kM_i (As := [.int (-100001)]) (rest := []) (q0 := 0) ⟨hx, hb, hml, hown, hts⟩ (c_X10_finding l D cy a _ (fun _ => 0) (fun _ => 0) (fun _ _ => 0) (fun _ _ => 0) (-100001) ) (cwV 1 hts gX10_row_X10_finding rfl rfl rfl (by decide +kernel) ⟨Nat.le_of_ble_eq_true rfl, Nat.le_of_ble_eq_true rfl⟩) hK hN hP hD hS hA rfl rfl rfl hl.1 rfl (Nat.le_of_ble_eq_true rfl) dX10_row_24 ⟨Nat.le_of_ble_eq_true rfl, Nat.le_of_ble_eq_true rfl⟩ (fun r u H locs hw hP hD hS => ?_)
    obtain ⟨rfl, rfl⟩ := hw
    have hP : va_P D vwCl (MW cy a (fun _ => 0) (va_up (fun _ => 0) 13 (0 + 1)) (fun _ _ => 0) (fun _ _ => 0)) H := hP
    have hD : va_D A (MW cy a (fun _ => 0) (va_up (fun _ => 0) 13 (0 + 1)) (fun _ _ => 0) (fun _ _ => 0)) := hD
    exact qret_i hx hb hr hlocks (by simp [a_row, c_1]) hS dX10_row_27
  · replace c_1 := bI_t c_1
    refine lv_iload_n hx hb dX10_row_10 rfl (lv_at hl 2 rfl) ?_
    refine lv_iconst (v := 0) hx hb dX10_row_11 (by decide) ?_
    refine lv_sipush (v := 255) hx hb dX10_row_12 (by decide) ?_
    refine kS_i (As := [.int x1, .int 0, .int 255]) (rest := []) ⟨hx, hb, hml, hown, hts⟩ (c_X10_within l x1 0 255) (va_cwS 3 hts gX10_row_X10_within rfl rfl rfl (by decide +kernel) ⟨Nat.le_of_ble_eq_true rfl, Nat.le_of_ble_eq_true rfl⟩) rfl hl.1 rfl (Nat.le_of_ble_eq_true rfl) dX10_row_15 ⟨Nat.le_of_ble_eq_true rfl, Nat.le_of_ble_eq_true rfl⟩ ?_
    refine lv_if_ne (tgt := 28) hx hb dX10_row_18 (by decide) (fun c_2 => ?_) (fun c_2 => ?_)
    · replace c_2 := bI_t c_2
      refine lv_aload_n hx hb dX10_row_28 rfl (lv_at hl 0 rfl) ?_
      refine lv_aload_n hx hb dX10_row_29 rfl (lv_at hl 0 rfl) ?_
      refine va_get (D := D) (ci := 9) (v := .long 0) (C := RX10) (T := TX10) (N := 30) hx hb hts hi10 hown hK hP 0 rfl rfl 0 (by decide) hw1 (fun _ h9 => h9) rfl dX10_row_30 ?_
      refine lv_ldc2 (v := 255) hx hb hown hw2 dX10_row_33 ?_
      refine lv_bipush (v := 8) hx hb dX10_row_36 (by decide) ?_
      refine lv_iload_n hx hb dX10_row_38 rfl (lv_at hl 1 rfl) ?_
      refine lv_imul hx hb dX10_row_39 ?_
      refine lv_lshl (v := (255 : Int64) <<< ((8 * x0 : Int32).toInt64 &&& 63)) hx hb dX10_row_40 rfl ?_
      refine lv_ldc2 (v := (-1)) hx hb hown hw3 dX10_row_41 ?_
      refine lv_lxor hx hb dX10_row_44 ?_
      refine lv_land hx hb dX10_row_45 ?_
      refine lv_iload_n hx hb dX10_row_46 rfl (lv_at hl 2 rfl) ?_
      refine lv_i2l (v := (x1 : Int32).toInt64) hx hb dX10_row_47 rfl ?_
      refine lv_bipush (v := 8) hx hb dX10_row_48 (by decide) ?_
      refine lv_iload_n hx hb dX10_row_50 rfl (lv_at hl 1 rfl) ?_
      refine lv_imul hx hb dX10_row_51 ?_
      refine lv_lshl (v := ((x1 : Int32).toInt64) <<< ((8 * x0 : Int32).toInt64 &&& 63)) hx hb dX10_row_52 rfl ?_
      refine lv_lor hx hb dX10_row_53 ?_
      refine wtop_l (y := rowset x0 x1) rfl ?_
      refine kM_i (As := [.long (rowset x0 x1)]) (rest := []) (q0 := 0) ⟨hx, hb, hml, hown, hts⟩ (hv_X10_newFloor l D cy a _  (rowset x0 x1) ) (cwV 1 hts gX10_row_X10_newFloor rfl rfl rfl (by decide +kernel) ⟨Nat.le_of_ble_eq_true rfl, Nat.le_of_ble_eq_true rfl⟩) hK hN hP hD hS hA rfl rfl rfl hl.1 rfl (Nat.le_of_ble_eq_true rfl) dX10_row_54 ⟨Nat.le_of_ble_eq_true rfl, Nat.le_of_ble_eq_true rfl⟩ (fun r u H locs hw hP hD hS => ?_)
      obtain ⟨Jh_3, Ih_4, Rh_5, RJh_6⟩ := u
      try dsimp only at hw
      obtain ⟨rfl, -⟩ := hw
      have hP : va_P D vwCl (MW cy a Jh_3 Ih_4 Rh_5 RJh_6) H := hP
      have hD : va_D A (MW cy a Jh_3 Ih_4 Rh_5 RJh_6) := hD
      exact qret_i hx hb hr hlocks (by simp [a_row, c_1, c_2]) hS dX10_row_57
    · replace c_2 := bI_f c_2
      refine lv_aload_n hx hb dX10_row_21 rfl (lv_at hl 0 rfl) ?_
      refine lv_ldc (v := (-100001)) hx hb hown hw0 dX10_row_22 ?_
      refine kM_i (As := [.int (-100001)]) (rest := []) (q0 := 0) ⟨hx, hb, hml, hown, hts⟩ (c_X10_finding l D cy a _ (fun _ => 0) (fun _ => 0) (fun _ _ => 0) (fun _ _ => 0) (-100001) ) (cwV 1 hts gX10_row_X10_finding rfl rfl rfl (by decide +kernel) ⟨Nat.le_of_ble_eq_true rfl, Nat.le_of_ble_eq_true rfl⟩) hK hN hP hD hS hA rfl rfl rfl hl.1 rfl (Nat.le_of_ble_eq_true rfl) dX10_row_24 ⟨Nat.le_of_ble_eq_true rfl, Nat.le_of_ble_eq_true rfl⟩ (fun r u H locs hw hP hD hS => ?_)
      obtain ⟨rfl, rfl⟩ := hw
      have hP : va_P D vwCl (MW cy a (fun _ => 0) (va_up (fun _ => 0) 13 (0 + 1)) (fun _ _ => 0) (fun _ _ => 0)) H := hP
      have hD : va_D A (MW cy a (fun _ => 0) (va_up (fun _ => 0) 13 (0 + 1)) (fun _ _ => 0) (fun _ _ => 0)) := hD
      exact qret_i hx hb hr hlocks (by simp [a_row, c_1, c_2]) hS dX10_row_27
theorem dX10_has_0 : decode cX10_has 0 = .ok (.iload_n 1, 1) := by decide +kernel
set_option maxRecDepth 20000 in
theorem ggX10_has_X10_isField : GoodIn wsX10_has wsX10_isField := goodIn_r _ [6, 7, 8, 5, 9] (by decide +kernel) (by decide +kernel)
set_option maxRecDepth 20000 in
theorem gX10_has_X10_isField : GoodIn wsX10_has (va_wsS RX10 147 yX10_isField wsX10_isField) := goodIn_app (goodIn_of _ (by decide +kernel)) ggX10_has_X10_isField
theorem dX10_has_1 : decode cX10_has 1 = .ok (.invokestatic 147, 3) := by decide +kernel
theorem dX10_has_4 : decode cX10_has 4 = .ok (.ifCond .ne 12, 3) := by decide +kernel
theorem dX10_has_16 : decode cX10_has 16 = .ok (.aload_n 0, 1) := by decide +kernel
theorem dX10_has_17 : decode cX10_has 17 = .ok (.getfield 81, 3) := by decide +kernel
theorem dX10_has_20 : decode cX10_has 20 = .ok (.iload_n 1, 1) := by decide +kernel
set_option maxRecDepth 20000 in
theorem ggX10_has_X10_hasBit : GoodIn wsX10_has wsX10_hasBit := goodIn_r _ [17] (by decide +kernel) (by decide +kernel)
set_option maxRecDepth 20000 in
theorem gX10_has_X10_hasBit : GoodIn wsX10_has (va_wsS RX10 74 yX10_hasBit wsX10_hasBit) := goodIn_app (goodIn_of _ (by decide +kernel)) ggX10_has_X10_hasBit
theorem dX10_has_21 : decode cX10_has 21 = .ok (.invokestatic 74, 3) := by decide +kernel
theorem dX10_has_24 : decode cX10_has 24 = .ok (.ifCond .eq 7, 3) := by decide +kernel
theorem dX10_has_31 : decode cX10_has 31 = .ok (.iconst 0, 1) := by decide +kernel
theorem dX10_has_32 : decode cX10_has 32 = .ok (.ireturn, 1) := by decide +kernel
theorem dX10_has_7 : decode cX10_has 7 = .ok (.aload_n 0, 1) := by decide +kernel
theorem dX10_has_8 : decode cX10_has 8 = .ok (.ldc 141, 2) := by decide +kernel
set_option maxRecDepth 20000 in
theorem ggX10_has_X10_finding : GoodIn wsX10_has wsX10_finding := goodIn_r _ [13, 14, 18, 19, 20, 21, 22, 23, 24, 25, 26, 27, 28, 29, 30, 31, 32, 33, 34, 35, 36, 37, 38, 39, 40, 41, 42, 43, 44, 45, 46, 47] (by decide +kernel) (by decide +kernel)
set_option maxRecDepth 20000 in
theorem gX10_has_X10_finding : GoodIn wsX10_has (wsV RX10 99 RX10 yX10_finding wsX10_finding) := goodIn_app (goodIn_of _ (by decide +kernel)) ggX10_has_X10_finding
theorem dX10_has_10 : decode cX10_has 10 = .ok (.invokevirtual 99, 3) := by decide +kernel
theorem dX10_has_13 : decode cX10_has 13 = .ok (.goto 19, 3) := by decide +kernel
set_option maxRecDepth 20000 in
theorem ihX10_has_10 : ∀ w ∈ u_ws RX10 TX10 30, w ∈ wsX10_has := by decide +kernel
set_option maxHeartbeats 4000000 in
set_option maxRecDepth 100000 in
theorem mp_X10_has (l : Launch) (D : va_G) (cy : Nat → ClassId) (a : Nat → Nat) (sz : Nat) (x0 : Int32) : Met l yX10_has wsX10_has ({ frames := 2, cells := 0, slots := 0, locals := 42 }) (va_Pc [.ref (a 0), .int x0] (PW D cy sz (MW cy a (fun _ => 0) (fun _ => 0) (fun _ _ => 0) (fun _ _ => 0)))) (va_Qi (fun r (_ : Unit) => r = a_fld x0 0) (fun _ _ => True) (va_A (MW cy a (fun _ => 0) (fun _ => 0) (fun _ _ => 0) (fun _ _ => 0)) sz)) 0 0 (va_A (MW cy a (fun _ => 0) (fun _ => 0) (fun _ _ => 0) (fun _ _ => 0)) sz) := by
  refine Met.ofW (cc := cX10_has) (maxL := 2) (ret := (some .int)) (by decide) rfl ?_
  intro p e s m args below meth c s₁ B hml hv
  obtain ⟨rfl, rfl, hP, hK, hN, hD0⟩ := hv
  have hx := B.exec
  have hb := B.bytes
  have hr := B.returns
  have hts := atoms_spec (ws := wsX10_has) B.pre
  have hown : s.vm.findClass RX10 = some m.cls := findClass_of_methodNamed B.named
  have hlocks := B.notSynchronized
  have hw0 := hts (.fieldLink RX10 81 "ParquetLayerModel" "floor" "J") (by decide +kernel)
  have hw1 := hts (.constant RX10 141 (-100001)) (by decide +kernel)
  have hi10 := ihX10_has_10
  have hD := hD0.self (sz := s.heap.size)
  generalize hAe : va_A (MW cy a (fun _ => 0) (fun _ => 0) (fun _ _ => 0) (fun _ _ => 0)) s.heap.size = A at hD ⊢
  have hA : ∀ q : Nat, s.heap.size ≤ q → A q := fun q h => by rw [← hAe]; exact Or.inr h
  have hS : va_S A s.heap s.heap [] := va_S.rf
  have hl := lv_entry ([.ref (a 0), .int x0]) (n := 2) (Nat.le_of_ble_eq_true rfl)
  rw [lg_entry_eq]
  generalize (lg_sl ([.ref (a 0), .int x0]) ++ List.replicate (2 - (lg_sl ([.ref (a 0), .int x0])).length) Slot.unset).toArray = ls at hl ⊢
  have hl : lv_has ls 2 [(0, .ref (a 0)), (1, .int x0)] := hl
  refine lv_iload_n hx hb dX10_has_0 rfl (lv_at hl 1 rfl) ?_
  refine kS_i (As := [.int x0]) (rest := []) ⟨hx, hb, hml, hown, hts⟩ (c_X10_isField l x0) (va_cwS 1 hts gX10_has_X10_isField rfl rfl rfl (by decide +kernel) ⟨Nat.le_of_ble_eq_true rfl, Nat.le_of_ble_eq_true rfl⟩) rfl hl.1 rfl (Nat.le_of_ble_eq_true rfl) dX10_has_1 ⟨Nat.le_of_ble_eq_true rfl, Nat.le_of_ble_eq_true rfl⟩ ?_
  refine lv_if_ne (tgt := 16) hx hb dX10_has_4 (by decide) (fun c_1 => ?_) (fun c_1 => ?_)
  · replace c_1 := bI_t c_1
    refine lv_aload_n hx hb dX10_has_16 rfl (lv_at hl 0 rfl) ?_
    refine va_get (D := D) (ci := 9) (v := .long 0) (C := RX10) (T := TX10) (N := 30) hx hb hts hi10 hown hK hP 0 rfl rfl 0 (by decide) hw0 (fun _ h9 => h9) rfl dX10_has_17 ?_
    refine lv_iload_n hx hb dX10_has_20 rfl (lv_at hl 1 rfl) ?_
    refine kS_i (As := [.long 0, .int x0]) (rest := []) ⟨hx, hb, hml, hown, hts⟩ (c_X10_hasBit l 0 x0) (va_cwS 2 hts gX10_has_X10_hasBit rfl rfl rfl (by decide +kernel) ⟨Nat.le_of_ble_eq_true rfl, Nat.le_of_ble_eq_true rfl⟩) rfl hl.1 rfl (Nat.le_of_ble_eq_true rfl) dX10_has_21 ⟨Nat.le_of_ble_eq_true rfl, Nat.le_of_ble_eq_true rfl⟩ ?_
    refine lv_if_eq (tgt := 31) hx hb dX10_has_24 (by decide) (fun c_2 => ?_) (fun c_2 => absurd (by rw [m_hasBit0]; rfl) c_2)
    refine lv_iconst (v := 0) hx hb dX10_has_31 (by decide) ?_
    exact qret_i hx hb hr hlocks (by simp [a_fld, c_1]) hS dX10_has_32
  · replace c_1 := bI_f c_1
    refine lv_aload_n hx hb dX10_has_7 rfl (lv_at hl 0 rfl) ?_
    refine lv_ldc (v := (-100001)) hx hb hown hw1 dX10_has_8 ?_
    refine kM_i (As := [.int (-100001)]) (rest := []) (q0 := 0) ⟨hx, hb, hml, hown, hts⟩ (c_X10_finding l D cy a _ (fun _ => 0) (fun _ => 0) (fun _ _ => 0) (fun _ _ => 0) (-100001) ) (cwV 1 hts gX10_has_X10_finding rfl rfl rfl (by decide +kernel) ⟨Nat.le_of_ble_eq_true rfl, Nat.le_of_ble_eq_true rfl⟩) hK hN hP hD hS hA rfl rfl rfl hl.1 rfl (Nat.le_of_ble_eq_true rfl) dX10_has_10 ⟨Nat.le_of_ble_eq_true rfl, Nat.le_of_ble_eq_true rfl⟩ (fun r u H locs hw hP hD hS => ?_)
    obtain ⟨rfl, rfl⟩ := hw
    have hP : va_P D vwCl (MW cy a (fun _ => 0) (va_up (fun _ => 0) 13 (0 + 1)) (fun _ _ => 0) (fun _ _ => 0)) H := hP
    have hD : va_D A (MW cy a (fun _ => 0) (va_up (fun _ => 0) 13 (0 + 1)) (fun _ _ => 0) (fun _ _ => 0)) := hD
    refine lv_goto (tgt := 32) hx hb dX10_has_13 (by decide) ?_
    exact qret_i hx hb hr hlocks (by simp [a_fld, c_1]) hS dX10_has_32
theorem dX10_pieces_25 : decode cX10_pieces 25 = .ok (.iload_n 3, 1) := by decide +kernel
theorem dX10_pieces_26 : decode cX10_pieces 26 = .ok (.bipush 100, 2) := by decide +kernel
theorem dX10_pieces_28 : decode cX10_pieces 28 = .ok (.if_icmp .ge 117, 3) := by decide +kernel
theorem dX10_pieces_145 : decode cX10_pieces 145 = .ok (.iload_n 2, 1) := by decide +kernel
theorem dX10_pieces_146 : decode cX10_pieces 146 = .ok (.ireturn, 1) := by decide +kernel
theorem dX10_pieces_31 : decode cX10_pieces 31 = .ok (.aload_n 0, 1) := by decide +kernel
theorem dX10_pieces_32 : decode cX10_pieces 32 = .ok (.getfield 42, 3) := by decide +kernel
theorem dX10_pieces_35 : decode cX10_pieces 35 = .ok (.iload_n 3, 1) := by decide +kernel
theorem dX10_pieces_36 : decode cX10_pieces 36 = .ok (.baload, 1) := by decide +kernel
theorem dX10_pieces_37 : decode cX10_pieces 37 = .ok (.ifCond .ne 102, 3) := by decide +kernel
theorem dX10_pieces_139 : decode cX10_pieces 139 = .ok (.iinc 3 1, 3) := by decide +kernel
theorem dX10_pieces_142 : decode cX10_pieces 142 = .ok (.goto (-117), 3) := by decide +kernel
theorem dX10_pieces_40 : decode cX10_pieces 40 = .ok (.aload_n 0, 1) := by decide +kernel
theorem dX10_pieces_41 : decode cX10_pieces 41 = .ok (.getfield 81, 3) := by decide +kernel
theorem dX10_pieces_44 : decode cX10_pieces 44 = .ok (.iload_n 3, 1) := by decide +kernel
theorem dX10_pieces_45 : decode cX10_pieces 45 = .ok (.iload_n 1, 1) := by decide +kernel
set_option maxRecDepth 20000 in
theorem ggX10_pieces_X10_isOf : GoodIn wsX10_pieces wsX10_isOf := goodIn_r _ [6, 7, 8, 5, 9, 10, 11, 12, 13, 14, 15] (by decide +kernel) (by decide +kernel)
set_option maxRecDepth 20000 in
theorem gX10_pieces_X10_isOf : GoodIn wsX10_pieces (va_wsS RX10 150 yX10_isOf wsX10_isOf) := goodIn_app (goodIn_of _ (by decide +kernel)) ggX10_pieces_X10_isOf
theorem dX10_pieces_46 : decode cX10_pieces 46 = .ok (.invokestatic 150, 3) := by decide +kernel
theorem dX10_pieces_49 : decode cX10_pieces 49 = .ok (.ifCond .ne 6, 3) := by decide +kernel
theorem dX10_pieces_52 : decode cX10_pieces 52 = .ok (.goto 87, 3) := by decide +kernel
theorem dX10_pieces_4 : decode cX10_pieces 4 = .ok (.iload_n 3, 1) := by decide +kernel
theorem dX10_pieces_5 : decode cX10_pieces 5 = .ok (.bipush 100, 2) := by decide +kernel
theorem dX10_pieces_7 : decode cX10_pieces 7 = .ok (.if_icmp .ge 16, 3) := by decide +kernel
theorem dX10_pieces_23 : decode cX10_pieces 23 = .ok (.iconst 0, 1) := by decide +kernel
theorem dX10_pieces_24 : decode cX10_pieces 24 = .ok (.istore_n 3, 1) := by decide +kernel
theorem dX10_pieces_10 : decode cX10_pieces 10 = .ok (.aload_n 0, 1) := by decide +kernel
theorem dX10_pieces_11 : decode cX10_pieces 11 = .ok (.getfield 42, 3) := by decide +kernel
theorem dX10_pieces_14 : decode cX10_pieces 14 = .ok (.iload_n 3, 1) := by decide +kernel
theorem dX10_pieces_15 : decode cX10_pieces 15 = .ok (.iconst 0, 1) := by decide +kernel
theorem dX10_pieces_16 : decode cX10_pieces 16 = .ok (.bastore, 1) := by decide +kernel
theorem dX10_pieces_17 : decode cX10_pieces 17 = .ok (.iinc 3 1, 3) := by decide +kernel
theorem dX10_pieces_20 : decode cX10_pieces 20 = .ok (.goto (-16), 3) := by decide +kernel
theorem dX10_pieces_0 : decode cX10_pieces 0 = .ok (.iconst 0, 1) := by decide +kernel
theorem dX10_pieces_1 : decode cX10_pieces 1 = .ok (.istore_n 2, 1) := by decide +kernel
theorem dX10_pieces_2 : decode cX10_pieces 2 = .ok (.iconst 0, 1) := by decide +kernel
theorem dX10_pieces_3 : decode cX10_pieces 3 = .ok (.istore_n 3, 1) := by decide +kernel
set_option maxRecDepth 20000 in
theorem ihX10_pieces_10 : ∀ w ∈ u_ws RX10 TX10 30, w ∈ wsX10_pieces := by decide +kernel
set_option maxHeartbeats 4000000 in
set_option maxRecDepth 100000 in
theorem hv_X10_pieces (l : Launch) (D : va_G) (cy : Nat → ClassId) (a : Nat → Nat) (sz : Nat)   : Met l yX10_pieces wsX10_pieces ({ frames := 3, cells := 0, slots := 0, locals := 68 }) (va_Pc [.ref (a 0), .int 1] (PW D cy sz (MW cy a (fun _ => 0) (fun _ => 0) (fun _ _ => 0) (fun _ _ => 0)))) (va_Qi (fun r (u : MS) => r = 0 ∧ True) (BW D (va_A (MW cy a (fun _ => 0) (fun _ => 0) (fun _ _ => 0) (fun _ _ => 0)) sz) (MWu cy a)) (va_A (MW cy a (fun _ => 0) (fun _ => 0) (fun _ _ => 0) (fun _ _ => 0)) sz)) 0 0 (va_A (MW cy a (fun _ => 0) (fun _ => 0) (fun _ _ => 0) (fun _ _ => 0)) sz) := by
  refine Met.ofW (cc := cX10_pieces) (maxL := 6) (ret := (some .int)) (by decide) rfl ?_
  intro p e s m args below meth c s₁ B hml hv
  obtain ⟨rfl, rfl, hP, hK, hN, hD0⟩ := hv
  have hx := B.exec
  have hb := B.bytes
  have hr := B.returns
  have hts := atoms_spec (ws := wsX10_pieces) B.pre
  have hown : s.vm.findClass RX10 = some m.cls := findClass_of_methodNamed B.named
  have hlocks := B.notSynchronized
  have hw0 := hts (.fieldLink RX10 42 "ParquetLayerModel" "met" "[Z") (by decide +kernel)
  have hw1 := hts (.fieldLink RX10 81 "ParquetLayerModel" "floor" "J") (by decide +kernel)
  have hi10 := ihX10_pieces_10
  have hD := hD0.self (sz := s.heap.size)
  generalize hAe : va_A (MW cy a (fun _ => 0) (fun _ => 0) (fun _ _ => 0) (fun _ _ => 0)) s.heap.size = A at hD ⊢
  have hA : ∀ q : Nat, s.heap.size ≤ q → A q := fun q h => by rw [← hAe]; exact Or.inr h
  have hS : va_S A s.heap s.heap [] := va_S.rf
  have hl := lv_entry ([.ref (a 0), .int 1]) (n := 6) (Nat.le_of_ble_eq_true rfl)
  rw [lg_entry_eq]
  generalize (lg_sl ([.ref (a 0), .int 1]) ++ List.replicate (6 - (lg_sl ([.ref (a 0), .int 1])).length) Slot.unset).toArray = ls at hl ⊢
  have hl : lv_has ls 6 [(0, .ref (a 0)), (1, .int 1)] := hl
  have lp25 : ∀ (n25 : Nat), ∀ (i : Nat) (R1 : Nat → Nat → Int32), (i ≤ 100) → (100 - i) < n25 → ∀ (H : Heap) (locs : List Loc), va_P D vwCl (MW cy a (fun _ => 0) (fun _ => 0) R1 (fun _ _ => 0)) H → va_D A (MW cy a (fun _ => 0) (fun _ => 0) R1 (fun _ _ => 0)) → va_S A s.heap H locs → ∀ (ls : Array Slot), lv_has ls 6 [(0, .ref (a 0)), (1, .int 1), (2, .int 0), (3, .int (nI i))] → W p l e (headSpec wsX10_pieces ({ frames := 3, cells := 0, slots := 0, locals := 68 })).room s m ([.ref (a 0), .int 1] : List Value).toArray below meth c H locs 0 0 (MQ below (va_Qi (fun r (u : MS) => r = 0 ∧ True) (BW D A (MWu cy a)) A) ([.ref (a 0), .int 1] : List Value).toArray s 0 0 A) (F0 m 25 ls []) := by
    intro n25
    induction n25 with
    | zero => intro i R1 hi hn; exact absurd hn (Nat.not_lt_zero _)
    | succ n25 ih25 =>
      intro i R1 hi hn25 H locs hP hD hS ls hl
      refine lv_iload_n hx hb dX10_pieces_25 rfl (lv_at hl 3 rfl) ?_
      refine lv_bipush (v := 100) hx hb dX10_pieces_26 (by decide) ?_
      refine lv_icmp_ge (tgt := 145) hx hb dX10_pieces_28 (by decide) (fun c_1 => ?_) (fun c_1 => ?_)
      · have hie := ctr_ge (N := 100) (by decide) hi c_1
        subst hie
        refine lv_iload_n hx hb dX10_pieces_145 rfl (lv_at hl 2 rfl) ?_
        exact wret_i hx hb hr hlocks ((fun _ => 0), (fun _ => 0), R1, (fun _ _ => 0)) ⟨rfl, trivial⟩ hP hD hS dX10_pieces_146
      · have hlt := ctr_lt (N := 100) (by decide) hi c_1
        refine lv_aload_n hx hb dX10_pieces_31 rfl (lv_at hl 0 rfl) ?_
        refine va_get (D := D) (ci := 9) (v := .ref (a 11)) (C := RX10) (T := TX10) (N := 30) hx hb hts hi10 hown hK hP 0 rfl rfl 17 (by decide) hw0 (fun _ h9 => h9) rfl dX10_pieces_32 ?_
        refine lv_iload_n hx hb dX10_pieces_35 rfl (lv_at hl 3 rfl) ?_
        refine va_zald hx hb hK hP 11 2 rfl rfl (vp_in_nI (by omega) (by decide)) dX10_pieces_36 ?_
        refine lv_if_ne (tgt := 139) hx hb dX10_pieces_37 (by decide) (fun c_2 => ?_) (fun c_2 => ?_)
        · refine lv_iinc (v := nI (i + 1)) (lv' := [(3, .int (nI (i + 1))), (0, .ref (a 0)), (1, .int 1), (2, .int 0)]) hx hb dX10_pieces_139 hl (k := 3) rfl (nI_1 _) (by decide) rfl (fun ls hl => ?_)
          refine lv_goto (tgt := 25) hx hb dX10_pieces_142 (by decide) ?_
          exact ih25 (i + 1) R1 (by omega) (by omega) _ _ hP hD hS ls (lv_sub hl [1, 2, 3, 0] rfl)
        · refine lv_aload_n hx hb dX10_pieces_40 rfl (lv_at hl 0 rfl) ?_
          refine va_get (D := D) (ci := 9) (v := .long 0) (C := RX10) (T := TX10) (N := 30) hx hb hts hi10 hown hK hP 0 rfl rfl 0 (by decide) hw1 (fun _ h9 => h9) rfl dX10_pieces_41 ?_
          refine lv_iload_n hx hb dX10_pieces_44 rfl (lv_at hl 3 rfl) ?_
          refine lv_iload_n hx hb dX10_pieces_45 rfl (lv_at hl 1 rfl) ?_
          refine kS_i (As := [.long 0, .int (nI i), .int 1]) (rest := []) ⟨hx, hb, hml, hown, hts⟩ (c_X10_isOf l 0 (nI i) true) (va_cwS 3 hts gX10_pieces_X10_isOf rfl rfl rfl (by decide +kernel) ⟨Nat.le_of_ble_eq_true rfl, Nat.le_of_ble_eq_true rfl⟩) rfl hl.1 rfl (Nat.le_of_ble_eq_true rfl) dX10_pieces_46 ⟨Nat.le_of_ble_eq_true rfl, Nat.le_of_ble_eq_true rfl⟩ ?_
          refine lv_if_ne (tgt := 55) hx hb dX10_pieces_49 (by decide) (fun c_3 => absurd (by rw [m_isOf0]; rfl) c_3) (fun c_3 => ?_)
          refine lv_goto (tgt := 139) hx hb dX10_pieces_52 (by decide) ?_
          refine lv_iinc (v := nI (i + 1)) (lv' := [(3, .int (nI (i + 1))), (0, .ref (a 0)), (1, .int 1), (2, .int 0)]) hx hb dX10_pieces_139 hl (k := 3) rfl (nI_1 _) (by decide) rfl (fun ls hl => ?_)
          refine lv_goto (tgt := 25) hx hb dX10_pieces_142 (by decide) ?_
          exact ih25 (i + 1) R1 (by omega) (by omega) _ _ hP hD hS ls (lv_sub hl [1, 2, 3, 0] rfl)
  have lp4 : ∀ (n4 : Nat), ∀ (i : Nat) (R1 : Nat → Nat → Int32), (i ≤ 100) → (100 - i) < n4 → ∀ (H : Heap) (locs : List Loc), va_P D vwCl (MW cy a (fun _ => 0) (fun _ => 0) R1 (fun _ _ => 0)) H → va_D A (MW cy a (fun _ => 0) (fun _ => 0) R1 (fun _ _ => 0)) → va_S A s.heap H locs → ∀ (ls : Array Slot), lv_has ls 6 [(0, .ref (a 0)), (1, .int 1), (2, .int 0), (3, .int (nI i))] → W p l e (headSpec wsX10_pieces ({ frames := 3, cells := 0, slots := 0, locals := 68 })).room s m ([.ref (a 0), .int 1] : List Value).toArray below meth c H locs 0 0 (MQ below (va_Qi (fun r (u : MS) => r = 0 ∧ True) (BW D A (MWu cy a)) A) ([.ref (a 0), .int 1] : List Value).toArray s 0 0 A) (F0 m 4 ls []) := by
    intro n4
    induction n4 with
    | zero => intro i R1 hi hn; exact absurd hn (Nat.not_lt_zero _)
    | succ n4 ih4 =>
      intro i R1 hi hn4 H locs hP hD hS ls hl
      refine lv_iload_n hx hb dX10_pieces_4 rfl (lv_at hl 3 rfl) ?_
      refine lv_bipush (v := 100) hx hb dX10_pieces_5 (by decide) ?_
      refine lv_icmp_ge (tgt := 23) hx hb dX10_pieces_7 (by decide) (fun c_4 => ?_) (fun c_4 => ?_)
      · have hie := ctr_ge (N := 100) (by decide) hi c_4
        subst hie
        refine lv_iconst (v := 0) hx hb dX10_pieces_23 (by decide) ?_
        refine lv_istore_n (lv' := [(3, .int 0), (0, .ref (a 0)), (1, .int 1), (2, .int 0)]) hx hb dX10_pieces_24 rfl hl (by decide) rfl (fun ls hl => ?_)
        exact lp25 _ 0 R1 (by omega) (Nat.lt_succ_self _) _ _ hP hD hS ls (lv_sub hl [1, 2, 3, 0] rfl)
      · have hlt := ctr_lt (N := 100) (by decide) hi c_4
        refine lv_aload_n hx hb dX10_pieces_10 rfl (lv_at hl 0 rfl) ?_
        refine va_get (D := D) (ci := 9) (v := .ref (a 11)) (C := RX10) (T := TX10) (N := 30) hx hb hts hi10 hown hK hP 0 rfl rfl 17 (by decide) hw0 (fun _ h9 => h9) rfl dX10_pieces_11 ?_
        refine lv_iload_n hx hb dX10_pieces_14 rfl (lv_at hl 3 rfl) ?_
        refine lv_iconst (v := 0) hx hb dX10_pieces_15 (by decide) ?_
        refine va_zast hx hb hK hP hD hS 11 2 rfl rfl (vp_in_nI (by omega) (by decide)) dX10_pieces_16 (fun H locs hP hD hS => ?_)
        have hP : va_P D vwCl (MW cy a (fun _ => 0) (fun _ => 0) (va_up R1 11 (upd (R1 11) (nI i).toNatClampNeg (vp_nar .boolean 0))) (fun _ _ => 0)) H := hP
        have hD : va_D A (MW cy a (fun _ => 0) (fun _ => 0) (va_up R1 11 (upd (R1 11) (nI i).toNatClampNeg (vp_nar .boolean 0))) (fun _ _ => 0)) := hD
        refine lv_iinc (v := nI (i + 1)) (lv' := [(3, .int (nI (i + 1))), (0, .ref (a 0)), (1, .int 1), (2, .int 0)]) hx hb dX10_pieces_17 hl (k := 3) rfl (nI_1 _) (by decide) rfl (fun ls hl => ?_)
        refine lv_goto (tgt := 4) hx hb dX10_pieces_20 (by decide) ?_
        exact ih4 (i + 1) (va_up R1 11 (upd (R1 11) (nI i).toNatClampNeg (vp_nar .boolean 0))) (by omega) (by omega) _ _ hP hD hS ls (lv_sub hl [1, 2, 3, 0] rfl)
  refine lv_iconst (v := 0) hx hb dX10_pieces_0 (by decide) ?_
  refine lv_istore_n (lv' := [(2, .int 0), (0, .ref (a 0)), (1, .int 1)]) hx hb dX10_pieces_1 rfl hl (by decide) rfl (fun ls hl => ?_)
  refine lv_iconst (v := 0) hx hb dX10_pieces_2 (by decide) ?_
  refine lv_istore_n (lv' := [(3, .int 0), (2, .int 0), (0, .ref (a 0)), (1, .int 1)]) hx hb dX10_pieces_3 rfl hl (by decide) rfl (fun ls hl => ?_)
  exact lp4 _ 0 (fun _ _ => 0) (by omega) (Nat.lt_succ_self _) _ _ hP hD hS ls (lv_sub hl [2, 3, 1, 0] rfl)
theorem dX10_isWhole_0 : decode cX10_isWhole 0 = .ok (.aload_n 0, 1) := by decide +kernel
theorem dX10_isWhole_1 : decode cX10_isWhole 1 = .ok (.getfield 81, 3) := by decide +kernel
theorem dX10_isWhole_4 : decode cX10_isWhole 4 = .ok (.lconst 0, 1) := by decide +kernel
theorem dX10_isWhole_5 : decode cX10_isWhole 5 = .ok (.lcmp, 1) := by decide +kernel
theorem dX10_isWhole_6 : decode cX10_isWhole 6 = .ok (.ifCond .eq 32, 3) := by decide +kernel
theorem dX10_isWhole_38 : decode cX10_isWhole 38 = .ok (.iconst 0, 1) := by decide +kernel
theorem dX10_isWhole_39 : decode cX10_isWhole 39 = .ok (.ireturn, 1) := by decide +kernel
set_option maxRecDepth 20000 in
theorem ihX10_isWhole_10 : ∀ w ∈ u_ws RX10 TX10 30, w ∈ wsX10_isWhole := by decide +kernel
set_option maxHeartbeats 4000000 in
set_option maxRecDepth 100000 in
theorem c_X10_isWhole (l : Launch) (D : va_G) (cy : Nat → ClassId) (a : Nat → Nat) (sz : Nat)   : Met l yX10_isWhole wsX10_isWhole ({ frames := 0, cells := 0, slots := 0, locals := 0 }) (va_Pc [.ref (a 0)] (PW D cy sz (MW cy a (fun _ => 0) (fun _ => 0) (fun _ _ => 0) (fun _ _ => 0)))) (vp_Si (fun r => r = bI (false))) 0 0 (fun _ => False) := by
  refine Met.ofW (cc := cX10_isWhole) (maxL := 1) (ret := (some .boolean)) (by decide) rfl ?_
  intro p e s m args below meth c s₁ B hml hv
  obtain ⟨rfl, rfl, hP, hK, hN, hD0⟩ := hv
  have hx := B.exec
  have hb := B.bytes
  have hr := B.returns
  have hts := atoms_spec (ws := wsX10_isWhole) B.pre
  have hown : s.vm.findClass RX10 = some m.cls := findClass_of_methodNamed B.named
  have hlocks := B.notSynchronized
  have hw0 := hts (.fieldLink RX10 81 "ParquetLayerModel" "floor" "J") (by decide +kernel)
  have hi10 := ihX10_isWhole_10
  have hD := hD0
  have hl := lv_entry ([.ref (a 0)]) (n := 1) (Nat.le_of_ble_eq_true rfl)
  rw [lg_entry_eq]
  generalize (lg_sl ([.ref (a 0)]) ++ List.replicate (1 - (lg_sl ([.ref (a 0)])).length) Slot.unset).toArray = ls at hl ⊢
  have hl : lv_has ls 1 [(0, .ref (a 0))] := hl
  refine lv_aload_n hx hb dX10_isWhole_0 rfl (lv_at hl 0 rfl) ?_
  refine va_get (D := D) (ci := 9) (v := .long 0) (C := RX10) (T := TX10) (N := 30) hx hb hts hi10 hown hK hP 0 rfl rfl 0 (by decide) hw0 (fun _ h9 => h9) rfl dX10_isWhole_1 ?_
  refine lv_lconst (v := 0) hx hb dX10_isWhole_4 (by decide) ?_
  refine W.lcmp hx hb dX10_isWhole_5 ?_
  refine wtop_i (y := 0) (by decide) ?_
  refine lv_if_eq (tgt := 38) hx hb dX10_isWhole_6 (by decide) (fun c_1 => ?_) (fun c_1 => absurd (by decide) c_1)
  refine lv_iconst (v := 0) hx hb dX10_isWhole_38 (by decide) ?_
  exact pret_z hx hb hr hlocks rfl dX10_isWhole_39
theorem dX10_gluedMany_0 : decode cX10_gluedMany 0 = .ok (.iconst 0, 1) := by decide +kernel
theorem dX10_gluedMany_1 : decode cX10_gluedMany 1 = .ok (.istore_n 1, 1) := by decide +kernel
theorem dX10_gluedMany_2 : decode cX10_gluedMany 2 = .ok (.iconst 0, 1) := by decide +kernel
theorem dX10_gluedMany_3 : decode cX10_gluedMany 3 = .ok (.istore_n 2, 1) := by decide +kernel
theorem dX10_gluedMany_4 : decode cX10_gluedMany 4 = .ok (.iload_n 2, 1) := by decide +kernel
theorem dX10_gluedMany_5 : decode cX10_gluedMany 5 = .ok (.aload_n 0, 1) := by decide +kernel
theorem dX10_gluedMany_6 : decode cX10_gluedMany 6 = .ok (.getfield 85, 3) := by decide +kernel
theorem dX10_gluedMany_9 : decode cX10_gluedMany 9 = .ok (.if_icmp .ge 25, 3) := by decide +kernel
theorem dX10_gluedMany_34 : decode cX10_gluedMany 34 = .ok (.iload_n 1, 1) := by decide +kernel
theorem dX10_gluedMany_35 : decode cX10_gluedMany 35 = .ok (.ireturn, 1) := by decide +kernel
set_option maxRecDepth 20000 in
theorem ihX10_gluedMany_10 : ∀ w ∈ u_ws RX10 TX10 30, w ∈ wsX10_gluedMany := by decide +kernel
set_option maxHeartbeats 4000000 in
set_option maxRecDepth 100000 in
theorem c_X10_gluedMany (l : Launch) (D : va_G) (cy : Nat → ClassId) (a : Nat → Nat) (sz : Nat)   : Met l yX10_gluedMany wsX10_gluedMany ({ frames := 0, cells := 0, slots := 0, locals := 0 }) (va_Pc [.ref (a 0)] (PW D cy sz (MW cy a (fun _ => 0) (fun _ => 0) (fun _ _ => 0) (fun _ _ => 0)))) (vp_Si (fun r => r = 0)) 0 0 (fun _ => False) := by
  refine Met.ofW (cc := cX10_gluedMany) (maxL := 3) (ret := (some .int)) (by decide) rfl ?_
  intro p e s m args below meth c s₁ B hml hv
  obtain ⟨rfl, rfl, hP, hK, hN, hD0⟩ := hv
  have hx := B.exec
  have hb := B.bytes
  have hr := B.returns
  have hts := atoms_spec (ws := wsX10_gluedMany) B.pre
  have hown : s.vm.findClass RX10 = some m.cls := findClass_of_methodNamed B.named
  have hlocks := B.notSynchronized
  have hw0 := hts (.fieldLink RX10 85 "ParquetLayerModel" "stones" "I") (by decide +kernel)
  have hi10 := ihX10_gluedMany_10
  have hD := hD0
  have hl := lv_entry ([.ref (a 0)]) (n := 3) (Nat.le_of_ble_eq_true rfl)
  rw [lg_entry_eq]
  generalize (lg_sl ([.ref (a 0)]) ++ List.replicate (3 - (lg_sl ([.ref (a 0)])).length) Slot.unset).toArray = ls at hl ⊢
  have hl : lv_has ls 3 [(0, .ref (a 0))] := hl
  refine lv_iconst (v := 0) hx hb dX10_gluedMany_0 (by decide) ?_
  refine lv_istore_n (lv' := [(1, .int 0), (0, .ref (a 0))]) hx hb dX10_gluedMany_1 rfl hl (by decide) rfl (fun ls hl => ?_)
  refine lv_iconst (v := 0) hx hb dX10_gluedMany_2 (by decide) ?_
  refine lv_istore_n (lv' := [(2, .int 0), (1, .int 0), (0, .ref (a 0))]) hx hb dX10_gluedMany_3 rfl hl (by decide) rfl (fun ls hl => ?_)
  refine lv_iload_n hx hb dX10_gluedMany_4 rfl (lv_at hl 0 rfl) ?_
  refine lv_aload_n hx hb dX10_gluedMany_5 rfl (lv_at hl 2 rfl) ?_
  refine va_get (D := D) (ci := 9) (v := .int 0) (C := RX10) (T := TX10) (N := 30) hx hb hts hi10 hown hK hP 0 rfl rfl 1 (by decide) hw0 (fun _ h9 => h9) rfl dX10_gluedMany_6 ?_
  refine lv_icmp_ge (tgt := 34) hx hb dX10_gluedMany_9 (by decide) (fun c_1 => ?_) (fun c_1 => absurd (by decide) c_1)
  refine lv_iload_n hx hb dX10_gluedMany_34 rfl (lv_at hl 1 rfl) ?_
  exact pret_i hx hb hr hlocks rfl dX10_gluedMany_35
theorem dX10_isStone_0 : decode cX10_isStone 0 = .ok (.iload_n 1, 1) := by decide +kernel
theorem dX10_isStone_1 : decode cX10_isStone 1 = .ok (.iconst 0, 1) := by decide +kernel
theorem dX10_isStone_2 : decode cX10_isStone 2 = .ok (.aload_n 0, 1) := by decide +kernel
theorem dX10_isStone_3 : decode cX10_isStone 3 = .ok (.getfield 85, 3) := by decide +kernel
theorem dX10_isStone_6 : decode cX10_isStone 6 = .ok (.iconst 1, 1) := by decide +kernel
theorem dX10_isStone_7 : decode cX10_isStone 7 = .ok (.isub, 1) := by decide +kernel
set_option maxRecDepth 20000 in
theorem ggX10_isStone_X10_within : GoodIn wsX10_isStone wsX10_within := goodIn_r _ [5] (by decide +kernel) (by decide +kernel)
set_option maxRecDepth 20000 in
theorem gX10_isStone_X10_within : GoodIn wsX10_isStone (va_wsS RX10 70 yX10_within wsX10_within) := goodIn_app (goodIn_of _ (by decide +kernel)) ggX10_isStone_X10_within
theorem dX10_isStone_8 : decode cX10_isStone 8 = .ok (.invokestatic 70, 3) := by decide +kernel
theorem dX10_isStone_11 : decode cX10_isStone 11 = .ok (.ireturn, 1) := by decide +kernel
set_option maxRecDepth 20000 in
theorem ihX10_isStone_10 : ∀ w ∈ u_ws RX10 TX10 30, w ∈ wsX10_isStone := by decide +kernel
set_option maxHeartbeats 4000000 in
set_option maxRecDepth 100000 in
theorem c_X10_isStone (l : Launch) (D : va_G) (cy : Nat → ClassId) (a : Nat → Nat) (sz : Nat)  (x0 : Int32) : Met l yX10_isStone wsX10_isStone ({ frames := 1, cells := 0, slots := 0, locals := 22 }) (va_Pc [.ref (a 0), .int x0] (PW D cy sz (MW cy a (fun _ => 0) (fun _ => 0) (fun _ _ => 0) (fun _ _ => 0)))) (vp_Si (fun r => r = bI (m_within x0 0 (-1)))) 0 0 (fun _ => False) := by
  refine Met.ofW (cc := cX10_isStone) (maxL := 2) (ret := (some .boolean)) (by decide) rfl ?_
  intro p e s m args below meth c s₁ B hml hv
  obtain ⟨rfl, rfl, hP, hK, hN, hD0⟩ := hv
  have hx := B.exec
  have hb := B.bytes
  have hr := B.returns
  have hts := atoms_spec (ws := wsX10_isStone) B.pre
  have hown : s.vm.findClass RX10 = some m.cls := findClass_of_methodNamed B.named
  have hlocks := B.notSynchronized
  have hw0 := hts (.fieldLink RX10 85 "ParquetLayerModel" "stones" "I") (by decide +kernel)
  have hi10 := ihX10_isStone_10
  have hD := hD0
  have hl := lv_entry ([.ref (a 0), .int x0]) (n := 2) (Nat.le_of_ble_eq_true rfl)
  rw [lg_entry_eq]
  generalize (lg_sl ([.ref (a 0), .int x0]) ++ List.replicate (2 - (lg_sl ([.ref (a 0), .int x0])).length) Slot.unset).toArray = ls at hl ⊢
  have hl : lv_has ls 2 [(0, .ref (a 0)), (1, .int x0)] := hl
  refine lv_iload_n hx hb dX10_isStone_0 rfl (lv_at hl 1 rfl) ?_
  refine lv_iconst (v := 0) hx hb dX10_isStone_1 (by decide) ?_
  refine lv_aload_n hx hb dX10_isStone_2 rfl (lv_at hl 0 rfl) ?_
  refine va_get (D := D) (ci := 9) (v := .int 0) (C := RX10) (T := TX10) (N := 30) hx hb hts hi10 hown hK hP 0 rfl rfl 1 (by decide) hw0 (fun _ h9 => h9) rfl dX10_isStone_3 ?_
  refine lv_iconst (v := 1) hx hb dX10_isStone_6 (by decide) ?_
  refine lv_isub hx hb dX10_isStone_7 ?_
  refine wtop_i (y := (-1)) (by decide) ?_
  refine kS_i (As := [.int x0, .int 0, .int (-1)]) (rest := []) ⟨hx, hb, hml, hown, hts⟩ (c_X10_within l x0 0 (-1)) (va_cwS 3 hts gX10_isStone_X10_within rfl rfl rfl (by decide +kernel) ⟨Nat.le_of_ble_eq_true rfl, Nat.le_of_ble_eq_true rfl⟩) rfl hl.1 rfl (Nat.le_of_ble_eq_true rfl) dX10_isStone_8 ⟨Nat.le_of_ble_eq_true rfl, Nat.le_of_ble_eq_true rfl⟩ ?_
  exact pret_z hx hb hr hlocks rfl dX10_isStone_11
theorem dX10_floor_20 : decode cX10_floor 20 = .ok (.iload_n 3, 1) := by decide +kernel
theorem dX10_floor_21 : decode cX10_floor 21 = .ok (.bipush 64, 2) := by decide +kernel
theorem dX10_floor_23 : decode cX10_floor 23 = .ok (.if_icmp .ge 42, 3) := by decide +kernel
theorem dX10_floor_65 : decode cX10_floor 65 = .ok (.iload_n 1, 1) := by decide +kernel
theorem dX10_floor_66 : decode cX10_floor 66 = .ok (.ifCond .ne 13, 3) := by decide +kernel
theorem dX10_floor_79 : decode cX10_floor 79 = .ok (.iload_n 1, 1) := by decide +kernel
theorem dX10_floor_80 : decode cX10_floor 80 = .ok (.iconst 1, 1) := by decide +kernel
theorem dX10_floor_81 : decode cX10_floor 81 = .ok (.if_icmp .ne 7, 3) := by decide +kernel
theorem dX10_floor_88 : decode cX10_floor 88 = .ok (.iload_n 1, 1) := by decide +kernel
theorem dX10_floor_89 : decode cX10_floor 89 = .ok (.iconst 2, 1) := by decide +kernel
theorem dX10_floor_90 : decode cX10_floor 90 = .ok (.if_icmp .ne 11, 3) := by decide +kernel
theorem dX10_floor_101 : decode cX10_floor 101 = .ok (.aload_n 0, 1) := by decide +kernel
set_option maxRecDepth 20000 in
theorem ggX10_floor_X10_isWhole : GoodIn wsX10_floor wsX10_isWhole := goodIn_r _ [39, 2, 40, 41, 42, 5, 43, 44, 45, 46, 47, 48, 49, 50, 51, 52, 53, 21, 22, 23, 24, 25, 26, 27, 28, 29, 30, 31, 3, 4, 6, 12, 13, 14, 32, 33, 34, 35, 54, 55, 56, 57, 58, 59, 60, 61, 62, 63, 64, 65, 66, 67, 68, 69, 70, 71, 72, 73, 74, 75, 76, 77, 78, 79, 80, 81, 82, 83] (by decide +kernel) (by decide +kernel)
set_option maxRecDepth 20000 in
theorem gX10_floor_X10_isWhole : GoodIn wsX10_floor (wsV RX10 172 RX10 yX10_isWhole wsX10_isWhole) := goodIn_app (goodIn_of _ (by decide +kernel)) ggX10_floor_X10_isWhole
theorem dX10_floor_102 : decode cX10_floor 102 = .ok (.invokevirtual 172, 3) := by decide +kernel
theorem dX10_floor_105 : decode cX10_floor 105 = .ok (.ifCond .eq 7, 3) := by decide +kernel
theorem dX10_floor_112 : decode cX10_floor 112 = .ok (.iconst 0, 1) := by decide +kernel
theorem dX10_floor_113 : decode cX10_floor 113 = .ok (.ireturn, 1) := by decide +kernel
theorem dX10_floor_93 : decode cX10_floor 93 = .ok (.aload_n 0, 1) := by decide +kernel
theorem dX10_floor_94 : decode cX10_floor 94 = .ok (.iconst 1, 1) := by decide +kernel
set_option maxRecDepth 20000 in
theorem ggX10_floor_X10_pieces : GoodIn wsX10_floor wsX10_pieces := goodIn_r _ [24, 25, 2, 26, 27, 5, 28, 29, 30, 31, 3, 4, 6, 12, 13, 14, 32, 33, 34, 35, 54, 55, 56, 57, 58, 59, 60, 61, 62, 63, 64, 65, 66, 67, 68, 69, 70, 71, 72, 73, 74, 75, 76, 77, 78, 79, 80, 81, 82, 83] (by decide +kernel) (by decide +kernel)
set_option maxRecDepth 20000 in
theorem gX10_floor_X10_pieces : GoodIn wsX10_floor (wsV RX10 164 RX10 yX10_pieces wsX10_pieces) := goodIn_app (goodIn_of _ (by decide +kernel)) ggX10_floor_X10_pieces
theorem dX10_floor_95 : decode cX10_floor 95 = .ok (.invokevirtual 164, 3) := by decide +kernel
theorem dX10_floor_98 : decode cX10_floor 98 = .ok (.goto 15, 3) := by decide +kernel
theorem dX10_floor_84 : decode cX10_floor 84 = .ok (.iload_n 2, 1) := by decide +kernel
theorem dX10_floor_85 : decode cX10_floor 85 = .ok (.goto 28, 3) := by decide +kernel
theorem dX10_floor_69 : decode cX10_floor 69 = .ok (.aload_n 0, 1) := by decide +kernel
theorem dX10_floor_70 : decode cX10_floor 70 = .ok (.getfield 81, 3) := by decide +kernel
set_option maxRecDepth 20000 in
theorem ggX10_floor_X10_many : GoodIn wsX10_floor wsX10_many := goodIn_r _ [20, 12, 13, 5, 14] (by decide +kernel) (by decide +kernel)
set_option maxRecDepth 20000 in
theorem gX10_floor_X10_many : GoodIn wsX10_floor (va_wsS RX10 137 yX10_many wsX10_many) := goodIn_app (goodIn_of _ (by decide +kernel)) ggX10_floor_X10_many
theorem dX10_floor_73 : decode cX10_floor 73 = .ok (.invokestatic 137, 3) := by decide +kernel
theorem dX10_floor_76 : decode cX10_floor 76 = .ok (.goto 37, 3) := by decide +kernel
theorem dX10_floor_26 : decode cX10_floor 26 = .ok (.iload_n 2, 1) := by decide +kernel
theorem dX10_floor_27 : decode cX10_floor 27 = .ok (.aload_n 0, 1) := by decide +kernel
theorem dX10_floor_28 : decode cX10_floor 28 = .ok (.getfield 81, 3) := by decide +kernel
theorem dX10_floor_31 : decode cX10_floor 31 = .ok (.iload_n 3, 1) := by decide +kernel
set_option maxRecDepth 20000 in
theorem ggX10_floor_X10_hasBit : GoodIn wsX10_floor wsX10_hasBit := goodIn_r _ [14] (by decide +kernel) (by decide +kernel)
set_option maxRecDepth 20000 in
theorem gX10_floor_X10_hasBit : GoodIn wsX10_floor (va_wsS RX10 74 yX10_hasBit wsX10_hasBit) := goodIn_app (goodIn_of _ (by decide +kernel)) ggX10_floor_X10_hasBit
theorem dX10_floor_32 : decode cX10_floor 32 = .ok (.invokestatic 74, 3) := by decide +kernel
theorem dX10_floor_35 : decode cX10_floor 35 = .ok (.ifCond .eq 21, 3) := by decide +kernel
theorem dX10_floor_56 : decode cX10_floor 56 = .ok (.iconst 0, 1) := by decide +kernel
theorem dX10_floor_57 : decode cX10_floor 57 = .ok (.iadd, 1) := by decide +kernel
theorem dX10_floor_58 : decode cX10_floor 58 = .ok (.istore_n 2, 1) := by decide +kernel
theorem dX10_floor_59 : decode cX10_floor 59 = .ok (.iinc 3 1, 3) := by decide +kernel
theorem dX10_floor_62 : decode cX10_floor 62 = .ok (.goto (-42), 3) := by decide +kernel
theorem dX10_floor_0 : decode cX10_floor 0 = .ok (.iload_n 1, 1) := by decide +kernel
theorem dX10_floor_1 : decode cX10_floor 1 = .ok (.iconst 0, 1) := by decide +kernel
theorem dX10_floor_2 : decode cX10_floor 2 = .ok (.iconst 3, 1) := by decide +kernel
set_option maxRecDepth 20000 in
theorem ggX10_floor_X10_within : GoodIn wsX10_floor wsX10_within := goodIn_r _ [6] (by decide +kernel) (by decide +kernel)
set_option maxRecDepth 20000 in
theorem gX10_floor_X10_within : GoodIn wsX10_floor (va_wsS RX10 70 yX10_within wsX10_within) := goodIn_app (goodIn_of _ (by decide +kernel)) ggX10_floor_X10_within
theorem dX10_floor_3 : decode cX10_floor 3 = .ok (.invokestatic 70, 3) := by decide +kernel
theorem dX10_floor_6 : decode cX10_floor 6 = .ok (.ifCond .ne 10, 3) := by decide +kernel
theorem dX10_floor_16 : decode cX10_floor 16 = .ok (.iconst 0, 1) := by decide +kernel
theorem dX10_floor_17 : decode cX10_floor 17 = .ok (.istore_n 2, 1) := by decide +kernel
theorem dX10_floor_18 : decode cX10_floor 18 = .ok (.iconst 0, 1) := by decide +kernel
theorem dX10_floor_19 : decode cX10_floor 19 = .ok (.istore_n 3, 1) := by decide +kernel
theorem dX10_floor_9 : decode cX10_floor 9 = .ok (.aload_n 0, 1) := by decide +kernel
theorem dX10_floor_10 : decode cX10_floor 10 = .ok (.ldc 141, 2) := by decide +kernel
set_option maxRecDepth 20000 in
theorem ggX10_floor_X10_finding : GoodIn wsX10_floor wsX10_finding := goodIn_r _ [10, 11, 54, 55, 56, 57, 58, 59, 60, 61, 62, 63, 64, 65, 66, 67, 68, 69, 70, 71, 72, 73, 74, 75, 76, 77, 78, 79, 80, 81, 82, 83] (by decide +kernel) (by decide +kernel)
set_option maxRecDepth 20000 in
theorem gX10_floor_X10_finding : GoodIn wsX10_floor (wsV RX10 99 RX10 yX10_finding wsX10_finding) := goodIn_app (goodIn_of _ (by decide +kernel)) ggX10_floor_X10_finding
theorem dX10_floor_12 : decode cX10_floor 12 = .ok (.invokevirtual 99, 3) := by decide +kernel
theorem dX10_floor_15 : decode cX10_floor 15 = .ok (.ireturn, 1) := by decide +kernel
set_option maxRecDepth 20000 in
theorem ihX10_floor_10 : ∀ w ∈ u_ws RX10 TX10 30, w ∈ wsX10_floor := by decide +kernel
set_option maxHeartbeats 4000000 in
set_option maxRecDepth 100000 in
theorem mp_X10_floor (l : Launch) (D : va_G) (cy : Nat → ClassId) (a : Nat → Nat) (sz : Nat) (x0 : Int32) : Met l yX10_floor wsX10_floor ({ frames := 4, cells := 0, slots := 0, locals := 93 }) (va_Pc [.ref (a 0), .int x0] (PW D cy sz (MW cy a (fun _ => 0) (fun _ => 0) (fun _ _ => 0) (fun _ _ => 0)))) (va_Qi (fun r (_ : Unit) => r = a_w3 x0) (fun _ _ => True) (va_A (MW cy a (fun _ => 0) (fun _ => 0) (fun _ _ => 0) (fun _ _ => 0)) sz)) 0 0 (va_A (MW cy a (fun _ => 0) (fun _ => 0) (fun _ _ => 0) (fun _ _ => 0)) sz) := by
  refine Met.ofW (cc := cX10_floor) (maxL := 4) (ret := (some .int)) (by decide) rfl ?_
  intro p e s m args below meth c s₁ B hml hv
  obtain ⟨rfl, rfl, hP, hK, hN, hD0⟩ := hv
  have hx := B.exec
  have hb := B.bytes
  have hr := B.returns
  have hts := atoms_spec (ws := wsX10_floor) B.pre
  have hown : s.vm.findClass RX10 = some m.cls := findClass_of_methodNamed B.named
  have hlocks := B.notSynchronized
  have hw0 := hts (.fieldLink RX10 81 "ParquetLayerModel" "floor" "J") (by decide +kernel)
  have hw1 := hts (.constant RX10 141 (-100001)) (by decide +kernel)
  have hi10 := ihX10_floor_10
  have hD := hD0.self (sz := s.heap.size)
  generalize hAe : va_A (MW cy a (fun _ => 0) (fun _ => 0) (fun _ _ => 0) (fun _ _ => 0)) s.heap.size = A at hD ⊢
  have hA : ∀ q : Nat, s.heap.size ≤ q → A q := fun q h => by rw [← hAe]; exact Or.inr h
  have hS : va_S A s.heap s.heap [] := va_S.rf
  have hl := lv_entry ([.ref (a 0), .int x0]) (n := 4) (Nat.le_of_ble_eq_true rfl)
  rw [lg_entry_eq]
  generalize (lg_sl ([.ref (a 0), .int x0]) ++ List.replicate (4 - (lg_sl ([.ref (a 0), .int x0])).length) Slot.unset).toArray = ls at hl ⊢
  have hl : lv_has ls 4 [(0, .ref (a 0)), (1, .int x0)] := hl
  have lp : ∀ (n20 : Nat), ∀ (i : Nat), (i ≤ 64) → (m_within x0 0 3 = true) → (64 - i) < n20 → ∀ (H : Heap) (locs : List Loc), va_P D vwCl (MW cy a (fun _ => 0) (fun _ => 0) (fun _ _ => 0) (fun _ _ => 0)) H → va_D A (MW cy a (fun _ => 0) (fun _ => 0) (fun _ _ => 0) (fun _ _ => 0)) → va_S A s.heap H locs → ∀ (ls : Array Slot), lv_has ls 4 [(0, .ref (a 0)), (1, .int x0), (2, .int 0), (3, .int (nI i))] → W p l e (headSpec wsX10_floor ({ frames := 4, cells := 0, slots := 0, locals := 93 })).room s m ([.ref (a 0), .int x0] : List Value).toArray below meth c H locs 0 0 (MQ below (va_Qi (fun r (_ : Unit) => r = a_w3 x0) (fun _ _ => True) A) ([.ref (a 0), .int x0] : List Value).toArray s 0 0 A) (F0 m 20 ls []) := by
    intro n20
    induction n20 with
    | zero => intro i hi hw3 hn; exact absurd hn (Nat.not_lt_zero _)
    | succ n20 ih20 =>
      intro i hi hw3 hn20 H locs hP hD hS ls hl
      refine lv_iload_n hx hb dX10_floor_20 rfl (lv_at hl 3 rfl) ?_
      refine lv_bipush (v := 64) hx hb dX10_floor_21 (by decide) ?_
      refine lv_icmp_ge (tgt := 65) hx hb dX10_floor_23 (by decide) (fun c_1 => ?_) (fun c_1 => ?_)
      · have hie := ctr_ge (N := 64) (by decide) hi c_1
        subst hie
        refine lv_iload_n hx hb dX10_floor_65 rfl (lv_at hl 1 rfl) ?_
        refine lv_if_ne (tgt := 79) hx hb dX10_floor_66 (by decide) (fun c_2 => ?_) (fun c_2 => ?_)
        · refine lv_iload_n hx hb dX10_floor_79 rfl (lv_at hl 1 rfl) ?_
          refine lv_iconst (v := 1) hx hb dX10_floor_80 (by decide) ?_
          refine lv_icmp_ne (tgt := 88) hx hb dX10_floor_81 (by decide) (fun c_3 => ?_) (fun c_3 => ?_)
          · refine lv_iload_n hx hb dX10_floor_88 rfl (lv_at hl 1 rfl) ?_
            refine lv_iconst (v := 2) hx hb dX10_floor_89 (by decide) ?_
            refine lv_icmp_ne (tgt := 101) hx hb dX10_floor_90 (by decide) (fun c_4 => ?_) (fun c_4 => ?_)
            · refine lv_aload_n hx hb dX10_floor_101 rfl (lv_at hl 0 rfl) ?_
              refine kR_i (As := []) (rest := []) (q0 := 0) ⟨hx, hb, hml, hown, hts⟩ (c_X10_isWhole l D cy a _   ) (cwV 0 hts gX10_floor_X10_isWhole rfl rfl rfl (by decide +kernel) ⟨Nat.le_of_ble_eq_true rfl, Nat.le_of_ble_eq_true rfl⟩) hK hN hP hD rfl rfl rfl hl.1 rfl (Nat.le_of_ble_eq_true rfl) dX10_floor_102 ⟨Nat.le_of_ble_eq_true rfl, Nat.le_of_ble_eq_true rfl⟩ ?_
              refine lv_if_eq (tgt := 112) hx hb dX10_floor_105 (by decide) (fun c_5 => ?_) (fun c_5 => absurd (by decide) c_5)
              refine lv_iconst (v := 0) hx hb dX10_floor_112 (by decide) ?_
              exact qret_i hx hb hr hlocks (by simp [a_w3, m_cnt0, nI_0, hw3]) hS dX10_floor_113
            · refine lv_aload_n hx hb dX10_floor_93 rfl (lv_at hl 0 rfl) ?_
              refine lv_iconst (v := 1) hx hb dX10_floor_94 (by decide) ?_
              refine kM_i (As := [.int 1]) (rest := []) (q0 := 0) ⟨hx, hb, hml, hown, hts⟩ (hv_X10_pieces l D cy a _   ) (cwV 1 hts gX10_floor_X10_pieces rfl rfl rfl (by decide +kernel) ⟨Nat.le_of_ble_eq_true rfl, Nat.le_of_ble_eq_true rfl⟩) hK hN hP hD hS hA rfl rfl rfl hl.1 rfl (Nat.le_of_ble_eq_true rfl) dX10_floor_95 ⟨Nat.le_of_ble_eq_true rfl, Nat.le_of_ble_eq_true rfl⟩ (fun r u H locs hw hP hD hS => ?_)
              obtain ⟨Jh_6, Ih_7, Rh_8, RJh_9⟩ := u
              try dsimp only at hw
              obtain ⟨rfl, -⟩ := hw
              have hP : va_P D vwCl (MW cy a Jh_6 Ih_7 Rh_8 RJh_9) H := hP
              have hD : va_D A (MW cy a Jh_6 Ih_7 Rh_8 RJh_9) := hD
              refine lv_goto (tgt := 113) hx hb dX10_floor_98 (by decide) ?_
              exact qret_i hx hb hr hlocks (by simp [a_w3, m_cnt0, nI_0, hw3]) hS dX10_floor_113
          · refine lv_iload_n hx hb dX10_floor_84 rfl (lv_at hl 2 rfl) ?_
            refine lv_goto (tgt := 113) hx hb dX10_floor_85 (by decide) ?_
            exact qret_i hx hb hr hlocks (by simp [a_w3, m_cnt0, nI_0, hw3]) hS dX10_floor_113
        · refine lv_aload_n hx hb dX10_floor_69 rfl (lv_at hl 0 rfl) ?_
          refine va_get (D := D) (ci := 9) (v := .long 0) (C := RX10) (T := TX10) (N := 30) hx hb hts hi10 hown hK hP 0 rfl rfl 0 (by decide) hw0 (fun _ h9 => h9) rfl dX10_floor_70 ?_
          refine kS_i (As := [.long 0]) (rest := []) ⟨hx, hb, hml, hown, hts⟩ (c_X10_many l 0) (va_cwS 1 hts gX10_floor_X10_many rfl rfl rfl (by decide +kernel) ⟨Nat.le_of_ble_eq_true rfl, Nat.le_of_ble_eq_true rfl⟩) rfl hl.1 rfl (Nat.le_of_ble_eq_true rfl) dX10_floor_73 ⟨Nat.le_of_ble_eq_true rfl, Nat.le_of_ble_eq_true rfl⟩ ?_
          refine lv_goto (tgt := 113) hx hb dX10_floor_76 (by decide) ?_
          exact qret_i hx hb hr hlocks (by simp [a_w3, m_cnt0, nI_0, hw3]) hS dX10_floor_113
      · have hlt := ctr_lt (N := 64) (by decide) hi c_1
        refine lv_iload_n hx hb dX10_floor_26 rfl (lv_at hl 2 rfl) ?_
        refine lv_aload_n hx hb dX10_floor_27 rfl (lv_at hl 0 rfl) ?_
        refine va_get (D := D) (ci := 9) (v := .long 0) (C := RX10) (T := TX10) (N := 30) hx hb hts hi10 hown hK hP 0 rfl rfl 0 (by decide) hw0 (fun _ h9 => h9) rfl dX10_floor_28 ?_
        refine lv_iload_n hx hb dX10_floor_31 rfl (lv_at hl 3 rfl) ?_
        refine kS_i (As := [.long 0, .int (nI i)]) (rest := [.int 0]) ⟨hx, hb, hml, hown, hts⟩ (c_X10_hasBit l 0 (nI i)) (va_cwS 2 hts gX10_floor_X10_hasBit rfl rfl rfl (by decide +kernel) ⟨Nat.le_of_ble_eq_true rfl, Nat.le_of_ble_eq_true rfl⟩) rfl hl.1 rfl (Nat.le_of_ble_eq_true rfl) dX10_floor_32 ⟨Nat.le_of_ble_eq_true rfl, Nat.le_of_ble_eq_true rfl⟩ ?_
        refine lv_if_eq (tgt := 56) hx hb dX10_floor_35 (by decide) (fun c_10 => ?_) (fun c_10 => absurd (by rw [m_hasBit0]; rfl) c_10)
        refine lv_iconst (v := 0) hx hb dX10_floor_56 (by decide) ?_
        refine lv_iadd hx hb dX10_floor_57 ?_
        refine wtop_i (y := 0) (by decide) ?_
        refine lv_istore_n (lv' := [(2, .int 0), (0, .ref (a 0)), (1, .int x0), (3, .int (nI i))]) hx hb dX10_floor_58 rfl hl (by decide) rfl (fun ls hl => ?_)
        refine lv_iinc (v := nI (i + 1)) (lv' := [(3, .int (nI (i + 1))), (2, .int 0), (0, .ref (a 0)), (1, .int x0)]) hx hb dX10_floor_59 hl (k := 3) rfl (nI_1 _) (by decide) rfl (fun ls hl => ?_)
        refine lv_goto (tgt := 20) hx hb dX10_floor_62 (by decide) ?_
        exact ih20 (i + 1) (by omega) hw3 (by omega) _ _ hP hD hS ls (lv_sub hl [2, 3, 1, 0] rfl)
  refine lv_iload_n hx hb dX10_floor_0 rfl (lv_at hl 1 rfl) ?_
  refine lv_iconst (v := 0) hx hb dX10_floor_1 (by decide) ?_
  refine lv_iconst (v := 3) hx hb dX10_floor_2 (by decide) ?_
  refine kS_i (As := [.int x0, .int 0, .int 3]) (rest := []) ⟨hx, hb, hml, hown, hts⟩ (c_X10_within l x0 0 3) (va_cwS 3 hts gX10_floor_X10_within rfl rfl rfl (by decide +kernel) ⟨Nat.le_of_ble_eq_true rfl, Nat.le_of_ble_eq_true rfl⟩) rfl hl.1 rfl (Nat.le_of_ble_eq_true rfl) dX10_floor_3 ⟨Nat.le_of_ble_eq_true rfl, Nat.le_of_ble_eq_true rfl⟩ ?_
  refine lv_if_ne (tgt := 16) hx hb dX10_floor_6 (by decide) (fun c_11 => ?_) (fun c_11 => ?_)
  · replace c_11 := bI_t c_11
    refine lv_iconst (v := 0) hx hb dX10_floor_16 (by decide) ?_
    refine lv_istore_n (lv' := [(2, .int 0), (0, .ref (a 0)), (1, .int x0)]) hx hb dX10_floor_17 rfl hl (by decide) rfl (fun ls hl => ?_)
    refine lv_iconst (v := 0) hx hb dX10_floor_18 (by decide) ?_
    refine lv_istore_n (lv' := [(3, .int 0), (2, .int 0), (0, .ref (a 0)), (1, .int x0)]) hx hb dX10_floor_19 rfl hl (by decide) rfl (fun ls hl => ?_)
    exact lp _ 0 (by omega) c_11 (Nat.lt_succ_self _) _ _ hP hD hS ls (lv_sub hl [2, 3, 1, 0] rfl)
  · replace c_11 := bI_f c_11
    refine lv_aload_n hx hb dX10_floor_9 rfl (lv_at hl 0 rfl) ?_
    refine lv_ldc (v := (-100001)) hx hb hown hw1 dX10_floor_10 ?_
    refine kM_i (As := [.int (-100001)]) (rest := []) (q0 := 0) ⟨hx, hb, hml, hown, hts⟩ (c_X10_finding l D cy a _ (fun _ => 0) (fun _ => 0) (fun _ _ => 0) (fun _ _ => 0) (-100001) ) (cwV 1 hts gX10_floor_X10_finding rfl rfl rfl (by decide +kernel) ⟨Nat.le_of_ble_eq_true rfl, Nat.le_of_ble_eq_true rfl⟩) hK hN hP hD hS hA rfl rfl rfl hl.1 rfl (Nat.le_of_ble_eq_true rfl) dX10_floor_12 ⟨Nat.le_of_ble_eq_true rfl, Nat.le_of_ble_eq_true rfl⟩ (fun r u H locs hw hP hD hS => ?_)
    obtain ⟨rfl, rfl⟩ := hw
    have hP : va_P D vwCl (MW cy a (fun _ => 0) (va_up (fun _ => 0) 13 (0 + 1)) (fun _ _ => 0) (fun _ _ => 0)) H := hP
    have hD : va_D A (MW cy a (fun _ => 0) (va_up (fun _ => 0) 13 (0 + 1)) (fun _ _ => 0) (fun _ _ => 0)) := hD
    exact qret_i hx hb hr hlocks (by simp [a_w3, m_cnt0, nI_0, c_11]) hS dX10_floor_15
