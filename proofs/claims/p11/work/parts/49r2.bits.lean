def g_beside (x0 : Int64) : Int64 := ((((x0 &&& 9187201950435737471) <<< ((1 : Int32).toInt64 &&& 63)) ||| (((x0 &&& (-72340172838076674)).toUInt64 >>> ((1 : Int32).toInt64.toUInt64 &&& Int64.toUInt64 63)).toInt64)) ||| (x0 <<< ((8 : Int32).toInt64 &&& 63))) ||| ((x0.toUInt64 >>> ((8 : Int32).toInt64.toUInt64 &&& Int64.toUInt64 63)).toInt64)
def g_RIM : Int64 := (-35604928818740737)
def g_touch (x0 x1 : Int64) : Bool := !decide (x0 &&& g_RIM = 0) || !decide (g_beside x0 &&& (x1 ^^^ (-1)) = 0)
set_option maxHeartbeats 4000000 in
set_option maxRecDepth 100000 in
theorem x_X1_beside (l : Launch) (x0 : Int64) : Met l yX1_beside wsX1_beside ({ frames := 0, cells := 0, slots := 0, locals := 0 }) (va_Pc [.long x0] (fun _ => True)) (vp_Sl (fun r => r = g_beside x0)) 0 0 (fun _ => False) := by
  refine Met.ofW (cc := cX1_beside) (maxL := 2) (ret := (some .long)) (by decide) rfl ?_
  intro p e s m args below meth c s₁ B hml hv
  obtain ⟨rfl, -⟩ := hv
  have hx := B.exec
  have hb := B.bytes
  have hr := B.returns
  have hts := atoms_spec (ws := wsX1_beside) B.pre
  have hown : s.vm.findClass RX1 = some m.cls := findClass_of_methodNamed B.named
  have hlocks := B.notSynchronized
  have hw0 := hts (.constantLong RX1 13 (9187201950435737471)) (by decide +kernel)
  have hw1 := hts (.constantLong RX1 15 (-72340172838076674)) (by decide +kernel)
  have hl := lv_entry ([.long x0]) (n := 2) (Nat.le_of_ble_eq_true rfl)
  rw [lg_entry_eq]
  generalize (lg_sl ([.long x0]) ++ List.replicate (2 - (lg_sl ([.long x0])).length) Slot.unset).toArray = ls at hl ⊢
  have hl : lv_has ls 2 [(0, .long x0)] := hl
  refine lv_lload_n hx hb dX1_beside_0 rfl (lv_at hl 0 rfl) ?_
  refine lv_ldc2 (v := 9187201950435737471) hx hb hown hw0 dX1_beside_1 ?_
  refine lv_land hx hb dX1_beside_4 ?_
  refine lv_iconst (v := 1) hx hb dX1_beside_5 (by decide) ?_
  refine lv_lshl (v := (x0 &&& 9187201950435737471) <<< ((1 : Int32).toInt64 &&& 63)) hx hb dX1_beside_6 rfl ?_
  refine lv_lload_n hx hb dX1_beside_7 rfl (lv_at hl 0 rfl) ?_
  refine lv_ldc2 (v := (-72340172838076674)) hx hb hown hw1 dX1_beside_8 ?_
  refine lv_land hx hb dX1_beside_11 ?_
  refine lv_iconst (v := 1) hx hb dX1_beside_12 (by decide) ?_
  refine lv_lushr (v := ((x0 &&& (-72340172838076674)).toUInt64 >>> ((1 : Int32).toInt64.toUInt64 &&& Int64.toUInt64 63)).toInt64) hx hb dX1_beside_13 rfl ?_
  refine lv_lor hx hb dX1_beside_14 ?_
  refine lv_lload_n hx hb dX1_beside_15 rfl (lv_at hl 0 rfl) ?_
  refine lv_bipush (v := 8) hx hb dX1_beside_16 (by decide) ?_
  refine lv_lshl (v := x0 <<< ((8 : Int32).toInt64 &&& 63)) hx hb dX1_beside_18 rfl ?_
  refine lv_lor hx hb dX1_beside_19 ?_
  refine lv_lload_n hx hb dX1_beside_20 rfl (lv_at hl 0 rfl) ?_
  refine lv_bipush (v := 8) hx hb dX1_beside_21 (by decide) ?_
  refine lv_lushr (v := (x0.toUInt64 >>> ((8 : Int32).toInt64.toUInt64 &&& Int64.toUInt64 63)).toInt64) hx hb dX1_beside_23 rfl ?_
  refine lv_lor hx hb dX1_beside_24 ?_
  exact pret_l hx hb hr hlocks rfl dX1_beside_25
theorem gt_1 {x0 x1 : Int64} (h : ¬ x0 &&& g_RIM = 0) : (1 : Int32) = bI (g_touch x0 x1) := by rw [g_touch, decide_eq_false h]; rfl
theorem gt_2 {x0 x1 : Int64} (h : x0 &&& g_RIM = 0) (h2 : ¬ g_beside x0 &&& (x1 ^^^ (-1)) = 0) : (1 : Int32) = bI (g_touch x0 x1) := by rw [g_touch, decide_eq_false h2, Bool.not_false, Bool.or_true]; rfl
theorem gt_3 {x0 x1 : Int64} (h : x0 &&& g_RIM = 0) (h2 : g_beside x0 &&& (x1 ^^^ (-1)) = 0) : (0 : Int32) = bI (g_touch x0 x1) := by rw [g_touch, decide_eq_true h, decide_eq_true h2]; rfl
set_option maxHeartbeats 4000000 in
set_option maxRecDepth 100000 in
theorem x_X1_touchesOutside (l : Launch) (x0 : Int64) (x1 : Int64) : Met l yX1_touchesOutside wsX1_touchesOutside ({ frames := 1, cells := 0, slots := 0, locals := 21 }) (va_Pc [.long x0, .long x1] (fun _ => True)) (vp_Si (fun r => r = bI (g_touch x0 x1))) 0 0 (fun _ => False) := by
  refine Met.ofW (cc := cX1_touchesOutside) (maxL := 4) (ret := (some .boolean)) (by decide) rfl ?_
  intro p e s m args below meth c s₁ B hml hv
  obtain ⟨rfl, -⟩ := hv
  have hx := B.exec
  have hb := B.bytes
  have hr := B.returns
  have hts := atoms_spec (ws := wsX1_touchesOutside) B.pre
  have hown : s.vm.findClass RX1 = some m.cls := findClass_of_methodNamed B.named
  have hlocks := B.notSynchronized
  have hw0 := hts (.constantLong RX1 31 (-35604928818740737)) (by decide +kernel)
  have hw1 := hts (.constantLong RX1 25 (-1)) (by decide +kernel)
  have hl := lv_entry ([.long x0, .long x1]) (n := 4) (Nat.le_of_ble_eq_true rfl)
  rw [lg_entry_eq]
  generalize (lg_sl ([.long x0, .long x1]) ++ List.replicate (4 - (lg_sl ([.long x0, .long x1])).length) Slot.unset).toArray = ls at hl ⊢
  have hl : lv_has ls 4 [(0, .long x0), (2, .long x1)] := hl
  refine lv_lload_n hx hb dX1_touchesOutside_0 rfl (lv_at hl 0 rfl) ?_
  refine lv_ldc2 (v := (-35604928818740737)) hx hb hown hw0 dX1_touchesOutside_1 ?_
  refine lv_land hx hb dX1_touchesOutside_4 ?_
  refine lv_lconst (v := 0) hx hb dX1_touchesOutside_5 (by decide) ?_
  refine W.lcmp hx hb dX1_touchesOutside_6 ?_
  refine lv_if_ne (tgt := 25) hx hb dX1_touchesOutside_7 (by decide) (fun c_1 => ?_) (fun c_1 => ?_)
  · replace c_1 := fun z => c_1 ((lg_cmp_eq _ _).mpr z)
    refine lv_iconst (v := 1) hx hb dX1_touchesOutside_25 (by decide) ?_
    refine lv_goto (tgt := 30) hx hb dX1_touchesOutside_26 (by decide) ?_
    exact pret_z hx hb hr hlocks (gt_1 c_1) dX1_touchesOutside_30
  · replace c_1 := (lg_cmp_eq _ _).mp c_1
    refine lv_lload_n hx hb dX1_touchesOutside_10 rfl (lv_at hl 0 rfl) ?_
    refine kS_l (As := [.long x0]) (rest := []) ⟨hx, hb, hml, hown, hts⟩ (x_X1_beside l x0) (va_cwS 1 hts gX1_touchesOutside_X1_beside rfl rfl rfl (by decide +kernel) ⟨Nat.le_of_ble_eq_true rfl, Nat.le_of_ble_eq_true rfl⟩) rfl hl.1 rfl (Nat.le_of_ble_eq_true rfl) dX1_touchesOutside_11 ⟨Nat.le_of_ble_eq_true rfl, Nat.le_of_ble_eq_true rfl⟩ ?_
    refine lv_lload_n hx hb dX1_touchesOutside_14 rfl (lv_at hl 1 rfl) ?_
    refine lv_ldc2 (v := (-1)) hx hb hown hw1 dX1_touchesOutside_15 ?_
    refine lv_lxor hx hb dX1_touchesOutside_18 ?_
    refine lv_land hx hb dX1_touchesOutside_19 ?_
    refine lv_lconst (v := 0) hx hb dX1_touchesOutside_20 (by decide) ?_
    refine W.lcmp hx hb dX1_touchesOutside_21 ?_
    refine lv_if_eq (tgt := 29) hx hb dX1_touchesOutside_22 (by decide) (fun c_2 => ?_) (fun c_2 => ?_)
    · replace c_2 := (lg_cmp_eq _ _).mp c_2
      refine lv_iconst (v := 0) hx hb dX1_touchesOutside_29 (by decide) ?_
      exact pret_z hx hb hr hlocks (gt_3 c_1 c_2) dX1_touchesOutside_30
    · replace c_2 := fun z => c_2 ((lg_cmp_eq _ _).mpr z)
      refine lv_iconst (v := 1) hx hb dX1_touchesOutside_25 (by decide) ?_
      refine lv_goto (tgt := 30) hx hb dX1_touchesOutside_26 (by decide) ?_
      exact pret_z hx hb hr hlocks (gt_2 c_1 c_2) dX1_touchesOutside_30
/-! ===== bits: what touches the outside, a stone's number, glued fields ===== -/
theorem uN_m1 : uN (-1) = 2 ^ 64 - 1 := by decide +kernel
theorem hb_t (x : Int64) {j : Nat} (hj : j < 64) : m_hasBit x (nI j) = (uN x).testBit j := by
  rw [hasBit_nat x hj, Nat.testBit_eq_decide_div_mod_eq]
theorem hb_andn (M t : Int64) {j : Nat} (hj : j < 64) : m_hasBit (M &&& (t ^^^ (-1))) (nI j) = (m_hasBit M (nI j) && !m_hasBit t (nI j)) := by
  rw [hb_t _ hj, hb_t _ hj, hb_t _ hj, uN_and, uN_xor, uN_m1, Nat.testBit_and, Nat.testBit_xor, Nat.testBit_two_pow_sub_one, decide_eq_true hj]
  cases (uN M).testBit j <;> cases (uN t).testBit j <;> rfl
theorem hb_zero (j : Nat) : m_hasBit 0 (nI j) = false := m_hasBit0 _
theorem andn0 (M t : Int64) : M &&& (t ^^^ (-1)) = 0 ↔ ∀ j, j < 64 → m_hasBit M (nI j) = true → m_hasBit t (nI j) = true := by
  constructor
  · intro h j hj hm
    have e := hb_andn M t hj
    rw [h, hb_zero, hm] at e
    cases q : m_hasBit t (nI j) with
    | true => rfl
    | false => rw [q] at e; exact absurd e (by decide)
  · intro h
    apply i64_zero
    intro j hj
    rw [hb_andn M t hj]
    cases q : m_hasBit M (nI j) with
    | false => rfl
    | true => rw [h j hj q]; rfl
theorem bl12 : ∀ a a' h b b' i c c' j d d' k : Bool, (!(a && (a' && h)) || (!(b && (b' && i)) || (!(c && (c' && j)) || !(d && (d' && k))))) = !(((a && a') && ((b && b') && ((c && c') && (d && d')))) && (h && (i && (j && k)))) := by decide +kernel
theorem bl4 : ∀ a h b i : Bool, (!(a && h) || !(b && i)) = !((a && b) && (h && i)) := by decide
def tN (f : Int32) : List Int32 := [8 * (f / 8) + (f - f / 8 * 8 - 1), 8 * (f / 8) + (f - f / 8 * 8 + 1), 8 * (f / 8 - 1) + (f - f / 8 * 8), 8 * (f / 8 + 1) + (f - f / 8 * 8)]
def tIn (f : Int32) : Bool := (m_within (f - f / 8 * 8 - 1) 0 7 && m_within (f / 8) 0 7) && ((m_within (f - f / 8 * 8 + 1) 0 7 && m_within (f / 8) 0 7) && ((m_within (f - f / 8 * 8) 0 7 && m_within (f / 8 - 1) 0 7) && (m_within (f - f / 8 * 8) 0 7 && m_within (f / 8 + 1) 0 7)))
theorem touch_eq (t : Int64) (f : Int32) : m_touch t f = !(tIn f && (tN f).all (m_hasBit t)) := by
  unfold m_touch m_isOn tIn tN
  rw [List.all_cons, List.all_cons, List.all_cons, List.all_cons, List.all_nil, Bool.and_true]
  exact bl12 _ _ _ _ _ _ _ _ _ _ _ _
def NBl (f : Int32) (b : Bool) : List Int32 := tN f ++ tN (f + (if b then 8 else 1))
def nIn (f : Int32) (b : Bool) : Bool := tIn f && tIn (f + (if b then 8 else 1))
theorem edge_eq (t : Int64) (f : Int32) (b : Bool) : m_edge t f b = !(nIn f b && (NBl f b).all (m_hasBit t)) := by
  unfold m_edge NBl nIn
  rw [touch_eq, touch_eq, List.all_append]
  exact bl4 _ _ _ _
theorem ed_rim : ∀ f : Fin 64, ∀ b : Bool, ¬ m_place (nI f.val) b = 0 → decide (m_place (nI f.val) b &&& g_RIM = 0) = nIn (nI f.val) b := by decide +kernel
theorem ed_nb1 : ∀ f : Fin 64, ∀ b : Bool, ¬ m_place (nI f.val) b = 0 → ∀ j : Fin 64, m_hasBit (g_beside (m_place (nI f.val) b)) (nI j.val) = true → nI j.val ∈ NBl (nI f.val) b := by decide +kernel
theorem ed_nb2 : ∀ f : Fin 64, ∀ b : Bool, ¬ m_place (nI f.val) b = 0 → nIn (nI f.val) b = true → ∀ z ∈ NBl (nI f.val) b, z.toNatClampNeg < 64 ∧ nI z.toNatClampNeg = z ∧ m_hasBit (g_beside (m_place (nI f.val) b)) z = true := by decide +kernel
theorem touch_edge {f : Nat} {b : Bool} {t : Int64} (hf : f < 64) (hp : ¬ m_place (nI f) b = 0) : g_touch (m_place (nI f) b) t = m_edge t (nI f) b := by
  have h1 := ed_rim ⟨f, hf⟩ b hp
  have h2 := ed_nb1 ⟨f, hf⟩ b hp
  have h3 := ed_nb2 ⟨f, hf⟩ b hp
  dsimp only at h1 h2 h3
  rw [edge_eq, g_touch, h1]
  cases q : nIn (nI f) b with
  | false => rfl
  | true =>
    rw [Bool.not_true, Bool.false_or, Bool.true_and]
    refine congrArg not ?_
    rw [Bool.eq_iff_iff, decide_eq_true_iff, andn0, List.all_eq_true]
    constructor
    · intro h z hz
      obtain ⟨a1, a2, a3⟩ := h3 q z hz
      have := h z.toNatClampNeg a1 (by rw [a2]; exact a3)
      rw [a2] at this
      exact this
    · intro h j hj hb
      exact h _ (h2 ⟨j, hj⟩ hb)
theorem cF_ex (c : Int32) : ∃ j, j < 64 ∧ sF c = nI j := pk_andE _ 6 (by decide)
theorem touch_c {c : Int32} {t : Int64} (hp : ¬ sP c = 0) : g_touch (sP c) t = m_edge t (sF c) (m_acr c) := by
  obtain ⟨j, hj, e⟩ := cF_ex c
  unfold sP at hp ⊢
  rw [e] at hp ⊢
  exact touch_edge hj hp
theorem gm_place : ∀ f : Fin 64, ∀ b : Bool, g_place (nI f.val) b = m_place (nI f.val) b := by decide +kernel
theorem isF_in {f : Int32} (h : g_isField f = true) : ∃ j, j < 64 ∧ f = nI j := by
  unfold g_isField at h
  rw [Bool.and_eq_true, Bool.not_eq_true', decide_eq_false_iff_not, decide_eq_true_iff] at h
  obtain ⟨j, hj, ej⟩ := nI_ofn h.1
  have h2 := h.2
  rw [Int32.lt_iff_toInt_lt] at h2
  have e : (64 : Int32).toInt = 64 := rfl
  exact ⟨j, by omega, hj⟩
theorem isF_eq (f : Int32) : g_isField f = m_within f 0 63 := by
  rw [Bool.eq_iff_iff, within_iff]
  unfold g_isField
  rw [Bool.and_eq_true, Bool.not_eq_true', decide_eq_false_iff_not, decide_eq_true_iff, Int32.lt_iff_toInt_lt, Int32.lt_iff_toInt_lt]
  have e0 : (0 : Int32).toInt = 0 := rfl
  have e1 : (63 : Int32).toInt = 63 := rfl
  have e2 : (64 : Int32).toInt = 64 := rfl
  omega
theorem isK_eq (k : Int32) : g_isKind k = m_within k 0 3 := by
  rw [Bool.eq_iff_iff, within_iff]
  unfold g_isKind
  rw [Bool.and_eq_true, Bool.not_eq_true', decide_eq_false_iff_not, decide_eq_true_iff, Int32.lt_iff_toInt_lt, Int32.lt_iff_toInt_lt]
  have e0 : (0 : Int32).toInt = 0 := rfl
  have e1 : (3 : Int32).toInt = 3 := rfl
  have e2 : (4 : Int32).toInt = 4 := rfl
  omega
theorem holds_eq (x : Int64) {j : Nat} (hj : j < 64) : g_holds x (nI j) = m_hasBit x (nI j) := by
  rw [hasBit_nat x hj]
  have e : (x.toUInt64 >>> ((nI j).toInt64.toUInt64 &&& Int64.toUInt64 63)).toInt64 &&& 1 = 0 ↔ ¬ uN x / 2 ^ j % 2 = 1 := by
    have e1 : uN ((x.toUInt64 >>> ((nI j).toInt64.toUInt64 &&& Int64.toUInt64 63)).toInt64 &&& 1) = uN x / 2 ^ j % 2 := by
      rw [uN_and, uN_sk x hj]
      exact Nat.and_two_pow_sub_one_eq_mod _ 1
    constructor
    · intro h
      rw [h, show uN 0 = 0 from rfl] at e1
      omega
    · intro h
      apply uN_inj
      rw [e1, show uN 0 = 0 from rfl]
      omega
  unfold g_holds
  by_cases q : uN x / 2 ^ j % 2 = 1
  · rw [decide_eq_true q, decide_eq_false (fun z => (e.mp z) q)]
    rfl
  · rw [decide_eq_false q, decide_eq_true (e.mpr q)]
    rfl
theorem has_eq {x : Int64} {f : Int32} (h : g_isField f = true) : bI (g_holds x f) = aHas x f := by
  unfold aHas
  rw [← isF_eq, h, if_pos (by rfl)]
  obtain ⟨j, hj, rfl⟩ := isF_in h
  rw [holds_eq x hj]
theorem has_no {x : Int64} {f : Int32} (h : g_isField f = false) : (-100001 : Int32) = aHas x f := by
  unfold aHas
  rw [← isF_eq, h, if_neg (by decide)]
/-! a stone's number -/
theorem nI_or {a b : Nat} (ha : a < 2 ^ 31) (hb : b < 2 ^ 31) : nI a ||| nI b = nI (a ||| b) := by
  apply Int32.toBitVec_inj.mp
  apply BitVec.eq_of_toNat_eq
  rw [Int32.toBitVec_or, BitVec.toNat_or]
  show (BitVec.ofNat 32 a).toNat ||| (BitVec.ofNat 32 b).toNat = (BitVec.ofNat 32 (a ||| b)).toNat
  rw [BitVec.toNat_ofNat, BitVec.toNat_ofNat, BitVec.toNat_ofNat, Nat.mod_eq_of_lt (by omega), Nat.mod_eq_of_lt (by omega), Nat.mod_eq_of_lt (Nat.or_lt_two_pow (by omega) (by omega))]
theorem sc1 : ∀ k : Fin 4, ∀ f : Fin 64, nI k.val ||| (nI f.val <<< ((2 : Int32) &&& 31)) = nI (k.val + 4 * f.val) := by decide +kernel
theorem sc2 : ∀ j : Fin 256, ∀ b : Bool, nI j.val ||| (if b then 256 else 0) = nI (j.val + 256 * bN b) := by decide +kernel
theorem sc3 : ∀ c : Fin 100, nI c.val <<< ((9 : Int32) &&& 31) = nI (512 * c.val) := by decide +kernel
theorem sc4 {j c : Nat} (hj : j < 512) (hc : c < 100) : nI j ||| nI (512 * c) = nI (512 * c + j) := by
  rw [nI_or (by omega) (by omega)]
  refine congrArg nI ?_
  have h := Nat.two_pow_add_eq_or_of_lt (i := 9) (b := j) hj c
  rw [Nat.or_comm]
  exact h.symm
theorem sco_eq {k f c : Nat} {b : Bool} (hk : k < 4) (hf : f < 64) (hc : c < 100) : sCode (nI k) (nI f) b (nI c) = nI (512 * c + (k + 4 * f + 256 * bN b)) := by
  unfold sCode
  have h1 := sc1 ⟨k, hk⟩ ⟨f, hf⟩
  have h2 := sc2 ⟨k + 4 * f, by omega⟩ b
  have h3 := sc3 ⟨c, hc⟩
  have hb := bN_le b
  dsimp only at h1 h2 h3
  rw [h1, h2, h3, sc4 (by omega) hc]
theorem ar4 {k f B c : Nat} (hk : k < 4) : (512 * c + (k + 4 * f + 256 * B)) % 4 = k := by omega
theorem ar64 {k f B c : Nat} (hk : k < 4) (hf : f < 64) : (512 * c + (k + 4 * f + 256 * B)) / 4 % 64 = f := by omega
theorem ar2 {k f B c : Nat} (hk : k < 4) (hf : f < 64) (hB : B ≤ 1) : (512 * c + (k + 4 * f + 256 * B)) / 256 % 2 = B := by omega
theorem bN_dec (b : Bool) : decide (nI (bN b) = 1) = b := by cases b <;> decide
theorem sc_dec {k f c : Nat} {b : Bool} (hk : k < 4) (hf : f < 64) (hc : c < 100) : sK (sCode (nI k) (nI f) b (nI c)) = nI k ∧ sF (sCode (nI k) (nI f) b (nI c)) = nI f ∧ m_acr (sCode (nI k) (nI f) b (nI c)) = b := by
  have hb := bN_le b
  rw [sco_eq hk hf hc]
  refine ⟨?_, ?_, ?_⟩
  · unfold sK
    rw [pk_andN (by omega) 2 (by decide)]
    exact congrArg nI (ar4 hk)
  · unfold sF
    rw [pk_shrN (by omega) _ 2 (by decide), pk_andN (by omega) 6 (by decide)]
    exact congrArg nI (ar64 hk hf)
  · unfold m_acr
    rw [pk_shrN (by omega) _ 8 (by decide), pk_andN (by omega) 1 (by decide)]
    rw [show (512 * c + (k + 4 * f + 256 * bN b)) / 2 ^ 8 % 2 ^ 1 = bN b from ar2 hk hf hb]
    exact bN_dec b
theorem good_ex {k f c : Int32} (h : sGood k f c = true) : ∃ k' f' c', k' < 4 ∧ f' < 64 ∧ c' < 100 ∧ k = nI k' ∧ f = nI f' ∧ c = nI c' := by
  unfold sGood at h
  rw [Bool.and_eq_true, Bool.and_eq_true] at h
  obtain ⟨h1, h2, h3⟩ := h
  obtain ⟨a, ha, rfl⟩ := vp_in_of (within_in4 h1) (by decide)
  obtain ⟨b, hb, rfl⟩ := vp_in_of (within_in64 h2) (by decide)
  by_cases q : nI a = 2
  · rw [if_pos q, within_iff] at h3
    have e0 : (1 : Int32).toInt = 1 := rfl
    have e1 : (99 : Int32).toInt = 99 := rfl
    have h4 : vp_in c 100 := by
      rw [vp_in_iff]
      omega
    obtain ⟨d, hd, rfl⟩ := vp_in_of h4 (by decide)
    exact ⟨a, b, d, ha, hb, hd, rfl, rfl, rfl⟩
  · rw [if_neg q, decide_eq_true_iff] at h3
    exact ⟨a, b, 0, ha, hb, by decide, rfl, rfl, h3⟩
theorem fits_eq (k c : Int32) : g_fits k c = (if k = 2 then m_within c 1 99 else decide (c = 0)) := rfl
/-! glued fields -/
def gOr (a : Int64) : List Int32 → Int64
  | [] => a
  | c :: S => gOr (if m_isG c then a ||| sP c else a) S
theorem and_or0 (x a b : Int64) : x &&& (a ||| b) = 0 ↔ x &&& a = 0 ∧ x &&& b = 0 := by
  have e : x &&& (a ||| b) = (x &&& a) ||| (x &&& b) := by
    apply uN_inj
    rw [uN_and, uN_or, uN_or, uN_and, uN_and, Nat.and_or_distrib_left]
  rw [e, Int64.or_eq_zero_iff]
theorem gl_t {x : Int64} {c : Int32} (h : m_isG c = true) (h2 : ¬ sP c &&& x = 0) : gl x c = true := by rw [gl, h, decide_eq_false h2]; rfl
theorem gl_f1 {x : Int64} {c : Int32} (h : m_isG c = false) : gl x c = false := by rw [gl, h]; rfl
theorem gl_f2 {x : Int64} {c : Int32} (h2 : sP c &&& x = 0) : gl x c = false := by rw [gl, decide_eq_true h2, Bool.not_true, Bool.and_false]
theorem gOr_and {x : Int64} : ∀ (S : List Int32) (a : Int64), x &&& gOr a S = 0 ↔ x &&& a = 0 ∧ S.any (gl x) = false
  | [], a => ⟨fun h => ⟨h, rfl⟩, fun h => h.1⟩
  | c :: S, a => by
    show x &&& gOr (if m_isG c then a ||| sP c else a) S = 0 ↔ _ ∧ (gl x c || S.any (gl x)) = false
    rw [gOr_and S, Bool.or_eq_false_iff]
    cases q : m_isG c with
    | false =>
      rw [gl_f1 q, if_neg (by decide)]
      exact ⟨fun h => ⟨h.1, rfl, h.2⟩, fun h => ⟨h.1, h.2.2⟩⟩
    | true =>
      rw [if_pos rfl, and_or0]
      by_cases z : sP c &&& x = 0
      · rw [gl_f2 z]
        exact ⟨fun h => ⟨h.1.1, rfl, h.2⟩, fun h => ⟨⟨h.1, by rw [Int64.and_comm]; exact z⟩, h.2.2⟩⟩
      · rw [gl_t q z]
        exact ⟨fun h => absurd (by rw [Int64.and_comm]; exact h.1.2) z, fun h => absurd h.2.1 (by decide)⟩
theorem gOr_0 {x : Int64} {S : List Int32} : x &&& gOr 0 S = 0 ↔ S.any (gl x) = false := by
  rw [gOr_and]
  have e : x &&& 0 = 0 := by
    apply uN_inj
    rw [uN_and, show uN 0 = 0 from rfl, Nat.and_zero]
  exact ⟨fun h => h.2, fun h => ⟨e, h⟩⟩
theorem und_G (c : Int32) : g_under (sK c) 1 = m_isG c := by
  unfold g_under m_isG
  rw [decide_eq_false (show ¬ (1 : Int32) = 0 by decide), decide_eq_true (rfl : (1 : Int32) = 1), Bool.false_or, Bool.true_and]
