/-! ===== the class's pieces ===== -/
theorem hg_uni {sd wi r r' : Int64} (h : hgP sd wi r) (h' : hgP sd wi r') : r = r' := by
  have k : ∀ {r r' : Int64}, hgP sd wi r → hgP sd wi r' → ∀ q, bfx r q = true → bfx r' q = true := fun {r r'} h h' q hq => by
    obtain ⟨-, p, p1, p2, p3⟩ := h.1 q hq
    exact p3 (fun x => bfx r' x = true) (h'.2.1 p p1 p2) h'.2.2
  refine bx_ext (fun j _ => ?_)
  cases q : bfx r j with
  | true => exact (k h h' j q).symm
  | false =>
    cases q2 : bfx r' j with
    | false => rfl
    | true => rw [k h' h j q2] at q; exact absurd q (by decide)
theorem hg_ex (sd wi : Int64) : ∃ r, hgP sd wi r := by
  have k : ∀ i : Nat, (∃ r, hgP sd wi r) ∨ ∃ r, hgI sd wi r i := by
    intro i
    induction i with
    | zero => exact Or.inr ⟨_, hg_0⟩
    | succ i ih =>
      rcases ih with h | ⟨r, h⟩
      · exact Or.inl h
      · by_cases e : (r ||| g_beside r) &&& wi = r
        · exact Or.inl ⟨r, hg_e h e⟩
        · exact Or.inr ⟨_, hg_s h e⟩
  rcases k 64 with h | ⟨r, h⟩
  · exact h
  · exact ⟨r, hg_f h rfl⟩
noncomputable def g_hang (sd wi : Int64) : Int64 := Classical.choose (hg_ex sd wi)
theorem hang_p (sd wi : Int64) : hgP sd wi (g_hang sd wi) := Classical.choose_spec (hg_ex sd wi)
theorem hang_e {sd wi r : Int64} (h : hgP sd wi r) : r = g_hang sd wi := hg_uni h (hang_p sd wi)
theorem pcn {x v : Int64} {i : Nat} (hi : i < 64) (h : pcI x v i) (q : g_holds v (nI i) = false) : pcI x v (i + 1) ∧ cFr (bfx x) A8 (i + 1) = cFr (bfx x) A8 i := pc_n h (by rw [← hol_t v hi]; exact q)
theorem pcy {x v : Int64} {i : Nat} (hi : i < 64) (h : pcI x v i) (q : g_holds v (nI i) = true) : pcI x (v &&& (g_hang ((1 : Int64) <<< ((nI i).toInt64 &&& 63)) v ^^^ (-1))) (i + 1) ∧ cFr (bfx x) A8 (i + 1) = cFr (bfx x) A8 i + 1 := pc_y hi h (by rw [← hol_t v hi]; exact q) (hang_p _ _)
def diP (x : Int64) : Prop := aPc x = 1 ∧ cFr (mOut x) A10 100 = 1
noncomputable def aDi (x : Int64) : Bool := @decide (diP x) (Classical.propDecidable _)
theorem di_t {x : Int64} (h : diP x) : true = aDi x := (@decide_eq_true _ (Classical.propDecidable _) h).symm
theorem di_f {x : Int64} (h : ¬ diP x) : false = aDi x := (@decide_eq_false _ (Classical.propDecidable _) h).symm
theorem di_1 {x : Int64} (h : ¬ nI (aPc x) = 1) : (0 : Int32) = bI (aDi x) := by
  rw [← di_f]; rfl
  exact fun z => h (by rw [z.1]; rfl)
theorem di_2 {x : Int64} (h2 : ¬ g_hang g_RIM (x ^^^ (-1)) = x ^^^ (-1)) : (0 : Int32) = bI (aDi x) := by
  rw [← di_f]; rfl
  exact fun z => h2 ((di_iff (hang_p _ _)).mp z.2)
theorem di_3 {x : Int64} (h : nI (aPc x) = 1) (h2 : g_hang g_RIM (x ^^^ (-1)) = x ^^^ (-1)) : (1 : Int32) = bI (aDi x) := by
  rw [← di_t]; rfl
  exact ⟨(nc1 (by decide)).mp h, (di_iff (hang_p _ _)).mpr h2⟩
theorem wc_1 {Y : va_W} {fl : Int64} {S : List Int32} {o : Option Nat} (hc : chR Y S o) (h : ¬ gOr 0 S = 0) : (0 : Int32) = bI (aWh fl S) := by
  rw [wh_f]; rfl
  exact fun z => h ((gor_any S (chR_ne S o hc)).mpr z.1)
theorem wc_2 {fl : Int64} {S : List Int32} (h : aDi fl = false) : (0 : Int32) = bI (aWh fl S) := by
  rw [wh_f]; rfl
  intro z
  rw [← di_t ⟨z.2.1, z.2.2⟩] at h
  exact absurd h (by decide)
theorem wc_3 {Y : va_W} {fl : Int64} {S : List Int32} {o : Option Nat} (hc : chR Y S o) (h : gOr 0 S = 0) (h2 : aDi fl = true) : (1 : Int32) = bI (aWh fl S) := by
  have k : diP fl := by
    by_cases e : diP fl
    · exact e
    · rw [← di_f e] at h2; exact absurd h2 (by decide)
  rw [wh_t]; rfl
  exact ⟨(gor_any S (chR_ne S o hc)).mp h, k.1, k.2⟩
theorem wi03 : ∀ w : Int32, (w = 0 ∨ w = 1 ∨ w = 2 ∨ w = 3) → m_within w 0 3 = true := by
  rintro w (rfl | rfl | rfl | rfl) <;> decide
theorem wi03n {w : Int32} (h0 : ¬ w = 0) (h1 : ¬ w = 1) (h2 : ¬ w = 2) (h3 : ¬ w = 3) : m_within w 0 3 = false := by
  cases q : m_within w 0 3 with
  | false => rfl
  | true =>
    exfalso
    obtain ⟨n, hn, e⟩ := vp_in_of (within_in4 q) (by decide)
    have z : n = 0 ∨ n = 1 ∨ n = 2 ∨ n = 3 := by omega
    rcases z with rfl | rfl | rfl | rfl
    · exact h0 e
    · exact h1 e
    · exact h2 e
    · exact h3 e
theorem fc_0 {fl : Int64} {S : List Int32} {w : Int32} (h : w = 0) : nI (m_cnt fl 64) = aFlo fl S w := fo_0 (wi03 w (Or.inl h)) h
theorem fc_1 {fl : Int64} {S : List Int32} {w : Int32} (h : w = 1) : nI (m_cnt (fl &&& DK) 64) = aFlo fl S w := fo_1 (wi03 w (Or.inr (Or.inl h))) (by rw [h]; decide) h rfl rfl
theorem fc_2 {fl : Int64} {S : List Int32} {w : Int32} (h : w = 2) : nI (aPc fl) = aFlo fl S w := by
  rw [← pc_inn]; exact fo_2 (wi03 w (Or.inr (Or.inr (Or.inl h)))) (by rw [h]; decide) (by rw [h]; decide) h
theorem fc_3 {fl : Int64} {S : List Int32} {w : Int32} (h : w = 3) : bI (aWh fl S) = aFlo fl S w := fo_3 (wi03 w (Or.inr (Or.inr (Or.inr h)))) (by rw [h]; decide) (by rw [h]; decide) (by rw [h]; decide) rfl
theorem fc_4 {fl : Int64} {S : List Int32} {w : Int32} (h0 : ¬ w = 0) (h1 : ¬ w = 1) (h2 : ¬ w = 2) (h3 : ¬ w = 3) : (-100001 : Int32) = aFlo fl S w := fo_x (wi03n h0 h1 h2 h3)
set_option maxHeartbeats 4000000 in
set_option maxRecDepth 100000 in
theorem x_X1_hangingTogether (l : Launch) (x0 : Int64) (x1 : Int64) : Met l yX1_hangingTogether wsX1_hangingTogether ({ frames := 1, cells := 0, slots := 0, locals := 21 }) (va_Pc [.long x0, .long x1] (fun _ => True)) (vp_Sl (fun r => r = g_hang x0 x1)) 0 0 (fun _ => False) := by
  refine Met.ofW (cc := cX1_hangingTogether) (maxL := 9) (ret := (some .long)) (by decide) rfl ?_
  intro p e s m args below meth c s₁ B hml hv
  obtain ⟨rfl, -⟩ := hv
  have hx := B.exec
  have hb := B.bytes
  have hr := B.returns
  have hts := atoms_spec (ws := wsX1_hangingTogether) B.pre
  have hown : s.vm.findClass RX1 = some m.cls := findClass_of_methodNamed B.named
  have hlocks := B.notSynchronized
  have hl := lv_entry ([.long x0, .long x1]) (n := 9) (Nat.le_of_ble_eq_true rfl)
  rw [lg_entry_eq]
  generalize (lg_sl ([.long x0, .long x1]) ++ List.replicate (9 - (lg_sl ([.long x0, .long x1])).length) Slot.unset).toArray = ls at hl ⊢
  have hl : lv_has ls 9 [(0, .long x0), (2, .long x1)] := hl
  have lp : ∀ (n8 : Nat), ∀ (i : Nat) (v : Int64), (i ≤ 64) → (hgI x0 x1 v i) → (64 - i) < n8 → ∀ (ls : Array Slot), lv_has ls 9 [(0, .long x0), (2, .long x1), (4, .long v), (6, .int (nI i))] → W p l e (headSpec wsX1_hangingTogether ({ frames := 1, cells := 0, slots := 0, locals := 21 })).room s m ([.long x0, .long x1] : List Value).toArray below meth c s.heap [] 0 0 (MQ below (vp_Sl (fun r => r = g_hang x0 x1)) ([.long x0, .long x1] : List Value).toArray s 0 0 (fun _ => False)) (F0 m 8 ls []) := by
    intro n8
    induction n8 with
    | zero => intro i v hi hgi hn; exact absurd hn (Nat.not_lt_zero _)
    | succ n8 ih8 =>
      intro i v hi hgi hn8 ls hl
      refine lv_iload hx hb dX1_hangingTogether_8 (lv_at hl 3 rfl) ?_
      refine lv_bipush (v := 64) hx hb dX1_hangingTogether_10 (by decide) ?_
      refine lv_icmp_ge (tgt := 48) hx hb dX1_hangingTogether_12 (by decide) (fun c_1 => ?_) (fun c_1 => ?_)
      · have hie := ctr_ge (N := 64) (by decide) hi c_1
        refine lv_lload hx hb dX1_hangingTogether_48 (lv_at hl 2 rfl) ?_
        exact pret_l hx hb hr hlocks (hang_e (hg_f hgi hie)) dX1_hangingTogether_50
      · have hlt := ctr_lt (N := 64) (by decide) hi c_1
        refine lv_lload hx hb dX1_hangingTogether_15 (lv_at hl 2 rfl) ?_
        refine lv_lload hx hb dX1_hangingTogether_17 (lv_at hl 2 rfl) ?_
        refine kS_l (As := [.long v]) (rest := [.long v]) ⟨hx, hb, hml, hown, hts⟩ (x_X1_beside l v) (va_cwS 1 hts gX1_hangingTogether_X1_beside rfl rfl rfl (by decide +kernel) ⟨Nat.le_of_ble_eq_true rfl, Nat.le_of_ble_eq_true rfl⟩) rfl hl.1 rfl (Nat.le_of_ble_eq_true rfl) dX1_hangingTogether_19 ⟨Nat.le_of_ble_eq_true rfl, Nat.le_of_ble_eq_true rfl⟩ ?_
        refine lv_lor hx hb dX1_hangingTogether_22 ?_
        refine lv_lload_n hx hb dX1_hangingTogether_23 rfl (lv_at hl 1 rfl) ?_
        refine lv_land hx hb dX1_hangingTogether_24 ?_
        refine lv_lstore (lv' := [(7, .long ((v ||| (g_beside v)) &&& x1)), (0, .long x0), (2, .long x1), (4, .long v), (6, .int (nI i))]) hx hb dX1_hangingTogether_25 hl (by decide) rfl (fun ls hl => ?_)
        refine lv_lload hx hb dX1_hangingTogether_27 (lv_at hl 0 rfl) ?_
        refine lv_lload hx hb dX1_hangingTogether_29 (lv_at hl 3 rfl) ?_
        refine W.lcmp hx hb dX1_hangingTogether_31 ?_
        refine lv_if_ne (tgt := 38) hx hb dX1_hangingTogether_32 (by decide) (fun c_2 => ?_) (fun c_2 => ?_)
        · replace c_2 := fun z => c_2 ((lg_cmp_eq _ _).mpr z)
          refine lv_lload hx hb dX1_hangingTogether_38 (lv_at hl 0 rfl) ?_
          refine lv_lstore (lv' := [(4, .long ((v ||| (g_beside v)) &&& x1)), (7, .long ((v ||| (g_beside v)) &&& x1)), (0, .long x0), (2, .long x1), (6, .int (nI i))]) hx hb dX1_hangingTogether_40 hl (by decide) rfl (fun ls hl => ?_)
          refine lv_iinc (v := nI (i + 1)) (lv' := [(6, .int (nI (i + 1))), (4, .long ((v ||| (g_beside v)) &&& x1)), (7, .long ((v ||| (g_beside v)) &&& x1)), (0, .long x0), (2, .long x1)]) hx hb dX1_hangingTogether_42 hl (k := 4) rfl (nI_1 _) (by decide) rfl (fun ls hl => ?_)
          refine lv_goto (tgt := 8) hx hb dX1_hangingTogether_45 (by decide) ?_
          exact ih8 (i + 1) ((v ||| (g_beside v)) &&& x1) (by omega) (hg_s hgi c_2) (by omega) ls (lv_sub hl [3, 4, 1, 0] rfl)
        · replace c_2 := (lg_cmp_eq _ _).mp c_2
          refine lv_goto (tgt := 48) hx hb dX1_hangingTogether_35 (by decide) ?_
          refine lv_lload hx hb dX1_hangingTogether_48 (lv_at hl 3 rfl) ?_
          exact pret_l hx hb hr hlocks (hang_e (hg_e hgi c_2)) dX1_hangingTogether_50
  refine lv_lload_n hx hb dX1_hangingTogether_0 rfl (lv_at hl 0 rfl) ?_
  refine lv_lload_n hx hb dX1_hangingTogether_1 rfl (lv_at hl 1 rfl) ?_
  refine lv_land hx hb dX1_hangingTogether_2 ?_
  refine lv_lstore (lv' := [(4, .long (x0 &&& x1)), (0, .long x0), (2, .long x1)]) hx hb dX1_hangingTogether_3 hl (by decide) rfl (fun ls hl => ?_)
  refine lv_iconst (v := 0) hx hb dX1_hangingTogether_5 (by decide) ?_
  refine lv_istore (lv' := [(6, .int 0), (4, .long (x0 &&& x1)), (0, .long x0), (2, .long x1)]) hx hb dX1_hangingTogether_6 hl (by decide) rfl (fun ls hl => ?_)
  exact lp _ 0 (x0 &&& x1) (by omega) hg_0 (Nat.lt_succ_self _) ls (lv_sub hl [2, 3, 1, 0] rfl)
set_option maxHeartbeats 4000000 in
set_option maxRecDepth 100000 in
theorem x_X1_pieces (l : Launch) (x0 : Int64) : Met l yX1_pieces wsX1_pieces ({ frames := 2, cells := 0, slots := 0, locals := 49 }) (va_Pc [.long x0] (fun _ => True)) (vp_Si (fun r => r = nI (aPc x0))) 0 0 (fun _ => False) := by
  refine Met.ofW (cc := cX1_pieces) (maxL := 6) (ret := (some .int)) (by decide) rfl ?_
  intro p e s m args below meth c s₁ B hml hv
  obtain ⟨rfl, -⟩ := hv
  have hx := B.exec
  have hb := B.bytes
  have hr := B.returns
  have hts := atoms_spec (ws := wsX1_pieces) B.pre
  have hown : s.vm.findClass RX1 = some m.cls := findClass_of_methodNamed B.named
  have hlocks := B.notSynchronized
  have hw0 := hts (.constantLong RX1 25 (-1)) (by decide +kernel)
  have hl := lv_entry ([.long x0]) (n := 6) (Nat.le_of_ble_eq_true rfl)
  rw [lg_entry_eq]
  generalize (lg_sl ([.long x0]) ++ List.replicate (6 - (lg_sl ([.long x0])).length) Slot.unset).toArray = ls at hl ⊢
  have hl : lv_has ls 6 [(0, .long x0)] := hl
  have lp : ∀ (n7 : Nat), ∀ (i : Nat) (w : Int32) (v : Int64), (i ≤ 64) → (pcI x0 v i) → (w = nI (cFr (bfx x0) A8 i)) → (64 - i) < n7 → ∀ (ls : Array Slot), lv_has ls 6 [(0, .long x0), (2, .int w), (3, .long v), (5, .int (nI i))] → W p l e (headSpec wsX1_pieces ({ frames := 2, cells := 0, slots := 0, locals := 49 })).room s m ([.long x0] : List Value).toArray below meth c s.heap [] 0 0 (MQ below (vp_Si (fun r => r = nI (aPc x0))) ([.long x0] : List Value).toArray s 0 0 (fun _ => False)) (F0 m 7 ls []) := by
    intro n7
    induction n7 with
    | zero => intro i w v hi hpc hcw hn; exact absurd hn (Nat.not_lt_zero _)
    | succ n7 ih7 =>
      intro i w v hi hpc hcw hn7 ls hl
      refine lv_iload hx hb dX1_pieces_7 (lv_at hl 3 rfl) ?_
      refine lv_bipush (v := 64) hx hb dX1_pieces_9 (by decide) ?_
      refine lv_icmp_ge (tgt := 47) hx hb dX1_pieces_11 (by decide) (fun c_1 => ?_) (fun c_1 => ?_)
      · have hie := ctr_ge (N := 64) (by decide) hi c_1
        refine lv_iload_n hx hb dX1_pieces_47 rfl (lv_at hl 1 rfl) ?_
        exact pret_i hx hb hr hlocks (by rw [hcw, hie]; rfl) dX1_pieces_48
      · have hlt := ctr_lt (N := 64) (by decide) hi c_1
        refine lv_lload_n hx hb dX1_pieces_14 rfl (lv_at hl 2 rfl) ?_
        refine lv_iload hx hb dX1_pieces_15 (lv_at hl 3 rfl) ?_
        refine kS_i (As := [.long v, .int (nI i)]) (rest := []) ⟨hx, hb, hml, hown, hts⟩ (c_X1_holds l v (nI i)) (va_cwS 2 hts gX1_pieces_X1_holds rfl rfl rfl (by decide +kernel) ⟨Nat.le_of_ble_eq_true rfl, Nat.le_of_ble_eq_true rfl⟩) rfl hl.1 rfl (Nat.le_of_ble_eq_true rfl) dX1_pieces_17 ⟨Nat.le_of_ble_eq_true rfl, Nat.le_of_ble_eq_true rfl⟩ ?_
        refine lv_if_eq (tgt := 41) hx hb dX1_pieces_20 (by decide) (fun c_2 => ?_) (fun c_2 => ?_)
        · replace c_2 := bI_f c_2
          refine lv_iinc (v := nI (i + 1)) (lv' := [(5, .int (nI (i + 1))), (0, .long x0), (2, .int w), (3, .long v)]) hx hb dX1_pieces_41 hl (k := 3) rfl (nI_1 _) (by decide) rfl (fun ls hl => ?_)
          refine lv_goto (tgt := 7) hx hb dX1_pieces_44 (by decide) ?_
          exact ih7 (i + 1) w v (by omega) (pcn hlt hpc c_2).1 (hcw.trans (congrArg nI (pcn hlt hpc c_2).2.symm)) (by omega) ls (lv_sub hl [1, 2, 3, 0] rfl)
        · replace c_2 := bI_t c_2
          refine lv_lload_n hx hb dX1_pieces_23 rfl (lv_at hl 2 rfl) ?_
          refine lv_lconst (v := 1) hx hb dX1_pieces_24 (by decide) ?_
          refine lv_iload hx hb dX1_pieces_25 (lv_at hl 3 rfl) ?_
          refine lv_lshl (v := (1 : Int64) <<< ((nI i : Int32).toInt64 &&& 63)) hx hb dX1_pieces_27 rfl ?_
          refine lv_lload_n hx hb dX1_pieces_28 rfl (lv_at hl 2 rfl) ?_
          refine kS_l (As := [.long ((1 : Int64) <<< ((nI i : Int32).toInt64 &&& 63)), .long v]) (rest := [.long v]) ⟨hx, hb, hml, hown, hts⟩ (x_X1_hangingTogether l ((1 : Int64) <<< ((nI i : Int32).toInt64 &&& 63)) v) (va_cwS 2 hts gX1_pieces_X1_hangingTogether rfl rfl rfl (by decide +kernel) ⟨Nat.le_of_ble_eq_true rfl, Nat.le_of_ble_eq_true rfl⟩) rfl hl.1 rfl (Nat.le_of_ble_eq_true rfl) dX1_pieces_29 ⟨Nat.le_of_ble_eq_true rfl, Nat.le_of_ble_eq_true rfl⟩ ?_
          refine lv_ldc2 (v := (-1)) hx hb hown hw0 dX1_pieces_32 ?_
          refine lv_lxor hx hb dX1_pieces_35 ?_
          refine lv_land hx hb dX1_pieces_36 ?_
          refine lv_lstore_n (lv' := [(3, .long (v &&& ((g_hang ((1 : Int64) <<< ((nI i : Int32).toInt64 &&& 63)) v) ^^^ (-1)))), (0, .long x0), (2, .int w), (5, .int (nI i))]) hx hb dX1_pieces_37 rfl hl (by decide) rfl (fun ls hl => ?_)
          refine lv_iinc (v := w + 1) (lv' := [(2, .int (w + 1)), (3, .long (v &&& ((g_hang ((1 : Int64) <<< ((nI i : Int32).toInt64 &&& 63)) v) ^^^ (-1)))), (0, .long x0), (5, .int (nI i))]) hx hb dX1_pieces_38 hl (k := 2) rfl rfl (by decide) rfl (fun ls hl => ?_)
          refine lv_iinc (v := nI (i + 1)) (lv' := [(5, .int (nI (i + 1))), (2, .int (w + 1)), (3, .long (v &&& ((g_hang ((1 : Int64) <<< ((nI i : Int32).toInt64 &&& 63)) v) ^^^ (-1)))), (0, .long x0)]) hx hb dX1_pieces_41 hl (k := 3) rfl (nI_1 _) (by decide) rfl (fun ls hl => ?_)
          refine lv_goto (tgt := 7) hx hb dX1_pieces_44 (by decide) ?_
          exact ih7 (i + 1) (w + 1) (v &&& ((g_hang ((1 : Int64) <<< ((nI i : Int32).toInt64 &&& 63)) v) ^^^ (-1))) (by omega) (pcy hlt hpc c_2).1 (by rw [hcw, nI_1, (pcy hlt hpc c_2).2]) (by omega) ls (lv_sub hl [3, 1, 2, 0] rfl)
  refine lv_iconst (v := 0) hx hb dX1_pieces_0 (by decide) ?_
  refine lv_istore_n (lv' := [(2, .int 0), (0, .long x0)]) hx hb dX1_pieces_1 rfl hl (by decide) rfl (fun ls hl => ?_)
  refine lv_lload_n hx hb dX1_pieces_2 rfl (lv_at hl 1 rfl) ?_
  refine lv_lstore_n (lv' := [(3, .long x0), (2, .int 0), (0, .long x0)]) hx hb dX1_pieces_3 rfl hl (by decide) rfl (fun ls hl => ?_)
  refine lv_iconst (v := 0) hx hb dX1_pieces_4 (by decide) ?_
  refine lv_istore (lv' := [(5, .int 0), (3, .long x0), (2, .int 0), (0, .long x0)]) hx hb dX1_pieces_5 hl (by decide) rfl (fun ls hl => ?_)
  exact lp _ 0 0 x0 (by omega) pc_0 rfl (Nat.lt_succ_self _) ls (lv_sub hl [3, 2, 1, 0] rfl)
set_option maxHeartbeats 4000000 in
set_option maxRecDepth 100000 in
theorem x_X1_isDisc (l : Launch) (x0 : Int64) : Met l yX1_isDisc wsX1_isDisc ({ frames := 3, cells := 0, slots := 0, locals := 74 }) (va_Pc [.long x0] (fun _ => True)) (vp_Si (fun r => r = bI (aDi x0))) 0 0 (fun _ => False) := by
  refine Met.ofW (cc := cX1_isDisc) (maxL := 2) (ret := (some .boolean)) (by decide) rfl ?_
  intro p e s m args below meth c s₁ B hml hv
  obtain ⟨rfl, -⟩ := hv
  have hx := B.exec
  have hb := B.bytes
  have hr := B.returns
  have hts := atoms_spec (ws := wsX1_isDisc) B.pre
  have hown : s.vm.findClass RX1 = some m.cls := findClass_of_methodNamed B.named
  have hlocks := B.notSynchronized
  have hw0 := hts (.constantLong RX1 31 (-35604928818740737)) (by decide +kernel)
  have hw1 := hts (.constantLong RX1 25 (-1)) (by decide +kernel)
  have hl := lv_entry ([.long x0]) (n := 2) (Nat.le_of_ble_eq_true rfl)
  rw [lg_entry_eq]
  generalize (lg_sl ([.long x0]) ++ List.replicate (2 - (lg_sl ([.long x0])).length) Slot.unset).toArray = ls at hl ⊢
  have hl : lv_has ls 2 [(0, .long x0)] := hl
  refine lv_lload_n hx hb dX1_isDisc_0 rfl (lv_at hl 0 rfl) ?_
  refine kS_i (As := [.long x0]) (rest := []) ⟨hx, hb, hml, hown, hts⟩ (x_X1_pieces l x0) (va_cwS 1 hts gX1_isDisc_X1_pieces rfl rfl rfl (by decide +kernel) ⟨Nat.le_of_ble_eq_true rfl, Nat.le_of_ble_eq_true rfl⟩) rfl hl.1 rfl (Nat.le_of_ble_eq_true rfl) dX1_isDisc_1 ⟨Nat.le_of_ble_eq_true rfl, Nat.le_of_ble_eq_true rfl⟩ ?_
  refine lv_iconst (v := 1) hx hb dX1_isDisc_4 (by decide) ?_
  refine lv_icmp_ne (tgt := 32) hx hb dX1_isDisc_5 (by decide) (fun c_1 => ?_) (fun c_1 => ?_)
  · refine lv_iconst (v := 0) hx hb dX1_isDisc_32 (by decide) ?_
    exact pret_z hx hb hr hlocks (di_1 c_1) dX1_isDisc_33
  · refine lv_ldc2 (v := (-35604928818740737)) hx hb hown hw0 dX1_isDisc_8 ?_
    refine lv_lload_n hx hb dX1_isDisc_11 rfl (lv_at hl 0 rfl) ?_
    refine lv_ldc2 (v := (-1)) hx hb hown hw1 dX1_isDisc_12 ?_
    refine lv_lxor hx hb dX1_isDisc_15 ?_
    refine kS_l (As := [.long (-35604928818740737), .long (x0 ^^^ (-1))]) (rest := []) ⟨hx, hb, hml, hown, hts⟩ (x_X1_hangingTogether l (-35604928818740737) (x0 ^^^ (-1))) (va_cwS 2 hts gX1_isDisc_X1_hangingTogether rfl rfl rfl (by decide +kernel) ⟨Nat.le_of_ble_eq_true rfl, Nat.le_of_ble_eq_true rfl⟩) rfl hl.1 rfl (Nat.le_of_ble_eq_true rfl) dX1_isDisc_16 ⟨Nat.le_of_ble_eq_true rfl, Nat.le_of_ble_eq_true rfl⟩ ?_
    refine lv_lload_n hx hb dX1_isDisc_19 rfl (lv_at hl 0 rfl) ?_
    refine lv_ldc2 (v := (-1)) hx hb hown hw1 dX1_isDisc_20 ?_
    refine lv_lxor hx hb dX1_isDisc_23 ?_
    refine W.lcmp hx hb dX1_isDisc_24 ?_
    refine lv_if_ne (tgt := 32) hx hb dX1_isDisc_25 (by decide) (fun c_2 => ?_) (fun c_2 => ?_)
    · replace c_2 := fun z => c_2 ((lg_cmp_eq _ _).mpr z)
      refine lv_iconst (v := 0) hx hb dX1_isDisc_32 (by decide) ?_
      exact pret_z hx hb hr hlocks (di_2 c_2) dX1_isDisc_33
    · replace c_2 := (lg_cmp_eq _ _).mp c_2
      refine lv_iconst (v := 1) hx hb dX1_isDisc_28 (by decide) ?_
      refine lv_goto (tgt := 33) hx hb dX1_isDisc_29 (by decide) ?_
      exact pret_z hx hb hr hlocks (di_3 c_1 c_2) dX1_isDisc_33
