abbrev CT (cy : Nat → ClassId) (a : Nat → Nat) (J : Nat → Int64) (I : Nat → Int32) (O : Nat → Option Nat) (R : Nat → Nat → Int32) (RO : Nat → Nat → Option Nat) (T : va_W) : va_W := (a 0, .inr (8, [.ref (a 1), .ref (a 2), .ref (a 3), .ref (a 7), .ref (a 8), va_rf (O 5), .long (J 6), va_rf (O 7), va_rf (O 8), .int (I 9), .int (I 10)])) :: (a 1, .inl (cy 4, 4, .inr (.inr (.inr (.inr (RO 1)))))) :: (a 2, .inl (cy 3, 20, .inr (.inr (.inr (.inr (RO 2)))))) :: (a 3, .inr (1, [.ref (a 4), .ref (a 5), .ref (a 6), .int (I 99), va_rf (O 100)])) :: (a 4, .inl (cy 0, 81, .inl (R 4))) :: (a 5, .inl (cy 0, 81, .inl (R 5))) :: (a 6, .inl (cy 0, 81, .inl (R 6))) :: (a 7, .inr (7, [.long (J 224), .long (J 225)])) :: (a 8, .inr (0, [.ref (a 9), .ref (a 10), .ref (a 11), .int (I 259), .long (J 260), .long (J 261), .long (J 262)])) :: (a 9, .inl (cy 0, 64, .inl (R 9))) :: (a 10, .inl (cy 0, 64, .inl (R 10))) :: (a 11, .inl (cy 0, 64, .inl (R 11))) :: (a 12, .inr (5, [.ref (a 13), .int (I 385), .int (I 386)])) :: (a 13, .inl (cy 0, 16, .inl (R 13))) :: (a 14, .inr (5, [.ref (a 15), .int (I 449), .int (I 450)])) :: (a 15, .inl (cy 0, 16, .inl (R 15))) :: (a 16, .inr (5, [.ref (a 17), .int (I 513), .int (I 514)])) :: (a 17, .inl (cy 0, 16, .inl (R 17))) :: (a 18, .inr (5, [.ref (a 19), .int (I 577), .int (I 578)])) :: (a 19, .inl (cy 0, 16, .inl (R 19))) :: T
abbrev TS : Type := (Nat → Int64) × (Nat → Int32) × (Nat → Option Nat) × (Nat → Nat → Int32) × (Nat → Nat → Option Nat) × va_W × va_W
abbrev CTu (cy : Nat → ClassId) (a : Nat → Nat) (u : TS) : va_W := CT cy a u.1 u.2.1 u.2.2.1 u.2.2.2.1 u.2.2.2.2.1 (u.2.2.2.2.2.1 ++ u.2.2.2.2.2.2)
abbrev stC (b : Nat) (be : Option Nat) (n k f : Int32) (x : Bool) (c : Int32) (cv : Int64) : Nat × va_E := (b, .inr (6, [va_rf be, .int n, .int k, .int f, .int (bI x), .int c, .long cv]))
abbrev laC (b : Nat) (n : Int32) (al ac : Int64) : Nat × va_E := (b, .inr (2, [.int n, .long al, .long ac]))
abbrev paC (b : Nat) (f : Int64) (l h : Option Nat) : Nat × va_E := (b, .inr (4, [.long f, va_rf l, va_rf h]))
abbrev lgC (cy : Nat → ClassId) (b0 b1 b2 : Nat) (jf : Int64) (kn : Int32) (fw fp : Nat → Int32) : va_W := [(b0, .inr (3, [.ref b1, .ref b2, .long jf, .int kn])), (b1, .inl (cy 0, 16640, .inl fw)), (b2, .inl (cy 0, 512, .inl fp))]
/-- n stones hang from o, the latest first -/
def chain (Y : va_W) : Nat → Option Nat → Prop
  | 0, o => o = none
  | n + 1, o => ∃ (b : Nat) (be : Option Nat) (k f : Int32) (x : Bool) (c : Int32) (cv : Int64), o = some b ∧ stC b be (nI n) k f x c cv ∈ Y ∧ chain Y n be
def chO (Y : va_W) (o : Option Nat) : Prop := ∃ n, chain Y n o
def layO (Y : va_W) (o : Option Nat) : Prop := o = none ∨ ∃ (b : Nat) (n : Int32) (al ac : Int64), o = some b ∧ laC b n al ac ∈ Y
def pasO (Y : va_W) (o : Option Nat) : Prop := o = none ∨ ∃ (b : Nat) (f : Int64) (l h : Option Nat), o = some b ∧ paC b f l h ∈ Y ∧ chO Y l ∧ layO Y h
def LOK (cy : Nat → ClassId) (o : Option Nat) (LL : va_W) : Prop := (o = none ∧ LL = []) ∨ ∃ (b0 b1 b2 : Nat) (jf : Int64) (kn : Int32) (fw fp : Nat → Int32), o = some b0 ∧ isB kn ∧ (kn = 1 → tabF (bfx jf) fw 0) ∧ LL = lgC cy b0 b1 b2 jf kn fw fp
abbrev CI (a : Nat → Nat) (Y : va_W) (I : Nat → Int32) (O : Nat → Option Nat) (RO : Nat → Nat → Option Nat) : Prop := vp_in (I 9) 21 ∧ chO Y (O 7) ∧ layO Y (O 8) ∧ (∀ i, i < 20 → pasO Y (RO 2 i)) ∧ vp_in (I 386) 17 ∧ vp_in (I 450) 17 ∧ vp_in (I 514) 17 ∧ vp_in (I 578) 17 ∧ RO 1 0 = some (a 12) ∧ RO 1 1 = some (a 14) ∧ RO 1 2 = some (a 16) ∧ RO 1 3 = some (a 18)
theorem chain_mono {Y Y' : va_W} (hs : ∀ c, c ∈ Y → c ∈ Y') : ∀ (n : Nat) (o : Option Nat), chain Y n o → chain Y' n o
  | 0, _, h => h
  | n + 1, o, h => by
    obtain ⟨b, be, k, f, x, c, cv, e, hm, hc⟩ := h
    exact ⟨b, be, k, f, x, c, cv, e, hs _ hm, chain_mono hs n be hc⟩
theorem chO_mono {Y Y' : va_W} (hs : ∀ c, c ∈ Y → c ∈ Y') {o : Option Nat} (h : chO Y o) : chO Y' o := by
  obtain ⟨n, h⟩ := h
  exact ⟨n, chain_mono hs n o h⟩
theorem layO_mono {Y Y' : va_W} (hs : ∀ c, c ∈ Y → c ∈ Y') {o : Option Nat} (h : layO Y o) : layO Y' o := by
  rcases h with h | ⟨b, n, al, ac, e, hm⟩
  · exact Or.inl h
  · exact Or.inr ⟨b, n, al, ac, e, hs _ hm⟩
theorem pasO_mono {Y Y' : va_W} (hs : ∀ c, c ∈ Y → c ∈ Y') {o : Option Nat} (h : pasO Y o) : pasO Y' o := by
  rcases h with h | ⟨b, f, l, k, e, hm, h1, h2⟩
  · exact Or.inl h
  · exact Or.inr ⟨b, f, l, k, e, hs _ hm, chO_mono hs h1, layO_mono hs h2⟩
theorem pas_mono {Y Y' : va_W} (hs : ∀ c, c ∈ Y → c ∈ Y') {f : Nat → Option Nat} (h : ∀ i, i < 20 → pasO Y (f i)) : ∀ i, i < 20 → pasO Y' (f i) := fun i hi => pasO_mono hs (h i hi)
theorem pas_up {Y : va_W} {f : Nat → Option Nat} {k : Nat} {v : Option Nat} (h : ∀ i, i < 20 → pasO Y (f i)) (hv : pasO Y v) : ∀ i, i < 20 → pasO Y (va_up f k v i) := by
  intro i hi
  unfold va_up
  split
  · exact hv
  · exact h i hi
theorem ch_none {Y : va_W} : chO Y none := ⟨0, rfl⟩
theorem lay_none {Y : va_W} : layO Y none := Or.inl rfl
theorem pas_none {Y : va_W} : pasO Y none := Or.inl rfl
theorem chN_some {Y : va_W} {n : Nat} {o : Option Nat} (h : chain Y n o) (q : ¬ o = none) : ∃ (n' b : Nat) (be : Option Nat) (k f : Int32) (x : Bool) (c : Int32) (cv : Int64), n = n' + 1 ∧ o = some b ∧ stC b be (nI n') k f x c cv ∈ Y ∧ chain Y n' be := by
  cases n with
  | zero => exact absurd h q
  | succ n =>
    obtain ⟨b, be, k, f, x, c, cv, e, hm, hc⟩ := h
    exact ⟨n, b, be, k, f, x, c, cv, rfl, e, hm, hc⟩
theorem ch_some {Y : va_W} {o : Option Nat} (h : chO Y o) (q : ¬ o = none) : ∃ (n b : Nat) (be : Option Nat) (k f : Int32) (x : Bool) (c : Int32) (cv : Int64), o = some b ∧ stC b be (nI n) k f x c cv ∈ Y ∧ chO Y be := by
  obtain ⟨n, h⟩ := h
  obtain ⟨n', b, be, k, f, x, c, cv, -, e, hm, hc⟩ := chN_some h q
  exact ⟨n', b, be, k, f, x, c, cv, e, hm, n', hc⟩
theorem lay_some {Y : va_W} {o : Option Nat} (h : layO Y o) (q : ¬ o = none) : ∃ (b : Nat) (n : Int32) (al ac : Int64), o = some b ∧ laC b n al ac ∈ Y := by
  rcases h with h | h
  · exact absurd h q
  · exact h
theorem pas_some {Y : va_W} {o : Option Nat} (h : pasO Y o) (q : ¬ o = none) : ∃ (b : Nat) (f : Int64) (l k : Option Nat), o = some b ∧ paC b f l k ∈ Y ∧ chO Y l ∧ layO Y k := by
  rcases h with h | h
  · exact absurd h q
  · exact h
theorem mem_last {Y : va_W} {c : Nat × va_E} : c ∈ Y ++ [c] := List.mem_append_right Y (List.mem_singleton.mpr rfl)
theorem pixT {cy : Nat → ClassId} {a : Nat → Nat} {J : Nat → Int64} {I : Nat → Int32} {O : Nat → Option Nat} {R : Nat → Nat → Int32} {RO : Nat → Nat → Option Nat} {LL Y : va_W} {c : Nat × va_E} (h : c ∈ Y) : ∃ k : Nat, (CT cy a J I O R RO (LL ++ Y))[k]? = some c :=
  List.getElem?_of_mem (List.mem_cons_of_mem _ (List.mem_cons_of_mem _ (List.mem_cons_of_mem _ (List.mem_cons_of_mem _ (List.mem_cons_of_mem _ (List.mem_cons_of_mem _ (List.mem_cons_of_mem _ (List.mem_cons_of_mem _ (List.mem_cons_of_mem _ (List.mem_cons_of_mem _ (List.mem_cons_of_mem _ (List.mem_cons_of_mem _ (List.mem_cons_of_mem _ (List.mem_cons_of_mem _ (List.mem_cons_of_mem _ (List.mem_cons_of_mem _ (List.mem_cons_of_mem _ (List.mem_cons_of_mem _ (List.mem_cons_of_mem _ (List.mem_cons_of_mem _ (List.mem_append_right LL h)))))))))))))))))))))
theorem pixX {X Z : va_W} {c : Nat × va_E} (h : ∃ k : Nat, X[k]? = some c) : ∃ k : Nat, (X ++ Z)[k]? = some c := by
  obtain ⟨k, hk⟩ := h
  exact ⟨k, by rw [List.getElem?_append_left (List.getElem?_eq_some_iff.mp hk).1]; exact hk⟩
theorem pas_ix {cy : Nat → ClassId} {a : Nat → Nat} {J : Nat → Int64} {I : Nat → Int32} {O : Nat → Option Nat} {R : Nat → Nat → Int32} {RO : Nat → Nat → Option Nat} {LL Y : va_W} {o : Option Nat} (h : pasO Y o) : o = none ∨ ∃ (b qk : Nat) (vs : List Value), o = some b ∧ (CT cy a J I O R RO (LL ++ Y))[qk]? = some (b, .inr (4, vs)) := by
  rcases h with h | ⟨b, f, l, k, e, hm, -, -⟩
  · exact Or.inl h
  · obtain ⟨qk, hk⟩ := pixT (cy := cy) (a := a) (J := J) (I := I) (O := O) (R := R) (RO := RO) (LL := LL) hm
    exact Or.inr ⟨b, qk, _, e, hk⟩
theorem P_left {D : va_G} {X Z : va_W} {H : Heap} (h : va_P D vwCl (X ++ Z) H) : va_P D vwCl X H := fun k q hk => h k q (by rw [List.getElem?_append_left (List.getElem?_eq_some_iff.mp hk).1]; exact hk)
theorem D_left {A : Nat → Prop} {X Z : va_W} (h : va_D A (X ++ Z)) : va_D A X := by
  have hL : ∀ (k : Nat) (q : Nat × va_E), X[k]? = some q → (X ++ Z)[k]? = some q := fun k q hk => by
    rw [List.getElem?_append_left (List.getElem?_eq_some_iff.mp hk).1]; exact hk
  exact ⟨fun i j p q h1 h2 h3 => h.1 i j p q (hL i p h1) (hL j q h2) h3, fun k q hk => h.2 k q (hL k q hk)⟩
theorem onar {n : String} (o : Option Nat) : narrow (.object n) (va_rf o) = va_rf o := by cases o <;> rfl
theorem ofit {n : String} (o : Option Nat) : fits (.object n) (va_rf o) = true := by cases o <;> rfl
section KOPT
variable {p : Program} {l : Launch} {e : Env} {R : Room} {s : State} {m : MethodId} {args : Array Value} {below : List Frame} {meth : Method} {c : Code} {H : Heap} {locs : List Loc} {cells slots : Nat} {Q : State → Prop}
variable {pc : Nat} {ls : Array Slot} {rest st0 As : List Value} {cc bytes : ByteArray} {Ts wsy wsy' : List Cond} {own : String} {y : MethodName} {rm : Room} {ret : Option FieldType} {index maxL nL n mc ms : Nat}
variable {D : va_G} {cy : Nat → ClassId} {ws : va_W} {A0 : Nat → Prop} {H0 : Heap} {b : Nat}
theorem lv_aload_nO (hexec : p.tables.exec = Jvm.exec) (hb : c.code = cc) {k : Fin 4} {i : Nat} {o : Option Nat} (hdg : decode cc pc = .ok (.aload_n k, 1)) (hi : (k : Nat) = i) (hl : ls[i]? = some (.val (va_rf o)))
    (k : W p l e R s m args below meth c H locs cells slots Q (F0 m (pc + 1) ls (va_rf o :: rest))) : W p l e R s m args below meth c H locs cells slots Q (F0 m pc ls (rest)) := by
  cases o with
  | none => exact lv_aload_nN hexec hb hdg hi hl k
  | some x => exact lv_aload_n hexec hb hdg hi hl k
theorem lv_aloadO (hexec : p.tables.exec = Jvm.exec) (hb : c.code = cc) {i : Nat} {o : Option Nat} (hdg : decode cc pc = .ok (.aload i, 2)) (hl : ls[i]? = some (.val (va_rf o)))
    (k : W p l e R s m args below meth c H locs cells slots Q (F0 m (pc + 2) ls (va_rf o :: rest))) : W p l e R s m args below meth c H locs cells slots Q (F0 m pc ls (rest)) := by
  cases o with
  | none => exact lv_aloadN hexec hb hdg hl k
  | some x => exact lv_aload hexec hb hdg hl k
theorem lv_astore_nO (hexec : p.tables.exec = Jvm.exec) (hb : c.code = cc) {k : Fin 4} {i nL : Nat} {o : Option Nat} {lv lv' : List (Nat × Value)} (hdg : decode cc pc = .ok (.astore_n k, 1)) (hi : (k : Nat) = i) (h : lv_has ls nL lv) (hn : i < nL) (hl : (i, va_rf o) :: lv.filter (fun q => !(q.1 == i) && !(q.1 + 1 == i && q.2.category == 2)) = lv')
    (kk : ∀ ls' : Array Slot, lv_has ls' nL lv' → W p l e R s m args below meth c H locs cells slots Q (F0 m (pc + 1) ls' rest)) : W p l e R s m args below meth c H locs cells slots Q (F0 m pc ls (va_rf o :: rest)) := by
  cases o with
  | none => exact lv_astore_nN hexec hb hdg hi h hn hl kk
  | some x => exact lv_astore_n hexec hb hdg hi h hn hl kk
theorem lv_astoreO (hexec : p.tables.exec = Jvm.exec) (hb : c.code = cc) {i nL : Nat} {o : Option Nat} {lv lv' : List (Nat × Value)} (hdg : decode cc pc = .ok (.astore i, 2)) (h : lv_has ls nL lv) (hn : i < nL) (hl : (i, va_rf o) :: lv.filter (fun q => !(q.1 == i) && !(q.1 + 1 == i && q.2.category == 2)) = lv')
    (kk : ∀ ls' : Array Slot, lv_has ls' nL lv' → W p l e R s m args below meth c H locs cells slots Q (F0 m (pc + 2) ls' rest)) : W p l e R s m args below meth c H locs cells slots Q (F0 m pc ls (va_rf o :: rest)) := by
  cases o with
  | none => exact lv_astoreN hexec hb hdg h hn hl kk
  | some x => exact lv_astore hexec hb hdg h hn hl kk
theorem lv_ifnullO (hexec : p.tables.exec = Jvm.exec) (hb : c.code = cc) {o : Option Nat} {off : Int} {tgt : Nat} (hdg : decode cc pc = .ok (.ifnull off, 3)) (ht : (pc : Int) + off = (tgt : Int)) (kt : o = none → W p l e R s m args below meth c H locs cells slots Q (F0 m tgt ls rest)) (kf : ¬ o = none → W p l e R s m args below meth c H locs cells slots Q (F0 m (pc + 3) ls rest)) : W p l e R s m args below meth c H locs cells slots Q (F0 m pc ls (va_rf o :: rest)) := by
  cases o with
  | none => exact lv_ifnullN hexec hb hdg ht (kt rfl)
  | some x => exact lv_ifnull hexec hb hdg (kf (fun z => by cases z))
theorem lv_ifnonnullO (hexec : p.tables.exec = Jvm.exec) (hb : c.code = cc) {o : Option Nat} {off : Int} {tgt : Nat} (hdg : decode cc pc = .ok (.ifnonnull off, 3)) (ht : (pc : Int) + off = (tgt : Int)) (kt : ¬ o = none → W p l e R s m args below meth c H locs cells slots Q (F0 m tgt ls rest)) (kf : o = none → W p l e R s m args below meth c H locs cells slots Q (F0 m (pc + 3) ls rest)) : W p l e R s m args below meth c H locs cells slots Q (F0 m pc ls (va_rf o :: rest)) := by
  cases o with
  | none => exact lv_ifnonnullN hexec hb hdg (kf rfl)
  | some x => exact lv_ifnonnull hexec hb hdg ht (kt (fun z => by cases z))
theorem kstO {a : Nat} (hexec : p.tables.exec = Jvm.exec) (hb : c.code = cc) (hK : va_K D vwCl (tysA cy) s) (hP : va_P D vwCl ws H) (hD : va_D A0 ws) (hS : va_S A0 H0 H locs) (q0 t0 ci : Nat) {cA : ClassId} {r : vw_C} {n : Nat} {o : Option Nat} {f : Nat → Option Nat} (ha : ws[q0]? = some (a, .inl (cA, n, .inr (.inr (.inr (.inr f)))))) (ht : (tysA cy)[t0]? = some (cA, .object r.1)) (hc : vwCl[ci]? = some r) (ho : o = none ∨ ∃ (b qk : Nat) (vs : List Value), o = some b ∧ ws[qk]? = some (b, .inr (ci, vs))) {i : Int32} (hin : vp_in i n) (hdg : decode cc pc = .ok (.aastore, 1))
    (kk : ∀ (H1 : Heap) (locs1 : List Loc), va_P D vwCl (ws.set q0 (a, .inl (cA, n, .inr (.inr (.inr (.inr (va_up f i.toNatClampNeg o))))))) H1 → va_D A0 (ws.set q0 (a, .inl (cA, n, .inr (.inr (.inr (.inr (va_up f i.toNatClampNeg o))))))) → va_S A0 H0 H1 locs1 → W p l e R s m args below meth c H1 locs1 cells slots Q (F0 m (pc + 1) ls rest)) : W p l e R s m args below meth c H locs cells slots Q (F0 m pc ls (va_rf o :: .int i :: .ref a :: rest)) := by
  rcases ho with rfl | ⟨b, qk, vs, rfl, hv⟩
  · exact va_astqN hexec hb hK hP hD hS q0 t0 ha ht hin hdg kk
  · exact va_astq hexec hb hK hP hD hS q0 t0 qk ci ha ht hv hc hin hdg kk
/-- static, without a world, an answer of which only something is said -/
theorem kSa_i {post : Int32 → Prop} (C0 : CallFix p m c cc nL s args Ts own) (hM : Met l y wsy rm (va_Pc As (fun _ => True)) (vp_Si post) 0 0 (fun _ => False)) (cw : CallB R s args own index y bytes maxL ret wsy rm 0 0 n ∧ (Cond.static y).before args s = true)
    (hn : As.length = n) (hsize : ls.size = nL) (hst : st0 = As.reverse ++ rest) (hW : (rest.map fun v => v.category).sum ≤ 8) (hdg : decode cc pc = .ok (.invokestatic index, 3)) (hf : cells ≤ R.cells ∧ slots ≤ R.slots)
    (kk : ∀ r : Int32, post r → W p l e R s m args below meth c H locs cells slots Q (F0 m (pc + 3) ls (.int r :: rest))) : W p l e R s m args below meth c H locs cells slots Q (F0 m pc ls st0) :=
  kgo_i (va_runS C0 hM cw ⟨PT_blind, fun U _ _ => ⟨rfl, trivial⟩⟩ rfl hn hsize hst (lv_room hW) hdg hf) kk
theorem kSa_l {post : Int64 → Prop} (C0 : CallFix p m c cc nL s args Ts own) (hM : Met l y wsy rm (va_Pc As (fun _ => True)) (vp_Sl post) 0 0 (fun _ => False)) (cw : CallB R s args own index y bytes maxL ret wsy rm 0 0 n ∧ (Cond.static y).before args s = true)
    (hn : As.length = n) (hsize : ls.size = nL) (hst : st0 = As.reverse ++ rest) (hW : (rest.map fun v => v.category).sum ≤ 8) (hdg : decode cc pc = .ok (.invokestatic index, 3)) (hf : cells ≤ R.cells ∧ slots ≤ R.slots)
    (kk : ∀ r : Int64, post r → W p l e R s m args below meth c H locs cells slots Q (F0 m (pc + 3) ls (.long r :: rest))) : W p l e R s m args below meth c H locs cells slots Q (F0 m pc ls st0) :=
  kgo_l (va_runS C0 hM cw ⟨PT_blind, fun U _ _ => ⟨rfl, trivial⟩⟩ rfl hn hsize hst (lv_room hW) hdg hf) kk
/-- static and a nest-mate's -/
theorem kSN_i {host : String} {f : Int32} (C0 : CallFix p m c cc nL s args Ts own) (hM : Met l y wsy rm (va_Pc As (fun _ => True)) (vp_Si (fun r => r = f)) 0 0 (fun _ => False)) (cw : va_CN R s args own index y host bytes maxL ret wsy rm 0 0 n ∧ (Cond.static y).before args s = true ∧ True)
    (hn : As.length = n) (hsize : ls.size = nL) (hst : st0 = As.reverse ++ rest) (hW : (rest.map fun v => v.category).sum ≤ 8) (hdg : decode cc pc = .ok (.invokestatic index, 3)) (hf : cells ≤ R.cells ∧ slots ≤ R.slots)
    (kk : W p l e R s m args below meth c H locs cells slots Q (F0 m (pc + 3) ls (.int f :: rest))) : W p l e R s m args below meth c H locs cells slots Q (F0 m pc ls st0) := by
  refine kgo_i (va_runSN C0 hM cw ⟨PT_blind, fun U _ _ => ⟨rfl, trivial⟩⟩ rfl hn hsize hst (lv_room hW) hdg hf) (fun r hr => ?_)
  rw [hr]
  exact kk
/-- static, only reads the world -/
theorem kWR_i {f : Int32} (C0 : CallFix p m c cc nL s args Ts own) (hM : Met l y wsy rm (va_Pc As (PW D cy H.size ws)) (vp_Si (fun r => r = f)) 0 0 (fun _ => False)) (cw : CallB R s args own index y bytes maxL ret wsy rm 0 0 n ∧ (Cond.static y).before args s = true)
    (hK : va_K D vwCl (tysA cy) s) (hN : NW s) (hP : va_P D vwCl ws H) (hD : va_D A0 ws)
    (hn : As.length = n) (hsize : ls.size = nL) (hst : st0 = As.reverse ++ rest) (hW : (rest.map fun v => v.category).sum ≤ 8) (hdg : decode cc pc = .ok (.invokestatic index, 3)) (hf : cells ≤ R.cells ∧ slots ≤ R.slots)
    (kk : W p l e R s m args below meth c H locs cells slots Q (F0 m (pc + 3) ls (.int f :: rest))) : W p l e R s m args below meth c H locs cells slots Q (F0 m pc ls st0) := by
  refine kgo_i (va_runS C0 hM cw ⟨PW_blind, fun U hU hW => ⟨rfl, by rw [hU], by rw [hU]; exact hP, va_K.moved hW.alike hK, hN.warm hW, hD.weaken (fun _ _ _ _ => trivial)⟩⟩ rfl hn hsize hst (lv_room hW) hdg hf) (fun r hr => ?_)
  rw [hr]
  exact kk
/-- an object's method that reads and answers with a reference or null -/
theorem kR_q {Cn : String} {Tn : u_T} {N ci q0 : Nat} {fs : List Value} {post : Option Nat → Prop} (C0 : CallFix p m c cc nL s args Ts own) (hM : Met l y wsy rm (va_Pc (.ref b :: As) (PW D cy H.size ws)) (va_Sq post) 0 0 (fun _ => False)) (cw : CallW R s args own Cn index y bytes maxL ret wsy rm 0 0 n)
    (hK : va_K D vwCl (tysA cy) s) (hN : NW s) (hP : va_P D vwCl ws H) (hD : va_D A0 ws) (he : ws[q0]? = some (b, .inr (ci, fs))) (hc : vwCl[ci]? = some (Cn, Tn, N))
    (hn : As.length = n) (hsize : ls.size = nL) (hst : st0 = As.reverse ++ .ref b :: rest) (hW : (rest.map fun v => v.category).sum ≤ 8) (hdg : decode cc pc = .ok (.invokevirtual index, 3)) (hf : cells ≤ R.cells ∧ slots ≤ R.slots)
    (kk : ∀ r : Option Nat, post r → W p l e R s m args below meth c H locs cells slots Q (F0 m (pc + 3) ls (va_rf r :: rest))) : W p l e R s m args below meth c H locs cells slots Q (F0 m pc ls st0) := by
  intro T hT X
  obtain ⟨v', st₀, t, T', L, h0, X', hL, e1, e2, ⟨r, hv, hp, hh⟩, st⟩ := va_runV C0 hM cw ⟨PW_blind, va_recv hK hP hc he, fun U hU hW => ⟨rfl, by rw [hU], by rw [hU]; exact hP, va_K.moved hW.alike hK, hN.warm hW, hD.weaken (fun _ _ _ _ => trivial)⟩⟩ rfl hn hsize hst (lv_room hW) hdg hf T hT X
  cases hv
  obtain ⟨t2, a1, b1⟩ := kk r hp T' (by rw [e1, hh, h0]) (Stand.forget X' (fun q h => (hL q h).elim))
  exact ⟨t2, st t2 a1, b1⟩
theorem pret_q {post : Option Nat → Prop} {o : Option Nat} {rt : FieldType} (hexec : p.tables.exec = Jvm.exec) (hb : c.code = cc) (hr : meth.sig.returnType = some rt) (hlocks : meth.locks = false) (hrt : (∃ n, rt = .object n) ∨ ∃ t, rt = .array t) (hv : post o) (hdg : decode cc pc = .ok (.areturn, 1)) : W p l e R s m args below meth c s.heap [] cells slots (MQ below (va_Sq post) args s cells slots (fun _ => False)) (F0 m pc ls [va_rf o]) :=
  W.aret hexec hb hr hrt (va_rf_or o) (fun t ht _ => ⟨o, rfl, hv, ht⟩) (fun q h => by cases h) hdg hlocks
/-- ends of methods without a world of which only something is said -/
theorem aret_i {post : Int32 → Prop} {v : Int32} (hexec : p.tables.exec = Jvm.exec) (hb : c.code = cc) (hr : meth.sig.returnType = some .int) (hlocks : meth.locks = false) (hv : post v) (hdg : decode cc pc = .ok (.ireturn, 1)) : W p l e R s m args below meth c s.heap [] cells slots (MQ below (vp_Si post) args s cells slots (fun _ => False)) (F0 m pc ls [.int v]) :=
  W.iret hexec hb hr (fun t ht _ => ⟨v, rfl, hv, ht⟩) (fun q h => by cases h) hdg hlocks
theorem aret_z {post : Int32 → Prop} {v : Int32} (hexec : p.tables.exec = Jvm.exec) (hb : c.code = cc) (hr : meth.sig.returnType = some .boolean) (hlocks : meth.locks = false) (hz : narrow .boolean (.int v) = .int v) (hv : post v) (hdg : decode cc pc = .ok (.ireturn, 1)) : W p l e R s m args below meth c s.heap [] cells slots (MQ below (vp_Si post) args s cells slots (fun _ => False)) (F0 m pc ls [.int v]) :=
  W.zret hexec hb hr hz (fun t ht _ => ⟨v, rfl, hv, ht⟩) (fun q h => by cases h) hdg hlocks
theorem aret_l {post : Int64 → Prop} {v : Int64} (hexec : p.tables.exec = Jvm.exec) (hb : c.code = cc) (hr : meth.sig.returnType = some .long) (hlocks : meth.locks = false) (hv : post v) (hdg : decode cc pc = .ok (.lreturn, 1)) : W p l e R s m args below meth c s.heap [] cells slots (MQ below (vp_Sl post) args s cells slots (fun _ => False)) (F0 m pc ls [.long v]) :=
  W.lret hexec hb hr (fun t ht _ => ⟨v, rfl, hv, ht⟩) (fun q h => by cases h) hdg hlocks
end KOPT
