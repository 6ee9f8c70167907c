/-! a walk of bytecode by evaluation: worlds as lists of cells under numbers, an injective map from numbers to addresses -/
abbrev ve_C : Type := Nat × List Value
abbrev ve_H : Type := List (Nat × ve_C)
abbrev ve_L : Type := List (Nat × Value)
def ve_v (η : Nat → Nat) : Value → Value
  | .ref a => .ref (η a)
  | v => v
def ve_q (η : Nat → Nat) (q : Nat × Value) : Nat × Value := (q.1, ve_v η q.2)
theorem ve_v_cat (η : Nat → Nat) (v : Value) : (ve_v η v).category = v.category := by cases v <;> rfl
def ve_get : ve_L → Nat → Option Value
  | [], _ => none
  | q :: r, i => bif q.1.beq i then some q.2 else ve_get r i
theorem ve_get_mem : ∀ {lv : ve_L} {i : Nat} {v : Value}, ve_get lv i = some v → (i, v) ∈ lv
  | [], _, _, h => by cases h
  | q :: r, i, v, h => by
    unfold ve_get at h
    cases hb : q.1.beq i with
    | true =>
      rw [hb] at h
      have e1 := Nat.eq_of_beq_eq_true hb
      have e2 : q.2 = v := Option.some.inj h
      rw [← e1, ← e2]
      exact List.mem_cons_self
    | false =>
      rw [hb] at h
      exact List.mem_cons_of_mem _ (ve_get_mem h)
def ve_k1 (i : Nat) (q : Nat × Value) : Bool := !(q.1 == i) && !(q.1 + 1 == i && q.2.category == 2)
def ve_k2 (i : Nat) (q : Nat × Value) : Bool := !(q.1 == i) && (!(q.1 == i + 1) && !(q.1 + 1 == i && q.2.category == 2))
theorem ve_k1_q (η : Nat → Nat) (i : Nat) (q : Nat × Value) : ve_k1 i (ve_q η q) = ve_k1 i q := by simp [ve_k1, ve_q, ve_v_cat]
theorem ve_k2_q (η : Nat → Nat) (i : Nat) (q : Nat × Value) : ve_k2 i (ve_q η q) = ve_k2 i q := by simp [ve_k2, ve_q, ve_v_cat]
theorem ve_filter (η : Nat → Nat) (f : Nat × Value → Bool) (hf : ∀ q, f (ve_q η q) = f q) (lv : ve_L) : (lv.map (ve_q η)).filter f = (lv.filter f).map (ve_q η) := by
  rw [List.filter_map]
  congr 1
  apply List.filter_congr
  intro q _
  exact hf q
abbrev ve_P : Type := ve_L → List Value → Option (Nat × ve_L × List Value)
def ve_PO (cc : ByteArray) (nL pc : Nat) (f : ve_P) : Prop :=
  ∀ (p : Program) (l : Launch) (e : Env) (R : Room) (s : State) (m : MethodId) (args : Array Value) (below : List Frame) (meth : Method) (c : Code) (H : Heap) (locs : List Loc) (cells slots : Nat) (Q : State → Prop) (ls : Array Slot),
    p.tables.exec = Jvm.exec → c.code = cc → ∀ (η : Nat → Nat) (lv : ve_L) (st : List Value) (pc' : Nat) (lv' : ve_L) (st' : List Value), f lv st = some (pc', lv', st') → lv_has ls nL (lv.map (ve_q η)) →
    (∀ ls' : Array Slot, lv_has ls' nL (lv'.map (ve_q η)) → W p l e R s m args below meth c H locs cells slots Q (F0 m pc' ls' (st'.map (ve_v η)))) →
    W p l e R s m args below meth c H locs cells slots Q (F0 m pc ls (st.map (ve_v η)))
-- constants
def ve_push (nx : Nat) (v : Value) : ve_P := fun lv st => some (nx, lv, v :: st)
theorem ve_iconst_ok {cc : ByteArray} {nL pc : Nat} {n : Int} {v : Int32} (hd : decode cc pc = .ok (.iconst n, 1)) (hv : Int32.ofInt n = v) : ve_PO cc nL pc (ve_push (pc + 1) (.int v)) := by
  intro p l e R s m args below meth c H locs cells slots Q ls hx hb η lv st pc' lv' st' h hl k
  cases h
  exact lv_iconst hx hb hd hv (k _ hl)
theorem ve_bipush_ok {cc : ByteArray} {nL pc : Nat} {n : Int} {v : Int32} (hd : decode cc pc = .ok (.bipush n, 2)) (hv : (Int8.ofInt n).toInt32 = v) : ve_PO cc nL pc (ve_push (pc + 2) (.int v)) := by
  intro p l e R s m args below meth c H locs cells slots Q ls hx hb η lv st pc' lv' st' h hl k
  cases h
  exact lv_bipush hx hb hd hv (k _ hl)
theorem ve_sipush_ok {cc : ByteArray} {nL pc : Nat} {n : Int} {v : Int32} (hd : decode cc pc = .ok (.sipush n, 3)) (hv : (Int16.ofInt n).toInt32 = v) : ve_PO cc nL pc (ve_push (pc + 3) (.int v)) := by
  intro p l e R s m args below meth c H locs cells slots Q ls hx hb η lv st pc' lv' st' h hl k
  cases h
  exact lv_sipush hx hb hd hv (k _ hl)
theorem ve_lconst_ok {cc : ByteArray} {nL pc : Nat} {n : Fin 2} {v : Int64} (hd : decode cc pc = .ok (.lconst n, 1)) (hv : Int64.ofNat (n : Nat) = v) : ve_PO cc nL pc (ve_push (pc + 1) (.long v)) := by
  intro p l e R s m args below meth c H locs cells slots Q ls hx hb η lv st pc' lv' st' h hl k
  cases h
  exact lv_lconst hx hb hd hv (k _ hl)
theorem ve_null_ok {cc : ByteArray} {nL pc : Nat} (hd : decode cc pc = .ok (.aconst_null, 1)) : ve_PO cc nL pc (ve_push (pc + 1) .null) := by
  intro p l e R s m args below meth c H locs cells slots Q ls hx hb η lv st pc' lv' st' h hl k
  cases h
  exact lv_null hx hb hd (k _ hl)
-- loads
def ve_il (nx i : Nat) : ve_P := fun lv st => match ve_get lv i with
  | some (.int x) => some (nx, lv, .int x :: st)
  | _ => none
def ve_ll (nx i : Nat) : ve_P := fun lv st => match ve_get lv i with
  | some (.long x) => some (nx, lv, .long x :: st)
  | _ => none
def ve_al (nx i : Nat) : ve_P := fun lv st => match ve_get lv i with
  | some (.ref x) => some (nx, lv, .ref x :: st)
  | some .null => some (nx, lv, .null :: st)
  | _ => none
theorem ve_at {ls : Array Slot} {nL : Nat} {η : Nat → Nat} {lv : ve_L} {i : Nat} {v : Value} (hl : lv_has ls nL (lv.map (ve_q η))) (h : ve_get lv i = some v) : ls[i]? = some (.val (ve_v η v)) :=
  hl.2.2 (i, ve_v η v) (List.mem_map.mpr ⟨(i, v), ve_get_mem h, rfl⟩)
theorem ve_iload_n_ok {cc : ByteArray} {nL pc i : Nat} {k : Fin 4} (hd : decode cc pc = .ok (.iload_n k, 1)) (hi : (k : Nat) = i) : ve_PO cc nL pc (ve_il (pc + 1) i) := by
  intro p l e R s m args below meth c H locs cells slots Q ls hx hb η lv st pc' lv' st' h hl kk
  unfold ve_il at h
  split at h
  · next x hg => cases h; exact lv_iload_n hx hb hd hi (ve_at hl hg) (kk _ hl)
  · cases h
theorem ve_iload_ok {cc : ByteArray} {nL pc i : Nat} (hd : decode cc pc = .ok (.iload i, 2)) : ve_PO cc nL pc (ve_il (pc + 2) i) := by
  intro p l e R s m args below meth c H locs cells slots Q ls hx hb η lv st pc' lv' st' h hl kk
  unfold ve_il at h
  split at h
  · next x hg => cases h; exact lv_iload hx hb hd (ve_at hl hg) (kk _ hl)
  · cases h
theorem ve_lload_n_ok {cc : ByteArray} {nL pc i : Nat} {k : Fin 4} (hd : decode cc pc = .ok (.lload_n k, 1)) (hi : (k : Nat) = i) : ve_PO cc nL pc (ve_ll (pc + 1) i) := by
  intro p l e R s m args below meth c H locs cells slots Q ls hx hb η lv st pc' lv' st' h hl kk
  unfold ve_ll at h
  split at h
  · next x hg => cases h; exact lv_lload_n hx hb hd hi (ve_at hl hg) (kk _ hl)
  · cases h
theorem ve_lload_ok {cc : ByteArray} {nL pc i : Nat} (hd : decode cc pc = .ok (.lload i, 2)) : ve_PO cc nL pc (ve_ll (pc + 2) i) := by
  intro p l e R s m args below meth c H locs cells slots Q ls hx hb η lv st pc' lv' st' h hl kk
  unfold ve_ll at h
  split at h
  · next x hg => cases h; exact lv_lload hx hb hd (ve_at hl hg) (kk _ hl)
  · cases h
theorem ve_aload_n_ok {cc : ByteArray} {nL pc i : Nat} {k : Fin 4} (hd : decode cc pc = .ok (.aload_n k, 1)) (hi : (k : Nat) = i) : ve_PO cc nL pc (ve_al (pc + 1) i) := by
  intro p l e R s m args below meth c H locs cells slots Q ls hx hb η lv st pc' lv' st' h hl kk
  unfold ve_al at h
  split at h
  · next x hg => cases h; exact lv_aload_n hx hb hd hi (ve_at hl hg) (kk _ hl)
  · next hg => cases h; exact lv_aload_nN hx hb hd hi (ve_at hl hg) (kk _ hl)
  · cases h
theorem ve_aload_ok {cc : ByteArray} {nL pc i : Nat} (hd : decode cc pc = .ok (.aload i, 2)) : ve_PO cc nL pc (ve_al (pc + 2) i) := by
  intro p l e R s m args below meth c H locs cells slots Q ls hx hb η lv st pc' lv' st' h hl kk
  unfold ve_al at h
  split at h
  · next x hg => cases h; exact lv_aload hx hb hd (ve_at hl hg) (kk _ hl)
  · next hg => cases h; exact lv_aloadN hx hb hd (ve_at hl hg) (kk _ hl)
  · cases h
-- stores
def ve_is (nx i nL : Nat) : ve_P := fun lv st => match st with
  | .int x :: r => bif i.blt nL then some (nx, (i, .int x) :: lv.filter (ve_k1 i), r) else none
  | _ => none
def ve_as (nx i nL : Nat) : ve_P := fun lv st => match st with
  | .ref x :: r => bif i.blt nL then some (nx, (i, .ref x) :: lv.filter (ve_k1 i), r) else none
  | _ => none
def ve_ls (nx i nL : Nat) : ve_P := fun lv st => match st with
  | .long x :: r => bif (i + 1).blt nL then some (nx, (i, .long x) :: lv.filter (ve_k2 i), r) else none
  | _ => none
theorem ve_bif {α : Type} {b : Bool} {x y : α} (h : (bif b then some x else none) = some y) : b = true ∧ x = y := by
  cases b with
  | true => exact ⟨rfl, Option.some.inj h⟩
  | false => cases h
theorem ve_blt {a b : Nat} (h : a.blt b = true) : a < b := Nat.le_of_ble_eq_true h
theorem ve_istore_n_ok {cc : ByteArray} {nL pc i : Nat} {k : Fin 4} (hd : decode cc pc = .ok (.istore_n k, 1)) (hi : (k : Nat) = i) : ve_PO cc nL pc (ve_is (pc + 1) i nL) := by
  intro p l e R s m args below meth c H locs cells slots Q ls hx hb η lv st pc' lv' st' h hl kk
  unfold ve_is at h
  split at h
  · obtain ⟨h1, h2⟩ := ve_bif h
    cases h2
    exact lv_istore_n hx hb hd hi hl (ve_blt h1) (by rw [show (fun q : Nat × Value => !(q.1 == i) && !(q.1 + 1 == i && q.2.category == 2)) = ve_k1 i from rfl, ve_filter η _ (ve_k1_q η i)]; rfl) kk
  · cases h
theorem ve_istore_ok {cc : ByteArray} {nL pc i : Nat} (hd : decode cc pc = .ok (.istore i, 2)) : ve_PO cc nL pc (ve_is (pc + 2) i nL) := by
  intro p l e R s m args below meth c H locs cells slots Q ls hx hb η lv st pc' lv' st' h hl kk
  unfold ve_is at h
  split at h
  · obtain ⟨h1, h2⟩ := ve_bif h
    cases h2
    exact lv_istore hx hb hd hl (ve_blt h1) (by rw [show (fun q : Nat × Value => !(q.1 == i) && !(q.1 + 1 == i && q.2.category == 2)) = ve_k1 i from rfl, ve_filter η _ (ve_k1_q η i)]; rfl) kk
  · cases h
theorem ve_astore_n_ok {cc : ByteArray} {nL pc i : Nat} {k : Fin 4} (hd : decode cc pc = .ok (.astore_n k, 1)) (hi : (k : Nat) = i) : ve_PO cc nL pc (ve_as (pc + 1) i nL) := by
  intro p l e R s m args below meth c H locs cells slots Q ls hx hb η lv st pc' lv' st' h hl kk
  unfold ve_as at h
  split at h
  · obtain ⟨h1, h2⟩ := ve_bif h
    cases h2
    exact lv_astore_n hx hb hd hi hl (ve_blt h1) (by rw [show (fun q : Nat × Value => !(q.1 == i) && !(q.1 + 1 == i && q.2.category == 2)) = ve_k1 i from rfl, ve_filter η _ (ve_k1_q η i)]; rfl) kk
  · cases h
theorem ve_astore_ok {cc : ByteArray} {nL pc i : Nat} (hd : decode cc pc = .ok (.astore i, 2)) : ve_PO cc nL pc (ve_as (pc + 2) i nL) := by
  intro p l e R s m args below meth c H locs cells slots Q ls hx hb η lv st pc' lv' st' h hl kk
  unfold ve_as at h
  split at h
  · obtain ⟨h1, h2⟩ := ve_bif h
    cases h2
    exact lv_astore hx hb hd hl (ve_blt h1) (by rw [show (fun q : Nat × Value => !(q.1 == i) && !(q.1 + 1 == i && q.2.category == 2)) = ve_k1 i from rfl, ve_filter η _ (ve_k1_q η i)]; rfl) kk
  · cases h
theorem ve_lstore_n_ok {cc : ByteArray} {nL pc i : Nat} {k : Fin 4} (hd : decode cc pc = .ok (.lstore_n k, 1)) (hi : (k : Nat) = i) : ve_PO cc nL pc (ve_ls (pc + 1) i nL) := by
  intro p l e R s m args below meth c H locs cells slots Q ls hx hb η lv st pc' lv' st' h hl kk
  unfold ve_ls at h
  split at h
  · obtain ⟨h1, h2⟩ := ve_bif h
    cases h2
    exact lv_lstore_n hx hb hd hi hl (ve_blt h1) (by rw [show (fun q : Nat × Value => !(q.1 == i) && (!(q.1 == i + 1) && !(q.1 + 1 == i && q.2.category == 2))) = ve_k2 i from rfl, ve_filter η _ (ve_k2_q η i)]; rfl) kk
  · cases h
theorem ve_lstore_ok {cc : ByteArray} {nL pc i : Nat} (hd : decode cc pc = .ok (.lstore i, 2)) : ve_PO cc nL pc (ve_ls (pc + 2) i nL) := by
  intro p l e R s m args below meth c H locs cells slots Q ls hx hb η lv st pc' lv' st' h hl kk
  unfold ve_ls at h
  split at h
  · obtain ⟨h1, h2⟩ := ve_bif h
    cases h2
    exact lv_lstore hx hb hd hl (ve_blt h1) (by rw [show (fun q : Nat × Value => !(q.1 == i) && (!(q.1 == i + 1) && !(q.1 + 1 == i && q.2.category == 2))) = ve_k2 i from rfl, ve_filter η _ (ve_k2_q η i)]; rfl) kk
  · cases h
