section
/-! a walk of bytecode by evaluation: worlds as lists of cells under numbers, an injective map from numbers to addresses -/
abbrev ve_C : Type := Nat × List Value
abbrev ve_H : Type := List (Nat × ve_C)
abbrev ve_L : Type := List (Nat × Value)
def ve_v (η : Nat → Nat) : Value → Value
  | .ref a => .ref (η a)
  | v => v
def ve_q (η : Nat → Nat) (q : Nat × Value) : Nat × Value := (q.1, ve_v η q.2)
theorem ve_v_cat (η : Nat → Nat) (v : Value) : (ve_v η v).category = v.category := by cases v <;> rfl
def ve_get : ve_L → Nat → Option Value
  | [], _ => none
  | q :: r, i => bif q.1.beq i then some q.2 else ve_get r i
theorem ve_get_mem : ∀ {lv : ve_L} {i : Nat} {v : Value}, ve_get lv i = some v → (i, v) ∈ lv
  | [], _, _, h => by cases h
  | q :: r, i, v, h => by
    unfold ve_get at h
    cases hb : q.1.beq i with
    | true =>
      rw [hb] at h
      have e1 := Nat.eq_of_beq_eq_true hb
      have e2 : q.2 = v := Option.some.inj h
      rw [← e1, ← e2]
      exact List.mem_cons_self
    | false =>
      rw [hb] at h
      exact List.mem_cons_of_mem _ (ve_get_mem h)
def ve_k1 (i : Nat) (q : Nat × Value) : Bool := !(q.1 == i) && !(q.1 + 1 == i && q.2.category == 2)
def ve_k2 (i : Nat) (q : Nat × Value) : Bool := !(q.1 == i) && (!(q.1 == i + 1) && !(q.1 + 1 == i && q.2.category == 2))
theorem ve_k1_q (η : Nat → Nat) (i : Nat) (q : Nat × Value) : ve_k1 i (ve_q η q) = ve_k1 i q := by simp [ve_k1, ve_q, ve_v_cat]
theorem ve_k2_q (η : Nat → Nat) (i : Nat) (q : Nat × Value) : ve_k2 i (ve_q η q) = ve_k2 i q := by simp [ve_k2, ve_q, ve_v_cat]
theorem ve_filter (η : Nat → Nat) (f : Nat × Value → Bool) (hf : ∀ q, f (ve_q η q) = f q) (lv : ve_L) : (lv.map (ve_q η)).filter f = (lv.filter f).map (ve_q η) := by
  rw [List.filter_map]
  congr 1
  apply List.filter_congr
  intro q _
  exact hf q
abbrev ve_P : Type := ve_L → List Value → Option (Nat × ve_L × List Value)
def ve_PO (cc : ByteArray) (nL pc : Nat) (f : ve_P) : Prop :=
  ∀ (p : Program) (l : Launch) (e : Env) (R : Room) (s : State) (m : MethodId) (args : Array Value) (below : List Frame) (meth : Method) (c : Code) (H : Heap) (locs : List Loc) (cells slots : Nat) (Q : State → Prop) (ls : Array Slot),
    p.tables.exec = Jvm.exec → c.code = cc → ∀ (η : Nat → Nat) (lv : ve_L) (st : List Value) (pc' : Nat) (lv' : ve_L) (st' : List Value), f lv st = some (pc', lv', st') → lv_has ls nL (lv.map (ve_q η)) →
    (∀ ls' : Array Slot, lv_has ls' nL (lv'.map (ve_q η)) → W p l e R s m args below meth c H locs cells slots Q (F0 m pc' ls' (st'.map (ve_v η)))) →
    W p l e R s m args below meth c H locs cells slots Q (F0 m pc ls (st.map (ve_v η)))
-- constants
def ve_push (nx : Nat) (v : Value) : ve_P := fun lv st => some (nx, lv, v :: st)
theorem ve_iconst_ok {cc : ByteArray} {nL pc : Nat} {n : Int} {v : Int32} (hd : decode cc pc = .ok (.iconst n, 1)) (hv : Int32.ofInt n = v) : ve_PO cc nL pc (ve_push (pc + 1) (.int v)) := by
  intro p l e R s m args below meth c H locs cells slots Q ls hx hb η lv st pc' lv' st' h hl k
  cases h
  exact lv_iconst hx hb hd hv (k _ hl)
theorem ve_bipush_ok {cc : ByteArray} {nL pc : Nat} {n : Int} {v : Int32} (hd : decode cc pc = .ok (.bipush n, 2)) (hv : (Int8.ofInt n).toInt32 = v) : ve_PO cc nL pc (ve_push (pc + 2) (.int v)) := by
  intro p l e R s m args below meth c H locs cells slots Q ls hx hb η lv st pc' lv' st' h hl k
  cases h
  exact lv_bipush hx hb hd hv (k _ hl)
theorem ve_sipush_ok {cc : ByteArray} {nL pc : Nat} {n : Int} {v : Int32} (hd : decode cc pc = .ok (.sipush n, 3)) (hv : (Int16.ofInt n).toInt32 = v) : ve_PO cc nL pc (ve_push (pc + 3) (.int v)) := by
  intro p l e R s m args below meth c H locs cells slots Q ls hx hb η lv st pc' lv' st' h hl k
  cases h
  exact lv_sipush hx hb hd hv (k _ hl)
theorem ve_lconst_ok {cc : ByteArray} {nL pc : Nat} {n : Fin 2} {v : Int64} (hd : decode cc pc = .ok (.lconst n, 1)) (hv : Int64.ofNat (n : Nat) = v) : ve_PO cc nL pc (ve_push (pc + 1) (.long v)) := by
  intro p l e R s m args below meth c H locs cells slots Q ls hx hb η lv st pc' lv' st' h hl k
  cases h
  exact lv_lconst hx hb hd hv (k _ hl)
theorem ve_null_ok {cc : ByteArray} {nL pc : Nat} (hd : decode cc pc = .ok (.aconst_null, 1)) : ve_PO cc nL pc (ve_push (pc + 1) .null) := by
  intro p l e R s m args below meth c H locs cells slots Q ls hx hb η lv st pc' lv' st' h hl k
  cases h
  exact lv_null hx hb hd (k _ hl)
-- loads
def ve_il (nx i : Nat) : ve_P := fun lv st => match ve_get lv i with
  | some (.int x) => some (nx, lv, .int x :: st)
  | _ => none
def ve_ll (nx i : Nat) : ve_P := fun lv st => match ve_get lv i with
  | some (.long x) => some (nx, lv, .long x :: st)
  | _ => none
def ve_al (nx i : Nat) : ve_P := fun lv st => match ve_get lv i with
  | some (.ref x) => some (nx, lv, .ref x :: st)
  | some .null => some (nx, lv, .null :: st)
  | _ => none
theorem ve_at {ls : Array Slot} {nL : Nat} {η : Nat → Nat} {lv : ve_L} {i : Nat} {v : Value} (hl : lv_has ls nL (lv.map (ve_q η))) (h : ve_get lv i = some v) : ls[i]? = some (.val (ve_v η v)) :=
  hl.2.2 (i, ve_v η v) (List.mem_map.mpr ⟨(i, v), ve_get_mem h, rfl⟩)
theorem ve_iload_n_ok {cc : ByteArray} {nL pc i : Nat} {k : Fin 4} (hd : decode cc pc = .ok (.iload_n k, 1)) (hi : (k : Nat) = i) : ve_PO cc nL pc (ve_il (pc + 1) i) := by
  intro p l e R s m args below meth c H locs cells slots Q ls hx hb η lv st pc' lv' st' h hl kk
  unfold ve_il at h
  split at h
  · next x hg => cases h; exact lv_iload_n hx hb hd hi (ve_at hl hg) (kk _ hl)
  · cases h
theorem ve_iload_ok {cc : ByteArray} {nL pc i : Nat} (hd : decode cc pc = .ok (.iload i, 2)) : ve_PO cc nL pc (ve_il (pc + 2) i) := by
  intro p l e R s m args below meth c H locs cells slots Q ls hx hb η lv st pc' lv' st' h hl kk
  unfold ve_il at h
  split at h
  · next x hg => cases h; exact lv_iload hx hb hd (ve_at hl hg) (kk _ hl)
  · cases h
theorem ve_lload_n_ok {cc : ByteArray} {nL pc i : Nat} {k : Fin 4} (hd : decode cc pc = .ok (.lload_n k, 1)) (hi : (k : Nat) = i) : ve_PO cc nL pc (ve_ll (pc + 1) i) := by
  intro p l e R s m args below meth c H locs cells slots Q ls hx hb η lv st pc' lv' st' h hl kk
  unfold ve_ll at h
  split at h
  · next x hg => cases h; exact lv_lload_n hx hb hd hi (ve_at hl hg) (kk _ hl)
  · cases h
theorem ve_lload_ok {cc : ByteArray} {nL pc i : Nat} (hd : decode cc pc = .ok (.lload i, 2)) : ve_PO cc nL pc (ve_ll (pc + 2) i) := by
  intro p l e R s m args below meth c H locs cells slots Q ls hx hb η lv st pc' lv' st' h hl kk
  unfold ve_ll at h
  split at h
  · next x hg => cases h; exact lv_lload hx hb hd (ve_at hl hg) (kk _ hl)
  · cases h
theorem ve_aload_n_ok {cc : ByteArray} {nL pc i : Nat} {k : Fin 4} (hd : decode cc pc = .ok (.aload_n k, 1)) (hi : (k : Nat) = i) : ve_PO cc nL pc (ve_al (pc + 1) i) := by
  intro p l e R s m args below meth c H locs cells slots Q ls hx hb η lv st pc' lv' st' h hl kk
  unfold ve_al at h
  split at h
  · next x hg => cases h; exact lv_aload_n hx hb hd hi (ve_at hl hg) (kk _ hl)
  · next hg => cases h; exact lv_aload_nN hx hb hd hi (ve_at hl hg) (kk _ hl)
  · cases h
theorem ve_aload_ok {cc : ByteArray} {nL pc i : Nat} (hd : decode cc pc = .ok (.aload i, 2)) : ve_PO cc nL pc (ve_al (pc + 2) i) := by
  intro p l e R s m args below meth c H locs cells slots Q ls hx hb η lv st pc' lv' st' h hl kk
  unfold ve_al at h
  split at h
  · next x hg => cases h; exact lv_aload hx hb hd (ve_at hl hg) (kk _ hl)
  · next hg => cases h; exact lv_aloadN hx hb hd (ve_at hl hg) (kk _ hl)
  · cases h
-- stores
def ve_is (nx i nL : Nat) : ve_P := fun lv st => match st with
  | .int x :: r => bif i.blt nL then some (nx, (i, .int x) :: lv.filter (ve_k1 i), r) else none
  | _ => none
def ve_as (nx i nL : Nat) : ve_P := fun lv st => match st with
  | .ref x :: r => bif i.blt nL then some (nx, (i, .ref x) :: lv.filter (ve_k1 i), r) else none
  | _ => none
def ve_ls (nx i nL : Nat) : ve_P := fun lv st => match st with
  | .long x :: r => bif (i + 1).blt nL then some (nx, (i, .long x) :: lv.filter (ve_k2 i), r) else none
  | _ => none
theorem ve_bif {α : Type} {b : Bool} {x y : α} (h : (bif b then some x else none) = some y) : b = true ∧ x = y := by
  cases b with
  | true => exact ⟨rfl, Option.some.inj h⟩
  | false => cases h
theorem ve_blt {a b : Nat} (h : a.blt b = true) : a < b := Nat.le_of_ble_eq_true h
theorem ve_istore_n_ok {cc : ByteArray} {nL pc i : Nat} {k : Fin 4} (hd : decode cc pc = .ok (.istore_n k, 1)) (hi : (k : Nat) = i) : ve_PO cc nL pc (ve_is (pc + 1) i nL) := by
  intro p l e R s m args below meth c H locs cells slots Q ls hx hb η lv st pc' lv' st' h hl kk
  unfold ve_is at h
  split at h
  · obtain ⟨h1, h2⟩ := ve_bif h
    cases h2
    exact lv_istore_n hx hb hd hi hl (ve_blt h1) (by rw [show (fun q : Nat × Value => !(q.1 == i) && !(q.1 + 1 == i && q.2.category == 2)) = ve_k1 i from rfl, ve_filter η _ (ve_k1_q η i)]; rfl) kk
  · cases h
theorem ve_istore_ok {cc : ByteArray} {nL pc i : Nat} (hd : decode cc pc = .ok (.istore i, 2)) : ve_PO cc nL pc (ve_is (pc + 2) i nL) := by
  intro p l e R s m args below meth c H locs cells slots Q ls hx hb η lv st pc' lv' st' h hl kk
  unfold ve_is at h
  split at h
  · obtain ⟨h1, h2⟩ := ve_bif h
    cases h2
    exact lv_istore hx hb hd hl (ve_blt h1) (by rw [show (fun q : Nat × Value => !(q.1 == i) && !(q.1 + 1 == i && q.2.category == 2)) = ve_k1 i from rfl, ve_filter η _ (ve_k1_q η i)]; rfl) kk
  · cases h
theorem ve_astore_n_ok {cc : ByteArray} {nL pc i : Nat} {k : Fin 4} (hd : decode cc pc = .ok (.astore_n k, 1)) (hi : (k : Nat) = i) : ve_PO cc nL pc (ve_as (pc + 1) i nL) := by
  intro p l e R s m args below meth c H locs cells slots Q ls hx hb η lv st pc' lv' st' h hl kk
  unfold ve_as at h
  split at h
  · obtain ⟨h1, h2⟩ := ve_bif h
    cases h2
    exact lv_astore_n hx hb hd hi hl (ve_blt h1) (by rw [show (fun q : Nat × Value => !(q.1 == i) && !(q.1 + 1 == i && q.2.category == 2)) = ve_k1 i from rfl, ve_filter η _ (ve_k1_q η i)]; rfl) kk
  · cases h
theorem ve_astore_ok {cc : ByteArray} {nL pc i : Nat} (hd : decode cc pc = .ok (.astore i, 2)) : ve_PO cc nL pc (ve_as (pc + 2) i nL) := by
  intro p l e R s m args below meth c H locs cells slots Q ls hx hb η lv st pc' lv' st' h hl kk
  unfold ve_as at h
  split at h
  · obtain ⟨h1, h2⟩ := ve_bif h
    cases h2
    exact lv_astore hx hb hd hl (ve_blt h1) (by rw [show (fun q : Nat × Value => !(q.1 == i) && !(q.1 + 1 == i && q.2.category == 2)) = ve_k1 i from rfl, ve_filter η _ (ve_k1_q η i)]; rfl) kk
  · cases h
theorem ve_lstore_n_ok {cc : ByteArray} {nL pc i : Nat} {k : Fin 4} (hd : decode cc pc = .ok (.lstore_n k, 1)) (hi : (k : Nat) = i) : ve_PO cc nL pc (ve_ls (pc + 1) i nL) := by
  intro p l e R s m args below meth c H locs cells slots Q ls hx hb η lv st pc' lv' st' h hl kk
  unfold ve_ls at h
  split at h
  · obtain ⟨h1, h2⟩ := ve_bif h
    cases h2
    exact lv_lstore_n hx hb hd hi hl (ve_blt h1) (by rw [show (fun q : Nat × Value => !(q.1 == i) && (!(q.1 == i + 1) && !(q.1 + 1 == i && q.2.category == 2))) = ve_k2 i from rfl, ve_filter η _ (ve_k2_q η i)]; rfl) kk
  · cases h
theorem ve_lstore_ok {cc : ByteArray} {nL pc i : Nat} (hd : decode cc pc = .ok (.lstore i, 2)) : ve_PO cc nL pc (ve_ls (pc + 2) i nL) := by
  intro p l e R s m args below meth c H locs cells slots Q ls hx hb η lv st pc' lv' st' h hl kk
  unfold ve_ls at h
  split at h
  · obtain ⟨h1, h2⟩ := ve_bif h
    cases h2
    exact lv_lstore hx hb hd hl (ve_blt h1) (by rw [show (fun q : Nat × Value => !(q.1 == i) && (!(q.1 == i + 1) && !(q.1 + 1 == i && q.2.category == 2))) = ve_k2 i from rfl, ve_filter η _ (ve_k2_q η i)]; rfl) kk
  · cases h
end
section
theorem ve_pc {p : Program} {l : Launch} {e : Env} {R : Room} {s : State} {m : MethodId} {args : Array Value} {below : List Frame} {meth : Method} {c : Code} {H : Heap} {locs : List Loc} {cells slots : Nat} {Q : State → Prop} {a b : Nat} {ls : Array Slot} {st : List Value} (h : a = b)
    (k : W p l e R s m args below meth c H locs cells slots Q (F0 m a ls st)) : W p l e R s m args below meth c H locs cells slots Q (F0 m b ls st) := h ▸ k
def ve_ii (nx i nL : Nat) (n : Int) : ve_P := fun lv st => match ve_get lv i with
  | some (.int x) => bif i.blt nL then some (nx, (i, .int (x + Int32.ofInt n)) :: lv.filter (ve_k1 i), st) else none
  | _ => none
theorem ve_iinc_ok {cc : ByteArray} {nL pc i : Nat} {n : Int} (hd : decode cc pc = .ok (.iinc i n, 3)) : ve_PO cc nL pc (ve_ii (pc + 3) i nL n) := by
  intro p l e R s m args below meth c H locs cells slots Q ls hx hb η lv st pc' lv' st' h hl kk
  unfold ve_ii at h
  split at h
  · next x hg =>
    obtain ⟨h1, h2⟩ := ve_bif h
    cases h2
    obtain ⟨k, hk⟩ := List.mem_iff_getElem?.mp (ve_get_mem hg)
    exact lv_iinc (k := k) (x := x) hx hb hd hl (by rw [List.getElem?_map, hk]; rfl) rfl (ve_blt h1) (by rw [show (fun q : Nat × Value => !(q.1 == i) && !(q.1 + 1 == i && q.2.category == 2)) = ve_k1 i from rfl, ve_filter η _ (ve_k1_q η i)]; rfl) kk
  · cases h
def ve_iadd (nx : Nat) : ve_P := fun lv st => match st with
  | .int y :: .int x :: r => some (nx, lv, .int (x + y) :: r)
  | _ => none
theorem ve_iadd_ok {cc : ByteArray} {nL pc : Nat} (hd : decode cc pc = .ok (.iadd, 1)) : ve_PO cc nL pc (ve_iadd (pc + 1)) := by
  intro p l e R s m args below meth c H locs cells slots Q ls hx hb η lv st pc' lv' st' h hl kk
  unfold ve_iadd at h
  split at h
  · cases h; exact lv_iadd hx hb hd (kk _ hl)
  · cases h
def ve_isub (nx : Nat) : ve_P := fun lv st => match st with
  | .int y :: .int x :: r => some (nx, lv, .int (x - y) :: r)
  | _ => none
theorem ve_isub_ok {cc : ByteArray} {nL pc : Nat} (hd : decode cc pc = .ok (.isub, 1)) : ve_PO cc nL pc (ve_isub (pc + 1)) := by
  intro p l e R s m args below meth c H locs cells slots Q ls hx hb η lv st pc' lv' st' h hl kk
  unfold ve_isub at h
  split at h
  · cases h; exact lv_isub hx hb hd (kk _ hl)
  · cases h
def ve_imul (nx : Nat) : ve_P := fun lv st => match st with
  | .int y :: .int x :: r => some (nx, lv, .int (x * y) :: r)
  | _ => none
theorem ve_imul_ok {cc : ByteArray} {nL pc : Nat} (hd : decode cc pc = .ok (.imul, 1)) : ve_PO cc nL pc (ve_imul (pc + 1)) := by
  intro p l e R s m args below meth c H locs cells slots Q ls hx hb η lv st pc' lv' st' h hl kk
  unfold ve_imul at h
  split at h
  · cases h; exact lv_imul hx hb hd (kk _ hl)
  · cases h
def ve_iand (nx : Nat) : ve_P := fun lv st => match st with
  | .int y :: .int x :: r => some (nx, lv, .int (x &&& y) :: r)
  | _ => none
theorem ve_iand_ok {cc : ByteArray} {nL pc : Nat} (hd : decode cc pc = .ok (.iand, 1)) : ve_PO cc nL pc (ve_iand (pc + 1)) := by
  intro p l e R s m args below meth c H locs cells slots Q ls hx hb η lv st pc' lv' st' h hl kk
  unfold ve_iand at h
  split at h
  · cases h; exact lv_iand hx hb hd (kk _ hl)
  · cases h
def ve_ior (nx : Nat) : ve_P := fun lv st => match st with
  | .int y :: .int x :: r => some (nx, lv, .int (x ||| y) :: r)
  | _ => none
theorem ve_ior_ok {cc : ByteArray} {nL pc : Nat} (hd : decode cc pc = .ok (.ior, 1)) : ve_PO cc nL pc (ve_ior (pc + 1)) := by
  intro p l e R s m args below meth c H locs cells slots Q ls hx hb η lv st pc' lv' st' h hl kk
  unfold ve_ior at h
  split at h
  · cases h; exact lv_ior hx hb hd (kk _ hl)
  · cases h
def ve_ishl (nx : Nat) : ve_P := fun lv st => match st with
  | .int y :: .int x :: r => some (nx, lv, .int (x <<< (y &&& 31)) :: r)
  | _ => none
theorem ve_ishl_ok {cc : ByteArray} {nL pc : Nat} (hd : decode cc pc = .ok (.ishl, 1)) : ve_PO cc nL pc (ve_ishl (pc + 1)) := by
  intro p l e R s m args below meth c H locs cells slots Q ls hx hb η lv st pc' lv' st' h hl kk
  unfold ve_ishl at h
  split at h
  · cases h; exact lv_ishl hx hb hd (kk _ hl)
  · cases h
def ve_ishr (nx : Nat) : ve_P := fun lv st => match st with
  | .int y :: .int x :: r => some (nx, lv, .int (x >>> (y &&& 31)) :: r)
  | _ => none
theorem ve_ishr_ok {cc : ByteArray} {nL pc : Nat} (hd : decode cc pc = .ok (.ishr, 1)) : ve_PO cc nL pc (ve_ishr (pc + 1)) := by
  intro p l e R s m args below meth c H locs cells slots Q ls hx hb η lv st pc' lv' st' h hl kk
  unfold ve_ishr at h
  split at h
  · cases h; exact lv_ishr hx hb hd (kk _ hl)
  · cases h
def ve_ladd (nx : Nat) : ve_P := fun lv st => match st with
  | .long y :: .long x :: r => some (nx, lv, .long (x + y) :: r)
  | _ => none
theorem ve_ladd_ok {cc : ByteArray} {nL pc : Nat} (hd : decode cc pc = .ok (.ladd, 1)) : ve_PO cc nL pc (ve_ladd (pc + 1)) := by
  intro p l e R s m args below meth c H locs cells slots Q ls hx hb η lv st pc' lv' st' h hl kk
  unfold ve_ladd at h
  split at h
  · cases h; exact lv_ladd hx hb hd (kk _ hl)
  · cases h
def ve_lmul (nx : Nat) : ve_P := fun lv st => match st with
  | .long y :: .long x :: r => some (nx, lv, .long (x * y) :: r)
  | _ => none
theorem ve_lmul_ok {cc : ByteArray} {nL pc : Nat} (hd : decode cc pc = .ok (.lmul, 1)) : ve_PO cc nL pc (ve_lmul (pc + 1)) := by
  intro p l e R s m args below meth c H locs cells slots Q ls hx hb η lv st pc' lv' st' h hl kk
  unfold ve_lmul at h
  split at h
  · cases h; exact lv_lmul hx hb hd (kk _ hl)
  · cases h
def ve_lsub (nx : Nat) : ve_P := fun lv st => match st with
  | .long y :: .long x :: r => some (nx, lv, .long (x - y) :: r)
  | _ => none
theorem ve_lsub_ok {cc : ByteArray} {nL pc : Nat} (hd : decode cc pc = .ok (.lsub, 1)) : ve_PO cc nL pc (ve_lsub (pc + 1)) := by
  intro p l e R s m args below meth c H locs cells slots Q ls hx hb η lv st pc' lv' st' h hl kk
  unfold ve_lsub at h
  split at h
  · cases h; exact lv_lsub hx hb hd (kk _ hl)
  · cases h
def ve_i2l (nx : Nat) : ve_P := fun lv st => match st with
  | .int x :: r => some (nx, lv, .long (x.toInt64) :: r)
  | _ => none
theorem ve_i2l_ok {cc : ByteArray} {nL pc : Nat} (hd : decode cc pc = .ok (.i2l, 1)) : ve_PO cc nL pc (ve_i2l (pc + 1)) := by
  intro p l e R s m args below meth c H locs cells slots Q ls hx hb η lv st pc' lv' st' h hl kk
  unfold ve_i2l at h
  split at h
  · cases h; exact lv_i2l hx hb hd rfl (kk _ hl)
  · cases h
def ve_i2b (nx : Nat) : ve_P := fun lv st => match st with
  | .int x :: r => some (nx, lv, .int (x.toInt8.toInt32) :: r)
  | _ => none
theorem ve_i2b_ok {cc : ByteArray} {nL pc : Nat} (hd : decode cc pc = .ok (.i2b, 1)) : ve_PO cc nL pc (ve_i2b (pc + 1)) := by
  intro p l e R s m args below meth c H locs cells slots Q ls hx hb η lv st pc' lv' st' h hl kk
  unfold ve_i2b at h
  split at h
  · cases h; exact lv_i2b hx hb hd rfl (kk _ hl)
  · cases h
def ve_i2c (nx : Nat) : ve_P := fun lv st => match st with
  | .int x :: r => some (nx, lv, .int ((x.toUInt32 % 65536).toInt32) :: r)
  | _ => none
theorem ve_i2c_ok {cc : ByteArray} {nL pc : Nat} (hd : decode cc pc = .ok (.i2c, 1)) : ve_PO cc nL pc (ve_i2c (pc + 1)) := by
  intro p l e R s m args below meth c H locs cells slots Q ls hx hb η lv st pc' lv' st' h hl kk
  unfold ve_i2c at h
  split at h
  · cases h; exact lv_i2c hx hb hd rfl (kk _ hl)
  · cases h
def ve_ineg (nx : Nat) : ve_P := fun lv st => match st with
  | .int x :: r => some (nx, lv, .int (-x) :: r)
  | _ => none
theorem ve_ineg_ok {cc : ByteArray} {nL pc : Nat} (hd : decode cc pc = .ok (.ineg, 1)) : ve_PO cc nL pc (ve_ineg (pc + 1)) := by
  intro p l e R s m args below meth c H locs cells slots Q ls hx hb η lv st pc' lv' st' h hl kk
  unfold ve_ineg at h
  split at h
  · cases h; exact lv_ineg hx hb hd (kk _ hl)
  · cases h
theorem ve_vc {η : Nat → Nat} {v : Value} {k : Nat} (h : v.category.beq k = true) : (ve_v η v).category = k := by
  rw [ve_v_cat]; exact Nat.eq_of_beq_eq_true h
def ve_dup (nx : Nat) : ve_P := fun lv st => match st with
  | x :: r => bif x.category.beq 1 then some (nx, lv, x :: x :: r) else none
  | _ => none
theorem ve_dup_ok {cc : ByteArray} {nL pc : Nat} (hd : decode cc pc = .ok (.dup, 1)) : ve_PO cc nL pc (ve_dup (pc + 1)) := by
  intro p l e R s m args below meth c H locs cells slots Q ls hx hb η lv st pc' lv' st' h hl kk
  unfold ve_dup at h
  split at h
  · obtain ⟨h1, h2⟩ := ve_bif h
    cases h2; exact lv_dup hx hb hd (ve_vc h1) (kk _ hl)
  · cases h
def ve_pop (nx : Nat) : ve_P := fun lv st => match st with
  | x :: r => bif x.category.beq 1 then some (nx, lv, r) else none
  | _ => none
theorem ve_pop_ok {cc : ByteArray} {nL pc : Nat} (hd : decode cc pc = .ok (.pop, 1)) : ve_PO cc nL pc (ve_pop (pc + 1)) := by
  intro p l e R s m args below meth c H locs cells slots Q ls hx hb η lv st pc' lv' st' h hl kk
  unfold ve_pop at h
  split at h
  · obtain ⟨h1, h2⟩ := ve_bif h
    cases h2; exact lv_pop hx hb hd (ve_vc h1) (kk _ hl)
  · cases h
def ve_dx (nx : Nat) : ve_P := fun lv st => match st with
  | x :: y :: r => bif x.category.beq 1 && y.category.beq 1 then some (nx, lv, x :: y :: x :: r) else none
  | _ => none
theorem ve_dup_x1_ok {cc : ByteArray} {nL pc : Nat} (hd : decode cc pc = .ok (.dup_x1, 1)) : ve_PO cc nL pc (ve_dx (pc + 1)) := by
  intro p l e R s m args below meth c H locs cells slots Q ls hx hb η lv st pc' lv' st' h hl kk
  unfold ve_dx at h
  split at h
  · obtain ⟨h1, h2⟩ := ve_bif h
    rw [Bool.and_eq_true] at h1
    cases h2; exact lv_dup_x1 hx hb hd (ve_vc h1.1) (ve_vc h1.2) (kk _ hl)
  · cases h
def ve_jmp (tgt : Nat) : ve_P := fun lv st => some (tgt, lv, st)
theorem ve_goto_ok {cc : ByteArray} {nL pc tgt : Nat} {off : Int} (hd : decode cc pc = .ok (.goto off, 3)) (ht : (pc : Int) + off = (tgt : Int)) : ve_PO cc nL pc (ve_jmp tgt) := by
  intro p l e R s m args below meth c H locs cells slots Q ls hx hb η lv st pc' lv' st' h hl kk
  cases h
  exact lv_goto hx hb hd ht (kk _ hl)
def ve_br1 (f : Int32 → Bool) (tgt nx : Nat) : ve_P := fun lv st => match st with
  | .int x :: r => some (bif f x then tgt else nx, lv, r)
  | _ => none
def ve_br2 (f : Int32 → Int32 → Bool) (tgt nx : Nat) : ve_P := fun lv st => match st with
  | .int y :: .int x :: r => some (bif f x y then tgt else nx, lv, r)
  | _ => none
theorem ve_if_eq_ok {cc : ByteArray} {nL pc tgt : Nat} {off : Int} (hd : decode cc pc = .ok (.ifCond .eq off, 3)) (ht : (pc : Int) + off = (tgt : Int)) : ve_PO cc nL pc (ve_br1 (fun x => decide (x = 0)) tgt (pc + 3)) := by
  intro p l e R s m args below meth c H locs cells slots Q ls hx hb η lv st pc' lv' st' h hl kk
  unfold ve_br1 at h
  split at h
  · next x r =>
    cases h
    refine lv_if_eq hx hb hd ht (fun h1 => ?_) (fun h1 => ?_)
    · refine ve_pc ?_ (kk _ hl)
      first | simp [h1] | simp_all
    · refine ve_pc ?_ (kk _ hl)
      first | simp [h1] | simp_all
  · cases h
theorem ve_icmp_eq_ok {cc : ByteArray} {nL pc tgt : Nat} {off : Int} (hd : decode cc pc = .ok (.if_icmp .eq off, 3)) (ht : (pc : Int) + off = (tgt : Int)) : ve_PO cc nL pc (ve_br2 (fun x y => decide (x = y)) tgt (pc + 3)) := by
  intro p l e R s m args below meth c H locs cells slots Q ls hx hb η lv st pc' lv' st' h hl kk
  unfold ve_br2 at h
  split at h
  · next y x r =>
    cases h
    refine lv_icmp_eq hx hb hd ht (fun h1 => ?_) (fun h1 => ?_)
    · refine ve_pc ?_ (kk _ hl)
      first | simp [h1] | simp_all
    · refine ve_pc ?_ (kk _ hl)
      first | simp [h1] | simp_all
  · cases h
theorem ve_if_ne_ok {cc : ByteArray} {nL pc tgt : Nat} {off : Int} (hd : decode cc pc = .ok (.ifCond .ne off, 3)) (ht : (pc : Int) + off = (tgt : Int)) : ve_PO cc nL pc (ve_br1 (fun x => decide (¬ x = 0)) tgt (pc + 3)) := by
  intro p l e R s m args below meth c H locs cells slots Q ls hx hb η lv st pc' lv' st' h hl kk
  unfold ve_br1 at h
  split at h
  · next x r =>
    cases h
    refine lv_if_ne hx hb hd ht (fun h1 => ?_) (fun h1 => ?_)
    · refine ve_pc ?_ (kk _ hl)
      first | simp [h1] | simp_all
    · refine ve_pc ?_ (kk _ hl)
      first | simp [h1] | simp_all
  · cases h
theorem ve_icmp_ne_ok {cc : ByteArray} {nL pc tgt : Nat} {off : Int} (hd : decode cc pc = .ok (.if_icmp .ne off, 3)) (ht : (pc : Int) + off = (tgt : Int)) : ve_PO cc nL pc (ve_br2 (fun x y => decide (¬ x = y)) tgt (pc + 3)) := by
  intro p l e R s m args below meth c H locs cells slots Q ls hx hb η lv st pc' lv' st' h hl kk
  unfold ve_br2 at h
  split at h
  · next y x r =>
    cases h
    refine lv_icmp_ne hx hb hd ht (fun h1 => ?_) (fun h1 => ?_)
    · refine ve_pc ?_ (kk _ hl)
      first | simp [h1] | simp_all
    · refine ve_pc ?_ (kk _ hl)
      first | simp [h1] | simp_all
  · cases h
theorem ve_if_lt_ok {cc : ByteArray} {nL pc tgt : Nat} {off : Int} (hd : decode cc pc = .ok (.ifCond .lt off, 3)) (ht : (pc : Int) + off = (tgt : Int)) : ve_PO cc nL pc (ve_br1 (fun x => decide (x < 0)) tgt (pc + 3)) := by
  intro p l e R s m args below meth c H locs cells slots Q ls hx hb η lv st pc' lv' st' h hl kk
  unfold ve_br1 at h
  split at h
  · next x r =>
    cases h
    refine lv_if_lt hx hb hd ht (fun h1 => ?_) (fun h1 => ?_)
    · refine ve_pc ?_ (kk _ hl)
      first | simp [h1] | simp_all
    · refine ve_pc ?_ (kk _ hl)
      first | simp [h1] | simp_all
  · cases h
theorem ve_icmp_lt_ok {cc : ByteArray} {nL pc tgt : Nat} {off : Int} (hd : decode cc pc = .ok (.if_icmp .lt off, 3)) (ht : (pc : Int) + off = (tgt : Int)) : ve_PO cc nL pc (ve_br2 (fun x y => decide (x < y)) tgt (pc + 3)) := by
  intro p l e R s m args below meth c H locs cells slots Q ls hx hb η lv st pc' lv' st' h hl kk
  unfold ve_br2 at h
  split at h
  · next y x r =>
    cases h
    refine lv_icmp_lt hx hb hd ht (fun h1 => ?_) (fun h1 => ?_)
    · refine ve_pc ?_ (kk _ hl)
      first | simp [h1] | simp_all
    · refine ve_pc ?_ (kk _ hl)
      first | simp [h1] | simp_all
  · cases h
theorem ve_if_ge_ok {cc : ByteArray} {nL pc tgt : Nat} {off : Int} (hd : decode cc pc = .ok (.ifCond .ge off, 3)) (ht : (pc : Int) + off = (tgt : Int)) : ve_PO cc nL pc (ve_br1 (fun x => decide (¬ x < 0)) tgt (pc + 3)) := by
  intro p l e R s m args below meth c H locs cells slots Q ls hx hb η lv st pc' lv' st' h hl kk
  unfold ve_br1 at h
  split at h
  · next x r =>
    cases h
    refine lv_if_ge hx hb hd ht (fun h1 => ?_) (fun h1 => ?_)
    · refine ve_pc ?_ (kk _ hl)
      first | simp [h1] | simp_all
    · refine ve_pc ?_ (kk _ hl)
      first | simp [h1] | simp_all
  · cases h
theorem ve_icmp_ge_ok {cc : ByteArray} {nL pc tgt : Nat} {off : Int} (hd : decode cc pc = .ok (.if_icmp .ge off, 3)) (ht : (pc : Int) + off = (tgt : Int)) : ve_PO cc nL pc (ve_br2 (fun x y => decide (¬ x < y)) tgt (pc + 3)) := by
  intro p l e R s m args below meth c H locs cells slots Q ls hx hb η lv st pc' lv' st' h hl kk
  unfold ve_br2 at h
  split at h
  · next y x r =>
    cases h
    refine lv_icmp_ge hx hb hd ht (fun h1 => ?_) (fun h1 => ?_)
    · refine ve_pc ?_ (kk _ hl)
      first | simp [h1] | simp_all
    · refine ve_pc ?_ (kk _ hl)
      first | simp [h1] | simp_all
  · cases h
theorem ve_if_gt_ok {cc : ByteArray} {nL pc tgt : Nat} {off : Int} (hd : decode cc pc = .ok (.ifCond .gt off, 3)) (ht : (pc : Int) + off = (tgt : Int)) : ve_PO cc nL pc (ve_br1 (fun x => decide (0 < x)) tgt (pc + 3)) := by
  intro p l e R s m args below meth c H locs cells slots Q ls hx hb η lv st pc' lv' st' h hl kk
  unfold ve_br1 at h
  split at h
  · next x r =>
    cases h
    refine lv_if_gt hx hb hd ht (fun h1 => ?_) (fun h1 => ?_)
    · refine ve_pc ?_ (kk _ hl)
      first | simp [h1] | simp_all
    · refine ve_pc ?_ (kk _ hl)
      first | simp [h1] | simp_all
  · cases h
theorem ve_icmp_gt_ok {cc : ByteArray} {nL pc tgt : Nat} {off : Int} (hd : decode cc pc = .ok (.if_icmp .gt off, 3)) (ht : (pc : Int) + off = (tgt : Int)) : ve_PO cc nL pc (ve_br2 (fun x y => decide (y < x)) tgt (pc + 3)) := by
  intro p l e R s m args below meth c H locs cells slots Q ls hx hb η lv st pc' lv' st' h hl kk
  unfold ve_br2 at h
  split at h
  · next y x r =>
    cases h
    refine lv_icmp_gt hx hb hd ht (fun h1 => ?_) (fun h1 => ?_)
    · refine ve_pc ?_ (kk _ hl)
      first | simp [h1] | simp_all
    · refine ve_pc ?_ (kk _ hl)
      first | simp [h1] | simp_all
  · cases h
theorem ve_if_le_ok {cc : ByteArray} {nL pc tgt : Nat} {off : Int} (hd : decode cc pc = .ok (.ifCond .le off, 3)) (ht : (pc : Int) + off = (tgt : Int)) : ve_PO cc nL pc (ve_br1 (fun x => decide (¬ 0 < x)) tgt (pc + 3)) := by
  intro p l e R s m args below meth c H locs cells slots Q ls hx hb η lv st pc' lv' st' h hl kk
  unfold ve_br1 at h
  split at h
  · next x r =>
    cases h
    refine lv_if_le hx hb hd ht (fun h1 => ?_) (fun h1 => ?_)
    · refine ve_pc ?_ (kk _ hl)
      first | simp [h1] | simp_all
    · refine ve_pc ?_ (kk _ hl)
      first | simp [h1] | simp_all
  · cases h
theorem ve_icmp_le_ok {cc : ByteArray} {nL pc tgt : Nat} {off : Int} (hd : decode cc pc = .ok (.if_icmp .le off, 3)) (ht : (pc : Int) + off = (tgt : Int)) : ve_PO cc nL pc (ve_br2 (fun x y => decide (¬ y < x)) tgt (pc + 3)) := by
  intro p l e R s m args below meth c H locs cells slots Q ls hx hb η lv st pc' lv' st' h hl kk
  unfold ve_br2 at h
  split at h
  · next y x r =>
    cases h
    refine lv_icmp_le hx hb hd ht (fun h1 => ?_) (fun h1 => ?_)
    · refine ve_pc ?_ (kk _ hl)
      first | simp [h1] | simp_all
    · refine ve_pc ?_ (kk _ hl)
      first | simp [h1] | simp_all
  · cases h
end
section
-- worlds
def ve_hg : ve_H → Nat → Option ve_C
  | [], _ => none
  | q :: r, i => bif q.1.beq i then some q.2 else ve_hg r i
def ve_hs : ve_H → Nat → ve_C → ve_H
  | [], i, c => [(i, c)]
  | q :: r, i, c => bif q.1.beq i then (i, c) :: r else q :: ve_hs r i c
theorem ve_bf {i j : Nat} (h : ¬ i = j) : i.beq j = false := by
  cases hb : i.beq j with
  | true => exact absurd (Nat.eq_of_beq_eq_true hb) h
  | false => rfl
theorem ve_hg_hs : ∀ (h : ve_H) (i j : Nat) (c : ve_C), ve_hg (ve_hs h i c) j = if i = j then some c else ve_hg h j
  | [], i, j, c => by
    by_cases e : i = j
    · subst e; simp [ve_hs, ve_hg]
    · have : i.beq j = false := ve_bf e
      simp [ve_hs, ve_hg, e, this]
  | q :: r, i, j, c => by
    unfold ve_hs
    cases hb : q.1.beq i with
    | true =>
      have e0 : q.1 = i := Nat.eq_of_beq_eq_true hb
      by_cases e : i = j
      · subst e; simp [ve_hg]
      · have h1 : i.beq j = false := ve_bf e
        have h2 : q.1.beq j = false := by rw [e0]; exact h1
        simp [ve_hg, e, h1, h2]
    | false =>
      have hne : ¬ q.1 = i := fun h => by rw [h, Nat.beq_refl] at hb; cases hb
      have ih := ve_hg_hs r i j c
      simp only [cond_false, ve_hg]
      rw [ih]
      by_cases e : i = j
      · subst e
        simp [hb]
      · simp [e]
def ve_c (η : Nat → Nat) (c : ve_C) : Cell := bif c.1.blt 1000 then { cls := c.1, slots := (c.2.map (ve_v η)).toArray, vm := .none } else { cls := c.1 - 1000, slots := (c.2.map (ve_v η)).toArray, vm := .statics (c.1 - 1000) }
theorem ve_c_obj {η : Nat → Nat} {c : ve_C} (h : c.1.blt 1000 = true) : ve_c η c = { cls := c.1, slots := (c.2.map (ve_v η)).toArray, vm := .none } := by unfold ve_c; rw [h]; rfl
theorem ve_c_slots (η : Nat → Nat) (c : ve_C) : (ve_c η c).slots = (c.2.map (ve_v η)).toArray := by unfold ve_c; cases c.1.blt 1000 <;> rfl
theorem ve_c_known (η : Nat → Nat) (c : ve_C) : (ve_c η c).vm ≠ .unknown := by unfold ve_c; cases c.1.blt 1000 <;> exact fun h => by cases h
theorem ve_c_size (η : Nat → Nat) (c : ve_C) : (ve_c η c).slots.size = c.2.length := by rw [ve_c_slots]; simp
theorem ve_c_at {η : Nat → Nat} {c : ve_C} {k : Nat} {v : Value} (h : c.2[k]? = some v) : (ve_c η c).slots[k]? = some (ve_v η v) := by rw [ve_c_slots]; simp [h]
theorem ve_c_set {η : Nat → Nat} {c : ve_C} {k : Nat} {v : Value} : (ve_c η c).setSlot k (ve_v η v) = ve_c η (c.1, c.2.set k v) := by
  unfold ve_c Cell.setSlot
  cases c.1.blt 1000 <;> simp [List.map_set]
def ve_sum (H : Heap) : Nat := (H.toList.map fun c => c.slots.size).sum
theorem ve_sum_push {H H' : Heap} {x : Cell} (h1 : H'[H.size]? = some x) (h2 : H'.size = H.size + 1) (h3 : ∀ q, q < H.size → H'[q]? = H[q]?) : ve_sum H' = ve_sum H + x.slots.size := by
  have e : H'.toList = H.toList ++ [x] := by
    apply List.ext_getElem?
    intro i
    simp only [Array.getElem?_toList]
    by_cases hi : i < H.size
    · rw [h3 i hi, List.getElem?_append_left (by simpa using hi)]; simp
    · by_cases hi2 : i = H.size
      · subst hi2; rw [h1, List.getElem?_append_right (by simp)]; simp
      · rw [Array.getElem?_eq_none (by omega), List.getElem?_eq_none (by simp; omega)]
  unfold ve_sum
  rw [e]
  simp
theorem ve_sum_set {H H' : Heap} {a : Nat} {x y : Cell} (h0 : H[a]? = some x) (h1 : H'[a]? = some y) (hs : y.slots.size = x.slots.size) (h2 : H'.size = H.size) (h3 : ∀ q, q ≠ a → H'[q]? = H[q]?) : ve_sum H' = ve_sum H := by
  have e : H'.toList.map (fun c => c.slots.size) = H.toList.map (fun c => c.slots.size) := by
    apply List.ext_getElem?
    intro i
    simp only [List.getElem?_map, Array.getElem?_toList]
    by_cases hi : i = a
    · subst hi; rw [h0, h1]; simp [hs]
    · rw [h3 i hi]
  unfold ve_sum
  rw [e]
-- the state of a walk: known cells; new numbers lie one behind another; old cells apart from the known ones are as they were
def ve_Rl (η : Nat → Nat) (h : ve_H) (H : Heap) : Prop := ∀ (i : Nat) (c : ve_C), ve_hg h i = some c → H[η i]? = some (ve_c η c)
def ve_Fr (η : Nat → Nat) (N : Nat) (H : Heap) : Prop := ∀ o : Nat, η (N + o) = H.size + o
def ve_In (η : Nat → Nat) : Prop := ∀ i j : Nat, η i = η j → i = j
def ve_Iv (η : Nat → Nat) (P : Nat → Prop) (H0 : Heap) (h : ve_H) (N cl sl : Nat) (H : Heap) : Prop :=
  ve_Rl η h H ∧ ve_Fr η N H ∧ (∀ i : Nat, (ve_hg h i).isSome = true → P (η i) ∨ H0.size ≤ η i) ∧ (∀ q : Nat, q < H0.size → ¬ P q → H[q]? = H0[q]?) ∧ H.size = H0.size + cl ∧ ve_sum H = ve_sum H0 + sl
theorem ve_Iv.set {η : Nat → Nat} {P : Nat → Prop} {H0 H H' : Heap} {h : ve_H} {N cl sl i : Nat} {c c' : ve_C} (hη : ve_In η) (X : ve_Iv η P H0 h N cl sl H) (hi : ve_hg h i = some c)
    (h1 : H'[η i]? = some (ve_c η c')) (h2 : H'.size = H.size) (h3 : ∀ q, q ≠ η i → H'[q]? = H[q]?) (hl : c'.2.length = c.2.length) : ve_Iv η P H0 (ve_hs h i c') N cl sl H' := by
  obtain ⟨a1, a2, a3, a4, a5, a6⟩ := X
  refine ⟨?_, ?_, ?_, ?_, by rw [h2, a5], ?_⟩
  · intro j d hj
    rw [ve_hg_hs] at hj
    by_cases e : i = j
    · subst e
      rw [if_pos rfl] at hj
      cases hj
      exact h1
    · rw [if_neg e] at hj
      rw [h3 _ (fun e2 => e (hη _ _ e2).symm)]
      exact a1 j d hj
  · intro o; rw [a2 o, h2]
  · intro j hj
    rw [ve_hg_hs] at hj
    by_cases e : i = j
    · subst e
      exact a3 i (by rw [hi]; rfl)
    · rw [if_neg e] at hj
      exact a3 j hj
  · intro q hq hP
    rw [h3 q ?_]
    · exact a4 q hq hP
    · intro e
      rcases a3 i (by rw [hi]; rfl) with h9 | h9
      · exact hP (e ▸ h9)
      · omega
  · rw [ve_sum_set (a1 i c hi) h1 (by rw [ve_c_size, ve_c_size, hl]) h2 h3, a6]
theorem ve_Iv.push {η : Nat → Nat} {P : Nat → Prop} {H0 H H' : Heap} {h : ve_H} {N cl sl : Nat} {c : ve_C} (hη : ve_In η) (X : ve_Iv η P H0 h N cl sl H)
    (h1 : H'[H.size]? = some (ve_c η c)) (h2 : H'.size = H.size + 1) (h3 : ∀ q, q < H.size → H'[q]? = H[q]?) : ve_Iv η P H0 ((N, c) :: h) (N + 1) (cl + 1) (sl + c.2.length) H' := by
  obtain ⟨a1, a2, a3, a4, a5, a6⟩ := X
  have hN : η N = H.size := a2 0
  refine ⟨?_, ?_, ?_, ?_, by rw [h2, a5]; omega, ?_⟩
  · intro j d hj
    unfold ve_hg at hj
    cases hb : N.beq j with
    | true =>
      have e : N = j := Nat.eq_of_beq_eq_true hb
      subst e
      rw [hb] at hj
      cases hj
      rw [hN]; exact h1
    | false =>
      rw [hb] at hj
      have h9 := a1 j d hj
      rw [h3 _ (Array.getElem?_eq_some_iff.mp h9).1]
      exact h9
  · intro o
    rw [show N + 1 + o = N + (1 + o) by omega, a2, h2]; omega
  · intro j hj
    unfold ve_hg at hj
    cases hb : N.beq j with
    | true =>
      have e : N = j := Nat.eq_of_beq_eq_true hb
      subst e
      exact Or.inr (by omega)
    | false =>
      rw [hb] at hj
      exact a3 j hj
  · intro q hq hP
    rw [h3 q (by omega)]
    exact a4 q hq hP
  · rw [ve_sum_push h1 h2 h3, a6, ve_c_size]; omega
end
section
-- a summary: (method, arguments, how many numbers, world, answer, world behind, new cells, new slots, depth)
abbrev ve_S : Type := Nat × List Value × Nat × ve_H × Option Value × ve_H × Nat × Nat × Nat
abbrev ve_I : Type := List (Option (ve_S × List Nat))
abbrev ve_F : Type := ve_I × ve_L × List Value × ve_H × Nat × Nat × Nat
abbrev ve_B : Type := Nat → List Value → ve_I → ve_H → Nat → Option (ve_I × Option Value × ve_H × Nat × Nat)
abbrev ve_R : Type := (Nat × ve_F) ⊕ (Option Value × ve_F)
abbrev ve_M : Type := Nat → ve_B → ve_F → Option ve_R
-- a method: name, code, locals, return type, its instructions
abbrev ve_D : Type := MethodName × ByteArray × Nat × Option FieldType × (Nat → ve_M) × List (Nat × Nat × Nat × Nat)
def ve_w (D : ve_D) : Cond := match D.2.2.2.2.2 with
  | [] => .code D.1 D.2.1 D.2.2.1 D.2.2.2.1
  | q :: r => .codeWith D.1 D.2.1 D.2.2.1 D.2.2.2.1 (q :: r)
/-- a method's contract from its body's walk, with handlers or without -/
theorem ve_ofW {l : Launch} {D : ve_D} {rm : Room} {Pc : Array Value → State → Prop} {Qc : Array Value → State → Outcome → State → Prop} {mc ms : Nat} {free : Addr → Prop}
    (hy : plainName D.1.cls = true)
    (body : ∀ p e s m args below meth c s₁, BodyLoose p l D.1 (headSpec [ve_w D] rm) D.2.1 D.2.2.1 D.2.2.2.1 e s m args below meth c s₁ → c.maxLocals = D.2.2.1 → Pc args s →
      W p l e (headSpec [ve_w D] rm).room s m args below meth c s.heap [] 0 0 (MQ below Qc args s mc ms free) (entryFrame m args D.2.2.1)) : Met l D.1 [ve_w D] rm Pc Qc mc ms free := by
  refine MetFree.of_bodyS (code := D.2.1) (maxLocals := D.2.2.1) (ret := D.2.2.2.1) hy ?_ ?_
  · intro args s m h hn
    have h9 := atoms_spec (ws := [ve_w D]) h (ve_w D) List.mem_cons_self
    unfold ve_w at h9
    split at h9
    · obtain ⟨meth, c, h1, h2, h3, h4, h5, h6, -, -⟩ := Cond.code_spec hn h9
      exact ⟨meth, c, h1, h2, h3, h4, h5, h6⟩
    · obtain ⟨m9, meth, c, hn9, h1, h2, h3, h4, -, h5, h6, -⟩ := Cond.codeWith_spec h9
      cases hn.symm.trans hn9
      exact ⟨meth, c, h1, h2, h3, h4, h5, h6⟩
  · intro p e s m args below meth c s₁ B hml hP _
    have hh0 : s₁.heap = s.heap := by rw [B.state]; rfl
    obtain ⟨t, a1, o, b1, b2, b3⟩ := body p e s m args below meth c s₁ B hml hP s₁ hh0 (Stand.of_body B)
    exact ⟨t, o, a1, b1, b2, ⟨b3.1, b3.2⟩⟩
def ve_X (A0 : State) (own : String) (cc : ByteArray) (nL : Nat) (ret : Option FieldType) (nm : String) (d : Nat) (p : Program) (e : Env) (R : Room) (s : State) (m : MethodId) (args : Array Value) (below : List Frame) (meth : Method) (c : Code) : Prop :=
  p.tables.exec = Jvm.exec ∧ c.code = cc ∧ c.maxLocals = nL ∧ s.vm.findClass own = some m.cls ∧ A0.WarmedH s.vm ∧ meth.sig.returnType = ret ∧ meth.locks = false ∧ meth.name = nm ∧ d ≤ R.frames ∧ 64 * d ≤ R.locals
/-- numbers below g are addresses of the start's own cells -/
def ve_Gl (g : Nat) (η : Nat → Nat) : Prop := ∀ i : Nat, i < g → η i = i
def ve_Km (h : ve_H) (N : Nat) (h' : ve_H) : Prop := ∀ i : Nat, (ve_hg h' i).isSome = true → (ve_hg h i).isSome = true ∨ N ≤ i
theorem ve_Km.rf {h : ve_H} {N : Nat} : ve_Km h N h := fun _ h => Or.inl h
theorem ve_Km.tr {h h' h'' : ve_H} {N N' : Nat} (a : ve_Km h N h') (hN : N ≤ N') (b : ve_Km h' N' h'') : ve_Km h N h'' := fun i hi => by
  rcases b i hi with h1 | h1
  · exact a i h1
  · exact Or.inr (by omega)
def ve_OK (A0 : State) (l : Launch) (g : Nat) (HI : ve_I → Prop) (CB : Nat → ve_B → Prop) (own : String) (cc : ByteArray) (nL : Nat) (ret : Option FieldType) (nm : String) (pc : Nat) (f : ve_M) : Prop :=
  ∀ (d : Nat) (cb : ve_B), CB d cb → ∀ (hi : ve_I) (lv : ve_L) (st : List Value) (h : ve_H) (N cl sl : Nat), HI hi → ∀ res : ve_R, f d cb (hi, lv, st, h, N, cl, sl) = some res →
    match res with
    | .inl (pc', hi', lv', st', h', N', cl', sl') => (HI hi' ∧ cl ≤ cl' ∧ sl ≤ sl' ∧ ve_Km h N h' ∧ N + cl' = N' + cl) ∧
      ∀ (p : Program) (e : Env) (R : Room) (s : State) (m : MethodId) (args : Array Value) (below : List Frame) (meth : Method) (c : Code),
      ve_X A0 own cc nL ret nm (d + 1) p e R s m args below meth c → ∀ η : Nat → Nat, ve_In η → ve_Gl g η → ∀ (P : Nat → Prop) (H0 : Heap),
      ∀ (H : Heap) (locs : List Loc) (ls : Array Slot) (Q : State → Prop), ve_Iv η P H0 h N cl sl H → lv_has ls nL (lv.map (ve_q η)) → cl' ≤ R.cells → sl' ≤ R.slots →
        (∀ (H' : Heap) (locs' : List Loc) (ls' : Array Slot), ve_Iv η P H0 h' N' cl' sl' H' → lv_has ls' nL (lv'.map (ve_q η)) → W p l e R s m args below meth c H' locs' cl' sl' Q (F0 m pc' ls' (st'.map (ve_v η)))) →
        W p l e R s m args below meth c H locs cl sl Q (F0 m pc ls (st.map (ve_v η)))
    | .inr (v, z) => z = (hi, lv, st, h, N, cl, sl) ∧
      ∀ (p : Program) (e : Env) (R : Room) (s : State) (m : MethodId) (args : Array Value) (below : List Frame) (meth : Method) (c : Code),
      ve_X A0 own cc nL ret nm (d + 1) p e R s m args below meth c → ∀ η : Nat → Nat,
      ∀ (H : Heap) (locs : List Loc) (ls : Array Slot) (Qc : Array Value → State → Outcome → State → Prop), (∀ t : State, t.heap = H → s.WarmedH t.vm → Qc args s (.returned (v.map (ve_v η))) t) →
        W p l e R s m args below meth c H locs cl sl (MQ below Qc args s cl sl (fun _ => True)) (F0 m pc ls (st.map (ve_v η)))
/-- an instruction that leaves the world alone -/
def ve_pu (f : ve_P) : ve_M := fun _ _ z => match f z.2.1 z.2.2.1 with
  | some (pc', lv', st') => some (.inl (pc', z.1, lv', st', z.2.2.2))
  | none => none
theorem ve_pu_ok {A0 : State} {l : Launch} {g : Nat} {HI : ve_I → Prop} {CB : Nat → ve_B → Prop} {own : String} {cc : ByteArray} {nL : Nat} {ret : Option FieldType} {nm : String} {pc : Nat} {f : ve_P} (hf : ve_PO cc nL pc f) : ve_OK A0 l g HI CB own cc nL ret nm pc (ve_pu f) := by
  intro d cb _ hi lv st h N cl sl hHI res hr
  unfold ve_pu at hr
  dsimp only at hr
  split at hr
  · next pc' lv' st' hp =>
    cases hr
    refine ⟨⟨hHI, Nat.le_refl _, Nat.le_refl _, ve_Km.rf, rfl⟩, ?_⟩
    intro p e R s m args below meth c hX η _ _ P H0 H locs ls Q hI hl _ _ kk
    exact hf p l e R s m args below meth c H locs cl sl Q ls hX.1 hX.2.1 η lv st pc' lv' st' hp hl (fun ls' h9 => kk H locs ls' hI h9)
  · cases hr
/-- no instruction here -/
def ve_no : ve_M := fun _ _ _ => none
theorem ve_no_ok {A0 : State} {l : Launch} {g : Nat} {HI : ve_I → Prop} {CB : Nat → ve_B → Prop} {own : String} {cc : ByteArray} {nL : Nat} {ret : Option FieldType} {nm : String} {pc : Nat} : ve_OK A0 l g HI CB own cc nL ret nm pc ve_no := by
  intro d cb _ hi lv st h N cl sl hHI res hr
  cases hr
theorem ve_leaf {A0 : State} {l : Launch} {g : Nat} {HI : ve_I → Prop} {CB : Nat → ve_B → Prop} {own : String} {cc : ByteArray} {nL : Nat} {ret : Option FieldType} {nm : String} {k : Nat} {f : ve_M} (hf : ve_OK A0 l g HI CB own cc nL ret nm k f) (pc : Nat) : ve_OK A0 l g HI CB own cc nL ret nm pc (bif pc.beq k then f else ve_no) := by
  cases hb : pc.beq k with
  | true => have e := Nat.eq_of_beq_eq_true hb; subst e; exact hf
  | false => exact ve_no_ok
theorem ve_node {A0 : State} {l : Launch} {g : Nat} {HI : ve_I → Prop} {CB : Nat → ve_B → Prop} {own : String} {cc : ByteArray} {nL : Nat} {ret : Option FieldType} {nm : String} {pc : Nat} {b : Bool} {f f' : ve_M} (h1 : ve_OK A0 l g HI CB own cc nL ret nm pc f) (h2 : ve_OK A0 l g HI CB own cc nL ret nm pc f') : ve_OK A0 l g HI CB own cc nL ret nm pc (bif b then f else f') := by
  cases b <;> assumption
/-- what a call does to a world -/
def ve_MO (A0 : State) (l : Launch) (g : Nat) (md : Nat → ve_D) (d mi : Nat) (args : List Value) (h : ve_H) (N : Nat) (ret : Option Value) (h' : ve_H) (mc ms : Nat) : Prop :=
  ve_Km h N h' ∧ ∃ dp : Nat, dp ≤ d ∧ ∀ η : Nat → Nat, ve_In η → ve_Gl g η →
    Met l (md mi).1 [ve_w (md mi)] { frames := dp, cells := mc, slots := ms, locals := 64 * dp }
      (fun a U => a = (args.map (ve_v η)).toArray ∧ A0.WarmedH U.vm ∧ ve_Fr η N U.heap ∧ ve_Rl η h U.heap)
      (fun _ st o t => o = .returned (ret.map (ve_v η)) ∧ ve_Rl η h' t.heap ∧ t.heap.size = st.heap.size + mc ∧ ve_sum t.heap = ve_sum st.heap + ms ∧ ∀ q : Nat, q < st.heap.size → (∀ i : Nat, (ve_hg h i).isSome = true → η i ≠ q) → t.heap[q]? = st.heap[q]?) mc ms (fun _ => True)
def ve_CB (A0 : State) (l : Launch) (g : Nat) (HI : ve_I → Prop) (md : Nat → ve_D) (d : Nat) (cb : ve_B) : Prop :=
  ∀ (mi : Nat) (args : List Value) (hi : ve_I) (h : ve_H) (N : Nat) (hi' : ve_I) (ret : Option Value) (h' : ve_H) (mc ms : Nat), HI hi → cb mi args hi h N = some (hi', ret, h', mc, ms) → HI hi' ∧ ve_MO A0 l g md d mi args h N ret h' mc ms
-- a method's run
noncomputable def ve_lp (tb : Nat → ve_M) (d : Nat) (cb : ve_B) (n : Nat) : Nat → ve_F → Option (Option Value × ve_F) :=
  Nat.rec (fun _ _ => none) (fun _ ih pc z => match tb pc d cb z with
    | some (.inl (pc', z')) => ih pc' z'
    | some (.inr r) => some r
    | none => none) n
theorem ve_lp_ok {A0 : State} {l : Launch} {g : Nat} {HI : ve_I → Prop} {CB : Nat → ve_B → Prop} {own : String} {cc : ByteArray} {nL : Nat} {ret : Option FieldType} {nm : String} {tb : Nat → ve_M} (ht : ∀ pc, ve_OK A0 l g HI CB own cc nL ret nm pc (tb pc)) {d : Nat} {cb : ve_B} (hcb : CB d cb) :
    ∀ (n pc : Nat) (hi : ve_I) (lv : ve_L) (st : List Value) (h : ve_H) (N cl sl : Nat) (v : Option Value) (hi' : ve_I) (lv' : ve_L) (st' : List Value) (h' : ve_H) (N' cl' sl' : Nat), HI hi → ve_lp tb d cb n pc (hi, lv, st, h, N, cl, sl) = some (v, hi', lv', st', h', N', cl', sl') →
      HI hi' ∧ cl ≤ cl' ∧ sl ≤ sl' ∧ ve_Km h N h' ∧ N + cl' = N' + cl ∧
      ∀ (p : Program) (e : Env) (R : Room) (s : State) (m : MethodId) (args : Array Value) (below : List Frame) (meth : Method) (c : Code), ve_X A0 own cc nL ret nm (d + 1) p e R s m args below meth c → ∀ η : Nat → Nat, ve_In η → ve_Gl g η → ∀ (P : Nat → Prop) (H0 : Heap),
      ∀ (H : Heap) (locs : List Loc) (ls : Array Slot) (Qc : Array Value → State → Outcome → State → Prop), ve_Iv η P H0 h N cl sl H → lv_has ls nL (lv.map (ve_q η)) → cl' ≤ R.cells → sl' ≤ R.slots →
        (∀ t : State, s.WarmedH t.vm → ve_Iv η P H0 h' N' cl' sl' t.heap → Qc args s (.returned (v.map (ve_v η))) t) →
        W p l e R s m args below meth c H locs cl sl (MQ below Qc args s cl' sl' (fun _ => True)) (F0 m pc ls (st.map (ve_v η))) := by
  intro n
  induction n with
  | zero => intro pc hi lv st h N cl sl v hi' lv' st' h' N' cl' sl' _ hr; cases hr
  | succ n ih =>
    intro pc hi lv st h N cl sl v hi' lv' st' h' N' cl' sl' hHI hr
    have hk := ht pc d cb hcb hi lv st h N cl sl hHI
    change (match tb pc d cb (hi, lv, st, h, N, cl, sl) with
      | some (.inl (pc', z')) => ve_lp tb d cb n pc' z'
      | some (.inr r) => some r
      | none => none) = _ at hr
    split at hr
    · next pc1 z1 he =>
      obtain ⟨hi1, lv1, st1, h1, N1, cl1, sl1⟩ := z1
      obtain ⟨⟨a1, a2, a3, a4, a5⟩, a6⟩ := hk _ he
      obtain ⟨b1, b2, b3, b4, b5, b6⟩ := ih pc1 hi1 lv1 st1 h1 N1 cl1 sl1 v hi' lv' st' h' N' cl' sl' a1 hr
      refine ⟨b1, by omega, by omega, a4.tr (by omega) b4, by omega, ?_⟩
      intro p e R s m args below meth c hX η hη hg P H0 H locs ls Qc hI hl hc hs hq
      exact a6 p e R s m args below meth c hX η hη hg P H0 H locs ls _ hI hl (by omega) (by omega) (fun H' locs' ls' hI' hl' => b6 p e R s m args below meth c hX η hη hg P H0 H' locs' ls' Qc hI' hl' hc hs hq)
    · next r he =>
      cases hr
      obtain ⟨a1, a2⟩ := hk _ he
      cases a1
      refine ⟨hHI, Nat.le_refl _, Nat.le_refl _, ve_Km.rf, rfl, ?_⟩
      intro p e R s m args below meth c hX η hη hg P H0 H locs ls Qc hI hl hc hs hq
      exact a2 p e R s m args below meth c hX η H locs ls Qc (fun t h1 h2 => hq t h2 (by rw [h1]; exact hI))
    · cases hr
end
section
noncomputable def ve_run (md : Nat → ve_D) (F : Nat) (d : Nat) : ve_B :=
  Nat.rec (fun _ _ _ _ _ => none) (fun d ih mi args hi h N => bif (lg_sl args).length.ble (md mi).2.2.1 then (match ve_lp (md mi).2.2.2.2.1 d ih F 0 (hi, lv_args 0 args, [], h, N, 0, 0) with
    | some (v, hi', _, _, h', _, cl', sl') => some (hi', v, h', cl', sl')
    | none => none) else none) d
theorem ve_args_q (η : Nat → Nat) : ∀ (i : Nat) (vs : List Value), lv_args i (vs.map (ve_v η)) = (lv_args i vs).map (ve_q η)
  | _, [] => rfl
  | i, v :: vs => by
    simp only [List.map_cons, lv_args, ve_v_cat]
    rw [ve_args_q η _ vs]
    rfl
theorem ve_sl_len (η : Nat → Nat) : ∀ vs : List Value, (lg_sl (vs.map (ve_v η))).length = (lg_sl vs).length
  | [] => rfl
  | v :: vs => by
    have ih := ve_sl_len η vs
    simp only [lg_sl, List.map_cons, List.flatMap_cons, ve_v_cat, List.length_append] at ih ⊢
    rw [ih]
    split <;> rfl
theorem ve_bif2 {α : Type} {b : Bool} {x : Option α} {y : α} (h : (bif b then x else none) = some y) : b = true ∧ x = some y := by
  cases b with
  | true => exact ⟨rfl, h⟩
  | false => cases h
set_option maxHeartbeats 1000000 in
theorem ve_run_ok {A0 : State} {l : Launch} {g : Nat} {HI : ve_I → Prop} {md : Nat → ve_D} {F : Nat} (hpl : ∀ mi, plainName (md mi).1.cls = true)
    (ht : ∀ mi pc, ve_OK A0 l g HI (ve_CB A0 l g HI md) (md mi).1.cls (md mi).2.1 (md mi).2.2.1 (md mi).2.2.2.1 (md mi).1.name pc ((md mi).2.2.2.2.1 pc)) : ∀ d, ve_CB A0 l g HI md d (ve_run md F d) := by
  intro d
  induction d with
  | zero => intro mi args hi h N hi' ret h' mc ms _ hr; cases hr
  | succ d ih =>
    intro mi args hi h N hi' ret h' mc ms hHI hr
    change (bif (lg_sl args).length.ble (md mi).2.2.1 then (match ve_lp (md mi).2.2.2.2.1 d (ve_run md F d) F 0 (hi, lv_args 0 args, [], h, N, 0, 0) with
      | some (v, hi', _, _, h', _, cl', sl') => some (hi', v, h', cl', sl')
      | none => none) else none) = _ at hr
    obtain ⟨hlen, hr⟩ := ve_bif2 hr
    have hlen := Nat.le_of_ble_eq_true hlen
    split at hr
    · next v hi1 lv1 st1 h1 N1 cl1 sl1 he =>
      cases hr
      obtain ⟨a1, a2, a3, a4, a5, a6⟩ := ve_lp_ok (ht mi) ih F 0 hi (lv_args 0 args) [] h N 0 0 _ _ lv1 st1 _ N1 _ _ hHI he
      refine ⟨a1, a4, d + 1, Nat.le_refl _, ?_⟩
      intro η hη hg
      refine ve_ofW (hpl mi) ?_
      intro p e s m args' below meth c s₁ B hml hv
      obtain ⟨rfl, hW, hFr, hRl⟩ := hv
      have hl := lv_entry (args.map (ve_v η)) (n := (md mi).2.2.1) (by rw [ve_sl_len]; exact hlen)
      rw [ve_args_q] at hl
      rw [lg_entry_eq]
      generalize (lg_sl (args.map (ve_v η)) ++ List.replicate ((md mi).2.2.1 - (lg_sl (args.map (ve_v η))).length) Slot.unset).toArray = ls at hl ⊢
      have hX : ve_X A0 (md mi).1.cls (md mi).2.1 (md mi).2.2.1 (md mi).2.2.2.1 (md mi).1.name (d + 1) p e (headSpec [ve_w (md mi)] { frames := d + 1, cells := mc, slots := ms, locals := 64 * (d + 1) }).room s m (args.map (ve_v η)).toArray below meth c :=
        ⟨B.exec, B.bytes, hml, findClass_of_methodNamed B.named, hW, B.returns, B.notSynchronized, (name_of_methodNamed B.named B.method).1, Nat.le_refl _, Nat.le_refl _⟩
      have hI : ve_Iv η (fun q => ∃ i, (ve_hg h i).isSome = true ∧ η i = q) s.heap h N 0 0 s.heap :=
        ⟨hRl, hFr, fun i hi => Or.inl ⟨i, hi, rfl⟩, fun q _ _ => rfl, rfl, rfl⟩
      refine a6 p e _ s m _ below meth c hX η hη hg _ s.heap s.heap [] ls _ hI hl (Nat.le_refl _) (Nat.le_refl _) ?_
      intro t _ hIt
      obtain ⟨c1, c2, c3, c4, c5, c6⟩ := hIt
      exact ⟨rfl, c1, c5, c6, fun q hq hk => c4 q hq (fun ⟨i, hi, e⟩ => hk i hi e)⟩
    · cases hr
end
section
theorem ve_wd {A0 s : State} {args : Array Value} {w : Cond} (hW : A0.WarmedH s.vm) (hg : goodWord w = true) (h : w.before #[] A0 = true) : w.before args s = true := word_at hW (good_of_word hg) h
theorem ve_wdF {A0 s : State} {args : Array Value} {a b n d o : String} {i : Nat} (hW : A0.WarmedH s.vm) (h : (Cond.fieldLinkNest a i b n d o).before #[] A0 = true) : (Cond.fieldLinkNest a i b n d o).before args s = true := va_Nw.use rfl (va_Nw.warmF hW h)
theorem ve_fc {A0 s : State} (hW : A0.WarmedH s.vm) {C : String} {r : Option ClassId} (h : A0.vm.findClass C = r) : s.vm.findClass C = r := by rw [hW.alike.findClass]; exact h
theorem ve_kl {A0 s : State} (hW : A0.WarmedH s.vm) {i : Nat} {k : Class} (h : A0.vm.classes[i]? = some k) : ∃ k', s.vm.classes[i]? = some k' ∧ k' = { k with resolved := k'.resolved, nestHost := k'.nestHost, nestHostError := k'.nestHostError } := hW.alike.2.2 i k h
theorem ve_ff {A0 s : State} (hW : A0.WarmedH s.vm) {ref name desc : String} {f : ClassId × Class × Nat × Field → Bool} (h : (A0.fieldFound? ref name desc).any f = true) :
    ∃ (cf i : Nat) (k k' : Class) (fd : Field), A0.fieldFound? ref name desc = some (cf, k, i, fd) ∧ f (cf, k, i, fd) = true ∧ s.fieldFound? ref name desc = some (cf, k', i, fd) ∧ k' = { k with resolved := k'.resolved, nestHost := k'.nestHost, nestHostError := k'.nestHostError } := by
  cases hf : A0.fieldFound? ref name desc with
  | none => rw [hf] at h; cases h
  | some q =>
    obtain ⟨cf, k, i, fd⟩ := q
    rw [hf] at h
    obtain ⟨k', h1, h2⟩ := State.fieldFound?_setVm hW.alike hf
    exact ⟨cf, i, k, k', fd, rfl, h, h1, h2⟩
theorem ve_st {A0 s : State} (hW : A0.WarmedH s.vm) {cls k : Nat} {ty : FieldType} {v : Value} (h : A0.slotType? cls .none k = some ty) (hf : fits ty v = true) : s.fitsSlot cls .none k v = true := by
  have e : (A0.setVm s.vm).fitsSlot cls .none k v = s.fitsSlot cls .none k v := rfl
  rw [← e, State.fitsSlot_setVm hW.alike]
  unfold State.fitsSlot
  rw [h]
  exact hf
theorem ve_fits {η : Nat → Nat} {ty : FieldType} {v : Value} (h : fits ty v = true) : fits ty (ve_v η v) = true := by cases v <;> cases ty <;> exact h
theorem ve_narrow {η : Nat → Nat} {ty : FieldType} {v : Value} (h : narrow ty v = v) : narrow ty (ve_v η v) = ve_v η v := by
  cases v <;> first | exact h | (cases ty <;> rfl)
theorem ve_array {A0 s : State} (hW : A0.WarmedH s.vm) {η : Nat → Nat} {c : ve_C} {ty : FieldType} (hlt : c.1.blt 1000 = true) (h : (A0.vm.classes[c.1]?).any (fun k => match k.kind with | .array _ t => decide (t = ty) | _ => false) = true) : s.isArrayOf (ve_c η c) ty := by
  refine ⟨fun k h9 => ?_, ?_⟩
  · rw [ve_c_obj hlt] at h9; cases h9
  · rw [ve_c_obj hlt]
    cases hk : A0.vm.classes[c.1]? with
    | none => rw [hk] at h; cases h
    | some k =>
      rw [hk] at h
      obtain ⟨k', h1, h2⟩ := ve_kl hW hk
      refine ⟨k', h1, ?_⟩
      have h3 : k'.kind = k.kind := by rw [h2]
      simp only [Option.any_some] at h
      split at h
      · next comp t hkd =>
        have := of_decide_eq_true h
        subst this
        exact ⟨comp, by rw [h3, hkd]⟩
      · cases h
section VOP
variable {A0 : State} {l : Launch} {g : Nat} {HI : ve_I → Prop} {CB : Nat → ve_B → Prop} {own : String} {cc : ByteArray} {nL : Nat} {ret : Option FieldType} {nm : String} {pc : Nat}
-- getfield
def ve_gf (nx k : Nat) : ve_M := fun _ _ z => match z with
  | (hi, lv, .ref a :: r, h, q) => match ve_hg h a with
    | some c => match c.2[k]? with
      | some v => some (.inl (nx, hi, lv, v :: r, h, q))
      | none => none
    | none => none
  | _ => none
theorem ve_getf_ok {idx k : Nat} {ref name desc : String} (hd : decode cc pc = .ok (.getfield idx, 3)) (hw : (Cond.fieldLink own idx ref name desc).before #[] A0 = true) (hf : (A0.fieldFound? ref name desc).any (fun q => q.2.2.2.slot.beq k && !q.2.2.2.isStatic) = true) :
    ve_OK A0 l g HI CB own cc nL ret nm pc (ve_gf (pc + 3) k) := by
  intro d cb _ hi lv st h N cl sl hHI res hr
  unfold ve_gf at hr
  try dsimp only at hr
  split at hr
  · next e =>
    cases e
    split at hr
    · next c hc =>
      split at hr
      · next v hv =>
        cases hr
        refine ⟨⟨hHI, Nat.le_refl _, Nat.le_refl _, ve_Km.rf, rfl⟩, ?_⟩
        intro p e R s m args below meth c0 hX η hη hg P H0 H locs ls Q hI hl _ _ kk
        obtain ⟨hx, hb, hml, hown, hW, -⟩ := hX
        obtain ⟨cf, i, k0, k1, fd, -, h1, h2, -⟩ := ve_ff hW hf
        rw [Bool.and_eq_true] at h1
        have e1 := Nat.eq_of_beq_eq_true h1.1
        have e2 : fd.isStatic = false := by simpa using h1.2
        refine W.getf hx hb hown (ve_wd hW rfl hw) h2 e2 (hI.1 _ _ hc) (ve_c_known η c) (v := ve_v η v) ?_ rfl rfl hd (kk H locs ls hI hl)
        dsimp only at e1
        rw [e1]
        exact ve_c_at hv
      · cases hr
    · cases hr
  · cases hr
theorem ve_getfN_ok {idx k : Nat} {ref name desc host : String} (hd : decode cc pc = .ok (.getfield idx, 3)) (hw : (Cond.fieldLinkNest own idx ref name desc host).before #[] A0 = true) (hf : (A0.fieldFound? ref name desc).any (fun q => q.2.2.2.slot.beq k && !q.2.2.2.isStatic) = true) :
    ve_OK A0 l g HI CB own cc nL ret nm pc (ve_gf (pc + 3) k) := by
  intro d cb _ hi lv st h N cl sl hHI res hr
  unfold ve_gf at hr
  try dsimp only at hr
  split at hr
  · next e =>
    cases e
    split at hr
    · next c hc =>
      split at hr
      · next v hv =>
        cases hr
        refine ⟨⟨hHI, Nat.le_refl _, Nat.le_refl _, ve_Km.rf, rfl⟩, ?_⟩
        intro p e R s m args below meth c0 hX η hη hg P H0 H locs ls Q hI hl _ _ kk
        obtain ⟨hx, hb, hml, hown, hW, -⟩ := hX
        obtain ⟨cf, i, k0, k1, fd, -, h1, h2, -⟩ := ve_ff hW hf
        rw [Bool.and_eq_true] at h1
        have e1 := Nat.eq_of_beq_eq_true h1.1
        have e2 : fd.isStatic = false := by simpa using h1.2
        refine va_Wgetf hx hb hown (ve_wdF hW hw) h2 e2 (hI.1 _ _ hc) (ve_c_known η c) (v := ve_v η v) ?_ rfl rfl hd (kk H locs ls hI hl)
        dsimp only at e1
        rw [e1]
        exact ve_c_at hv
      · cases hr
    · cases hr
  · cases hr
-- putfield
def ve_pf (nx k : Nat) (cs : List Nat) (ty : FieldType) : ve_M := fun _ _ z => match z with
  | (hi, lv, v :: .ref a :: r, h, q) => match ve_hg h a with
    | some c => bif cs.contains c.1 && (fits ty v && (decide (narrow ty v = v) && k.blt c.2.length)) then some (.inl (nx, hi, lv, r, ve_hs h a (c.1, c.2.set k v), q)) else none
    | none => none
  | _ => none
theorem ve_Km_set {h : ve_H} {N a : Nat} {c c' : ve_C} (hc : ve_hg h a = some c) : ve_Km h N (ve_hs h a c') := fun i hi => by
  rw [ve_hg_hs] at hi
  by_cases e : a = i
  · subst e; exact Or.inl (by rw [hc]; rfl)
  · rw [if_neg e] at hi; exact Or.inl hi
def ve_cs (A0 : State) (k : Nat) (cs : List Nat) (ty : FieldType) : Bool := cs.all (fun x => x.blt 1000 && decide (A0.slotType? x .none k = some ty))
theorem ve_cs_of {k : Nat} {cs : List Nat} {ty : FieldType} {x : Nat} (h : ve_cs A0 k cs ty = true) (hx : cs.contains x = true) : x.blt 1000 = true ∧ A0.slotType? x .none k = some ty := by
  have h1 := List.all_eq_true.mp h x (by simpa using hx)
  rw [Bool.and_eq_true] at h1
  exact ⟨h1.1, of_decide_eq_true h1.2⟩
theorem ve_putf_ok {idx k : Nat} {ref name desc : String} {cs : List Nat} {ty : FieldType} (hd : decode cc pc = .ok (.putfield idx, 3)) (hw : (Cond.fieldLink own idx ref name desc).before #[] A0 = true) (hf : (A0.fieldFound? ref name desc).any (fun q => q.2.2.2.slot.beq k && (!q.2.2.2.isStatic && (!hasFlag q.2.2.2.accessFlags Acc.final && decide (q.2.2.2.type = ty)))) = true) (hs : ve_cs A0 k cs ty = true) :
    ve_OK A0 l g HI CB own cc nL ret nm pc (ve_pf (pc + 3) k cs ty) := by
  intro d cb _ hi lv st h N cl sl hHI res hr
  unfold ve_pf at hr
  try dsimp only at hr
  split at hr
  · next e =>
    cases e
    split at hr
    · next c hc =>
      obtain ⟨hq, hr⟩ := ve_bif hr
      cases hr
      simp only [Bool.and_eq_true] at hq
      obtain ⟨q1, q2, q3, q4⟩ := hq
      have q3 := of_decide_eq_true q3
      have q4 := ve_blt q4
      obtain ⟨hlt, hst⟩ := ve_cs_of hs q1
      refine ⟨⟨hHI, Nat.le_refl _, Nat.le_refl _, ve_Km_set hc, rfl⟩, ?_⟩
      intro p e R s m args below meth c0 hX η hη hg P H0 H locs ls Q hI hl _ _ kk
      obtain ⟨hx, hb, hml, hown, hW, -⟩ := hX
      obtain ⟨cf, i, k0, k1, fd, -, h1, h2, -⟩ := ve_ff hW hf
      simp only [Bool.and_eq_true] at h1
      obtain ⟨w1, w2, w3, w4⟩ := h1
      have e1 : fd.slot = k := Nat.eq_of_beq_eq_true w1
      have e2 : fd.isStatic = false := by simpa using w2
      have e3 : hasFlag fd.accessFlags Acc.final = false := by simpa using w3
      have e4 : fd.type = ty := of_decide_eq_true w4
      have hcv : (ve_c η c).vm = .none := by rw [ve_c_obj hlt]
      have hcc : (ve_c η c).cls = c.1 := by rw [ve_c_obj hlt]
      refine W.putK hx hb (f := fd) ⟨hown, ve_wd hW rfl hw, ⟨cf, k1, i, h2⟩, e2⟩ (v := ve_v η _) ⟨e3, by rw [e4]; exact ve_narrow q3, by rw [hcc, e1]; exact ve_st hW hst (ve_fits q2)⟩ (hI.1 _ _ hc) hcv (by rw [ve_c_size, e1]; exact q4) rfl rfl hd ?_
      intro H' g1 g2 g3
      rw [e1, ve_c_set] at g1
      exact kk H' _ ls (hI.set hη hc g1 g2 g3 (by simp)) hl
    · cases hr
  · cases hr
theorem ve_putfN_ok {idx k : Nat} {ref name desc host : String} {cs : List Nat} {ty : FieldType} (hd : decode cc pc = .ok (.putfield idx, 3)) (hw : (Cond.fieldLinkNest own idx ref name desc host).before #[] A0 = true) (hf : (A0.fieldFound? ref name desc).any (fun q => q.2.2.2.slot.beq k && (!q.2.2.2.isStatic && (!hasFlag q.2.2.2.accessFlags Acc.final && decide (q.2.2.2.type = ty)))) = true) (hs : ve_cs A0 k cs ty = true) :
    ve_OK A0 l g HI CB own cc nL ret nm pc (ve_pf (pc + 3) k cs ty) := by
  intro d cb _ hi lv st h N cl sl hHI res hr
  unfold ve_pf at hr
  try dsimp only at hr
  split at hr
  · next e =>
    cases e
    split at hr
    · next c hc =>
      obtain ⟨hq, hr⟩ := ve_bif hr
      cases hr
      simp only [Bool.and_eq_true] at hq
      obtain ⟨q1, q2, q3, q4⟩ := hq
      have q3 := of_decide_eq_true q3
      have q4 := ve_blt q4
      obtain ⟨hlt, hst⟩ := ve_cs_of hs q1
      refine ⟨⟨hHI, Nat.le_refl _, Nat.le_refl _, ve_Km_set hc, rfl⟩, ?_⟩
      intro p e R s m args below meth c0 hX η hη hg P H0 H locs ls Q hI hl _ _ kk
      obtain ⟨hx, hb, hml, hown, hW, -⟩ := hX
      obtain ⟨cf, i, k0, k1, fd, -, h1, h2, -⟩ := ve_ff hW hf
      simp only [Bool.and_eq_true] at h1
      obtain ⟨w1, w2, w3, w4⟩ := h1
      have e1 : fd.slot = k := Nat.eq_of_beq_eq_true w1
      have e2 : fd.isStatic = false := by simpa using w2
      have e3 : hasFlag fd.accessFlags Acc.final = false := by simpa using w3
      have e4 : fd.type = ty := of_decide_eq_true w4
      have hcv : (ve_c η c).vm = .none := by rw [ve_c_obj hlt]
      have hcc : (ve_c η c).cls = c.1 := by rw [ve_c_obj hlt]
      refine va_WputK hx hb (f := fd) hown (ve_wdF hW hw) h2 e2 (v := ve_v η _) ⟨e3, by rw [e4]; exact ve_narrow q3, by rw [hcc, e1]; exact ve_st hW hst (ve_fits q2)⟩ (hI.1 _ _ hc) hcv (by rw [ve_c_size, e1]; exact q4) rfl rfl hd ?_
      intro H' g1 g2 g3
      rw [e1, ve_c_set] at g1
      exact kk H' _ ls (hI.set hη hc g1 g2 g3 (by simp)) hl
    · cases hr
  · cases hr
theorem ve_putfF_ok {idx k : Nat} {ref name desc : String} {cs : List Nat} {ty : FieldType} (hd : decode cc pc = .ok (.putfield idx, 3)) (hw : (Cond.fieldLink own idx ref name desc).before #[] A0 = true) (hin : nm = "<init>") (hf : (A0.fieldFound? ref name desc).any (fun q => q.2.2.2.slot.beq k && (!q.2.2.2.isStatic && (decide (A0.vm.findClass own = some q.1) && decide (q.2.2.2.type = ty)))) = true) (hs : ve_cs A0 k cs ty = true) :
    ve_OK A0 l g HI CB own cc nL ret nm pc (ve_pf (pc + 3) k cs ty) := by
  intro d cb _ hi lv st h N cl sl hHI res hr
  unfold ve_pf at hr
  try dsimp only at hr
  split at hr
  · next e =>
    cases e
    split at hr
    · next c hc =>
      obtain ⟨hq, hr⟩ := ve_bif hr
      cases hr
      simp only [Bool.and_eq_true] at hq
      obtain ⟨q1, q2, q3, q4⟩ := hq
      have q3 := of_decide_eq_true q3
      have q4 := ve_blt q4
      obtain ⟨hlt, hst⟩ := ve_cs_of hs q1
      refine ⟨⟨hHI, Nat.le_refl _, Nat.le_refl _, ve_Km_set hc, rfl⟩, ?_⟩
      intro p e R s m args below meth c0 hX η hη hg P H0 H locs ls Q hI hl _ _ kk
      obtain ⟨hx, hb, hml, hown, hW, -, -, hnm, -⟩ := hX
      obtain ⟨cf, i, k0, k1, fd, -, h1, h2, -⟩ := ve_ff hW hf
      simp only [Bool.and_eq_true] at h1
      obtain ⟨w1, w2, w3, w4⟩ := h1
      have e1 : fd.slot = k := Nat.eq_of_beq_eq_true w1
      have e2 : fd.isStatic = false := by simpa using w2
      have e3 : A0.vm.findClass own = some cf := of_decide_eq_true w3
      have e4 : fd.type = ty := of_decide_eq_true w4
      have e5 : m.cls = cf := Option.some.inj (hown.symm.trans (ve_fc hW e3))
      have hcv : (ve_c η c).vm = .none := by rw [ve_c_obj hlt]
      have hcc : (ve_c η c).cls = c.1 := by rw [ve_c_obj hlt]
      refine W.putFinK hx hb hown (ve_wd hW rfl hw) h2 e2 e5 (by rw [hnm]; exact hin) (v := ve_v η _) ⟨by rw [e4]; exact ve_narrow q3, by rw [hcc, e1]; exact ve_st hW hst (ve_fits q2)⟩ (hI.1 _ _ hc) hcv (by rw [ve_c_size, e1]; exact q4) rfl rfl hd ?_
      intro H' g1 g2 g3
      rw [e1, ve_c_set] at g1
      exact kk H' _ ls (hI.set hη hc g1 g2 g3 (by simp)) hl
    · cases hr
  · cases hr
end VOP
end
section
section VOQ
variable {A0 : State} {l : Launch} {g : Nat} {HI : ve_I → Prop} {CB : Nat → ve_B → Prop} {own : String} {cc : ByteArray} {nL : Nat} {ret : Option FieldType} {nm : String} {pc : Nat}
-- what leaves world and room alone, but asks the context
def ve_CO (A0 : State) (g : Nat) (own : String) (cc : ByteArray) (nL : Nat) (ret : Option FieldType) (nm : String) (pc : Nat) (f : ve_P) : Prop :=
  ∀ (d : Nat) (l : Launch) (p : Program) (e : Env) (R : Room) (s : State) (m : MethodId) (args : Array Value) (below : List Frame) (meth : Method) (c : Code), ve_X A0 own cc nL ret nm (d + 1) p e R s m args below meth c → ∀ η : Nat → Nat, ve_In η → ve_Gl g η →
  ∀ (H : Heap) (locs : List Loc) (cells slots : Nat) (ls : Array Slot) (Q : State → Prop) (lv : ve_L) (st : List Value) (pc' : Nat) (lv' : ve_L) (st' : List Value), f lv st = some (pc', lv', st') → lv_has ls nL (lv.map (ve_q η)) →
    (∀ ls' : Array Slot, lv_has ls' nL (lv'.map (ve_q η)) → W p l e R s m args below meth c H locs cells slots Q (F0 m pc' ls' (st'.map (ve_v η)))) →
    W p l e R s m args below meth c H locs cells slots Q (F0 m pc ls (st.map (ve_v η)))
theorem ve_cu_ok {f : ve_P} (hf : ve_CO A0 g own cc nL ret nm pc f) : ve_OK A0 l g HI CB own cc nL ret nm pc (ve_pu f) := by
  intro d cb _ hi lv st h N cl sl hHI res hr
  unfold ve_pu at hr
  dsimp only at hr
  split at hr
  · next pc' lv' st' hp =>
    cases hr
    refine ⟨⟨hHI, Nat.le_refl _, Nat.le_refl _, ve_Km.rf, rfl⟩, ?_⟩
    intro p e R s m args below meth c hX η hη hg P H0 H locs ls Q hI hl _ _ kk
    exact hf d l p e R s m args below meth c hX η hη hg H locs cl sl ls Q lv st pc' lv' st' hp hl (fun ls' h9 => kk H locs ls' hI h9)
  · cases hr
-- null tests, equality of references, pop2, switches
def ve_nn (tgt nx : Nat) : ve_P := fun lv st => match st with
  | .ref _ :: r => some (tgt, lv, r)
  | .null :: r => some (nx, lv, r)
  | _ => none
theorem ve_ifnonnull_ok {off : Int} {tgt : Nat} (hd : decode cc pc = .ok (.ifnonnull off, 3)) (ht : (pc : Int) + off = (tgt : Int)) : ve_PO cc nL pc (ve_nn tgt (pc + 3)) := by
  intro p l e R s m args below meth c H locs cells slots Q ls hx hb η lv st pc' lv' st' h hl kk
  unfold ve_nn at h
  split at h
  · cases h; exact lv_ifnonnull hx hb hd ht (kk _ hl)
  · cases h; exact lv_ifnonnullN hx hb hd (kk _ hl)
  · cases h
theorem ve_ifnull_ok {off : Int} {tgt : Nat} (hd : decode cc pc = .ok (.ifnull off, 3)) (ht : (pc : Int) + off = (tgt : Int)) : ve_PO cc nL pc (ve_nn (pc + 3) tgt) := by
  intro p l e R s m args below meth c H locs cells slots Q ls hx hb η lv st pc' lv' st' h hl kk
  unfold ve_nn at h
  split at h
  · cases h; exact lv_ifnull hx hb hd (kk _ hl)
  · cases h; exact lv_ifnullN hx hb hd ht (kk _ hl)
  · cases h
def ve_p2 (nx : Nat) : ve_P := fun lv st => match st with
  | .long _ :: r => some (nx, lv, r)
  | _ => none
theorem ve_pop2_ok (hd : decode cc pc = .ok (.pop2, 1)) : ve_PO cc nL pc (ve_p2 (pc + 1)) := by
  intro p l e R s m args below meth c H locs cells slots Q ls hx hb η lv st pc' lv' st' h hl kk
  unfold ve_p2 at h
  split at h
  · cases h; exact lv_pop2_2 hx hb hd rfl (kk _ hl)
  · cases h
def ve_ac (tgt nx : Nat) : ve_P := fun lv st => match st with
  | .ref y :: .ref x :: r => some (bif x.beq y then tgt else nx, lv, r)
  | _ => none
theorem ve_acmp_eq_ok {off : Int} {tgt : Nat} (hd : decode cc pc = .ok (.if_acmp .eq off, 3)) (ht : (pc : Int) + off = (tgt : Int)) : ve_CO A0 g own cc nL ret nm pc (ve_ac tgt (pc + 3)) := by
  intro d l p e R s m args below meth c hX η hη hg H locs cells slots ls Q lv st pc' lv' st' h hl kk
  unfold ve_ac at h
  split at h
  · next y x r =>
    cases h
    refine lv_acmp_eq (rx := some (η x)) (ry := some (η y)) hX.1 hX.2.1 hd ht (fun e => ?_) (fun e => ?_)
    · have e2 := hη _ _ (Option.some.inj e)
      subst e2
      exact ve_pc (by rw [Nat.beq_refl]; rfl) (kk _ hl)
    · have e2 : ¬ x = y := fun e9 => e (by rw [e9])
      exact ve_pc (by rw [ve_bf e2]; rfl) (kk _ hl)
  · cases h
theorem ve_acmp_ne_ok {off : Int} {tgt : Nat} (hd : decode cc pc = .ok (.if_acmp .ne off, 3)) (ht : (pc : Int) + off = (tgt : Int)) : ve_CO A0 g own cc nL ret nm pc (ve_ac (pc + 3) tgt) := by
  intro d l p e R s m args below meth c hX η hη hg H locs cells slots ls Q lv st pc' lv' st' h hl kk
  unfold ve_ac at h
  split at h
  · next y x r =>
    cases h
    refine lv_acmp_ne (rx := some (η x)) (ry := some (η y)) hX.1 hX.2.1 hd ht (fun e => ?_) (fun e => ?_)
    · have e2 : ¬ x = y := fun e9 => e (by rw [e9])
      exact ve_pc (by rw [ve_bf e2]; rfl) (kk _ hl)
    · have e2 := hη _ _ (Option.some.inj e)
      subst e2
      exact ve_pc (by rw [Nat.beq_refl]; rfl) (kk _ hl)
  · cases h
def ve_tsw (lo hi : Int) (tgts : List Nat) (dft : Nat) : ve_P := fun lv st => match st with
  | .int x :: r => bif decide (x.toInt < lo) || decide (hi < x.toInt) then some (dft, lv, r) else match tgts[(x.toInt - lo).toNat]? with
    | some t => some (t, lv, r)
    | none => none
  | _ => none
theorem ve_tsw_ok {dflt lo hi : Int} {offs : Array Int} {len : Nat} {tgts : List Nat} {dft : Nat} (hd : decode cc pc = .ok (.tableswitch dflt lo hi offs, len)) (hdf : (pc : Int) + dflt = (dft : Int)) (ht : offs.toList.map (fun o => (pc : Int) + o) = tgts.map (fun t : Nat => (t : Int))) : ve_PO cc nL pc (ve_tsw lo hi tgts dft) := by
  intro p l e R s m args below meth c H locs cells slots Q ls hx hb η lv st pc' lv' st' h hl kk
  unfold ve_tsw at h
  split at h
  · next x r =>
    cases hq : (decide (x.toInt < lo) || decide (hi < x.toInt)) with
    | true =>
      rw [hq] at h
      cases h
      refine lv_tableOut hx hb hd ?_ hdf (kk _ hl)
      simpa using hq
    | false =>
      rw [hq] at h
      simp only [Bool.or_eq_false_iff, decide_eq_false_iff_not] at hq
      simp only [cond_false] at h
      split at h
      · next t ht2 =>
        cases h
        have e1 : (tgts.map (fun t : Nat => (t : Int)))[(x.toInt - lo).toNat]? = some ((pc' : Nat) : Int) := by rw [List.getElem?_map, ht2]; rfl
        rw [← ht, List.getElem?_map] at e1
        cases ho : offs.toList[(x.toInt - lo).toNat]? with
        | none => rw [ho] at e1; cases e1
        | some o =>
          rw [ho] at e1
          have e2 : (pc : Int) + o = (pc' : Int) := Option.some.inj e1
          exact lv_tableIn hx hb hd hq.1 hq.2 (by simpa using ho) e2 (kk _ hl)
      · cases h
  · cases h
-- constants of the pool
theorem ve_ldc2_ok {idx : Nat} {v : Int64} (hd : decode cc pc = .ok (.ldc2_w idx, 3)) (hw : (Cond.constantLong own idx v).before #[] A0 = true) : ve_CO A0 g own cc nL ret nm pc (ve_push (pc + 3) (.long v)) := by
  intro d l p e R s m args below meth c hX η hη hg H locs cells slots ls Q lv st pc' lv' st' h hl kk
  cases h
  exact W.ldc2 hX.1 hX.2.1 hX.2.2.2.1 (ve_wd hX.2.2.2.2.1 rfl hw) rfl hd (kk _ hl)
theorem ve_ldcS_ok {idx a : Nat} {tx : String} (hd : decode cc pc = .ok (.ldc idx, 2)) (hw : vk_R own idx tx a A0) (ha : a < g) : ve_CO A0 g own cc nL ret nm pc (ve_push (pc + 2) (.ref a)) := by
  intro d l p e R s m args below meth c hX η hη hg H locs cells slots ls Q lv st pc' lv' st' h hl kk
  cases h
  have e1 : η a = a := hg a ha
  refine va_ldcS hX.1 hX.2.1 hX.2.2.2.1 (vk_R.warm hX.2.2.2.2.1 hw) hd ?_
  have k2 := kk _ hl
  simp only [List.map_cons, ve_v, e1] at k2
  exact k2
-- Object()
def ve_oi (nx : Nat) : ve_P := fun lv st => match st with
  | .ref _ :: r => bif ((r.map fun v : Value => v.category).sum).ble 8 then some (nx, lv, r) else none
  | _ => none
theorem ve_cats (η : Nat → Nat) (r : List Value) : ((r.map (ve_v η)).map fun v => v.category).sum = (r.map fun v => v.category).sum := by
  rw [List.map_map]
  congr 1
  apply List.map_congr_left
  intro v _
  exact ve_v_cat η v
theorem ve_oi_ok {idx : Nat} (hd : decode cc pc = .ok (.invokespecial idx, 3)) (h1 : (Cond.methodLink own idx Lib.objectInit).before #[] A0 = true) (h2 : (Cond.instanceMethod Lib.objectInit).before #[] A0 = true) (h3 : (Cond.code Lib.objectInit ⟨#[0xb1]⟩ 1 none).before #[] A0 = true) : ve_CO A0 g own cc nL ret nm pc (ve_oi (pc + 3)) := by
  intro d l p e R s m args below meth c hX η hη hg H locs cells slots ls Q lv st pc' lv' st' h hl kk
  unfold ve_oi at h
  split at h
  · next a r =>
    obtain ⟨hq, h⟩ := ve_bif h
    cases h
    have hq := Nat.le_of_ble_eq_true hq
    obtain ⟨hx, hb, hml, hown, hW, hr, hlk, hnm, hf, hlo⟩ := hX
    refine W.objInit hx hb hown (ve_wd hW rfl h1) (ve_wd hW rfl h2) (ve_wd hW rfl h3) rfl (by rw [hml]; exact hl.1) rfl hd (by omega) ?_ (kk _ hl)
    show 2 * 0 + ((st'.map (ve_v η)).map fun v => v.category).sum + 12 ≤ R.locals
    rw [ve_cats]
    omega
  · cases h
end VOQ
section VOQ2
variable {A0 : State} {g : Nat} {own : String} {cc : ByteArray} {nL : Nat} {ret : Option FieldType} {nm : String} {pc : Nat}
theorem ve_ldcI_ok {idx : Nat} {v : Int32} (hd : decode cc pc = .ok (.ldc idx, 2)) (hw : (Cond.constant own idx v).before #[] A0 = true) : ve_CO A0 g own cc nL ret nm pc (ve_push (pc + 2) (.int v)) := by
  intro d l p e R s m args below meth c hX η hη hg H locs cells slots ls Q lv st pc' lv' st' h hl kk
  cases h
  exact W.ldc hX.1 hX.2.1 hX.2.2.2.1 (ve_wd hX.2.2.2.2.1 rfl hw) rfl hd (kk _ hl)
end VOQ2
end
section
section VOH
variable {A0 : State} {l : Launch} {g : Nat} {HI : ve_I → Prop} {CB : Nat → ve_B → Prop} {own : String} {cc : ByteArray} {nL : Nat} {ret : Option FieldType} {nm : String} {pc : Nat}
def ve_nr : Value → Bool
  | .ref _ => false
  | _ => true
theorem ve_nr_v {η : Nat → Nat} {v : Value} (h : ve_nr v = true) : ve_v η v = v := by cases v <;> first | rfl | cases h
theorem ve_nr_l {η : Nat → Nat} {vs : List Value} (h : vs.all ve_nr = true) : vs.map (ve_v η) = vs := by
  conv => rhs; rw [← List.map_id vs]
  apply List.map_congr_left
  intro v hv
  exact ve_nr_v (List.all_eq_true.mp h v hv)
theorem ve_Km_push {h : ve_H} {N : Nat} {c : ve_C} : ve_Km h N ((N, c) :: h) := fun i hi => by
  unfold ve_hg at hi
  cases hb : N.beq i with
  | true => exact Or.inr (Nat.le_of_eq (Nat.eq_of_beq_eq_true hb))
  | false => rw [hb] at hi; exact Or.inl hi
-- new
def ve_nw (nx cls : Nat) (df : List Value) : ve_M := fun _ _ z => match z with
  | (hi, lv, st, h, N, cl, sl) => some (.inl (nx, hi, lv, .ref N :: st, (N, (cls, df)) :: h, N + 1, cl + 1, sl + df.length))
theorem ve_new_ok {idx cls : Nat} {C : String} {df : List Value} (hd : decode cc pc = .ok (.new idx, 3)) (h1 : (Cond.classLink own idx C).before #[] A0 = true) (h2 : (Cond.instantiable C df.length).before #[] A0 = true) (h3 : (Cond.initialized C).before #[] A0 = true)
    (hc : A0.vm.findClass C = some cls) (hlt : cls.blt 1000 = true) (hk : (A0.vm.classes[cls]?).any (fun k => decide (k.instanceTypes.map defaultValue = df.toArray)) = true) (hn : df.all ve_nr = true) :
    ve_OK A0 l g HI CB own cc nL ret nm pc (ve_nw (pc + 3) cls df) := by
  intro d cb _ hi lv st h N cl sl hHI res hr
  cases hr
  refine ⟨⟨hHI, Nat.le_succ _, Nat.le_add_right _ _, ve_Km_push, by omega⟩, ?_⟩
  intro p e R s m args below meth c0 hX η hη hg P H0 H locs ls Q hI hl hcl hsl kk
  obtain ⟨hx, hb, hml, hown, hW, -⟩ := hX
  have hN : η N = H.size := hI.2.1 0
  refine W.newcK hx hb hown (ve_wd hW rfl h1) (ve_wd hW rfl h2) (ve_wd hW rfl h3) rfl hd hcl hsl (ve_fc hW hc) rfl ?_
  intro H' kC g1 g2 g3 g4
  cases hk0 : A0.vm.classes[cls]? with
  | none => rw [hk0] at hk; cases hk
  | some k0 =>
    rw [hk0] at hk
    obtain ⟨k', e1, e2⟩ := ve_kl hW hk0
    have e3 : kC = k' := Option.some.inj (g1.symm.trans e1)
    have e4 : kC.instanceTypes = k0.instanceTypes := by rw [e3, e2]
    have e5 : k0.instanceTypes.map defaultValue = df.toArray := of_decide_eq_true hk
    have e6 : blank cls kC = ve_c η (cls, df) := by rw [ve_c_obj hlt]; unfold blank; rw [e4, e5, ve_nr_l hn]
    rw [e6] at g2
    have h9 := kk H' locs ls (hI.push hη g2 g3 g4) hl
    simp only [List.map_cons, ve_v, hN] at h9
    exact h9
-- arrays of numbers
def ve_na (nx cls : Nat) (dv : Value) : ve_M := fun _ _ z => match z with
  | (hi, lv, .int n :: r, h, N, cl, sl) => bif decide (¬ n < 0) && n.toNatClampNeg.ble 100000 then some (.inl (nx, hi, lv, .ref N :: r, (N, (cls, List.replicate n.toNatClampNeg dv)) :: h, N + 1, cl + 1, sl + n.toNatClampNeg)) else none
  | _ => none
theorem ve_newa_ok {cls : Nat} {ty : ArrayType} {dv : Value} (hd : decode cc pc = .ok (.newarray ty, 2)) (h1 : (Cond.arrayClass (newarray.typeOf ty)).before #[] A0 = true) (hc : A0.vm.findClass ("[" ++ (newarray.typeOf ty).toString) = some cls) (hlt : cls.blt 1000 = true)
    (hdv : defaultValue (newarray.typeOf ty) = dv) (hn : ve_nr dv = true) (hcb : componentBytes (newarray.typeOf ty) ≤ 8) :
    ve_OK A0 l g HI CB own cc nL ret nm pc (ve_na (pc + 2) cls dv) := by
  intro d cb _ hi lv st h N cl sl hHI res hr
  unfold ve_na at hr
  split at hr
  · next n r _ _ _ _ e =>
    cases e
    obtain ⟨hq, hr⟩ := ve_bif hr
    cases hr
    rw [Bool.and_eq_true] at hq
    have q1 := of_decide_eq_true hq.1
    have q2 := Nat.le_of_ble_eq_true hq.2
    refine ⟨⟨hHI, Nat.le_succ _, Nat.le_add_right _ _, ve_Km_push, by omega⟩, ?_⟩
    intro p e R s m args below meth c0 hX η hη hg P H0 H locs ls Q hI hl hcl hsl kk
    obtain ⟨hx, hb, hml, hown, hW, -⟩ := hX
    have hN : η N = H.size := hI.2.1 0
    refine W.newa hx hb (ve_wd hW rfl h1) rfl hd rfl q1 (Nat.le_trans (Nat.mul_le_mul q2 hcb) (by decide)) hcl hsl ?_
    intro cA kA comp g1 g2 g3
    have e1 : cA = cls := Option.some.inj (g1.symm.trans (ve_fc hW hc))
    subst e1
    have e2 : ({ cls := cA, slots := Array.replicate n.toNatClampNeg (defaultValue (newarray.typeOf ty)), vm := .none } : Cell) = ve_c η (cA, List.replicate n.toNatClampNeg dv) := by
      rw [ve_c_obj hlt, hdv]
      simp [List.map_replicate, ve_nr_v hn]
    rw [e2]
    have hP := hI.push hη (H' := H.push (ve_c η (cA, List.replicate n.toNatClampNeg dv))) (c := (cA, List.replicate n.toNatClampNeg dv)) (by rw [Array.getElem?_push_size]) (by simp) (fun q hq => by rw [Array.getElem?_push, if_neg (Nat.ne_of_lt hq)])
    simp only [List.length_replicate] at hP
    have h9 := kk _ locs ls hP hl
    simp only [List.map_cons, ve_v, hN] at h9 ⊢
    exact h9
  · cases hr
theorem ve_anew_ok {idx cls : Nat} {C : String} (hd : decode cc pc = .ok (.anewarray idx, 3)) (h1 : (Cond.classLink own idx C).before #[] A0 = true) (h2 : (Cond.arrayOver (.object C)).before #[] A0 = true) (hc : A0.vm.findClass ("[" ++ (FieldType.object C).toString) = some cls) (hlt : cls.blt 1000 = true) (hgw : goodWord (Cond.arrayOver (.object C)) = true) :
    ve_OK A0 l g HI CB own cc nL ret nm pc (ve_na (pc + 3) cls .null) := by
  intro d cb _ hi lv st h N cl sl hHI res hr
  unfold ve_na at hr
  split at hr
  · next n r _ _ _ _ e =>
    cases e
    obtain ⟨hq, hr⟩ := ve_bif hr
    cases hr
    rw [Bool.and_eq_true] at hq
    have q1 := of_decide_eq_true hq.1
    have q2 := Nat.le_of_ble_eq_true hq.2
    refine ⟨⟨hHI, Nat.le_succ _, Nat.le_add_right _ _, ve_Km_push, by omega⟩, ?_⟩
    intro p e R s m args below meth c0 hX η hη hg P H0 H locs ls Q hI hl hcl hsl kk
    obtain ⟨hx, hb, hml, hown, hW, -⟩ := hX
    have hN : η N = H.size := hI.2.1 0
    refine W.anew hx hb hown (ve_wd hW rfl h1) (ve_wd hW hgw h2) rfl hd rfl q1 (Nat.le_trans (Nat.mul_le_mul q2 (Nat.le_refl 4)) (by decide)) hcl hsl ?_
    intro cA kA comp g1 g2 g3 g4
    have e1 : cA = cls := Option.some.inj (g1.symm.trans (ve_fc hW hc))
    subst e1
    have e2 : ({ cls := cA, slots := Array.replicate n.toNatClampNeg .null, vm := .none } : Cell) = ve_c η (cA, List.replicate n.toNatClampNeg .null) := by
      rw [ve_c_obj hlt]
      simp [List.map_replicate, ve_v]
    rw [e2]
    have hP := hI.push hη (H' := H.push (ve_c η (cA, List.replicate n.toNatClampNeg .null))) (c := (cA, List.replicate n.toNatClampNeg .null)) (by rw [Array.getElem?_push_size]) (by simp) (fun q hq => by rw [Array.getElem?_push, if_neg (Nat.ne_of_lt hq)])
    simp only [List.length_replicate] at hP
    have h9 := kk _ locs ls hP hl
    simp only [List.map_cons, ve_v, hN] at h9 ⊢
    exact h9
  · cases hr
-- arrays: length, loads, stores
def ve_ar (A0 : State) (cls : Nat) (ty : FieldType) : Bool := cls.blt 1000 && (A0.vm.classes[cls]?).any (fun k => match k.kind with | .array _ t => decide (t = ty) | _ => false)
theorem ve_ar_of {s : State} {η : Nat → Nat} {c : ve_C} {cls : Nat} {ty : FieldType} (hW : A0.WarmedH s.vm) (h : ve_ar A0 cls ty = true) (hc : c.1.beq cls = true) : s.isArrayOf (ve_c η c) ty := by
  unfold ve_ar at h
  rw [Bool.and_eq_true] at h
  have e := Nat.eq_of_beq_eq_true hc
  exact ve_array hW (by rw [e]; exact h.1) (by rw [e]; exact h.2)
theorem ve_ar_lt {cls : Nat} {ty : FieldType} {c : ve_C} (h : ve_ar A0 cls ty = true) (hc : c.1.beq cls = true) : c.1.blt 1000 = true := by
  unfold ve_ar at h
  rw [Bool.and_eq_true] at h
  rw [Nat.eq_of_beq_eq_true hc]; exact h.1
def ve_len (nx cls : Nat) : ve_M := fun _ _ z => match z with
  | (hi, lv, .ref a :: r, h, q) => match ve_hg h a with
    | some c => bif c.1.beq cls then some (.inl (nx, hi, lv, .int (Int32.ofNat c.2.length) :: r, h, q)) else none
    | none => none
  | _ => none
theorem ve_len_ok {cls : Nat} {ty : FieldType} (hd : decode cc pc = .ok (.arraylength, 1)) (ha : ve_ar A0 cls ty = true) : ve_OK A0 l g HI CB own cc nL ret nm pc (ve_len (pc + 1) cls) := by
  intro d cb _ hi lv st h N cl sl hHI res hr
  unfold ve_len at hr
  split at hr
  · next e =>
    cases e
    split at hr
    · next c hc =>
      obtain ⟨hq, hr⟩ := ve_bif hr
      cases hr
      refine ⟨⟨hHI, Nat.le_refl _, Nat.le_refl _, ve_Km.rf, rfl⟩, ?_⟩
      intro p e R s m args below meth c0 hX η hη hg P H0 H locs ls Q hI hl _ _ kk
      refine W.alen hX.1 hX.2.1 (hI.1 _ _ hc) (ve_ar_of hX.2.2.2.2.1 ha hq) (n := Int32.ofNat c.2.length) (by rw [ve_c_size]) rfl rfl hd (kk H locs ls hI hl)
    · cases hr
  · cases hr
def ve_ald (nx cls : Nat) : ve_M := fun _ _ z => match z with
  | (hi, lv, .int j :: .ref a :: r, h, q) => match ve_hg h a with
    | some c => bif c.1.beq cls && decide (¬ j < 0) then (match c.2[j.toNatClampNeg]? with
      | some v => some (.inl (nx, hi, lv, v :: r, h, q))
      | none => none) else none
    | none => none
  | _ => none
theorem ve_in {η : Nat → Nat} {c : ve_C} {j : Int32} {v : Value} (h1 : ¬ j < 0) (h2 : c.2[j.toNatClampNeg]? = some v) : ¬ (j < 0 ∨ (ve_c η c).slots.size ≤ j.toNatClampNeg) := by
  rw [ve_c_size]
  intro h
  rcases h with h | h
  · exact h1 h
  · rw [List.getElem?_eq_none h] at h2; cases h2
theorem ve_ald_ok {cls : Nat} {ty : FieldType} (ha : ve_ar A0 cls ty = true)
    (hrow : ∀ (p : Program) (l : Launch) (e : Env) (R : Room) (s : State) (m : MethodId) (args : Array Value) (below : List Frame) (meth : Method) (c : Code) (H : Heap) (locs : List Loc) (cells slots : Nat) (Q : State → Prop) (ls : Array Slot) (a : Addr) (cell : Cell) (j : Int32) (v : Value) (rest : List Value),
      p.tables.exec = Jvm.exec → c.code = cc → H[a]? = some cell → s.isArrayOf cell ty → cell.vm ≠ .unknown → ¬ (j < 0 ∨ cell.slots.size ≤ j.toNatClampNeg) → cell.slots[j.toNatClampNeg]? = some v →
      W p l e R s m args below meth c H locs cells slots Q (F0 m (pc + 1) ls (v :: rest)) → W p l e R s m args below meth c H locs cells slots Q (F0 m pc ls (.int j :: .ref a :: rest))) :
    ve_OK A0 l g HI CB own cc nL ret nm pc (ve_ald (pc + 1) cls) := by
  intro d cb _ hi lv st h N cl sl hHI res hr
  unfold ve_ald at hr
  split at hr
  · next e =>
    cases e
    split at hr
    · next c hc =>
      obtain ⟨hq, hr⟩ := ve_bif2 hr
      rw [Bool.and_eq_true] at hq
      have q2 := of_decide_eq_true hq.2
      split at hr
      · next v hv =>
        cases hr
        refine ⟨⟨hHI, Nat.le_refl _, Nat.le_refl _, ve_Km.rf, rfl⟩, ?_⟩
        intro p e R s m args below meth c0 hX η hη hg P H0 H locs ls Q hI hl _ _ kk
        exact hrow p l e R s m args below meth c0 H locs _ _ Q ls _ _ _ (ve_v η v) _ hX.1 hX.2.1 (hI.1 _ _ hc) (ve_ar_of hX.2.2.2.2.1 ha hq.1) (ve_c_known η c) (ve_in q2 hv) (ve_c_at hv) (kk H locs ls hI hl)
      · cases hr
    · cases hr
  · cases hr
theorem ve_iald_ok {cls : Nat} (hd : decode cc pc = .ok (.iaload, 1)) (ha : ve_ar A0 cls .int = true) : ve_OK A0 l g HI CB own cc nL ret nm pc (ve_ald (pc + 1) cls) :=
  ve_ald_ok ha fun p l e R s m args below meth c H locs cells slots Q ls a cell j v rest hx hb h1 h2 h3 h4 h5 k => W.iald hx hb h1 h2 h3 h4 h5 rfl rfl hd k
theorem ve_bald_ok {cls : Nat} (hd : decode cc pc = .ok (.baload, 1)) (ha : ve_ar A0 cls .byte = true) : ve_OK A0 l g HI CB own cc nL ret nm pc (ve_ald (pc + 1) cls) :=
  ve_ald_ok ha fun p l e R s m args below meth c H locs cells slots Q ls a cell j v rest hx hb h1 h2 h3 h4 h5 k => W.bald hx hb h1 h2 h3 h4 h5 rfl rfl hd k
theorem ve_aald_ok {cls : Nat} {ty : FieldType} (hd : decode cc pc = .ok (.aaload, 1)) (ha : ve_ar A0 cls ty = true) (hty : ty.isReference = true) : ve_OK A0 l g HI CB own cc nL ret nm pc (ve_ald (pc + 1) cls) :=
  ve_ald_ok ha fun p l e R s m args below meth c H locs cells slots Q ls a cell j v rest hx hb h1 h2 h3 h4 h5 k => W.aald hx hb h1 h2 hty h3 h4 h5 rfl rfl hd k
def ve_ast (nx cls : Nat) (ty : FieldType) : ve_M := fun _ _ z => match z with
  | (hi, lv, .int x :: .int j :: .ref a :: r, h, q) => match ve_hg h a with
    | some c => bif c.1.beq cls && (decide (¬ j < 0) && j.toNatClampNeg.blt c.2.length) then some (.inl (nx, hi, lv, r, ve_hs h a (c.1, c.2.set j.toNatClampNeg (narrow ty (.int x))), q)) else none
    | none => none
  | _ => none
theorem ve_nar_i {ty : FieldType} {x : Int32} : ∃ y : Int32, narrow ty (.int x) = .int y := by cases ty <;> exact ⟨_, rfl⟩
theorem ve_iast_ok {cls : Nat} (hd : decode cc pc = .ok (.iastore, 1)) (ha : ve_ar A0 cls .int = true) : ve_OK A0 l g HI CB own cc nL ret nm pc (ve_ast (pc + 1) cls .int) := by
  intro d cb _ hi lv st h N cl sl hHI res hr
  unfold ve_ast at hr
  split at hr
  · next e =>
    cases e
    split at hr
    · next c hc =>
      obtain ⟨hq, hr⟩ := ve_bif hr
      simp only [Bool.and_eq_true] at hq
      have q2 := of_decide_eq_true hq.2.1
      have q3 := ve_blt hq.2.2
      cases hr
      refine ⟨⟨hHI, Nat.le_refl _, Nat.le_refl _, ve_Km_set hc, rfl⟩, ?_⟩
      intro p e R s m args below meth c0 hX η hη hg P H0 H locs ls Q hI hl _ _ kk
      refine W.iast hX.1 hX.2.1 (hI.1 _ _ hc) (ve_ar_of hX.2.2.2.2.1 ha hq.1) (ve_c_known η c) (by rw [ve_c_size]; intro h; rcases h with h | h; exact q2 h; omega) rfl rfl hd ?_
      intro H' g1 g2 g3
      rw [show (Value.int _) = ve_v η (.int _) from rfl, ve_c_set] at g1
      exact kk H' _ ls (hI.set hη hc g1 g2 g3 (by simp)) hl
    · cases hr
  · cases hr
theorem ve_bast_ok {cls : Nat} (hd : decode cc pc = .ok (.bastore, 1)) (ha : ve_ar A0 cls .byte = true) : ve_OK A0 l g HI CB own cc nL ret nm pc (ve_ast (pc + 1) cls .byte) := by
  intro d cb _ hi lv st h N cl sl hHI res hr
  unfold ve_ast at hr
  split at hr
  · next x j a r _ _ e =>
    cases e
    split at hr
    · next c hc =>
      obtain ⟨hq, hr⟩ := ve_bif hr
      simp only [Bool.and_eq_true] at hq
      have q2 := of_decide_eq_true hq.2.1
      have q3 := ve_blt hq.2.2
      cases hr
      refine ⟨⟨hHI, Nat.le_refl _, Nat.le_refl _, ve_Km_set hc, rfl⟩, ?_⟩
      intro p e R s m args below meth c0 hX η hη hg P H0 H locs ls Q hI hl _ _ kk
      refine W.bast hX.1 hX.2.1 (hI.1 _ _ hc) (ve_ar_of hX.2.2.2.2.1 ha hq.1) (ve_c_known η c) (by rw [ve_c_size]; intro h; rcases h with h | h; exact q2 h; omega) rfl rfl hd ?_
      intro H' g1 g2 g3
      obtain ⟨y, hy⟩ := ve_nar_i (ty := .byte) (x := x)
      rw [hy, show (Value.int y) = ve_v η (.int y) from rfl, ve_c_set, ← hy] at g1
      exact kk H' _ ls (hI.set hη hc g1 g2 g3 (by simp)) hl
    · cases hr
  · cases hr
end VOH
end
section
section VOI
variable {A0 : State} {l : Launch} {g : Nat} {HI : ve_I → Prop} {CB : Nat → ve_B → Prop} {own : String} {cc : ByteArray} {nL : Nat} {ret : Option FieldType} {nm : String} {pc : Nat}
-- aastore
def ve_aas (nx cls : Nat) (vs : List Nat) : ve_M := fun _ _ z => match z with
  | (hi, lv, .ref v :: .int j :: .ref a :: r, h, q) => match ve_hg h a, ve_hg h v with
    | some c, some cv => bif c.1.beq cls && (vs.contains cv.1 && (decide (¬ j < 0) && j.toNatClampNeg.blt c.2.length)) then some (.inl (nx, hi, lv, r, ve_hs h a (c.1, c.2.set j.toNatClampNeg (.ref v)), q)) else none
    | _, _ => none
  | _ => none
def ve_aa (A0 : State) (cls : Nat) (vs : List Nat) : Bool := cls.blt 1000 && (A0.vm.classes[cls]?).any (fun k => match k.kind with
  | .array comp t => t.isReference && ((A0.vm.classes[comp]?).isSome && vs.all (fun x => x.blt 1000 && ((A0.vm.classes[x]?).isSome && A0.vm.assignable x comp)))
  | _ => false)
theorem ve_aast_ok {cls : Nat} {vs : List Nat} (hd : decode cc pc = .ok (.aastore, 1)) (ha : ve_aa A0 cls vs = true) : ve_OK A0 l g HI CB own cc nL ret nm pc (ve_aas (pc + 1) cls vs) := by
  intro d cb _ hi lv st h N cl sl hHI res hr
  unfold ve_aas at hr
  split at hr
  · next v j a r _ _ e =>
    cases e
    split at hr
    · next c cv hc hcv =>
      obtain ⟨hq, hr⟩ := ve_bif hr
      simp only [Bool.and_eq_true] at hq
      obtain ⟨q0, q1, q2, q3⟩ := hq
      have q2 := of_decide_eq_true q2
      have q3 := ve_blt q3
      have q0 := Nat.eq_of_beq_eq_true q0
      cases hr
      refine ⟨⟨hHI, Nat.le_refl _, Nat.le_refl _, ve_Km_set hc, rfl⟩, ?_⟩
      intro p e R s m args below meth c0 hX η hη hg P H0 H locs ls Q hI hl _ _ kk
      have hW := hX.2.2.2.2.1
      unfold ve_aa at ha
      rw [Bool.and_eq_true] at ha
      obtain ⟨hlt, ha⟩ := ha
      cases hk : A0.vm.classes[cls]? with
      | none => rw [hk] at ha; cases ha
      | some k =>
        rw [hk] at ha
        simp only [Option.any_some] at ha
        split at ha
        · next comp t hkd =>
          simp only [Bool.and_eq_true] at ha
          obtain ⟨t1, t2, t3⟩ := ha
          obtain ⟨kc, hkc⟩ := Option.isSome_iff_exists.mp t2
          have t4 := List.all_eq_true.mp t3 cv.1 (by simpa using q1)
          simp only [Bool.and_eq_true] at t4
          obtain ⟨u1, u2, u3⟩ := t4
          obtain ⟨kv, hkv⟩ := Option.isSome_iff_exists.mp u2
          obtain ⟨k', e1, e2⟩ := ve_kl hW hk
          obtain ⟨kc', e3, -⟩ := ve_kl hW hkc
          obtain ⟨kv', e5, -⟩ := ve_kl hW hkv
          have hc0 : ve_c η c = { cls := c.1, slots := (c.2.map (ve_v η)).toArray, vm := .none } := ve_c_obj (by rw [q0]; exact hlt)
          have hcv0 : ve_c η cv = { cls := cv.1, slots := (cv.2.map (ve_v η)).toArray, vm := .none } := ve_c_obj u1
          refine W.aast hX.1 hX.2.1 (hI.1 _ _ hc) (fun q h9 => by rw [hc0] at h9; cases h9) (ve_c_known η c) (k := k') (by rw [hc0]; dsimp only; rw [q0]; exact e1) (comp := comp) (t := t) (by rw [e2]; exact hkd) t1 e3 ⟨q2, by rw [ve_c_size]; exact q3⟩ (hI.1 _ _ hcv) (fun q h9 => by rw [hcv0] at h9; cases h9) (kv := kv') (by rw [hcv0]; exact e5) (by rw [hcv0, hW.alike.assignable]; exact u3) rfl rfl hd ?_
          intro H' g1 g2 g3
          rw [show (Value.ref (η v)) = ve_v η (.ref v) from rfl, ve_c_set] at g1
          exact kk H' _ ls (hI.set hη hc g1 g2 g3 (by simp)) hl
        · cases ha
    · cases hr
  · cases hr
-- getstatic
def ve_gs (nx a k : Nat) : ve_M := fun _ _ z => match z with
  | (hi, lv, st, h, q) => match ve_hg h a with
    | some c => match c.2[k]? with
      | some v => some (.inl (nx, hi, lv, v :: st, h, q))
      | none => none
    | none => none
theorem ve_gets_ok {idx a k : Nat} {ref name desc : String} (hd : decode cc pc = .ok (.getstatic idx, 3)) (hw : (Cond.fieldLink own idx ref name desc).before #[] A0 = true) (ha : a < g)
    (hf : (A0.fieldFound? ref name desc).any (fun q => q.2.2.2.slot.beq k && (q.2.2.2.isStatic && (decide (q.2.1.init = .initialized) && decide (q.2.1.statics = some a)))) = true) :
    ve_OK A0 l g HI CB own cc nL ret nm pc (ve_gs (pc + 3) a k) := by
  intro d cb _ hi lv st h N cl sl hHI res hr
  unfold ve_gs at hr
  split at hr
  next e =>
    cases e
    split at hr
    · next c hc =>
      split at hr
      · next v hv =>
        cases hr
        refine ⟨⟨hHI, Nat.le_refl _, Nat.le_refl _, ve_Km.rf, rfl⟩, ?_⟩
        intro p e R s m args below meth c0 hX η hη hg P H0 H locs ls Q hI hl _ _ kk
        obtain ⟨hx, hb, hml, hown, hW, -⟩ := hX
        obtain ⟨cf, i, k0, k1, fd, -, h1, h2, h3⟩ := ve_ff hW hf
        simp only [Bool.and_eq_true] at h1
        obtain ⟨w1, w2, w3, w4⟩ := h1
        have e1 : fd.slot = k := Nat.eq_of_beq_eq_true w1
        have e3 : k0.init = .initialized := of_decide_eq_true w3
        have e4 : k0.statics = some a := of_decide_eq_true w4
        have ea : η a = a := hg a ha
        have hcell := hI.1 _ _ hc
        rw [ea] at hcell
        exact W.gets hx hb hown (ve_wd hW rfl hw) h2 w2 (by rw [h3]; exact e3) (by rw [h3]; exact e4) hcell (ve_c_known η c) (v := ve_v η v) (by rw [e1]; exact ve_c_at hv) rfl hd (kk H locs ls hI hl)
      · cases hr
    · cases hr
-- checkcast of an object
def ve_cc (nx : Nat) (vs : List Nat) : ve_M := fun _ _ z => match z with
  | (hi, lv, .ref a :: r, h, q) => match ve_hg h a with
    | some c => bif vs.contains c.1 then some (.inl (nx, hi, lv, .ref a :: r, h, q)) else none
    | none => none
  | _ => none
theorem ve_cast_ok {idx t : Nat} {C : String} {vs : List Nat} (hd : decode cc pc = .ok (.checkcast idx, 3)) (hw : (Cond.classLink own idx C).before #[] A0 = true) (hC : A0.vm.findClass C = some t) (hv : vs.all (fun x => x.blt 1000 && A0.vm.assignable x t) = true) :
    ve_OK A0 l g HI CB own cc nL ret nm pc (ve_cc (pc + 3) vs) := by
  intro d cb _ hi lv st h N cl sl hHI res hr
  unfold ve_cc at hr
  split at hr
  · next e =>
    cases e
    split at hr
    · next c hc =>
      obtain ⟨hq, hr⟩ := ve_bif hr
      cases hr
      refine ⟨⟨hHI, Nat.le_refl _, Nat.le_refl _, ve_Km.rf, rfl⟩, ?_⟩
      intro p e R s m args below meth c0 hX η hη hg P H0 H locs ls Q hI hl _ _ kk
      obtain ⟨hx, hb, hml, hown, hW, -⟩ := hX
      have h1 := List.all_eq_true.mp hv c.1 (by simpa using hq)
      rw [Bool.and_eq_true] at h1
      have hc0 : ve_c η c = { cls := c.1, slots := (c.2.map (ve_v η)).toArray, vm := .none } := ve_c_obj h1.1
      have k2 := kk H locs ls hI hl
      intro T hT X
      obtain ⟨vm', X', st9⟩ := X.checkcastYes hx hown (ve_wd hW rfl hw) (a := η _) (by rw [hT]; exact hI.1 _ _ hc) (by rw [hc0]; rfl) (ve_fc hW hC) (by rw [hc0, hW.alike.assignable]; exact h1.2) (g := F0 m pc ls (.ref (η _) :: _)) rfl rfl (by rw [hb]; exact hd)
      obtain ⟨t9, a1, b1⟩ := k2 (T.setVm vm') hT X'
      exact ⟨t9, st9 t9 a1, b1⟩
    · cases hr
  · cases hr
-- returns
def ve_rt (kd : Nat) (ty : FieldType) : ve_M := fun _ _ z => match kd, z.2.2.1 with
  | 0, [] => some (.inr (none, z))
  | 1, [.int x] => bif decide (narrow ty (.int x) = .int x) then some (.inr (some (.int x), z)) else none
  | 2, [.long x] => some (.inr (some (.long x), z))
  | 3, [.ref x] => some (.inr (some (.ref x), z))
  | 3, [.null] => some (.inr (some .null, z))
  | _, _ => none
theorem ve_vret_ok {ty : FieldType} (hd : decode cc pc = .ok (.return_, 1)) (hr0 : ret = none) : ve_OK A0 l g HI CB own cc nL ret nm pc (ve_rt 0 ty) := by
  intro d cb _ hi lv st h N cl sl hHI res hr
  unfold ve_rt at hr
  split at hr <;> first | (cases hr; done) | skip
  all_goals first | contradiction | skip
  next _ _ e =>
    cases hr
    have e2 : st = [] := e
    subst e2
    refine ⟨rfl, ?_⟩
    intro p e R s m args below meth c0 hX η H locs ls Qc hq
    obtain ⟨hx, hb, hml, hown, hW, hret, hlk, -⟩ := hX
    exact W.vret (free := fun _ => True) hx hb (hret.trans hr0) hq (fun _ _ => trivial) hd hlk
theorem ve_iret_ok {ty : FieldType} (hd : decode cc pc = .ok (.ireturn, 1)) (hr0 : ret = some ty) : ve_OK A0 l g HI CB own cc nL ret nm pc (ve_rt 1 ty) := by
  intro d cb _ hi lv st h N cl sl hHI res hr
  unfold ve_rt at hr
  split at hr <;> first | (cases hr; done) | skip
  all_goals first | contradiction | skip
  next x _ e =>
    obtain ⟨hq1, hr⟩ := ve_bif hr
    have hq1 := of_decide_eq_true hq1
    cases hr
    have e2 : st = [.int x] := e
    subst e2
    refine ⟨rfl, ?_⟩
    intro p e R s m args below meth c0 hX η H locs ls Qc hq
    obtain ⟨hx, hb, hml, hown, hW, hret, hlk, -⟩ := hX
    exact W.zret (free := fun _ => True) hx hb (hret.trans hr0) hq1 hq (fun _ _ => trivial) hd hlk
theorem ve_lret_ok {ty : FieldType} (hd : decode cc pc = .ok (.lreturn, 1)) (hr0 : ret = some .long) : ve_OK A0 l g HI CB own cc nL ret nm pc (ve_rt 2 ty) := by
  intro d cb _ hi lv st h N cl sl hHI res hr
  unfold ve_rt at hr
  split at hr <;> first | (cases hr; done) | skip
  all_goals first | contradiction | skip
  next x _ e =>
    cases hr
    have e2 : st = [.long x] := e
    subst e2
    refine ⟨rfl, ?_⟩
    intro p e R s m args below meth c0 hX η H locs ls Qc hq
    obtain ⟨hx, hb, hml, hown, hW, hret, hlk, -⟩ := hX
    exact W.lret (free := fun _ => True) hx hb (hret.trans hr0) hq (fun _ _ => trivial) hd hlk
theorem ve_aret_ok {ty rt : FieldType} (hd : decode cc pc = .ok (.areturn, 1)) (hr0 : ret = some rt) (hrt : (∃ n, rt = .object n) ∨ ∃ t, rt = .array t) : ve_OK A0 l g HI CB own cc nL ret nm pc (ve_rt 3 ty) := by
  intro d cb _ hi lv st h N cl sl hHI res hr
  unfold ve_rt at hr
  split at hr <;> first | (cases hr; done) | skip
  all_goals first | contradiction | skip
  · next x _ e =>
    cases hr
    have e2 : st = [.ref x] := e
    subst e2
    refine ⟨rfl, ?_⟩
    intro p e R s m args below meth c0 hX η H locs ls Qc hq
    obtain ⟨hx, hb, hml, hown, hW, hret, hlk, -⟩ := hX
    exact W.aret (free := fun _ => True) hx hb (hret.trans hr0) hrt (Or.inr ⟨η x, rfl⟩) hq (fun _ _ => trivial) hd hlk
  · next _ _ e =>
    cases hr
    have e2 : st = [.null] := e
    subst e2
    refine ⟨rfl, ?_⟩
    intro p e R s m args below meth c0 hX η H locs ls Qc hq
    obtain ⟨hx, hb, hml, hown, hW, hret, hlk, -⟩ := hX
    exact W.aret (free := fun _ => True) hx hb (hret.trans hr0) hrt (Or.inl rfl) hq (fun _ _ => trivial) hd hlk
end VOI
end
section
section VOJ
variable {A0 : State} {l : Launch} {g : Nat} {HI : ve_I → Prop} {CB : Nat → ve_B → Prop} {own : String} {cc : ByteArray} {nL : Nat} {ret : Option FieldType} {nm : String} {pc : Nat}
def ve_sto : List Value → Nat → List Value → List Value
  | cd, _, [] => cd
  | cd, i, x :: xs => ve_sto (cd.set i x) (i + 1) xs
theorem ve_sto_len : ∀ (xs : List Value) (cd : List Value) (i : Nat), (ve_sto cd i xs).length = cd.length
  | [], cd, i => rfl
  | x :: xs, cd, i => by rw [ve_sto, ve_sto_len xs]; simp
theorem ve_pairs (η : Nat → Nat) (at_ : Nat) : ∀ (xs : List Value) (i : Nat) (c : ve_C), (ve_c η c).storePairs at_ ((xs.map (ve_v η)).zipIdx i) = ve_c η (c.1, ve_sto c.2 (at_ + i) xs)
  | [], i, c => rfl
  | x :: xs, i, c => by
    rw [List.map_cons, List.zipIdx_cons]
    show ((ve_c η c).setSlot (at_ + i) (ve_v η x)).storePairs at_ ((xs.map (ve_v η)).zipIdx (i + 1)) = _
    rw [ve_c_set, ve_pairs η at_ xs (i + 1)]
    rfl
theorem ve_stretch (η : Nat → Nat) (c : ve_C) (sp n : Nat) (h : sp + n ≤ c.2.length) : (ve_c η c).stretch sp n = ((c.2.drop sp).take n).map (ve_v η) := by
  unfold Cell.stretch
  apply List.ext_getElem?
  intro i
  by_cases hi : i < n
  · have h1 : sp + i < c.2.length := by omega
    have h2 : c.2[sp + i]? = some c.2[sp + i] := List.getElem?_eq_getElem h1
    rw [List.getElem?_map, List.getElem?_range hi, List.getElem?_map, List.getElem?_take_of_lt hi, List.getElem?_drop, h2]
    simp only [Option.map_some]
    rw [Array.getD_eq_getD_getElem?, ve_c_at h2]
    rfl
  · rw [List.getElem?_eq_none (by simp; omega), List.getElem?_eq_none (by simp; omega)]
def ve_cpy (nx cls : Nat) (ty : FieldType) : ve_M := fun _ _ z => match z with
  | (hi, lv, .int n :: .int dp :: .ref d :: .int sp :: .ref b :: r, h, q) => match ve_hg h b, ve_hg h d with
    | some cb, some cd => bif (cb.1.beq cls && cd.1.beq cls) && ((decide (¬ sp < 0) && (decide (¬ dp < 0) && decide (¬ n < 0))) && ((sp.toNatClampNeg + n.toNatClampNeg).ble cb.2.length && ((dp.toNatClampNeg + n.toNatClampNeg).ble cd.2.length && (((cb.2.drop sp.toNatClampNeg).take n.toNatClampNeg).all (fits ty) && ((r.map fun v : Value => v.category).sum).ble 8)))) then
        some (.inl (nx, hi, lv, r, ve_hs h d (cd.1, ve_sto cd.2 dp.toNatClampNeg ((cb.2.drop sp.toNatClampNeg).take n.toNatClampNeg)), q)) else none
    | _, _ => none
  | _ => none
theorem ve_nn32 {z : Int32} (hz : ¬ z < 0) : z.toInt = (z.toNatClampNeg : Int) := by
  have hz0 : (0 : Int) ≤ z.toInt := by
    have := Int32.not_lt.mp hz
    simpa using Int32.le_iff_toInt_le.mp this
  show z.toInt = ((z.toInt.toNat : Nat) : Int)
  omega
theorem ve_takes {U : State} {comp : ClassId} {ty : FieldType} {v : Value} (hp : refKind ty = false) (h : fits ty v = true) : U.takes comp v := by
  cases v <;> first | trivial | (cases ty <;> first | (simp [refKind] at hp; done) | (simp [fits] at h; done))
theorem ve_copy_ok {idx cls : Nat} {ty : FieldType} (hd : decode cc pc = .ok (.invokestatic idx, 3)) (h1 : (Cond.methodLink own idx arraycopyName).before #[] A0 = true) (h2 : (Cond.native arraycopyName).before #[] A0 = true) (h3 : (Cond.static arraycopyName).before #[] A0 = true) (h4 : (Cond.initialized "java/lang/System").before #[] A0 = true)
    (hgn : goodWord (Cond.native arraycopyName) = true) (ha : ve_ar A0 cls ty = true) (hp : refKind ty = false) : ve_OK A0 l g HI CB own cc nL ret nm pc (ve_cpy (pc + 3) cls ty) := by
  intro d cb _ hi lv st h N cl sl hHI res hr
  unfold ve_cpy at hr
  split at hr
  · next n dp dd sp bb r _ _ e =>
    cases e
    split at hr
    · next c0 c1 hc0 hc1 =>
      obtain ⟨hq, hr⟩ := ve_bif hr
      simp only [Bool.and_eq_true] at hq
      obtain ⟨⟨q1, q2⟩, ⟨q3, q4, q5⟩, q6, q7, q8, q9⟩ := hq
      have q3 := of_decide_eq_true q3
      have q4 := of_decide_eq_true q4
      have q5 := of_decide_eq_true q5
      have q6 := Nat.le_of_ble_eq_true q6
      have q7 := Nat.le_of_ble_eq_true q7
      have q9 := Nat.le_of_ble_eq_true q9
      cases hr
      refine ⟨⟨hHI, Nat.le_refl _, Nat.le_refl _, ve_Km_set hc1, rfl⟩, ?_⟩
      intro p e R s m args below meth cz hX η hη hg P H0 H locs ls Q hI hl _ _ kk
      obtain ⟨hx, hb, hml, hown, hW, hret, hlk, hnm, hfr, hlo⟩ := hX
      have z0 := ve_ar_of (η := η) hW ha q1
      have z1 := ve_ar_of (η := η) hW ha q2
      obtain ⟨y0, k0, hk0, cm0, hkk0⟩ := z0
      obtain ⟨y1, k1, hk1, cm1, hkk1⟩ := z1
      intro T hT X
      obtain ⟨vm', X', step⟩ := X.arraycopy hx hown (ve_wd hW rfl h1) (ve_wd hW hgn h2) (ve_wd hW rfl h3) (ve_wd hW rfl h4) (src := η bb) (dst := η dd) (cs := ve_c η c0) (cd := ve_c η c1) (srcPos := sp) (destPos := dp) (n := n) (by rw [hT]; exact hI.1 _ _ hc0) (by rw [hT]; exact hI.1 _ _ hc1)
        y0 y1 (ve_c_known η c0) (ve_c_known η c1) hk0 hk1 hkk0 hkk1 (by simp [hp]) q3 q4 q5
        (by rw [ve_nn32 q3, ve_nn32 q5, ve_c_size]; omega) (by rw [ve_nn32 q4, ve_nn32 q5, ve_c_size]; omega)
        (fun vm₁ _ i hi2 => by
          have g1 : sp.toNatClampNeg + i < c0.2.length := by omega
          have g2 : c0.2[sp.toNatClampNeg + i]? = some c0.2[sp.toNatClampNeg + i] := List.getElem?_eq_getElem g1
          have g3 : (ve_c η c0).slots.getD (sp.toNatClampNeg + i) .null = ve_v η c0.2[sp.toNatClampNeg + i] := by
            rw [Array.getD_eq_getD_getElem?, ve_c_at g2]; rfl
          have g4 : fits ty c0.2[sp.toNatClampNeg + i] = true := List.all_eq_true.mp q8 _ (by
            refine List.mem_of_getElem? (i := i) ?_
            rw [List.getElem?_take_of_lt hi2, List.getElem?_drop, g2])
          rw [g3]
          exact ⟨ve_fits g4, ve_takes hp (ve_fits g4)⟩)
        (g := F0 m pc ls ((.int n :: .int dp :: .ref dd :: .int sp :: .ref bb :: r).map (ve_v η))) rfl (by rw [hml]; exact hl.1) (rest := r.map (ve_v η)) rfl (by rw [hb]; exact hd) (by omega)
        (by show 2 * 0 + ((r.map (ve_v η)).map fun v => v.category).sum + _ ≤ _
            rw [ve_cats]
            have : nativeFrameWords "java/lang/System" "arraycopy" 5 = 7 := by decide +kernel
            omega)
      have e1 : copied (ve_c η c0) (ve_c η c1) sp dp n = ve_c η (c1.1, ve_sto c1.2 dp.toNatClampNeg ((c0.2.drop sp.toNatClampNeg).take n.toNatClampNeg)) := by
        show (ve_c η c1).storeRun dp.toNatClampNeg ((ve_c η c0).stretch sp.toNatClampNeg n.toNatClampNeg) = _
        rw [ve_stretch η c0 _ _ q6]
        exact ve_pairs η _ _ 0 c1
      rw [e1] at X' step
      have hl2 : η dd < H.size := (Array.getElem?_eq_some_iff.mp (hI.1 _ _ hc1)).1
      have k2 := fun L : List Loc => kk (H.setIfInBounds (η dd) (ve_c η (c1.1, ve_sto c1.2 dp.toNatClampNeg ((c0.2.drop sp.toNatClampNeg).take n.toNatClampNeg)))) L ls (hI.set hη hc1 (by simp [Array.getElem?_setIfInBounds, hl2]) (by simp) (fun q hq => by simp [Array.getElem?_setIfInBounds, Ne.symm hq]) (by simp [ve_sto_len])) hl
      obtain ⟨t, a1, b1⟩ := k2 _ ((T.setVm vm').setCell (η dd) (ve_c η (c1.1, ve_sto c1.2 dp.toNatClampNeg ((c0.2.drop sp.toNatClampNeg).take n.toNatClampNeg)))) (by rw [← hT]; rfl) X'
      exact ⟨t, step t a1, b1⟩
    · cases hr
  · cases hr
-- clone of an array
def ve_cln (nx cls : Nat) (ty : FieldType) : ve_M := fun _ _ z => match z with
  | (hi, lv, .ref a :: r, h, N, cl, sl) => match ve_hg h a with
    | some c => bif c.1.beq cls && (c.2.all (fits ty) && ((r.map fun v : Value => v.category).sum).ble 8) then some (.inl (nx, hi, lv, .ref N :: r, (N, c) :: h, N + 1, cl + 1, sl + c.2.length)) else none
    | none => none
  | _ => none
theorem ve_clone_ok {idx cls : Nat} {ad : String} {ty : FieldType} (hd : decode cc pc = .ok (.invokevirtual idx, 3)) (h1 : (Cond.methodLink own idx ⟨ad, "clone", "()Ljava/lang/Object;"⟩).before #[] A0 = true) (h2 : (Cond.sameMethod ad "java/lang/Object" "clone" "()Ljava/lang/Object;").before #[] A0 = true)
    (h3 : (Cond.native ⟨"java/lang/Object", "clone", "()Ljava/lang/Object;"⟩).before #[] A0 = true) (h4 : (Cond.instanceMethod ⟨"java/lang/Object", "clone", "()Ljava/lang/Object;"⟩).before #[] A0 = true)
    (h5 : (Cond.selects ad ⟨ad, "clone", "()Ljava/lang/Object;"⟩ ⟨"java/lang/Object", "clone", "()Ljava/lang/Object;"⟩).before #[] A0 = true) {t : Nat} (hC : A0.vm.findClass "java/lang/Cloneable" = some t) (hasg : A0.vm.assignable cls t = true)
    (hgn : goodWord (Cond.native ⟨"java/lang/Object", "clone", "()Ljava/lang/Object;"⟩) = true) (hnm : A0.vm.findClass ad = some cls) (ha : ve_ar A0 cls ty = true) (hst : ∀ k, A0.slotType? cls .none k = some ty) : ve_OK A0 l g HI CB own cc nL ret nm pc (ve_cln (pc + 3) cls ty) := by
  intro d cb _ hi lv st h N cl sl hHI res hr
  unfold ve_cln at hr
  split at hr
  · next a r _ _ _ _ e =>
    cases e
    split at hr
    · next c hc =>
      obtain ⟨hq, hr⟩ := ve_bif hr
      simp only [Bool.and_eq_true] at hq
      obtain ⟨q1, q2, q3⟩ := hq
      have q3 := Nat.le_of_ble_eq_true q3
      cases hr
      refine ⟨⟨hHI, Nat.le_succ _, Nat.le_add_right _ _, ve_Km_push, by omega⟩, ?_⟩
      intro p e R s m args below meth cz hX η hη hg P H0 H locs ls Q hI hl hcl hsl kk
      obtain ⟨hx, hb, hml, hown, hW, hret, hlk, hnm2, hfr, hlo⟩ := hX
      have hN : η N = H.size := hI.2.1 0
      have hlt := ve_ar_lt ha q1
      have ec : c.1 = cls := Nat.eq_of_beq_eq_true q1
      have hc0 : ve_c η c = { cls := c.1, slots := (c.2.map (ve_v η)).toArray, vm := .none } := ve_c_obj hlt
      obtain ⟨y0, k0, hk0, cm0, hkk0⟩ := ve_ar_of (η := η) hW ha q1
      intro T hT X
      obtain ⟨vm', X', st9⟩ := X.cloneArray hx hown (ve_wd hW rfl h1) (ve_wd hW rfl h2) (ve_wd hW hgn h3) (ve_wd hW rfl h4) (ve_wd hW rfl h5) (a := η a) (cell := ve_c η c) (by rw [hT]; exact hI.1 _ _ hc) y0 (ve_c_known η c) (by rw [hc0]; dsimp only; rw [ec]; exact ve_fc hW hnm) (ve_fc hW hC) (by rw [hc0]; dsimp only; rw [ec, hW.alike.assignable]; exact hasg)
        (fun i v hv => by
          rw [hc0] at hv ⊢
          dsimp only at hv ⊢
          have h9 : (c.2.map (ve_v η))[i]? = some v := by simpa using hv
          rw [List.getElem?_map] at h9
          cases h8 : c.2[i]? with
          | none => rw [h8] at h9; cases h9
          | some w =>
            rw [h8] at h9
            cases h9
            rw [ec]
            exact ve_st (hW.trans X.warmed) (hst i) (ve_fits (List.all_eq_true.mp q2 w (List.mem_of_getElem? h8))))
        (g := F0 m pc ls ((.ref a :: r).map (ve_v η))) rfl (by rw [hml]; exact hl.1) (rest := r.map (ve_v η)) rfl (by rw [hb]; exact hd) (by omega)
        (by show 2 * 0 + ((r.map (ve_v η)).map fun v => v.category).sum + 14 ≤ _
            rw [ve_cats]; omega) hcl (by rw [ve_c_size]; exact hsl) (hloader := Vm.clonesLoader_of_array hk0 hkk0)
      have e2 : ({ cls := (ve_c η c).cls, slots := (ve_c η c).slots } : Cell) = ve_c η c := by rw [hc0]
      rw [e2] at X' st9
      rw [ve_c_size] at X'
      have k2 := kk (H.push (ve_c η c)) locs ls (hI.push hη (by rw [Array.getElem?_push_size]) (by simp) (fun q hq => by rw [Array.getElem?_push, if_neg (Nat.ne_of_lt hq)])) hl
      simp only [List.map_cons, ve_v, hN] at k2
      obtain ⟨t9, a1, b1⟩ := k2 ((T.setVm vm').pushCell (ve_c η c)) (by rw [← hT]; rfl) X'
      refine ⟨t9, st9 t9 ?_, b1⟩
      rw [hT]
      exact a1
    · cases hr
  · cases hr
end VOJ
end
section
theorem ve_Met_mono {l : Launch} {y : MethodName} {ws : List Cond} {rm : Room} {Pc Pc' : Array Value → State → Prop} {Qc Qc' : Array Value → State → Outcome → State → Prop} {mc ms : Nat} {free : Addr → Prop} (h : Met l y ws rm Pc' Qc' mc ms free)
    (h1 : ∀ a U, Pc a U → Pc' a U) (h2 : ∀ a st o t, Pc a st → Qc' a st o t → Qc a st o t) : Met l y ws rm Pc Qc mc ms free := by
  intro p e a1 a2 a3 s m args below a4 a5 a6 a7
  obtain ⟨n, o, b1, b2, b3, b4, b5⟩ := h p e a1 a2 a3 s m args below a4 a5 (h1 _ _ a6) a7
  exact ⟨n, o, b1, b2, b3, h2 _ _ _ _ a6 b4, b5⟩
theorem ve_v_comp (η rn : Nat → Nat) (v : Value) : ve_v η (ve_v rn v) = ve_v (fun i => η (rn i)) v := by cases v <;> rfl
theorem ve_l_comp (η rn : Nat → Nat) (vs : List Value) : (vs.map (ve_v rn)).map (ve_v η) = vs.map (ve_v (fun i => η (rn i))) := by
  rw [List.map_map]; apply List.map_congr_left; intro v _; exact ve_v_comp η rn v
theorem ve_c_comp (η rn : Nat → Nat) (c : ve_C) : ve_c η (c.1, c.2.map (ve_v rn)) = ve_c (fun i => η (rn i)) c := by
  unfold ve_c; rw [ve_l_comp]
-- renaming: globals stay; the summary's own numbers by a list; its new ones behind the caller's
def ve_rn (g k : Nat) (ρ : List Nat) (N : Nat) (i : Nat) : Nat := bif i.blt g then i else bif i.blt k then ρ.getD (i - g) 0 else N + (i - k)
def ve_nd : List Nat → Bool
  | [] => true
  | x :: r => !r.contains x && ve_nd r
theorem ve_nd_of : ∀ {ρ : List Nat}, ve_nd ρ = true → ρ.Nodup
  | [], _ => List.nodup_nil
  | x :: r, h => by
    unfold ve_nd at h
    rw [Bool.and_eq_true] at h
    exact List.nodup_cons.mpr ⟨by simpa using h.1, ve_nd_of h.2⟩
theorem ve_nd_inj : ∀ {ρ : List Nat}, ρ.Nodup → ∀ (i j : Nat) (hi : i < ρ.length) (hj : j < ρ.length), ρ[i] = ρ[j] → i = j
  | [], _, i, j, hi, _, _ => absurd hi (Nat.not_lt_zero _)
  | x :: r, h, 0, 0, _, _, _ => rfl
  | x :: r, h, 0, j + 1, _, hj, e => absurd (by have e2 : x = r[j]'(by simpa using hj) := e
                                                rw [e2]; exact List.getElem_mem _) (List.nodup_cons.mp h).1
  | x :: r, h, i + 1, 0, hi, _, e => absurd (by have e2 : r[i]'(by simpa using hi) = x := e
                                                rw [← e2]; exact List.getElem_mem _) (List.nodup_cons.mp h).1
  | x :: r, h, i + 1, j + 1, hi, hj, e => by
    have := ve_nd_inj (List.nodup_cons.mp h).2 i j (by simpa using hi) (by simpa using hj) e
    omega
def ve_rk (g k : Nat) (ρ : List Nat) (N : Nat) : Bool := (g.ble k && g.ble N) && ((ρ.length.beq (k - g)) && (ρ.all (fun x => g.ble x && x.blt N) && ve_nd ρ))
theorem ve_rn_in {g k N : Nat} {ρ : List Nat} (h : ve_rk g k ρ N = true) : ve_In (ve_rn g k ρ N) := by
  unfold ve_rk at h
  simp only [Bool.and_eq_true] at h
  obtain ⟨⟨h1, h2⟩, h3, h4, h5⟩ := h
  have h1 := Nat.le_of_ble_eq_true h1
  have h2 := Nat.le_of_ble_eq_true h2
  have h3 := Nat.eq_of_beq_eq_true h3
  have h5 := ve_nd_of h5
  have hb : ∀ a b : Nat, a < b → a.blt b = true := fun a b h => Nat.ble_eq_true_of_le h
  have hf : ∀ a b : Nat, ¬ a < b → a.blt b = false := fun a b h => by
    cases h9 : a.blt b with
    | true => exact absurd (ve_blt h9) h
    | false => rfl
  have hr : ∀ i : Nat, ¬ i < g → i < k → ∃ hlt : i - g < ρ.length, ve_rn g k ρ N i = ρ[i - g] ∧ g ≤ ρ[i - g] ∧ ρ[i - g] < N := fun i a b => by
    have hlt : i - g < ρ.length := by omega
    have h6 := List.all_eq_true.mp h4 ρ[i - g] (List.getElem_mem hlt)
    rw [Bool.and_eq_true] at h6
    refine ⟨hlt, ?_, Nat.le_of_ble_eq_true h6.1, ve_blt h6.2⟩
    unfold ve_rn
    rw [hf _ _ a, hb _ _ b]
    simp [List.getD_eq_getElem?_getD, hlt]
  have hg : ∀ i : Nat, i < g → ve_rn g k ρ N i = i := fun i a => by unfold ve_rn; rw [hb _ _ a]; rfl
  have hn : ∀ i : Nat, k ≤ i → ve_rn g k ρ N i = N + (i - k) := fun i a => by unfold ve_rn; rw [hf _ _ (by omega), hf _ _ (by omega)]; rfl
  intro i j hij
  by_cases i1 : i < g
  · rw [hg i i1] at hij
    by_cases j1 : j < g
    · rw [hg j j1] at hij; exact hij
    · by_cases j2 : j < k
      · obtain ⟨_, e, e2, e3⟩ := hr j j1 j2; omega
      · have := hn j (by omega); omega
  · by_cases i2 : i < k
    · obtain ⟨il, e, e2, e3⟩ := hr i i1 i2
      by_cases j1 : j < g
      · rw [hg j j1] at hij; omega
      · by_cases j2 : j < k
        · obtain ⟨jl, f, f2, f3⟩ := hr j j1 j2
          rw [e, f] at hij
          have := ve_nd_inj h5 _ _ il jl hij
          omega
        · have := hn j (by omega); omega
    · have e := hn i (by omega)
      by_cases j1 : j < g
      · rw [hg j j1] at hij; omega
      · by_cases j2 : j < k
        · obtain ⟨_, f, f2, f3⟩ := hr j j1 j2; omega
        · have := hn j (by omega); omega
theorem ve_rn_g {g k N i : Nat} {ρ : List Nat} (h : i < g) : ve_rn g k ρ N i = i := by
  unfold ve_rn
  rw [show i.blt g = true from Nat.ble_eq_true_of_le h]; rfl
theorem ve_rn_new {g k N o : Nat} {ρ : List Nat} (h : g ≤ k) : ve_rn g k ρ N (k + o) = N + o := by
  unfold ve_rn
  have hf : ∀ a b : Nat, ¬ a < b → a.blt b = false := fun a b h => by
    cases h9 : a.blt b with
    | true => exact absurd (ve_blt h9) h
    | false => rfl
  rw [hf _ _ (by omega), hf _ _ (by omega)]
  simp
def ve_cv (rn : Nat → Nat) (c : ve_C) : ve_C := (c.1, c.2.map (ve_v rn))
def ve_app (rn : Nat → Nat) : ve_H → ve_H → ve_H
  | [], h => h
  | q :: r, h => ve_hs (ve_app rn r h) (rn q.1) (ve_cv rn q.2)
theorem ve_app_get {rn : Nat → Nat} (hrn : ve_In rn) : ∀ (post h : ve_H) (j : Nat) (c : ve_C), ve_hg (ve_app rn post h) j = some c → (∃ i d, ve_hg post i = some d ∧ rn i = j ∧ c = ve_cv rn d) ∨ (ve_hg h j = some c ∧ ∀ i, (ve_hg post i).isSome = true → rn i ≠ j)
  | [], h, j, c, hj => Or.inr ⟨hj, fun i hi => by cases hi⟩
  | q :: r, h, j, c, hj => by
    rw [ve_app, ve_hg_hs] at hj
    by_cases e : rn q.1 = j
    · rw [if_pos e] at hj
      cases hj
      exact Or.inl ⟨q.1, q.2, by unfold ve_hg; rw [Nat.beq_refl]; rfl, e, rfl⟩
    · rw [if_neg e] at hj
      rcases ve_app_get hrn r h j c hj with ⟨i, d, a, b, c2⟩ | ⟨a, b⟩
      · refine Or.inl ⟨i, d, ?_, b, c2⟩
        unfold ve_hg
        rw [ve_bf (fun e2 => e (by rw [e2]; exact b))]
        exact a
      · refine Or.inr ⟨a, fun i hi => ?_⟩
        unfold ve_hg at hi
        cases hb : q.1.beq i with
        | true => rw [← Nat.eq_of_beq_eq_true hb]; exact e
        | false => rw [hb] at hi; exact b i hi
theorem ve_hg_mem : ∀ {h : ve_H} {i : Nat} {c : ve_C}, ve_hg h i = some c → (i, c) ∈ h
  | [], _, _, h => by cases h
  | q :: r, i, c, h => by
    unfold ve_hg at h
    cases hb : q.1.beq i with
    | true =>
      rw [hb] at h
      have e1 := Nat.eq_of_beq_eq_true hb
      have e2 : q.2 = c := Option.some.inj h
      rw [← e1, ← e2]
      exact List.mem_cons_self
    | false =>
      rw [hb] at h
      exact List.mem_cons_of_mem _ (ve_hg_mem h)
def ve_SO (A0 : State) (l : Launch) (g : Nat) (md : Nat → ve_D) (S : ve_S) : Prop := ve_MO A0 l g md S.2.2.2.2.2.2.2.2 S.1 S.2.1 S.2.2.2.1 S.2.2.1 S.2.2.2.2.1 S.2.2.2.2.2.1 S.2.2.2.2.2.2.1 S.2.2.2.2.2.2.2.1
def ve_HI (A0 : State) (l : Launch) (g : Nat) (md : Nat → ve_D) (hi : ve_I) : Prop := ∀ (S : ve_S) (ρ : List Nat), some (S, ρ) ∈ hi → ve_SO A0 l g md S
-- a call: by the callee's run, or by a summary
def ve_ca (g d : Nat) (cb : ve_B) (mi : Nat) (args : List Value) (hi : ve_I) (h : ve_H) (N : Nat) : Option (ve_I × Option Value × ve_H × Nat × Nat) := match hi with
  | [] => cb mi args [] h N
  | none :: hi' => cb mi args hi' h N
  | some ((mi', args', k, pre, ret, post, mc, ms, dp), ρ) :: hi' =>
    bif (mi'.beq mi && dp.ble d) && (ve_rk g k ρ N && (decide (args = args'.map (ve_v (ve_rn g k ρ N))) && (pre.all (fun q => decide (ve_hg h (ve_rn g k ρ N q.1) = some (ve_cv (ve_rn g k ρ N) q.2))) && pre.all (fun q => (ve_hg post q.1).isSome)))) then
      some (hi', ret.map (ve_v (ve_rn g k ρ N)), ve_app (ve_rn g k ρ N) post h, mc, ms) else none
set_option maxHeartbeats 1000000 in
theorem ve_ca_ok {A0 : State} {l : Launch} {g : Nat} {md : Nat → ve_D} {d : Nat} {cb : ve_B} (hcb : ve_CB A0 l g (ve_HI A0 l g md) md d cb) {mi : Nat} {args : List Value} {hi : ve_I} {h : ve_H} {N : Nat} {hi' : ve_I} {ret : Option Value} {h' : ve_H} {mc ms : Nat}
    (hHI : ve_HI A0 l g md hi) (hr : ve_ca g d cb mi args hi h N = some (hi', ret, h', mc, ms)) : ve_HI A0 l g md hi' ∧ ve_MO A0 l g md d mi args h N ret h' mc ms := by
  unfold ve_ca at hr
  split at hr
  · exact hcb mi args [] h N hi' ret h' mc ms hHI hr
  · exact hcb mi args _ h N hi' ret h' mc ms (fun S ρ hm => hHI S ρ (List.mem_cons_of_mem _ hm)) hr
  · next mi' args' k pre ret0 post mc0 ms0 dp ρ hi0 =>
    obtain ⟨hq, hr⟩ := ve_bif hr
    have hS := hHI _ ρ List.mem_cons_self
    have hHI0 : ve_HI A0 l g md hi0 := fun S ρ hm => hHI S ρ (List.mem_cons_of_mem _ hm)
    cases hr
    simp only [Bool.and_eq_true] at hq
    obtain ⟨⟨q1, q2⟩, q3, q4, q5, q6⟩ := hq
    have q1 := Nat.eq_of_beq_eq_true q1
    have q2 := Nat.le_of_ble_eq_true q2
    have q4 := of_decide_eq_true q4
    subst q1
    have hin := ve_rn_in q3
    have hgk : g ≤ k := by
      unfold ve_rk at q3
      simp only [Bool.and_eq_true] at q3
      exact Nat.le_of_ble_eq_true q3.1.1
    have q5' : ∀ i c, ve_hg pre i = some c → ve_hg h (ve_rn g k ρ N i) = some (ve_cv (ve_rn g k ρ N) c) := fun i c hc => of_decide_eq_true (List.all_eq_true.mp q5 (i, c) (ve_hg_mem hc))
    have q6' : ∀ i, (ve_hg pre i).isSome = true → (ve_hg post i).isSome = true := fun i hi => by
      obtain ⟨c, hc⟩ := Option.isSome_iff_exists.mp hi
      exact List.all_eq_true.mp q6 (i, c) (ve_hg_mem hc)
    obtain ⟨hKm, dp', hdp, hM⟩ := hS
    refine ⟨hHI0, ?_, dp', Nat.le_trans hdp q2, ?_⟩
    · intro j hj
      obtain ⟨c, hc⟩ := Option.isSome_iff_exists.mp hj
      rcases ve_app_get hin post h j c hc with ⟨i, dd, a1, a2, -⟩ | ⟨a1, -⟩
      · rcases hKm i (by rw [a1]; rfl) with b | b
        · obtain ⟨c3, hc3⟩ := Option.isSome_iff_exists.mp b
          exact Or.inl (by rw [← a2, q5' i c3 hc3]; rfl)
        · right
          rw [← a2]
          have := ve_rn_new (N := N) (ρ := ρ) (o := i - k) hgk
          rw [show k + (i - k) = i by have : k ≤ i := b; omega] at this
          omega
      · exact Or.inl (by rw [a1]; rfl)
    · intro η hη hg
      have hη' : ve_In (fun i => η (ve_rn g k ρ N i)) := fun i j e => hin _ _ (hη _ _ e)
      have hg' : ve_Gl g (fun i => η (ve_rn g k ρ N i)) := fun i hi => by
        show η (ve_rn g k ρ N i) = i
        rw [ve_rn_g hi]; exact hg i hi
      refine ve_Met_mono (hM _ hη' hg') ?_ ?_
      · rintro a U ⟨rfl, b2, b3, b4⟩
        refine ⟨?_, b2, ?_, ?_⟩
        · show (args.map (ve_v η)).toArray = _
          rw [q4, ve_l_comp]
        · intro o
          show η (ve_rn g k ρ N (k + o)) = _
          rw [ve_rn_new hgk]; exact b3 o
        · intro i c hc
          have := b4 _ _ (q5' i c hc)
          rw [show ve_c η (ve_cv (ve_rn g k ρ N) c) = _ from ve_c_comp η _ c] at this
          exact this
      · rintro a st o t ⟨rfl, b2, b3, b4⟩ ⟨c1, c2, c3, c4, c5⟩
        refine ⟨?_, ?_, c3, c4, ?_⟩
        · rw [c1]
          cases ret0 with
          | none => rfl
          | some v => simp only [Option.map_some, ve_v_comp]
        · intro j c hc
          rcases ve_app_get hin post h j c hc with ⟨i, dd, a1, a2, a3⟩ | ⟨a1, a2⟩
          · subst a2; subst a3
            have := c2 i dd a1
            rw [← ve_c_comp] at this
            exact this
          · have h9 := b4 j c a1
            have hlt : η j < st.heap.size := (Array.getElem?_eq_some_iff.mp h9).1
            rw [c5 (η j) hlt (fun i hi e => a2 i (q6' i hi) (hη _ _ e))]
            exact h9
        · intro q hq hk
          refine c5 q hq (fun i hi => ?_)
          obtain ⟨c, hc⟩ := Option.isSome_iff_exists.mp hi
          exact hk _ (by rw [q5' i c hc]; rfl)
end
section
section VXS9
variable {p : Program} {l : Launch} {e : Env} {R : Room} {s : State} {m : MethodId} {args : Array Value} {below : List Frame} {meth : Method} {c : Code} {T : State} {H : Heap} {locs : List Loc} {cells slots : Nat}
abbrev ve_CSW (R : Room) (s : State) (args : Array Value) (own : String) (index : Nat) (y : MethodName) (bytes : ByteArray) (maxL : Nat) (ret : Option FieldType) (hh : List (Nat × Nat × Nat × Nat)) (ws : List Cond) (rm : Room) (mc ms n : Nat) : Prop :=
  (rm.cells = mc ∧ rm.slots = ms ∧ rm.frames + 1 ≤ R.frames ∧ 8 + (maxL + 11) + rm.locals ≤ R.locals ∧ (∀ w ∈ ws, ∀ (a' : Array Value) (U : State), s.WarmedH U.vm → w.before a' U = true) ∧ Cond.codeWith y bytes maxL ret hh ∈ ws) ∧
  (Cond.codeWith y bytes maxL ret hh).before args s = true ∧ (Cond.initialized y.cls).before args s = true ∧ (y.cls ≠ "java/lang/invoke/MethodHandle" ∧ y.cls ≠ "java/lang/invoke/VarHandle") ∧
  (∀ sig, parseMethodDescriptor y.desc = some sig → n = sig.parameters.length) ∧ (Cond.methodLink own index y).before args s = true ∧ (Cond.static y).before args s = true
theorem ve_callSW (X : Stand p l e R s m args below meth c T locs cells slots) (hexec : p.tables.exec = Jvm.exec) {own : String} {index : Nat} {y : MethodName} {bytes : ByteArray} {maxL : Nat} {ret : Option FieldType} {hh : List (Nat × Nat × Nat × Nat)}
    (hown : s.vm.findClass own = some m.cls) (hlink : (Cond.methodLink own index y).before args s = true) (hstat : (Cond.static y).before args s = true) (hinit : (Cond.initialized y.cls).before args s = true)
    (hcode : (Cond.codeWith y bytes maxL ret hh).before args s = true) (hy : y.cls ≠ "java/lang/invoke/MethodHandle" ∧ y.cls ≠ "java/lang/invoke/VarHandle")
    {W9 : Nat} {Pre : Pt → Array Value → Prop} {Post : Pt → Array Value → Option Value → Pt → Prop} (hK : Back l R p e below s args y 3 W9 Pre Post)
    {g : JFrame} (hg : g.method = m) (hsize : g.locals.size = c.maxLocals) {argsL rest : List Value} (hlen : ∀ sig, parseMethodDescriptor y.desc = some sig → argsL.length = sig.parameters.length)
    (hstack : g.stack = argsL.reverse ++ rest) (hW : 2 * g.monitorRoom + (rest.map fun v => v.category).sum ≤ W9) (hdg : decode c.code g.pc = .ok (.invokestatic index, 3))
    (hpre : ∀ vm₁, s.WarmedH vm₁ → Pre ⟨T.setVm vm₁, locs, cells, slots⟩ argsL.toArray) :
    ∃ (v : Option Value) (vm₁ : Vm) (B : Pt), s.WarmedH vm₁ ∧ Stand p l e R s m args below meth c B.U B.locs B.cells B.slots ∧ Post ⟨T.setVm vm₁, locs, cells, slots⟩ argsL.toArray v B ∧
      ∀ target, Steps p.tables e below (B.U.setTop { g with pc := g.pc + 3, stack := v.toList ++ rest }) target → Steps p.tables e below (T.setTop g) target := by
  obtain ⟨mk, methM, cM, hnamed, hmethM, -, -, -, -, -, -, hsigM⟩ := Cond.codeWith_spec hcode
  have hstatic : methM.isStatic = true := Cond.static_spec hnamed hmethM hstat
  obtain ⟨kP, hkP, -⟩ := className_of_methodNamed hnamed
  have hinitP : kP.init = .initialized := Cond.initialized_spec (findClass_of_methodNamed hnamed) hkP hinit
  obtain ⟨vm₁, X₁, hstep₁⟩ := X.invokestatic hexec hown hlink hnamed hmethM hstatic hkP hinitP hy (g := g) hg (argsL := argsL) (rest := rest) (hlen _ hsigM) hstack hdg
  obtain ⟨v, B, X', hpost, hsteps⟩ := hK m meth c ⟨T.setVm vm₁, locs, cells, slots⟩ { g with stack := rest } (.invokestatic index) mk argsL.toArray X₁ hg hsize hdg hW (X₁.named hnamed) (hpre vm₁ X₁.warmed)
  exact ⟨v, vm₁, B, X₁.warmed, X', hpost, fun target h => hstep₁ _ fun acts => by rw [doInvoke_state]; exact hsteps.trans h⟩
theorem ve_runSW {y : MethodName} {bytes cc : ByteArray} {maxL nL mc ms n index : Nat} {ret : Option FieldType} {hh : List (Nat × Nat × Nat × Nat)} {ws : List Cond} {rm : Room} {Pc : Array Value → State → Prop} {Qc : Array Value → State → Outcome → State → Prop} {free : Addr → Prop} {Ts : List Cond} {own : String} {As rest : List Value} {g : JFrame}
    (S : CallFix p m c cc nL s args Ts own) (hM : Met l y ws rm Pc Qc mc ms free) (cw : ve_CSW R s args own index y bytes maxL ret hh ws rm mc ms n) (hp : PreS s H Pc As)
    (hg : g.method = m) (hn : As.length = n) (hsize : g.locals.size = nL) (hstack : g.stack = As.reverse ++ rest) (hW : 2 * g.monitorRoom + (rest.map fun v => v.category).sum ≤ 8) (hdg : decode cc g.pc = .ok (.invokestatic index, 3)) (hf : cells + mc ≤ R.cells ∧ slots + ms ≤ R.slots) :
    va_Run p l e R s m args below meth c H locs cells slots mc ms g rest (Qc As.toArray) (free) := by
  obtain ⟨⟨hrc, hrs, hfr, hlo, hws, hcw⟩, hcode, hini, hy, hlen, hl, hstt⟩ := cw
  have hK : Back l R p e below s args y 3 8 (PreOf R mc ms Pc) (PostOf Qc mc ms free) := va_backW (hh := hh) (bytes := bytes) (maxL := maxL) (ret := ret) hM hp.1 hrc hrs hfr hlo hws hcw (fun a' U hW => word_at hW (Or.inl (by first | rfl | simp [Cond.onTables, Cond.keeps, Cond.steady])) hini)
  obtain ⟨hx, hb, hml, ho, -⟩ := S
  intro T hT X
  obtain ⟨v, vm₁, ⟨U', l2, c2, s2⟩, hW₁, X', ⟨g', mk, t, L, e1, e2, hq, h1, hL, h2, h3⟩, st⟩ := ve_callSW X hx (hh := hh) (bytes := bytes) (maxL := maxL) (ret := ret) ho hl hstt hini hcode hy hK hg (hsize.trans hml.symm) (argsL := As) (rest := rest) (fun sig h => hn.trans (hlen sig h)) hstack hW (by rw [hb]; exact hdg)
    (fun vm₁ hW₁ => ⟨hf.1, hf.2, hp.2 (T.setVm vm₁) hT hW₁⟩)
  dsimp only [Pt.U, Pt.locs, Pt.cells, Pt.slots] at X' e1 e2 h1 h2 h3 st
  subst h1; subst h2; subst h3
  exact ⟨v, (T.setVm vm₁).calling g' mk As.toArray, t, U', L, hT, X', hL, e1, e2, hq, st⟩
end VXS9
section VOC
variable {A0 : State} {l : Launch} {g : Nat} {md : Nat → ve_D} {own : String} {cc : ByteArray} {nL : Nat} {ret : Option FieldType} {nm : String} {pc : Nat}
/-- after the call -/
theorem ve_fin {p : Program} {e : Env} {R : Room} {s : State} {m : MethodId} {args : Array Value} {below : List Frame} {meth : Method} {c : Code} {H : Heap} {locs : List Loc} {cl sl mc ms : Nat} {Q : State → Prop} {ls : Array Slot} {st0 : List Value} {pcx : Nat}
    {η : Nat → Nat} {P : Nat → Prop} {H0 : Heap} {h h' : ve_H} {N : Nat} {rt : Option Value} {r : List Value} (hKm : ve_Km h N h') (hI : ve_Iv η P H0 h N cl sl H)
    (hr : CallRun p l e R s m args below meth c H locs cl sl mc ms (F0 m pcx ls st0) (r.map (ve_v η)) (fun st o t => o = .returned (rt.map (ve_v η)) ∧ ve_Rl η h' t.heap ∧ t.heap.size = st.heap.size + mc ∧ ve_sum t.heap = ve_sum st.heap + ms ∧ ∀ q : Nat, q < st.heap.size → (∀ i : Nat, (ve_hg h i).isSome = true → η i ≠ q) → t.heap[q]? = st.heap[q]?) (fun _ => True))
    (kk : ∀ (H' : Heap) (locs' : List Loc), ve_Iv η P H0 h' (N + mc) (cl + mc) (sl + ms) H' → W p l e R s m args below meth c H' locs' (cl + mc) (sl + ms) Q (F0 m (pcx + 3) ls ((rt.toList ++ r).map (ve_v η)))) :
    W p l e R s m args below meth c H locs cl sl Q (F0 m pcx ls st0) := by
  intro T hT X
  obtain ⟨v, st₀, t, T', L, h0, X', hL, e1, ⟨hv, c2, c3, c4, c5⟩, hgo⟩ := hr T hT X
  have hv2 : v = rt.map (ve_v η) := by cases hv; rfl
  obtain ⟨a1, a2, a3, a4, a5, a6⟩ := hI
  have hI' : ve_Iv η P H0 h' (N + mc) (cl + mc) (sl + ms) t.heap := by
    refine ⟨c2, ?_, ?_, ?_, ?_, ?_⟩
    · intro o
      rw [show N + mc + o = N + (mc + o) by omega, a2, c3, h0]; omega
    · intro i hi
      rcases hKm i hi with h9 | h9
      · exact a3 i h9
      · right
        have := a2 (i - N)
        rw [show N + (i - N) = i by omega] at this
        omega
    · intro q hq hP
      rw [c5 q (by rw [h0]; omega) (fun i hi e2 => ?_), h0]
      · exact a4 q hq hP
      · rcases a3 i hi with h9 | h9
        · exact hP (e2 ▸ h9)
        · omega
    · rw [c3, h0, a5]; omega
    · rw [c4, h0, a6]; omega
  obtain ⟨t2, b1, b2⟩ := kk t.heap (locs ++ L) hI' T' e1 X'
  refine ⟨t2, hgo t2 ?_, b2⟩
  have e3 : (rt.toList ++ r).map (ve_v η) = v.toList ++ r.map (ve_v η) := by
    rw [hv2]; cases rt <;> rfl
  rw [e3] at b1
  exact b1
/-- what a row of a call gives, at this place, for that method -/
def ve_CR (A0 : State) (l : Launch) (md : Nat → ve_D) (own : String) (cc : ByteArray) (nL : Nat) (ret : Option FieldType) (nm : String) (pc mi na : Nat) (rc : Option Nat) : Prop :=
  ∀ (d : Nat) (p : Program) (e : Env) (R : Room) (s : State) (m : MethodId) (args : Array Value) (below : List Frame) (meth : Method) (c : Code), ve_X A0 own cc nL ret nm (d + 1) p e R s m args below meth c → ∀ (η : Nat → Nat) (H : Heap) (locs : List Loc) (cl sl mc ms dp : Nat) (ls : Array Slot) (As r : List Value) (Pc : Array Value → State → Prop) (Qc : Array Value → State → Outcome → State → Prop),
      As.length = na → ls.size = nL → dp ≤ d → ((r.map fun v => v.category).sum ≤ 8) → cl + mc ≤ R.cells → sl + ms ≤ R.slots → (∀ k, rc = some k → ∃ (b : Nat) (y : List Value) (z : Array Value), As = .ref b :: y ∧ H[η b]? = some { cls := k, slots := z, vm := .none }) →
      Met l (md mi).1 [ve_w (md mi)] { frames := dp, cells := mc, slots := ms, locals := 64 * dp } Pc Qc mc ms (fun _ => True) → FrameBlind Pc → (∀ U : State, U.heap = H → s.WarmedH U.vm → Pc (As.map (ve_v η)).toArray U) →
      CallRun p l e R s m args below meth c H locs cl sl mc ms (F0 m pc ls ((As.reverse ++ r).map (ve_v η))) (r.map (ve_v η)) (Qc (As.map (ve_v η)).toArray) (fun _ => True)
-- a call of one method
def ve_cl (g mi na nx : Nat) : ve_M := fun d cb z => match z with
  | (hi, lv, st, h, N, cl, sl) => bif na.ble st.length && (((st.drop na).map fun v : Value => v.category).sum).ble 8 then (match ve_ca g d cb mi (st.take na).reverse hi h N with
    | some (hi', rt, h', mc, ms) => some (.inl (nx, hi', lv, rt.toList ++ st.drop na, h', N + mc, cl + mc, sl + ms))
    | none => none) else none
theorem ve_cl_ok {mi na : Nat} (hna : ve_CR A0 l md own cc nL ret nm pc mi na none) : ve_OK A0 l g (ve_HI A0 l g md) (ve_CB A0 l g (ve_HI A0 l g md) md) own cc nL ret nm pc (ve_cl g mi na (pc + 3)) := by
  intro d cb hcb hi lv st h N cl sl hHI res hr
  unfold ve_cl at hr
  obtain ⟨hq, hr⟩ := ve_bif2 hr
  rw [Bool.and_eq_true] at hq
  have q1 := Nat.le_of_ble_eq_true hq.1
  have q2 := Nat.le_of_ble_eq_true hq.2
  split at hr
  · next hi' rt h' mc ms hc =>
    cases hr
    obtain ⟨hHI', hKm, dp, hdp, hM⟩ := ve_ca_ok hcb hHI hc
    refine ⟨⟨hHI', Nat.le_add_right _ _, Nat.le_add_right _ _, hKm, by omega⟩, ?_⟩
    intro p e R s m args below meth c hX η hη hg P H0 H locs ls Q hI hl hcl hsl kk
    have hst : st.map (ve_v η) = (((st.take na).reverse).reverse ++ st.drop na).map (ve_v η) := by
      rw [List.reverse_reverse, List.take_append_drop]
    rw [hst]
    refine ve_fin hKm hI (hna d p e R s m args below meth c hX η H locs cl sl mc ms dp ls (st.take na).reverse (st.drop na) _ _ (by simp; omega) hl.1 hdp q2 hcl hsl (fun _ h9 => by cases h9) (hM η hη hg) (fun a U g mk q => q) ?_) (fun H' locs' hI' => kk H' locs' ls hI' hl)
    intro U hU hWU
    exact ⟨rfl, hX.2.2.2.2.1.trans hWU, by rw [hU]; exact hI.2.1, by rw [hU]; exact hI.1⟩
  · cases hr
-- a call that its receiver's class chooses
def ve_ch (na : Nat) (rc : List (Nat × Nat)) (st : List Value) (h : ve_H) : Option (Nat × Nat) := match (st.take na).reverse with
  | .ref b :: _ => match ve_hg h b with
    | some c => rc.find? (fun q => c.1.beq q.1)
    | none => none
  | _ => none
def ve_cw (g na nx : Nat) (rc : List (Nat × Nat)) : ve_M := fun d cb z => match z with
  | (hi, lv, st, h, N, cl, sl) => match ve_ch na rc st h with
    | some q => ve_cl g q.2 na nx d cb (hi, lv, st, h, N, cl, sl)
    | none => none
theorem ve_cw_ok {na : Nat} {rc : List (Nat × Nat)} (hlt : rc.all (fun q => q.1.blt 1000) = true) (hna : ∀ q ∈ rc, ve_CR A0 l md own cc nL ret nm pc q.2 na (some q.1)) : ve_OK A0 l g (ve_HI A0 l g md) (ve_CB A0 l g (ve_HI A0 l g md) md) own cc nL ret nm pc (ve_cw g na (pc + 3) rc) := by
  intro d cb hcb hi lv st h N cl sl hHI res hr
  unfold ve_cw at hr
  dsimp only at hr
  split at hr
  · next q hch =>
    unfold ve_cl at hr
    obtain ⟨hq, hr⟩ := ve_bif2 hr
    rw [Bool.and_eq_true] at hq
    have q1 := Nat.le_of_ble_eq_true hq.1
    have q2 := Nat.le_of_ble_eq_true hq.2
    unfold ve_ch at hch
    split at hch
    · next b y hb =>
      split at hch
      · next c9 hc9 =>
        have hmem := List.mem_of_find?_eq_some hch
        have hcls : c9.1 = q.1 := by
          have := List.find?_some hch
          exact Nat.eq_of_beq_eq_true this
        have hl9 := List.all_eq_true.mp hlt q hmem
        split at hr
        · next hi' rt h' mc ms hc =>
          cases hr
          obtain ⟨hHI', hKm, dp, hdp, hM⟩ := ve_ca_ok hcb hHI hc
          refine ⟨⟨hHI', Nat.le_add_right _ _, Nat.le_add_right _ _, hKm, by omega⟩, ?_⟩
          intro p e R s m args below meth c hX η hη hg P H0 H locs ls Q hI hl hcl hsl kk
          have hst : st.map (ve_v η) = (((st.take na).reverse).reverse ++ st.drop na).map (ve_v η) := by
            rw [List.reverse_reverse, List.take_append_drop]
          rw [hst]
          refine ve_fin hKm hI (hna q hmem d p e R s m args below meth c hX η H locs cl sl mc ms dp ls (st.take na).reverse (st.drop na) _ _ (by simp; omega) hl.1 hdp q2 hcl hsl (fun k h9 => ?_) (hM η hη hg) (fun a U g mk q => q) ?_) (fun H' locs' hI' => kk H' locs' ls hI' hl)
          · cases h9
            have e9 := hI.1 b c9 hc9
            rw [ve_c_obj (by rw [hcls]; exact hl9), hcls] at e9
            exact ⟨b, y, _, hb, e9⟩
          · intro U hU hWU
            exact ⟨rfl, hX.2.2.2.2.1.trans hWU, by rw [hU]; exact hI.2.1, by rw [hU]; exact hI.1⟩
        · cases hr
      · cases hch
    · cases hch
  · cases hr
theorem ve_pay {s : State} {args : Array Value} {y : MethodName} {b : ByteArray} {n : Nat} {rt : Option FieldType} (hc : (Cond.code y b n rt).before args s = true) : ∀ w ∈ [Cond.code y b n rt], ∀ (a' : Array Value) (U : State), s.WarmedH U.vm → w.before a' U = true := by
  intro w hw a' U hU
  have e : w = Cond.code y b n rt := by simpa using hw
  subst e
  exact word_at hU (Or.inl (by first | rfl | simp [Cond.onTables, Cond.keeps, Cond.steady])) hc
theorem ve_len_of {desc : String} {n : Nat} (h : (parseMethodDescriptor desc).map (fun d => d.parameters.length) = some n) : ∀ sig, parseMethodDescriptor desc = some sig → n = sig.parameters.length := fun sig h9 => by
  rw [h9] at h
  exact (Option.some.inj h).symm
theorem ve_rv (η : Nat → Nat) (As r : List Value) : (As.reverse ++ r).map (ve_v η) = (As.map (ve_v η)).reverse ++ r.map (ve_v η) := by simp
theorem ve_w_code {D : ve_D} (h : D.2.2.2.2.2 = []) : ve_w D = .code D.1 D.2.1 D.2.2.1 D.2.2.2.1 := by unfold ve_w; rw [h]
theorem ve_w_with {D : ve_D} {q : Nat × Nat × Nat × Nat} {r : List (Nat × Nat × Nat × Nat)} (h : D.2.2.2.2.2 = q :: r) : ve_w D = .codeWith D.1 D.2.1 D.2.2.1 D.2.2.2.1 (q :: r) := by unfold ve_w; rw [h]
-- static
theorem ve_rowS {idx mi na : Nat} (hd : decode cc pc = .ok (.invokestatic idx, 3)) (hm : (md mi).2.2.1 ≤ 45) (h1 : (Cond.methodLink own idx (md mi).1).before #[] A0 = true) (h2 : (Cond.static (md mi).1).before #[] A0 = true) (h3 : (Cond.initialized (md mi).1.cls).before #[] A0 = true)
    (h4 : (Cond.code (md mi).1 (md mi).2.1 (md mi).2.2.1 (md mi).2.2.2.1).before #[] A0 = true) (hh : (md mi).2.2.2.2.2 = []) (hn : (md mi).1.cls ≠ "java/lang/invoke/MethodHandle" ∧ (md mi).1.cls ≠ "java/lang/invoke/VarHandle") (hp : (parseMethodDescriptor (md mi).1.desc).map (fun d => d.parameters.length) = some na) :
    ve_CR A0 l md own cc nL ret nm pc mi na none := by
  intro d p e R s m args below meth c hX η H locs cl sl mc ms dp ls As r Pc Qc hna hls hdp hcat hcl hsl _ hM hfb hpc
  obtain ⟨hx, hb, hml, hown, hW, hret, hlk, hnm, hfr, hlo⟩ := hX
  have hc := ve_wd (args := args) hW rfl h4
  rw [ve_w_code hh] at hM
  refine W.runS (Ts := []) (n := na) ⟨hx, hb, hml, hown, fun w h => nomatch h⟩ hM ⟨⟨rfl, rfl, by show dp + 1 ≤ _; omega, by show 8 + (_ + 11) + 64 * dp ≤ _; omega, ve_pay hc, List.mem_cons_self, hc, ve_wd hW rfl h3, hn, ve_len_of hp, ve_wd hW rfl h1⟩, ve_wd hW rfl h2⟩ ⟨hfb, hpc⟩ rfl (by simpa using hna) hls (ve_rv η As r) ?_ hd ⟨hcl, hsl⟩
  show 2 * 0 + _ ≤ 8
  rw [ve_cats]; omega
-- constructors
theorem ve_rowI {idx mi na : Nat} (hd : decode cc pc = .ok (.invokespecial idx, 3)) (hm : (md mi).2.2.1 ≤ 45) (h1 : (Cond.methodLink own idx (md mi).1).before #[] A0 = true) (h2 : (Cond.instanceMethod (md mi).1).before #[] A0 = true) (h3 : (Cond.initialized (md mi).1.cls).before #[] A0 = true)
    (h4 : (Cond.code (md mi).1 (md mi).2.1 (md mi).2.2.1 (md mi).2.2.2.1).before #[] A0 = true) (hh : (md mi).2.2.2.2.2 = []) (hn : (md mi).1.cls ≠ "java/lang/invoke/MethodHandle" ∧ (md mi).1.cls ≠ "java/lang/invoke/VarHandle") (hp : (parseMethodDescriptor (md mi).1.desc).map (fun d => d.parameters.length) = some na) (hi : (md mi).1.name = "<init>") (hv : (md mi).2.2.2.1 = none) :
    ∀ k, ve_CR A0 l md own cc nL ret nm pc mi (na + 1) (some k) := by
  intro k0 d p e R s m args below meth c hX η H locs cl sl mc ms dp ls As r Pc Qc hna hls hdp hcat hcl hsl hrc hM hfb hpc
  obtain ⟨hx, hb, hml, hown, hW, hret, hlk, hnm, hfr, hlo⟩ := hX
  have hc := ve_wd (args := args) hW rfl h4
  rw [ve_w_code hh] at hM
  obtain ⟨b, y, z, rfl, hbz⟩ := hrc k0 rfl
  rw [hv] at hc hM
  refine W.runI (Ts := []) (n := na) (b := η b) (As := y.map (ve_v η)) (bytes := (md mi).2.1) (maxL := (md mi).2.2.1) ⟨hx, hb, hml, hown, fun w h => nomatch h⟩ hM ⟨⟨rfl, rfl, by show dp + 1 ≤ _; omega, by show 8 + (_ + 11) + 64 * dp ≤ _; omega, ve_pay hc, List.mem_cons_self, hc, ve_wd hW rfl h3, hn, ve_len_of hp, ve_wd hW rfl h1⟩, hi, ve_wd hW rfl h2⟩ ⟨hfb, hpc⟩ rfl (by simpa using hna) hls (by rw [ve_rv]; simp [ve_v]) ?_ hd ⟨hcl, hsl⟩
  show 2 * 0 + _ ≤ 8
  rw [ve_cats]; omega
-- private constructors of nest mates
theorem ve_rowIN {idx mi na : Nat} {host : String} (hd : decode cc pc = .ok (.invokespecial idx, 3)) (hm : (md mi).2.2.1 ≤ 45) (h1 : (Cond.methodLinkNest own idx (md mi).1 host).before #[] A0 = true) (h2 : (Cond.instanceMethod (md mi).1).before #[] A0 = true) (h3 : (Cond.initialized (md mi).1.cls).before #[] A0 = true)
    (h4 : (Cond.code (md mi).1 (md mi).2.1 (md mi).2.2.1 (md mi).2.2.2.1).before #[] A0 = true) (hh : (md mi).2.2.2.2.2 = []) (hn : (md mi).1.cls ≠ "java/lang/invoke/MethodHandle" ∧ (md mi).1.cls ≠ "java/lang/invoke/VarHandle") (hp : (parseMethodDescriptor (md mi).1.desc).map (fun d => d.parameters.length) = some na) (hi : (md mi).1.name = "<init>") (hv : (md mi).2.2.2.1 = none) :
    ∀ k, ve_CR A0 l md own cc nL ret nm pc mi (na + 1) (some k) := by
  intro k0 d p e R s m args below meth c hX η H locs cl sl mc ms dp ls As r Pc Qc hna hls hdp hcat hcl hsl hrc hM hfb hpc
  obtain ⟨hx, hb, hml, hown, hW, hret, hlk, hnm, hfr, hlo⟩ := hX
  have hc := ve_wd (args := args) hW rfl h4
  rw [ve_w_code hh] at hM
  obtain ⟨b, y, z, rfl, hbz⟩ := hrc k0 rfl
  rw [hv] at hc hM
  refine va_Run.run (va_runIN (g := F0 m pc ls (((Value.ref b :: y).reverse ++ r).map (ve_v η))) (rest := r.map (ve_v η)) (Ts := []) (n := na) (b := η b) (As := y.map (ve_v η)) (bytes := (md mi).2.1) (maxL := (md mi).2.2.1) (host := host) ⟨hx, hb, hml, hown, fun w h => nomatch h⟩ hM ⟨⟨⟨rfl, rfl, by show dp + 1 ≤ _; omega, by show 8 + (_ + 11) + 64 * dp ≤ _; omega, ve_pay hc, List.mem_cons_self⟩, hc, ve_wd hW rfl h3, hn, ve_len_of hp, va_Nw.use rfl (va_Nw.warmM hW h1)⟩, hi, ve_wd hW rfl h2⟩ ⟨hfb, hpc⟩ rfl (by simpa using hna) hls (by rw [ve_rv]; simp [ve_v]) ?_ hd ⟨hcl, hsl⟩)
  show 2 * 0 + _ ≤ 8
  rw [ve_cats]; omega
-- a superclass' method by invokespecial
theorem ve_rowSU {idx mi na k : Nat} {C : String} (hd : decode cc pc = .ok (.invokespecial idx, 3)) (hm : (md mi).2.2.1 ≤ 45) (h1 : (Cond.methodLink own idx (md mi).1).before #[] A0 = true) (h2 : (Cond.instanceMethod (md mi).1).before #[] A0 = true) (h3 : (Cond.initialized (md mi).1.cls).before #[] A0 = true)
    (h4 : (Cond.code (md mi).1 (md mi).2.1 (md mi).2.2.1 (md mi).2.2.2.1).before #[] A0 = true) (hh : (md mi).2.2.2.2.2 = []) (h5 : (Cond.sameMethod (md mi).1.cls (md mi).1.cls (md mi).1.name (md mi).1.desc).before #[] A0 = true) (h6 : (Cond.superclass own (md mi).1.cls).before #[] A0 = true) (hi : (md mi).1.name ≠ "<init>")
    (hC : A0.vm.findClass C = some k) (hk : (A0.vm.classes[k]?).any (fun x => decide (x.kind = .ordinary)) = true) (hp : (parseMethodDescriptor (md mi).1.desc).map (fun d => d.parameters.length) = some na) :
    ve_CR A0 l md own cc nL ret nm pc mi (na + 1) (some k) := by
  intro d p e R s m args below meth c hX η H locs cl sl mc ms dp ls As r Pc Qc hna hls hdp hcat hcl hsl hrc hM hfb hpc
  obtain ⟨hx, hb, hml, hown, hW, hret, hlk, hnm, hfr, hlo⟩ := hX
  have hc := ve_wd (args := args) hW rfl h4
  rw [ve_w_code hh] at hM
  obtain ⟨b, y, z, rfl, hbz⟩ := hrc k rfl
  have hat : ClassAt s C k := by
    refine ⟨ve_fc hW hC, ?_⟩
    cases hk0 : A0.vm.classes[k]? with
    | none => rw [hk0] at hk; cases hk
    | some k0 =>
      rw [hk0] at hk
      obtain ⟨k', e1, e2⟩ := ve_kl hW hk0
      exact ⟨k', e1, by rw [e2]; exact of_decide_eq_true hk⟩
  refine va_Run.run (va_runSU (g := F0 m pc ls (((Value.ref b :: y).reverse ++ r).map (ve_v η))) (rest := r.map (ve_v η)) (Ts := []) (n := na) (b := η b) (As := y.map (ve_v η)) (bytes := (md mi).2.1) (maxL := (md mi).2.2.1) hat ⟨hx, hb, hml, hown, fun w h => nomatch h⟩ hM ⟨⟨rfl, rfl, by show dp + 1 ≤ _; omega, by show 8 + (_ + 11) + 64 * dp ≤ _; omega, ve_pay hc, List.mem_cons_self⟩, ve_wd hW rfl h1, ve_wd hW rfl h5, ve_wd hW rfl h6, ve_wd hW rfl h2, ve_wd hW rfl h3, hc, hi, ve_len_of hp⟩ ⟨hfb, ⟨_, hbz, rfl, ve_fc hW hC⟩, hpc⟩ rfl (by simpa using hna) hls (by rw [ve_rv]; simp [ve_v]) ?_ hd ⟨hcl, hsl⟩)
  show 2 * 0 + _ ≤ 8
  rw [ve_cats]; omega
-- virtual
def ve_de (A0 : State) (x : MethodName) : Bool := match A0.methodNamed? x with
  | some r0 => match A0.vm.method? r0 with
    | some r => !r.isStatic && decide (parseMethodDescriptor x.desc = some r.sig)
    | none => false
  | none => false
theorem ve_de_of {s : State} (hW : A0.WarmedH s.vm) {x : MethodName} (h : ve_de A0 x = true) : va_Decl s x := by
  unfold ve_de at h
  split at h
  · next r0 hr0 =>
    split at h
    · next r hr =>
      rw [Bool.and_eq_true] at h
      refine ⟨r0, r, ?_, ?_, by simpa using h.1, of_decide_eq_true h.2⟩
      · have := State.methodNamed?_setVm hW.alike x
        rw [hr0] at this
        exact this
      · rw [hW.alike.method?]; exact hr
    · cases h
  · cases h
theorem ve_rowU {idx mi na k : Nat} {C owner : String} {x : MethodName} (hd : decode cc pc = .ok (.invokevirtual idx, 3)) (hm : (md mi).2.2.1 ≤ 45) (h1 : (Cond.methodLink own idx x).before #[] A0 = true) (h2 : (Cond.instanceMethod (md mi).1).before #[] A0 = true) (h3 : (Cond.initialized (md mi).1.cls).before #[] A0 = true)
    (h4 : (Cond.code (md mi).1 (md mi).2.1 (md mi).2.2.1 (md mi).2.2.2.1).before #[] A0 = true) (hh : (md mi).2.2.2.2.2 = []) (h5 : (Cond.sameMethod x.cls owner x.name x.desc).before #[] A0 = true) (h6 : (Cond.selects C x (md mi).1).before #[] A0 = true) (h7 : ve_de A0 ⟨owner, x.name, x.desc⟩ = true)
    (hn : owner ≠ "java/lang/invoke/MethodHandle" ∧ owner ≠ "java/lang/invoke/VarHandle") (hC : A0.vm.findClass C = some k) (hp : (parseMethodDescriptor x.desc).map (fun d => d.parameters.length) = some na) :
    ve_CR A0 l md own cc nL ret nm pc mi (na + 1) (some k) := by
  intro d p e R s m args below meth c hX η H locs cl sl mc ms dp ls As r Pc Qc hna hls hdp hcat hcl hsl hrc hM hfb hpc
  obtain ⟨hx, hb, hml, hown, hW, hret, hlk, hnm, hfr, hlo⟩ := hX
  have hc := ve_wd (args := args) hW rfl h4
  rw [ve_w_code hh] at hM
  obtain ⟨b, y, z, rfl, hbz⟩ := hrc k rfl
  refine va_Run.run (va_runU (g := F0 m pc ls (((Value.ref b :: y).reverse ++ r).map (ve_v η))) (rest := r.map (ve_v η)) (Ts := []) (n := na) (b := η b) (As := y.map (ve_v η)) (C := C) (owner := owner) (x := x) (bytes := (md mi).2.1) (maxL := (md mi).2.2.1) ⟨hx, hb, hml, hown, fun w h => nomatch h⟩ hM ⟨⟨rfl, rfl, by show dp + 1 ≤ _; omega, by show 8 + (_ + 11) + 64 * dp ≤ _; omega, ve_pay hc, List.mem_cons_self⟩, hc, ve_wd hW rfl h3, hn, ve_len_of hp, ve_wd hW rfl h1, ve_wd hW rfl h5, ve_de_of hW h7, ve_wd hW rfl h6, ve_wd hW rfl h2⟩ ⟨hfb, ⟨_, hbz, rfl, ve_fc hW hC⟩, hpc⟩ rfl (by simpa using hna) hls (by rw [ve_rv]; simp [ve_v]) ?_ hd ⟨hcl, hsl⟩)
  show 2 * 0 + _ ≤ 8
  rw [ve_cats]; omega
-- static, the callee with handlers
theorem ve_rowSW {idx mi na : Nat} {q0 : Nat × Nat × Nat × Nat} {r0 : List (Nat × Nat × Nat × Nat)} (hd : decode cc pc = .ok (.invokestatic idx, 3)) (hm : (md mi).2.2.1 ≤ 45) (h1 : (Cond.methodLink own idx (md mi).1).before #[] A0 = true) (h2 : (Cond.static (md mi).1).before #[] A0 = true) (h3 : (Cond.initialized (md mi).1.cls).before #[] A0 = true)
    (hh : (md mi).2.2.2.2.2 = q0 :: r0) (h4 : (Cond.codeWith (md mi).1 (md mi).2.1 (md mi).2.2.1 (md mi).2.2.2.1 (q0 :: r0)).before #[] A0 = true) (hn : (md mi).1.cls ≠ "java/lang/invoke/MethodHandle" ∧ (md mi).1.cls ≠ "java/lang/invoke/VarHandle") (hp : (parseMethodDescriptor (md mi).1.desc).map (fun d => d.parameters.length) = some na) :
    ve_CR A0 l md own cc nL ret nm pc mi na none := by
  intro d p e R s m args below meth c hX η H locs cl sl mc ms dp ls As r Pc Qc hna hls hdp hcat hcl hsl _ hM hfb hpc
  obtain ⟨hx, hb, hml, hown, hW, hret, hlk, hnm, hfr, hlo⟩ := hX
  have hc := ve_wd (args := args) hW rfl h4
  rw [ve_w_with hh] at hM
  refine va_Run.run (ve_runSW (g := F0 m pc ls ((As.reverse ++ r).map (ve_v η))) (rest := r.map (ve_v η)) (Ts := []) (n := na) (As := As.map (ve_v η)) (hh := q0 :: r0) (bytes := (md mi).2.1) (maxL := (md mi).2.2.1) (ret := (md mi).2.2.2.1) ⟨hx, hb, hml, hown, fun w h => nomatch h⟩ hM ⟨⟨rfl, rfl, by show dp + 1 ≤ _; omega, by show 8 + (_ + 11) + 64 * dp ≤ _; omega, fun w hw a' U hU => ?_, List.mem_cons_self⟩, hc, ve_wd hW rfl h3, hn, ve_len_of hp, ve_wd hW rfl h1, ve_wd hW rfl h2⟩ ⟨hfb, hpc⟩ rfl (by simpa using hna) hls (ve_rv η As r) ?_ hd ⟨hcl, hsl⟩)
  · have e9 : w = Cond.codeWith (md mi).1 (md mi).2.1 (md mi).2.2.1 (md mi).2.2.2.1 (q0 :: r0) := by simpa using hw
    subst e9
    exact word_at hU (Or.inl (by first | rfl | simp [Cond.onTables, Cond.keeps, Cond.steady])) hc
  · show 2 * 0 + _ ≤ 8
    rw [ve_cats]; omega
end VOC
end
section
/-! the start: the printed one with a script of its own -/
def vs_S : Array Value := (([10, 0, 0, 0, 0, 0, 10, 0, 0, 0, 0, 0, 10, 0, 0, 0, 0, 0, 10, 0, 0, 0, 0, 0, 10, 0, 0, 0, 0, 0, 10, 0, 0, 0, 0, 0, 10, 0, 0, 0, 0, 0, 10, 0, 0, 0, 0, 0, 10, 0, 0, 0, 0, 0, 10, 0, 0, 0, 0, 0, 10, 0, 0, 0, 0, 0, 10, 0, 0, 0, 0, 0, 10, 0, 0, 0, 0, 0, 10, 0, 0, 0, 0, 0, 10, 0, 0, 0, 0, 0, 10, 0, 0, 0, 0, 0, 10, 0, 0, 0, 0, 0, 10, 0, 0, 0, 0, 0, 10, 0, 0, 0, 0, 0, 10, 0, 0, 0, 0, 0, 10, 0, 0, 0, 0, 0, 10, 0, 0, 0, 0, 0, 10, 0, 0, 0, 0, 0, 10, 0, 0, 0, 0, 0, 10, 0, 0, 0, 0, 0, 10, 0, 0, 0, 0, 0, 10, 0, 0, 0, 0, 0, 10, 0, 0, 0, 0, 0, 10, 1, 0, 0, 0, 0, 10, 2, 0, 0, 0, 0, 10, 3, 0, 0, 0, 0, 10, 4, 0, 0, 0, 0, 10, 5, 0, 0, 0, 0, 10, 6, 0, 0, 0, 0, 10, 7, 0, 0, 0, 0, 10, 8, 0, 0, 0, 0, 10, 9, 0, 0, 0, 0, 10, 0, 0, 0, 0, 0] : List Int32).map Value.int ++ (List.replicate 474 ([36, 0, 0, 0, 0, 0] : List Int32)).flatten.map Value.int).toArray
def vs_A : State := start1.aboutOf vs_S
end
section
def vwl_0 : List Cond := [Cond.classLink "OrderbenchLaw" 8 "Orderbench",
  Cond.instantiable "Orderbench" 9,
  Cond.initialized "Orderbench",
  Cond.instanceMethod ⟨"Orderbench", "<init>", "()V"⟩,
  Cond.code ⟨"Orderbench", "<init>", "()V"⟩ prog_1_method_1_code 3 none,
  Cond.methodLink "OrderbenchLaw" 138 ⟨"Orderbench", "<init>", "()V"⟩,
  Cond.classLink "OrderbenchLaw" 139 "OrderbenchModel",
  Cond.instantiable "OrderbenchModel" 6,
  Cond.initialized "OrderbenchModel",
  Cond.instanceMethod ⟨"OrderbenchModel", "<init>", "()V"⟩,
  Cond.code ⟨"OrderbenchModel", "<init>", "()V"⟩ prog_10_method_1_code 2 none,
  Cond.methodLink "OrderbenchLaw" 141 ⟨"OrderbenchModel", "<init>", "()V"⟩,
  Cond.classLink "OrderbenchLaw" 14 "OrderbenchLaw$Out",
  Cond.instantiable "OrderbenchLaw$Out" 2,
  Cond.initialized "OrderbenchLaw$Out",
  Cond.instanceMethod ⟨"OrderbenchLaw$Out", "<init>", "()V"⟩,
  Cond.code ⟨"OrderbenchLaw$Out", "<init>", "()V"⟩ prog_9_method_1_code 1 none,
  Cond.methodLinkNest "OrderbenchLaw" 142 ⟨"OrderbenchLaw$Out", "<init>", "()V"⟩ "OrderbenchLaw",
  Cond.methodLink "OrderbenchLaw" 183 ⟨"OrderbenchLaw", "turn", "(LOrderbench;IILOrderbenchLaw$Out;)I"⟩,
  Cond.static ⟨"OrderbenchLaw", "turn", "(LOrderbench;IILOrderbenchLaw$Out;)I"⟩,
  Cond.initialized "OrderbenchLaw",
  Cond.codeWith ⟨"OrderbenchLaw", "turn", "(LOrderbench;IILOrderbenchLaw$Out;)I"⟩ method_12_code 5 (some .int) [(0, 11, 14, 19), (0, 11, 18, 23)],
  Cond.instanceMethod ⟨"OrderbenchModel", "turn", "(II)I"⟩,
  Cond.code ⟨"OrderbenchModel", "turn", "(II)I"⟩ prog_10_method_30_code 3 (some .int),
  Cond.methodLink "OrderbenchLaw" 185 ⟨"OrderbenchModel", "turn", "(II)I"⟩,
  Cond.sameMethod "OrderbenchModel" "OrderbenchModel" "turn" "(II)I",
  Cond.selects "OrderbenchModel" ⟨"OrderbenchModel", "turn", "(II)I"⟩ ⟨"OrderbenchModel", "turn", "(II)I"⟩,
  Cond.instanceMethod ⟨"Orderbench", "digest", "()J"⟩,
  Cond.code ⟨"Orderbench", "digest", "()J"⟩ prog_1_method_38_code 4 (some .long),
  Cond.methodLink "OrderbenchLaw" 266 ⟨"Orderbench", "digest", "()J"⟩,
  Cond.sameMethod "Orderbench" "Orderbench" "digest" "()J",
  Cond.selects "Orderbench" ⟨"Orderbench", "digest", "()J"⟩ ⟨"Orderbench", "digest", "()J"⟩,
  Cond.instanceMethod ⟨"OrderbenchModel", "digest", "()J"⟩,
  Cond.code ⟨"OrderbenchModel", "digest", "()J"⟩ prog_10_method_70_code 5 (some .long),
  Cond.methodLink "OrderbenchLaw" 270 ⟨"OrderbenchModel", "digest", "()J"⟩,
  Cond.sameMethod "OrderbenchModel" "OrderbenchModel" "digest" "()J",
  Cond.selects "OrderbenchModel" ⟨"OrderbenchModel", "digest", "()J"⟩ ⟨"OrderbenchModel", "digest", "()J"⟩,
  Cond.methodLink "Orderbench" 1 Lib.objectInit,
  Cond.instanceMethod Lib.objectInit,
  Cond.code Lib.objectInit ⟨#[0xb1]⟩ 1 none]
set_option maxRecDepth 100000 in
theorem vwb_0 : vwl_0.all (fun w => w.before #[] vs_A) = true := by decide +kernel
theorem vw_0 : (Cond.classLink "OrderbenchLaw" 8 "Orderbench").before #[] vs_A = true := List.all_eq_true.mp vwb_0 _ (List.mem_of_getElem? (i := 0) rfl)
theorem vw_1 : (Cond.instantiable "Orderbench" 9).before #[] vs_A = true := List.all_eq_true.mp vwb_0 _ (List.mem_of_getElem? (i := 1) rfl)
theorem vw_2 : (Cond.initialized "Orderbench").before #[] vs_A = true := List.all_eq_true.mp vwb_0 _ (List.mem_of_getElem? (i := 2) rfl)
theorem vw_3 : (Cond.instanceMethod ⟨"Orderbench", "<init>", "()V"⟩).before #[] vs_A = true := List.all_eq_true.mp vwb_0 _ (List.mem_of_getElem? (i := 3) rfl)
theorem vw_4 : (Cond.code ⟨"Orderbench", "<init>", "()V"⟩ prog_1_method_1_code 3 none).before #[] vs_A = true := List.all_eq_true.mp vwb_0 _ (List.mem_of_getElem? (i := 4) rfl)
theorem vw_5 : (Cond.methodLink "OrderbenchLaw" 138 ⟨"Orderbench", "<init>", "()V"⟩).before #[] vs_A = true := List.all_eq_true.mp vwb_0 _ (List.mem_of_getElem? (i := 5) rfl)
theorem vw_6 : (Cond.classLink "OrderbenchLaw" 139 "OrderbenchModel").before #[] vs_A = true := List.all_eq_true.mp vwb_0 _ (List.mem_of_getElem? (i := 6) rfl)
theorem vw_7 : (Cond.instantiable "OrderbenchModel" 6).before #[] vs_A = true := List.all_eq_true.mp vwb_0 _ (List.mem_of_getElem? (i := 7) rfl)
theorem vw_8 : (Cond.initialized "OrderbenchModel").before #[] vs_A = true := List.all_eq_true.mp vwb_0 _ (List.mem_of_getElem? (i := 8) rfl)
theorem vw_9 : (Cond.instanceMethod ⟨"OrderbenchModel", "<init>", "()V"⟩).before #[] vs_A = true := List.all_eq_true.mp vwb_0 _ (List.mem_of_getElem? (i := 9) rfl)
theorem vw_10 : (Cond.code ⟨"OrderbenchModel", "<init>", "()V"⟩ prog_10_method_1_code 2 none).before #[] vs_A = true := List.all_eq_true.mp vwb_0 _ (List.mem_of_getElem? (i := 10) rfl)
theorem vw_11 : (Cond.methodLink "OrderbenchLaw" 141 ⟨"OrderbenchModel", "<init>", "()V"⟩).before #[] vs_A = true := List.all_eq_true.mp vwb_0 _ (List.mem_of_getElem? (i := 11) rfl)
theorem vw_12 : (Cond.classLink "OrderbenchLaw" 14 "OrderbenchLaw$Out").before #[] vs_A = true := List.all_eq_true.mp vwb_0 _ (List.mem_of_getElem? (i := 12) rfl)
theorem vw_13 : (Cond.instantiable "OrderbenchLaw$Out" 2).before #[] vs_A = true := List.all_eq_true.mp vwb_0 _ (List.mem_of_getElem? (i := 13) rfl)
theorem vw_14 : (Cond.initialized "OrderbenchLaw$Out").before #[] vs_A = true := List.all_eq_true.mp vwb_0 _ (List.mem_of_getElem? (i := 14) rfl)
theorem vw_15 : (Cond.instanceMethod ⟨"OrderbenchLaw$Out", "<init>", "()V"⟩).before #[] vs_A = true := List.all_eq_true.mp vwb_0 _ (List.mem_of_getElem? (i := 15) rfl)
theorem vw_16 : (Cond.code ⟨"OrderbenchLaw$Out", "<init>", "()V"⟩ prog_9_method_1_code 1 none).before #[] vs_A = true := List.all_eq_true.mp vwb_0 _ (List.mem_of_getElem? (i := 16) rfl)
theorem vw_17 : (Cond.methodLinkNest "OrderbenchLaw" 142 ⟨"OrderbenchLaw$Out", "<init>", "()V"⟩ "OrderbenchLaw").before #[] vs_A = true := List.all_eq_true.mp vwb_0 _ (List.mem_of_getElem? (i := 17) rfl)
theorem vw_18 : (Cond.methodLink "OrderbenchLaw" 183 ⟨"OrderbenchLaw", "turn", "(LOrderbench;IILOrderbenchLaw$Out;)I"⟩).before #[] vs_A = true := List.all_eq_true.mp vwb_0 _ (List.mem_of_getElem? (i := 18) rfl)
theorem vw_19 : (Cond.static ⟨"OrderbenchLaw", "turn", "(LOrderbench;IILOrderbenchLaw$Out;)I"⟩).before #[] vs_A = true := List.all_eq_true.mp vwb_0 _ (List.mem_of_getElem? (i := 19) rfl)
theorem vw_20 : (Cond.initialized "OrderbenchLaw").before #[] vs_A = true := List.all_eq_true.mp vwb_0 _ (List.mem_of_getElem? (i := 20) rfl)
theorem vw_21 : (Cond.codeWith ⟨"OrderbenchLaw", "turn", "(LOrderbench;IILOrderbenchLaw$Out;)I"⟩ method_12_code 5 (some .int) [(0, 11, 14, 19), (0, 11, 18, 23)]).before #[] vs_A = true := List.all_eq_true.mp vwb_0 _ (List.mem_of_getElem? (i := 21) rfl)
theorem vw_22 : (Cond.instanceMethod ⟨"OrderbenchModel", "turn", "(II)I"⟩).before #[] vs_A = true := List.all_eq_true.mp vwb_0 _ (List.mem_of_getElem? (i := 22) rfl)
theorem vw_23 : (Cond.code ⟨"OrderbenchModel", "turn", "(II)I"⟩ prog_10_method_30_code 3 (some .int)).before #[] vs_A = true := List.all_eq_true.mp vwb_0 _ (List.mem_of_getElem? (i := 23) rfl)
theorem vw_24 : (Cond.methodLink "OrderbenchLaw" 185 ⟨"OrderbenchModel", "turn", "(II)I"⟩).before #[] vs_A = true := List.all_eq_true.mp vwb_0 _ (List.mem_of_getElem? (i := 24) rfl)
theorem vw_25 : (Cond.sameMethod "OrderbenchModel" "OrderbenchModel" "turn" "(II)I").before #[] vs_A = true := List.all_eq_true.mp vwb_0 _ (List.mem_of_getElem? (i := 25) rfl)
theorem vw_26 : (Cond.selects "OrderbenchModel" ⟨"OrderbenchModel", "turn", "(II)I"⟩ ⟨"OrderbenchModel", "turn", "(II)I"⟩).before #[] vs_A = true := List.all_eq_true.mp vwb_0 _ (List.mem_of_getElem? (i := 26) rfl)
theorem vw_27 : (Cond.instanceMethod ⟨"Orderbench", "digest", "()J"⟩).before #[] vs_A = true := List.all_eq_true.mp vwb_0 _ (List.mem_of_getElem? (i := 27) rfl)
theorem vw_28 : (Cond.code ⟨"Orderbench", "digest", "()J"⟩ prog_1_method_38_code 4 (some .long)).before #[] vs_A = true := List.all_eq_true.mp vwb_0 _ (List.mem_of_getElem? (i := 28) rfl)
theorem vw_29 : (Cond.methodLink "OrderbenchLaw" 266 ⟨"Orderbench", "digest", "()J"⟩).before #[] vs_A = true := List.all_eq_true.mp vwb_0 _ (List.mem_of_getElem? (i := 29) rfl)
theorem vw_30 : (Cond.sameMethod "Orderbench" "Orderbench" "digest" "()J").before #[] vs_A = true := List.all_eq_true.mp vwb_0 _ (List.mem_of_getElem? (i := 30) rfl)
theorem vw_31 : (Cond.selects "Orderbench" ⟨"Orderbench", "digest", "()J"⟩ ⟨"Orderbench", "digest", "()J"⟩).before #[] vs_A = true := List.all_eq_true.mp vwb_0 _ (List.mem_of_getElem? (i := 31) rfl)
theorem vw_32 : (Cond.instanceMethod ⟨"OrderbenchModel", "digest", "()J"⟩).before #[] vs_A = true := List.all_eq_true.mp vwb_0 _ (List.mem_of_getElem? (i := 32) rfl)
theorem vw_33 : (Cond.code ⟨"OrderbenchModel", "digest", "()J"⟩ prog_10_method_70_code 5 (some .long)).before #[] vs_A = true := List.all_eq_true.mp vwb_0 _ (List.mem_of_getElem? (i := 33) rfl)
theorem vw_34 : (Cond.methodLink "OrderbenchLaw" 270 ⟨"OrderbenchModel", "digest", "()J"⟩).before #[] vs_A = true := List.all_eq_true.mp vwb_0 _ (List.mem_of_getElem? (i := 34) rfl)
theorem vw_35 : (Cond.sameMethod "OrderbenchModel" "OrderbenchModel" "digest" "()J").before #[] vs_A = true := List.all_eq_true.mp vwb_0 _ (List.mem_of_getElem? (i := 35) rfl)
theorem vw_36 : (Cond.selects "OrderbenchModel" ⟨"OrderbenchModel", "digest", "()J"⟩ ⟨"OrderbenchModel", "digest", "()J"⟩).before #[] vs_A = true := List.all_eq_true.mp vwb_0 _ (List.mem_of_getElem? (i := 36) rfl)
theorem vw_37 : (Cond.methodLink "Orderbench" 1 Lib.objectInit).before #[] vs_A = true := List.all_eq_true.mp vwb_0 _ (List.mem_of_getElem? (i := 37) rfl)
theorem vw_38 : (Cond.instanceMethod Lib.objectInit).before #[] vs_A = true := List.all_eq_true.mp vwb_0 _ (List.mem_of_getElem? (i := 38) rfl)
theorem vw_39 : (Cond.code Lib.objectInit ⟨#[0xb1]⟩ 1 none).before #[] vs_A = true := List.all_eq_true.mp vwb_0 _ (List.mem_of_getElem? (i := 39) rfl)
def vwl_1 : List Cond := [Cond.classLink "Orderbench" 9 "Orderbench$Row",
  Cond.arrayOver (.object "Orderbench$Row"),
  Cond.fieldLink "Orderbench" 11 "Orderbench" "benches" "[LOrderbench$Row;",
  Cond.instantiable "Orderbench$Row" 2,
  Cond.initialized "Orderbench$Row",
  Cond.instanceMethod ⟨"Orderbench$Row", "<init>", "()V"⟩,
  Cond.code ⟨"Orderbench$Row", "<init>", "()V"⟩ prog_4_method_1_code 1 none,
  Cond.methodLinkNest "Orderbench" 15 ⟨"Orderbench$Row", "<init>", "()V"⟩ "Orderbench",
  Cond.classLink "Orderbench" 16 "Orderbench$Shape",
  Cond.arrayOver (.object "Orderbench$Shape"),
  Cond.fieldLink "Orderbench" 18 "Orderbench" "orders" "[LOrderbench$Shape;",
  Cond.classLink "Orderbench" 22 "Orderbench$Base",
  Cond.instantiable "Orderbench$Base" 3,
  Cond.initialized "Orderbench$Base",
  Cond.instanceMethod ⟨"Orderbench$Base", "<init>", "(I)V"⟩,
  Cond.code ⟨"Orderbench$Base", "<init>", "(I)V"⟩ prog_2_method_1_code 2 none,
  Cond.methodLink "Orderbench" 24 ⟨"Orderbench$Base", "<init>", "(I)V"⟩,
  Cond.fieldLink "Orderbench" 27 "Orderbench" "copied" "LOrderbench$Row;",
  Cond.fieldLink "Orderbench" 31 "Orderbench" "copiedToo" "LOrderbench$Row;",
  Cond.arrayClass (newarray.typeOf .int),
  Cond.fieldLink "Orderbench" 34 "Orderbench" "ranks" "[I",
  Cond.classLink "Orderbench" 38 "java/lang/StringBuilder",
  Cond.instantiable "java/lang/StringBuilder" 4,
  Cond.initialized "java/lang/StringBuilder",
  Cond.instanceMethod ⟨"java/lang/StringBuilder", "<init>", "()V"⟩,
  Cond.code ⟨"java/lang/StringBuilder", "<init>", "()V"⟩ prog_29_method_1_code 1 none,
  Cond.methodLink "Orderbench" 40 ⟨"java/lang/StringBuilder", "<init>", "()V"⟩,
  Cond.fieldLink "Orderbench" 41 "Orderbench" "signs" "Ljava/lang/StringBuilder;",
  Cond.methodLink "Orderbench$Row" 3 Lib.objectInit,
  Cond.fieldLink "Orderbench$Row" 9 "Orderbench$Row" "codes" "[I",
  Cond.instanceMethod ⟨"Orderbench$Shape", "<init>", "(IZ)V"⟩,
  Cond.initialized "Orderbench$Shape",
  Cond.code ⟨"Orderbench$Shape", "<init>", "(IZ)V"⟩ prog_5_method_1_code 3 none,
  Cond.methodLink "Orderbench$Base" 3 ⟨"Orderbench$Shape", "<init>", "(IZ)V"⟩,
  Cond.fieldLink "Orderbench$Base" 9 "Orderbench$Base" "kind" "I",
  Cond.methodLink "Orderbench$Shape" 1 Lib.objectInit,
  Cond.fieldLink "Orderbench$Shape" 7 "Orderbench$Shape" "length" "I",
  Cond.fieldLink "Orderbench$Shape" 13 "Orderbench$Shape" "safe" "Z",
  Cond.instanceMethod ⟨"java/lang/AbstractStringBuilder", "<init>", "(I)V"⟩,
  Cond.initialized "java/lang/AbstractStringBuilder"]
set_option maxRecDepth 100000 in
theorem vwb_1 : vwl_1.all (fun w => w.before #[] vs_A) = true := by decide +kernel
theorem vw_40 : (Cond.classLink "Orderbench" 9 "Orderbench$Row").before #[] vs_A = true := List.all_eq_true.mp vwb_1 _ (List.mem_of_getElem? (i := 0) rfl)
theorem vw_41 : (Cond.arrayOver (.object "Orderbench$Row")).before #[] vs_A = true := List.all_eq_true.mp vwb_1 _ (List.mem_of_getElem? (i := 1) rfl)
theorem vw_42 : (Cond.fieldLink "Orderbench" 11 "Orderbench" "benches" "[LOrderbench$Row;").before #[] vs_A = true := List.all_eq_true.mp vwb_1 _ (List.mem_of_getElem? (i := 2) rfl)
theorem vw_43 : (Cond.instantiable "Orderbench$Row" 2).before #[] vs_A = true := List.all_eq_true.mp vwb_1 _ (List.mem_of_getElem? (i := 3) rfl)
theorem vw_44 : (Cond.initialized "Orderbench$Row").before #[] vs_A = true := List.all_eq_true.mp vwb_1 _ (List.mem_of_getElem? (i := 4) rfl)
theorem vw_45 : (Cond.instanceMethod ⟨"Orderbench$Row", "<init>", "()V"⟩).before #[] vs_A = true := List.all_eq_true.mp vwb_1 _ (List.mem_of_getElem? (i := 5) rfl)
theorem vw_46 : (Cond.code ⟨"Orderbench$Row", "<init>", "()V"⟩ prog_4_method_1_code 1 none).before #[] vs_A = true := List.all_eq_true.mp vwb_1 _ (List.mem_of_getElem? (i := 6) rfl)
theorem vw_47 : (Cond.methodLinkNest "Orderbench" 15 ⟨"Orderbench$Row", "<init>", "()V"⟩ "Orderbench").before #[] vs_A = true := List.all_eq_true.mp vwb_1 _ (List.mem_of_getElem? (i := 7) rfl)
theorem vw_48 : (Cond.classLink "Orderbench" 16 "Orderbench$Shape").before #[] vs_A = true := List.all_eq_true.mp vwb_1 _ (List.mem_of_getElem? (i := 8) rfl)
theorem vw_49 : (Cond.arrayOver (.object "Orderbench$Shape")).before #[] vs_A = true := List.all_eq_true.mp vwb_1 _ (List.mem_of_getElem? (i := 9) rfl)
theorem vw_50 : (Cond.fieldLink "Orderbench" 18 "Orderbench" "orders" "[LOrderbench$Shape;").before #[] vs_A = true := List.all_eq_true.mp vwb_1 _ (List.mem_of_getElem? (i := 10) rfl)
theorem vw_51 : (Cond.classLink "Orderbench" 22 "Orderbench$Base").before #[] vs_A = true := List.all_eq_true.mp vwb_1 _ (List.mem_of_getElem? (i := 11) rfl)
theorem vw_52 : (Cond.instantiable "Orderbench$Base" 3).before #[] vs_A = true := List.all_eq_true.mp vwb_1 _ (List.mem_of_getElem? (i := 12) rfl)
theorem vw_53 : (Cond.initialized "Orderbench$Base").before #[] vs_A = true := List.all_eq_true.mp vwb_1 _ (List.mem_of_getElem? (i := 13) rfl)
theorem vw_54 : (Cond.instanceMethod ⟨"Orderbench$Base", "<init>", "(I)V"⟩).before #[] vs_A = true := List.all_eq_true.mp vwb_1 _ (List.mem_of_getElem? (i := 14) rfl)
theorem vw_55 : (Cond.code ⟨"Orderbench$Base", "<init>", "(I)V"⟩ prog_2_method_1_code 2 none).before #[] vs_A = true := List.all_eq_true.mp vwb_1 _ (List.mem_of_getElem? (i := 15) rfl)
theorem vw_56 : (Cond.methodLink "Orderbench" 24 ⟨"Orderbench$Base", "<init>", "(I)V"⟩).before #[] vs_A = true := List.all_eq_true.mp vwb_1 _ (List.mem_of_getElem? (i := 16) rfl)
theorem vw_57 : (Cond.fieldLink "Orderbench" 27 "Orderbench" "copied" "LOrderbench$Row;").before #[] vs_A = true := List.all_eq_true.mp vwb_1 _ (List.mem_of_getElem? (i := 17) rfl)
theorem vw_58 : (Cond.fieldLink "Orderbench" 31 "Orderbench" "copiedToo" "LOrderbench$Row;").before #[] vs_A = true := List.all_eq_true.mp vwb_1 _ (List.mem_of_getElem? (i := 18) rfl)
theorem vw_59 : (Cond.arrayClass (newarray.typeOf .int)).before #[] vs_A = true := List.all_eq_true.mp vwb_1 _ (List.mem_of_getElem? (i := 19) rfl)
theorem vw_60 : (Cond.fieldLink "Orderbench" 34 "Orderbench" "ranks" "[I").before #[] vs_A = true := List.all_eq_true.mp vwb_1 _ (List.mem_of_getElem? (i := 20) rfl)
theorem vw_61 : (Cond.classLink "Orderbench" 38 "java/lang/StringBuilder").before #[] vs_A = true := List.all_eq_true.mp vwb_1 _ (List.mem_of_getElem? (i := 21) rfl)
theorem vw_62 : (Cond.instantiable "java/lang/StringBuilder" 4).before #[] vs_A = true := List.all_eq_true.mp vwb_1 _ (List.mem_of_getElem? (i := 22) rfl)
theorem vw_63 : (Cond.initialized "java/lang/StringBuilder").before #[] vs_A = true := List.all_eq_true.mp vwb_1 _ (List.mem_of_getElem? (i := 23) rfl)
theorem vw_64 : (Cond.instanceMethod ⟨"java/lang/StringBuilder", "<init>", "()V"⟩).before #[] vs_A = true := List.all_eq_true.mp vwb_1 _ (List.mem_of_getElem? (i := 24) rfl)
theorem vw_65 : (Cond.code ⟨"java/lang/StringBuilder", "<init>", "()V"⟩ prog_29_method_1_code 1 none).before #[] vs_A = true := List.all_eq_true.mp vwb_1 _ (List.mem_of_getElem? (i := 25) rfl)
theorem vw_66 : (Cond.methodLink "Orderbench" 40 ⟨"java/lang/StringBuilder", "<init>", "()V"⟩).before #[] vs_A = true := List.all_eq_true.mp vwb_1 _ (List.mem_of_getElem? (i := 26) rfl)
theorem vw_67 : (Cond.fieldLink "Orderbench" 41 "Orderbench" "signs" "Ljava/lang/StringBuilder;").before #[] vs_A = true := List.all_eq_true.mp vwb_1 _ (List.mem_of_getElem? (i := 27) rfl)
theorem vw_68 : (Cond.methodLink "Orderbench$Row" 3 Lib.objectInit).before #[] vs_A = true := List.all_eq_true.mp vwb_1 _ (List.mem_of_getElem? (i := 28) rfl)
theorem vw_69 : (Cond.fieldLink "Orderbench$Row" 9 "Orderbench$Row" "codes" "[I").before #[] vs_A = true := List.all_eq_true.mp vwb_1 _ (List.mem_of_getElem? (i := 29) rfl)
theorem vw_70 : (Cond.instanceMethod ⟨"Orderbench$Shape", "<init>", "(IZ)V"⟩).before #[] vs_A = true := List.all_eq_true.mp vwb_1 _ (List.mem_of_getElem? (i := 30) rfl)
theorem vw_71 : (Cond.initialized "Orderbench$Shape").before #[] vs_A = true := List.all_eq_true.mp vwb_1 _ (List.mem_of_getElem? (i := 31) rfl)
theorem vw_72 : (Cond.code ⟨"Orderbench$Shape", "<init>", "(IZ)V"⟩ prog_5_method_1_code 3 none).before #[] vs_A = true := List.all_eq_true.mp vwb_1 _ (List.mem_of_getElem? (i := 32) rfl)
theorem vw_73 : (Cond.methodLink "Orderbench$Base" 3 ⟨"Orderbench$Shape", "<init>", "(IZ)V"⟩).before #[] vs_A = true := List.all_eq_true.mp vwb_1 _ (List.mem_of_getElem? (i := 33) rfl)
theorem vw_74 : (Cond.fieldLink "Orderbench$Base" 9 "Orderbench$Base" "kind" "I").before #[] vs_A = true := List.all_eq_true.mp vwb_1 _ (List.mem_of_getElem? (i := 34) rfl)
theorem vw_75 : (Cond.methodLink "Orderbench$Shape" 1 Lib.objectInit).before #[] vs_A = true := List.all_eq_true.mp vwb_1 _ (List.mem_of_getElem? (i := 35) rfl)
theorem vw_76 : (Cond.fieldLink "Orderbench$Shape" 7 "Orderbench$Shape" "length" "I").before #[] vs_A = true := List.all_eq_true.mp vwb_1 _ (List.mem_of_getElem? (i := 36) rfl)
theorem vw_77 : (Cond.fieldLink "Orderbench$Shape" 13 "Orderbench$Shape" "safe" "Z").before #[] vs_A = true := List.all_eq_true.mp vwb_1 _ (List.mem_of_getElem? (i := 37) rfl)
theorem vw_78 : (Cond.instanceMethod ⟨"java/lang/AbstractStringBuilder", "<init>", "(I)V"⟩).before #[] vs_A = true := List.all_eq_true.mp vwb_1 _ (List.mem_of_getElem? (i := 38) rfl)
theorem vw_79 : (Cond.initialized "java/lang/AbstractStringBuilder").before #[] vs_A = true := List.all_eq_true.mp vwb_1 _ (List.mem_of_getElem? (i := 39) rfl)
def vwl_2 : List Cond := [Cond.code ⟨"java/lang/AbstractStringBuilder", "<init>", "(I)V"⟩ prog_13_method_2_code 2 none,
  Cond.methodLink "java/lang/StringBuilder" 1 ⟨"java/lang/AbstractStringBuilder", "<init>", "(I)V"⟩,
  Cond.methodLink "java/lang/AbstractStringBuilder" 3 Lib.objectInit,
  Cond.fieldLink "java/lang/AbstractStringBuilder" 18 "java/lang/String" "COMPACT_STRINGS" "Z",
  Cond.arrayClass (newarray.typeOf .byte),
  Cond.fieldLink "java/lang/AbstractStringBuilder" 15 "java/lang/AbstractStringBuilder" "value" "[B",
  Cond.fieldLink "java/lang/AbstractStringBuilder" 22 "java/lang/AbstractStringBuilder" "coder" "B",
  Cond.methodLink "OrderbenchModel" 1 Lib.objectInit,
  Cond.classLink "OrderbenchModel" 7 "java/util/ArrayList",
  Cond.instantiable "java/util/ArrayList" 3,
  Cond.initialized "java/util/ArrayList",
  Cond.instanceMethod ⟨"java/util/ArrayList", "<init>", "()V"⟩,
  Cond.code ⟨"java/util/ArrayList", "<init>", "()V"⟩ prog_39_method_2_code 1 none,
  Cond.methodLink "OrderbenchModel" 9 ⟨"java/util/ArrayList", "<init>", "()V"⟩,
  Cond.fieldLink "OrderbenchModel" 10 "OrderbenchModel" "benches" "Ljava/util/ArrayList;",
  Cond.classLink "OrderbenchModel" 16 "OrderbenchModel$Shape",
  Cond.arrayOver (.object "OrderbenchModel$Shape"),
  Cond.fieldLink "OrderbenchModel" 18 "OrderbenchModel" "shapes" "[LOrderbenchModel$Shape;",
  Cond.instanceMethod ⟨"java/util/ArrayList", "add", "(Ljava/lang/Object;)Z"⟩,
  Cond.code ⟨"java/util/ArrayList", "add", "(Ljava/lang/Object;)Z"⟩ prog_39_method_25_code 2 (some .boolean),
  Cond.methodLink "OrderbenchModel" 22 ⟨"java/util/ArrayList", "add", "(Ljava/lang/Object;)Z"⟩,
  Cond.sameMethod "java/util/ArrayList" "java/util/ArrayList" "add" "(Ljava/lang/Object;)Z",
  Cond.selects "java/util/ArrayList" ⟨"java/util/ArrayList", "add", "(Ljava/lang/Object;)Z"⟩ ⟨"java/util/ArrayList", "add", "(Ljava/lang/Object;)Z"⟩,
  Cond.instantiable "OrderbenchModel$Shape" 3,
  Cond.initialized "OrderbenchModel$Shape",
  Cond.instanceMethod ⟨"OrderbenchModel$Shape", "<init>", "(CLOrderbenchModel$Shape;LOrderbenchModel$Shape;)V"⟩,
  Cond.code ⟨"OrderbenchModel$Shape", "<init>", "(CLOrderbenchModel$Shape;LOrderbenchModel$Shape;)V"⟩ prog_11_method_1_code 4 none,
  Cond.methodLink "OrderbenchModel" 26 ⟨"OrderbenchModel$Shape", "<init>", "(CLOrderbenchModel$Shape;LOrderbenchModel$Shape;)V"⟩,
  Cond.instanceMethod ⟨"java/util/AbstractList", "<init>", "()V"⟩,
  Cond.initialized "java/util/AbstractList",
  Cond.code ⟨"java/util/AbstractList", "<init>", "()V"⟩ prog_38_method_1_code 1 none,
  Cond.methodLink "java/util/ArrayList" 1 ⟨"java/util/AbstractList", "<init>", "()V"⟩,
  Cond.fieldLink "java/util/ArrayList" 39 "java/util/ArrayList" "DEFAULTCAPACITY_EMPTY_ELEMENTDATA" "[Ljava/lang/Object;",
  Cond.fieldLink "java/util/ArrayList" 9 "java/util/ArrayList" "elementData" "[Ljava/lang/Object;",
  Cond.instanceMethod ⟨"java/util/AbstractCollection", "<init>", "()V"⟩,
  Cond.initialized "java/util/AbstractCollection",
  Cond.code ⟨"java/util/AbstractCollection", "<init>", "()V"⟩ prog_37_method_1_code 1 none,
  Cond.methodLink "java/util/AbstractList" 1 ⟨"java/util/AbstractCollection", "<init>", "()V"⟩,
  Cond.fieldLink "java/util/AbstractList" 7 "java/util/AbstractList" "modCount" "I",
  Cond.methodLink "java/util/AbstractCollection" 1 Lib.objectInit]
set_option maxRecDepth 100000 in
theorem vwb_2 : vwl_2.all (fun w => w.before #[] vs_A) = true := by decide +kernel
theorem vw_80 : (Cond.code ⟨"java/lang/AbstractStringBuilder", "<init>", "(I)V"⟩ prog_13_method_2_code 2 none).before #[] vs_A = true := List.all_eq_true.mp vwb_2 _ (List.mem_of_getElem? (i := 0) rfl)
theorem vw_81 : (Cond.methodLink "java/lang/StringBuilder" 1 ⟨"java/lang/AbstractStringBuilder", "<init>", "(I)V"⟩).before #[] vs_A = true := List.all_eq_true.mp vwb_2 _ (List.mem_of_getElem? (i := 1) rfl)
theorem vw_82 : (Cond.methodLink "java/lang/AbstractStringBuilder" 3 Lib.objectInit).before #[] vs_A = true := List.all_eq_true.mp vwb_2 _ (List.mem_of_getElem? (i := 2) rfl)
theorem vw_83 : (Cond.fieldLink "java/lang/AbstractStringBuilder" 18 "java/lang/String" "COMPACT_STRINGS" "Z").before #[] vs_A = true := List.all_eq_true.mp vwb_2 _ (List.mem_of_getElem? (i := 3) rfl)
theorem vw_84 : (Cond.arrayClass (newarray.typeOf .byte)).before #[] vs_A = true := List.all_eq_true.mp vwb_2 _ (List.mem_of_getElem? (i := 4) rfl)
theorem vw_85 : (Cond.fieldLink "java/lang/AbstractStringBuilder" 15 "java/lang/AbstractStringBuilder" "value" "[B").before #[] vs_A = true := List.all_eq_true.mp vwb_2 _ (List.mem_of_getElem? (i := 5) rfl)
theorem vw_86 : (Cond.fieldLink "java/lang/AbstractStringBuilder" 22 "java/lang/AbstractStringBuilder" "coder" "B").before #[] vs_A = true := List.all_eq_true.mp vwb_2 _ (List.mem_of_getElem? (i := 6) rfl)
theorem vw_87 : (Cond.methodLink "OrderbenchModel" 1 Lib.objectInit).before #[] vs_A = true := List.all_eq_true.mp vwb_2 _ (List.mem_of_getElem? (i := 7) rfl)
theorem vw_88 : (Cond.classLink "OrderbenchModel" 7 "java/util/ArrayList").before #[] vs_A = true := List.all_eq_true.mp vwb_2 _ (List.mem_of_getElem? (i := 8) rfl)
theorem vw_89 : (Cond.instantiable "java/util/ArrayList" 3).before #[] vs_A = true := List.all_eq_true.mp vwb_2 _ (List.mem_of_getElem? (i := 9) rfl)
theorem vw_90 : (Cond.initialized "java/util/ArrayList").before #[] vs_A = true := List.all_eq_true.mp vwb_2 _ (List.mem_of_getElem? (i := 10) rfl)
theorem vw_91 : (Cond.instanceMethod ⟨"java/util/ArrayList", "<init>", "()V"⟩).before #[] vs_A = true := List.all_eq_true.mp vwb_2 _ (List.mem_of_getElem? (i := 11) rfl)
theorem vw_92 : (Cond.code ⟨"java/util/ArrayList", "<init>", "()V"⟩ prog_39_method_2_code 1 none).before #[] vs_A = true := List.all_eq_true.mp vwb_2 _ (List.mem_of_getElem? (i := 12) rfl)
theorem vw_93 : (Cond.methodLink "OrderbenchModel" 9 ⟨"java/util/ArrayList", "<init>", "()V"⟩).before #[] vs_A = true := List.all_eq_true.mp vwb_2 _ (List.mem_of_getElem? (i := 13) rfl)
theorem vw_94 : (Cond.fieldLink "OrderbenchModel" 10 "OrderbenchModel" "benches" "Ljava/util/ArrayList;").before #[] vs_A = true := List.all_eq_true.mp vwb_2 _ (List.mem_of_getElem? (i := 14) rfl)
theorem vw_95 : (Cond.classLink "OrderbenchModel" 16 "OrderbenchModel$Shape").before #[] vs_A = true := List.all_eq_true.mp vwb_2 _ (List.mem_of_getElem? (i := 15) rfl)
theorem vw_96 : (Cond.arrayOver (.object "OrderbenchModel$Shape")).before #[] vs_A = true := List.all_eq_true.mp vwb_2 _ (List.mem_of_getElem? (i := 16) rfl)
theorem vw_97 : (Cond.fieldLink "OrderbenchModel" 18 "OrderbenchModel" "shapes" "[LOrderbenchModel$Shape;").before #[] vs_A = true := List.all_eq_true.mp vwb_2 _ (List.mem_of_getElem? (i := 17) rfl)
theorem vw_98 : (Cond.instanceMethod ⟨"java/util/ArrayList", "add", "(Ljava/lang/Object;)Z"⟩).before #[] vs_A = true := List.all_eq_true.mp vwb_2 _ (List.mem_of_getElem? (i := 18) rfl)
theorem vw_99 : (Cond.code ⟨"java/util/ArrayList", "add", "(Ljava/lang/Object;)Z"⟩ prog_39_method_25_code 2 (some .boolean)).before #[] vs_A = true := List.all_eq_true.mp vwb_2 _ (List.mem_of_getElem? (i := 19) rfl)
theorem vw_100 : (Cond.methodLink "OrderbenchModel" 22 ⟨"java/util/ArrayList", "add", "(Ljava/lang/Object;)Z"⟩).before #[] vs_A = true := List.all_eq_true.mp vwb_2 _ (List.mem_of_getElem? (i := 20) rfl)
theorem vw_101 : (Cond.sameMethod "java/util/ArrayList" "java/util/ArrayList" "add" "(Ljava/lang/Object;)Z").before #[] vs_A = true := List.all_eq_true.mp vwb_2 _ (List.mem_of_getElem? (i := 21) rfl)
theorem vw_102 : (Cond.selects "java/util/ArrayList" ⟨"java/util/ArrayList", "add", "(Ljava/lang/Object;)Z"⟩ ⟨"java/util/ArrayList", "add", "(Ljava/lang/Object;)Z"⟩).before #[] vs_A = true := List.all_eq_true.mp vwb_2 _ (List.mem_of_getElem? (i := 22) rfl)
theorem vw_103 : (Cond.instantiable "OrderbenchModel$Shape" 3).before #[] vs_A = true := List.all_eq_true.mp vwb_2 _ (List.mem_of_getElem? (i := 23) rfl)
theorem vw_104 : (Cond.initialized "OrderbenchModel$Shape").before #[] vs_A = true := List.all_eq_true.mp vwb_2 _ (List.mem_of_getElem? (i := 24) rfl)
theorem vw_105 : (Cond.instanceMethod ⟨"OrderbenchModel$Shape", "<init>", "(CLOrderbenchModel$Shape;LOrderbenchModel$Shape;)V"⟩).before #[] vs_A = true := List.all_eq_true.mp vwb_2 _ (List.mem_of_getElem? (i := 25) rfl)
theorem vw_106 : (Cond.code ⟨"OrderbenchModel$Shape", "<init>", "(CLOrderbenchModel$Shape;LOrderbenchModel$Shape;)V"⟩ prog_11_method_1_code 4 none).before #[] vs_A = true := List.all_eq_true.mp vwb_2 _ (List.mem_of_getElem? (i := 26) rfl)
theorem vw_107 : (Cond.methodLink "OrderbenchModel" 26 ⟨"OrderbenchModel$Shape", "<init>", "(CLOrderbenchModel$Shape;LOrderbenchModel$Shape;)V"⟩).before #[] vs_A = true := List.all_eq_true.mp vwb_2 _ (List.mem_of_getElem? (i := 27) rfl)
theorem vw_108 : (Cond.instanceMethod ⟨"java/util/AbstractList", "<init>", "()V"⟩).before #[] vs_A = true := List.all_eq_true.mp vwb_2 _ (List.mem_of_getElem? (i := 28) rfl)
theorem vw_109 : (Cond.initialized "java/util/AbstractList").before #[] vs_A = true := List.all_eq_true.mp vwb_2 _ (List.mem_of_getElem? (i := 29) rfl)
theorem vw_110 : (Cond.code ⟨"java/util/AbstractList", "<init>", "()V"⟩ prog_38_method_1_code 1 none).before #[] vs_A = true := List.all_eq_true.mp vwb_2 _ (List.mem_of_getElem? (i := 30) rfl)
theorem vw_111 : (Cond.methodLink "java/util/ArrayList" 1 ⟨"java/util/AbstractList", "<init>", "()V"⟩).before #[] vs_A = true := List.all_eq_true.mp vwb_2 _ (List.mem_of_getElem? (i := 31) rfl)
theorem vw_112 : (Cond.fieldLink "java/util/ArrayList" 39 "java/util/ArrayList" "DEFAULTCAPACITY_EMPTY_ELEMENTDATA" "[Ljava/lang/Object;").before #[] vs_A = true := List.all_eq_true.mp vwb_2 _ (List.mem_of_getElem? (i := 32) rfl)
theorem vw_113 : (Cond.fieldLink "java/util/ArrayList" 9 "java/util/ArrayList" "elementData" "[Ljava/lang/Object;").before #[] vs_A = true := List.all_eq_true.mp vwb_2 _ (List.mem_of_getElem? (i := 33) rfl)
theorem vw_114 : (Cond.instanceMethod ⟨"java/util/AbstractCollection", "<init>", "()V"⟩).before #[] vs_A = true := List.all_eq_true.mp vwb_2 _ (List.mem_of_getElem? (i := 34) rfl)
theorem vw_115 : (Cond.initialized "java/util/AbstractCollection").before #[] vs_A = true := List.all_eq_true.mp vwb_2 _ (List.mem_of_getElem? (i := 35) rfl)
theorem vw_116 : (Cond.code ⟨"java/util/AbstractCollection", "<init>", "()V"⟩ prog_37_method_1_code 1 none).before #[] vs_A = true := List.all_eq_true.mp vwb_2 _ (List.mem_of_getElem? (i := 36) rfl)
theorem vw_117 : (Cond.methodLink "java/util/AbstractList" 1 ⟨"java/util/AbstractCollection", "<init>", "()V"⟩).before #[] vs_A = true := List.all_eq_true.mp vwb_2 _ (List.mem_of_getElem? (i := 37) rfl)
theorem vw_118 : (Cond.fieldLink "java/util/AbstractList" 7 "java/util/AbstractList" "modCount" "I").before #[] vs_A = true := List.all_eq_true.mp vwb_2 _ (List.mem_of_getElem? (i := 38) rfl)
theorem vw_119 : (Cond.methodLink "java/util/AbstractCollection" 1 Lib.objectInit).before #[] vs_A = true := List.all_eq_true.mp vwb_2 _ (List.mem_of_getElem? (i := 39) rfl)
def vwl_3 : List Cond := [Cond.fieldLink "java/util/ArrayList" 63 "java/util/ArrayList" "modCount" "I",
  Cond.fieldLink "java/util/ArrayList" 48 "java/util/ArrayList" "size" "I",
  Cond.instanceMethod ⟨"java/util/ArrayList", "add", "(Ljava/lang/Object;[Ljava/lang/Object;I)V"⟩,
  Cond.code ⟨"java/util/ArrayList", "add", "(Ljava/lang/Object;[Ljava/lang/Object;I)V"⟩ prog_39_method_24_code 4 none,
  Cond.methodLink "java/util/ArrayList" 131 ⟨"java/util/ArrayList", "add", "(Ljava/lang/Object;[Ljava/lang/Object;I)V"⟩,
  Cond.sameMethod "java/util/ArrayList" "java/util/ArrayList" "add" "(Ljava/lang/Object;[Ljava/lang/Object;I)V",
  Cond.selects "java/util/ArrayList" ⟨"java/util/ArrayList", "add", "(Ljava/lang/Object;[Ljava/lang/Object;I)V"⟩ ⟨"java/util/ArrayList", "add", "(Ljava/lang/Object;[Ljava/lang/Object;I)V"⟩,
  Cond.instanceMethod ⟨"java/util/ArrayList", "grow", "()[Ljava/lang/Object;"⟩,
  Cond.code ⟨"java/util/ArrayList", "grow", "()[Ljava/lang/Object;"⟩ prog_39_method_7_code 1 (some (.array (.object "java/lang/Object"))),
  Cond.methodLink "java/util/ArrayList" 129 ⟨"java/util/ArrayList", "grow", "()[Ljava/lang/Object;"⟩,
  Cond.sameMethod "java/util/ArrayList" "java/util/ArrayList" "grow" "()[Ljava/lang/Object;",
  Cond.selects "java/util/ArrayList" ⟨"java/util/ArrayList", "grow", "()[Ljava/lang/Object;"⟩ ⟨"java/util/ArrayList", "grow", "()[Ljava/lang/Object;"⟩,
  Cond.instanceMethod ⟨"java/util/ArrayList", "grow", "(I)[Ljava/lang/Object;"⟩,
  Cond.code ⟨"java/util/ArrayList", "grow", "(I)[Ljava/lang/Object;"⟩ prog_39_method_6_code 4 (some (.array (.object "java/lang/Object"))),
  Cond.methodLink "java/util/ArrayList" 69 ⟨"java/util/ArrayList", "grow", "(I)[Ljava/lang/Object;"⟩,
  Cond.sameMethod "java/util/ArrayList" "java/util/ArrayList" "grow" "(I)[Ljava/lang/Object;",
  Cond.selects "java/util/ArrayList" ⟨"java/util/ArrayList", "grow", "(I)[Ljava/lang/Object;"⟩ ⟨"java/util/ArrayList", "grow", "(I)[Ljava/lang/Object;"⟩,
  Cond.methodLink "java/util/ArrayList" 79 ⟨"java/lang/Math", "max", "(II)I"⟩,
  Cond.static ⟨"java/lang/Math", "max", "(II)I"⟩,
  Cond.initialized "java/lang/Math",
  Cond.code ⟨"java/lang/Math", "max", "(II)I"⟩ prog_25_method_65_code 2 (some .int),
  Cond.classLink "java/util/ArrayList" 7 "java/lang/Object",
  Cond.arrayOver (.object "java/lang/Object"),
  Cond.methodLink "OrderbenchModel$Shape" 1 Lib.objectInit,
  Cond.fieldLink "OrderbenchModel$Shape" 7 "OrderbenchModel$Shape" "sort" "C",
  Cond.fieldLink "OrderbenchModel$Shape" 13 "OrderbenchModel$Shape" "one" "LOrderbenchModel$Shape;",
  Cond.fieldLink "OrderbenchModel$Shape" 17 "OrderbenchModel$Shape" "other" "LOrderbenchModel$Shape;",
  Cond.methodLink "OrderbenchLaw$Out" 1 Lib.objectInit,
  Cond.instanceMethod ⟨"Orderbench", "turn", "(II)I"⟩,
  Cond.code ⟨"Orderbench", "turn", "(II)I"⟩ prog_1_method_12_code 4 (some .int),
  Cond.methodLink "OrderbenchLaw" 60 ⟨"Orderbench", "turn", "(II)I"⟩,
  Cond.sameMethod "Orderbench" "Orderbench" "turn" "(II)I",
  Cond.selects "Orderbench" ⟨"Orderbench", "turn", "(II)I"⟩ ⟨"Orderbench", "turn", "(II)I"⟩,
  Cond.fieldLinkNest "OrderbenchLaw" 13 "OrderbenchLaw$Out" "n" "J" "OrderbenchLaw",
  Cond.instanceMethod ⟨"Orderbench", "orderAt", "(I)LOrderbench$Shape;"⟩,
  Cond.code ⟨"Orderbench", "orderAt", "(I)LOrderbench$Shape;"⟩ prog_1_method_40_code 2 (some (.object "Orderbench$Shape")),
  Cond.methodLink "Orderbench" 100 ⟨"Orderbench", "orderAt", "(I)LOrderbench$Shape;"⟩,
  Cond.sameMethod "Orderbench" "Orderbench" "orderAt" "(I)LOrderbench$Shape;",
  Cond.selects "Orderbench" ⟨"Orderbench", "orderAt", "(I)LOrderbench$Shape;"⟩ ⟨"Orderbench", "orderAt", "(I)LOrderbench$Shape;"⟩,
  Cond.classLink "Orderbench" 135 "Orderbench$Turned"]
set_option maxRecDepth 100000 in
theorem vwb_3 : vwl_3.all (fun w => w.before #[] vs_A) = true := by decide +kernel
theorem vw_120 : (Cond.fieldLink "java/util/ArrayList" 63 "java/util/ArrayList" "modCount" "I").before #[] vs_A = true := List.all_eq_true.mp vwb_3 _ (List.mem_of_getElem? (i := 0) rfl)
theorem vw_121 : (Cond.fieldLink "java/util/ArrayList" 48 "java/util/ArrayList" "size" "I").before #[] vs_A = true := List.all_eq_true.mp vwb_3 _ (List.mem_of_getElem? (i := 1) rfl)
theorem vw_122 : (Cond.instanceMethod ⟨"java/util/ArrayList", "add", "(Ljava/lang/Object;[Ljava/lang/Object;I)V"⟩).before #[] vs_A = true := List.all_eq_true.mp vwb_3 _ (List.mem_of_getElem? (i := 2) rfl)
theorem vw_123 : (Cond.code ⟨"java/util/ArrayList", "add", "(Ljava/lang/Object;[Ljava/lang/Object;I)V"⟩ prog_39_method_24_code 4 none).before #[] vs_A = true := List.all_eq_true.mp vwb_3 _ (List.mem_of_getElem? (i := 3) rfl)
theorem vw_124 : (Cond.methodLink "java/util/ArrayList" 131 ⟨"java/util/ArrayList", "add", "(Ljava/lang/Object;[Ljava/lang/Object;I)V"⟩).before #[] vs_A = true := List.all_eq_true.mp vwb_3 _ (List.mem_of_getElem? (i := 4) rfl)
theorem vw_125 : (Cond.sameMethod "java/util/ArrayList" "java/util/ArrayList" "add" "(Ljava/lang/Object;[Ljava/lang/Object;I)V").before #[] vs_A = true := List.all_eq_true.mp vwb_3 _ (List.mem_of_getElem? (i := 5) rfl)
theorem vw_126 : (Cond.selects "java/util/ArrayList" ⟨"java/util/ArrayList", "add", "(Ljava/lang/Object;[Ljava/lang/Object;I)V"⟩ ⟨"java/util/ArrayList", "add", "(Ljava/lang/Object;[Ljava/lang/Object;I)V"⟩).before #[] vs_A = true := List.all_eq_true.mp vwb_3 _ (List.mem_of_getElem? (i := 6) rfl)
theorem vw_127 : (Cond.instanceMethod ⟨"java/util/ArrayList", "grow", "()[Ljava/lang/Object;"⟩).before #[] vs_A = true := List.all_eq_true.mp vwb_3 _ (List.mem_of_getElem? (i := 7) rfl)
theorem vw_128 : (Cond.code ⟨"java/util/ArrayList", "grow", "()[Ljava/lang/Object;"⟩ prog_39_method_7_code 1 (some (.array (.object "java/lang/Object")))).before #[] vs_A = true := List.all_eq_true.mp vwb_3 _ (List.mem_of_getElem? (i := 8) rfl)
theorem vw_129 : (Cond.methodLink "java/util/ArrayList" 129 ⟨"java/util/ArrayList", "grow", "()[Ljava/lang/Object;"⟩).before #[] vs_A = true := List.all_eq_true.mp vwb_3 _ (List.mem_of_getElem? (i := 9) rfl)
theorem vw_130 : (Cond.sameMethod "java/util/ArrayList" "java/util/ArrayList" "grow" "()[Ljava/lang/Object;").before #[] vs_A = true := List.all_eq_true.mp vwb_3 _ (List.mem_of_getElem? (i := 10) rfl)
theorem vw_131 : (Cond.selects "java/util/ArrayList" ⟨"java/util/ArrayList", "grow", "()[Ljava/lang/Object;"⟩ ⟨"java/util/ArrayList", "grow", "()[Ljava/lang/Object;"⟩).before #[] vs_A = true := List.all_eq_true.mp vwb_3 _ (List.mem_of_getElem? (i := 11) rfl)
theorem vw_132 : (Cond.instanceMethod ⟨"java/util/ArrayList", "grow", "(I)[Ljava/lang/Object;"⟩).before #[] vs_A = true := List.all_eq_true.mp vwb_3 _ (List.mem_of_getElem? (i := 12) rfl)
theorem vw_133 : (Cond.code ⟨"java/util/ArrayList", "grow", "(I)[Ljava/lang/Object;"⟩ prog_39_method_6_code 4 (some (.array (.object "java/lang/Object")))).before #[] vs_A = true := List.all_eq_true.mp vwb_3 _ (List.mem_of_getElem? (i := 13) rfl)
theorem vw_134 : (Cond.methodLink "java/util/ArrayList" 69 ⟨"java/util/ArrayList", "grow", "(I)[Ljava/lang/Object;"⟩).before #[] vs_A = true := List.all_eq_true.mp vwb_3 _ (List.mem_of_getElem? (i := 14) rfl)
theorem vw_135 : (Cond.sameMethod "java/util/ArrayList" "java/util/ArrayList" "grow" "(I)[Ljava/lang/Object;").before #[] vs_A = true := List.all_eq_true.mp vwb_3 _ (List.mem_of_getElem? (i := 15) rfl)
theorem vw_136 : (Cond.selects "java/util/ArrayList" ⟨"java/util/ArrayList", "grow", "(I)[Ljava/lang/Object;"⟩ ⟨"java/util/ArrayList", "grow", "(I)[Ljava/lang/Object;"⟩).before #[] vs_A = true := List.all_eq_true.mp vwb_3 _ (List.mem_of_getElem? (i := 16) rfl)
theorem vw_137 : (Cond.methodLink "java/util/ArrayList" 79 ⟨"java/lang/Math", "max", "(II)I"⟩).before #[] vs_A = true := List.all_eq_true.mp vwb_3 _ (List.mem_of_getElem? (i := 17) rfl)
theorem vw_138 : (Cond.static ⟨"java/lang/Math", "max", "(II)I"⟩).before #[] vs_A = true := List.all_eq_true.mp vwb_3 _ (List.mem_of_getElem? (i := 18) rfl)
theorem vw_139 : (Cond.initialized "java/lang/Math").before #[] vs_A = true := List.all_eq_true.mp vwb_3 _ (List.mem_of_getElem? (i := 19) rfl)
theorem vw_140 : (Cond.code ⟨"java/lang/Math", "max", "(II)I"⟩ prog_25_method_65_code 2 (some .int)).before #[] vs_A = true := List.all_eq_true.mp vwb_3 _ (List.mem_of_getElem? (i := 20) rfl)
theorem vw_141 : (Cond.classLink "java/util/ArrayList" 7 "java/lang/Object").before #[] vs_A = true := List.all_eq_true.mp vwb_3 _ (List.mem_of_getElem? (i := 21) rfl)
theorem vw_142 : (Cond.arrayOver (.object "java/lang/Object")).before #[] vs_A = true := List.all_eq_true.mp vwb_3 _ (List.mem_of_getElem? (i := 22) rfl)
theorem vw_143 : (Cond.methodLink "OrderbenchModel$Shape" 1 Lib.objectInit).before #[] vs_A = true := List.all_eq_true.mp vwb_3 _ (List.mem_of_getElem? (i := 23) rfl)
theorem vw_144 : (Cond.fieldLink "OrderbenchModel$Shape" 7 "OrderbenchModel$Shape" "sort" "C").before #[] vs_A = true := List.all_eq_true.mp vwb_3 _ (List.mem_of_getElem? (i := 24) rfl)
theorem vw_145 : (Cond.fieldLink "OrderbenchModel$Shape" 13 "OrderbenchModel$Shape" "one" "LOrderbenchModel$Shape;").before #[] vs_A = true := List.all_eq_true.mp vwb_3 _ (List.mem_of_getElem? (i := 25) rfl)
theorem vw_146 : (Cond.fieldLink "OrderbenchModel$Shape" 17 "OrderbenchModel$Shape" "other" "LOrderbenchModel$Shape;").before #[] vs_A = true := List.all_eq_true.mp vwb_3 _ (List.mem_of_getElem? (i := 26) rfl)
theorem vw_147 : (Cond.methodLink "OrderbenchLaw$Out" 1 Lib.objectInit).before #[] vs_A = true := List.all_eq_true.mp vwb_3 _ (List.mem_of_getElem? (i := 27) rfl)
theorem vw_148 : (Cond.instanceMethod ⟨"Orderbench", "turn", "(II)I"⟩).before #[] vs_A = true := List.all_eq_true.mp vwb_3 _ (List.mem_of_getElem? (i := 28) rfl)
theorem vw_149 : (Cond.code ⟨"Orderbench", "turn", "(II)I"⟩ prog_1_method_12_code 4 (some .int)).before #[] vs_A = true := List.all_eq_true.mp vwb_3 _ (List.mem_of_getElem? (i := 29) rfl)
theorem vw_150 : (Cond.methodLink "OrderbenchLaw" 60 ⟨"Orderbench", "turn", "(II)I"⟩).before #[] vs_A = true := List.all_eq_true.mp vwb_3 _ (List.mem_of_getElem? (i := 30) rfl)
theorem vw_151 : (Cond.sameMethod "Orderbench" "Orderbench" "turn" "(II)I").before #[] vs_A = true := List.all_eq_true.mp vwb_3 _ (List.mem_of_getElem? (i := 31) rfl)
theorem vw_152 : (Cond.selects "Orderbench" ⟨"Orderbench", "turn", "(II)I"⟩ ⟨"Orderbench", "turn", "(II)I"⟩).before #[] vs_A = true := List.all_eq_true.mp vwb_3 _ (List.mem_of_getElem? (i := 32) rfl)
theorem vw_153 : (Cond.fieldLinkNest "OrderbenchLaw" 13 "OrderbenchLaw$Out" "n" "J" "OrderbenchLaw").before #[] vs_A = true := List.all_eq_true.mp vwb_3 _ (List.mem_of_getElem? (i := 33) rfl)
theorem vw_154 : (Cond.instanceMethod ⟨"Orderbench", "orderAt", "(I)LOrderbench$Shape;"⟩).before #[] vs_A = true := List.all_eq_true.mp vwb_3 _ (List.mem_of_getElem? (i := 34) rfl)
theorem vw_155 : (Cond.code ⟨"Orderbench", "orderAt", "(I)LOrderbench$Shape;"⟩ prog_1_method_40_code 2 (some (.object "Orderbench$Shape"))).before #[] vs_A = true := List.all_eq_true.mp vwb_3 _ (List.mem_of_getElem? (i := 35) rfl)
theorem vw_156 : (Cond.methodLink "Orderbench" 100 ⟨"Orderbench", "orderAt", "(I)LOrderbench$Shape;"⟩).before #[] vs_A = true := List.all_eq_true.mp vwb_3 _ (List.mem_of_getElem? (i := 36) rfl)
theorem vw_157 : (Cond.sameMethod "Orderbench" "Orderbench" "orderAt" "(I)LOrderbench$Shape;").before #[] vs_A = true := List.all_eq_true.mp vwb_3 _ (List.mem_of_getElem? (i := 37) rfl)
theorem vw_158 : (Cond.selects "Orderbench" ⟨"Orderbench", "orderAt", "(I)LOrderbench$Shape;"⟩ ⟨"Orderbench", "orderAt", "(I)LOrderbench$Shape;"⟩).before #[] vs_A = true := List.all_eq_true.mp vwb_3 _ (List.mem_of_getElem? (i := 38) rfl)
theorem vw_159 : (Cond.classLink "Orderbench" 135 "Orderbench$Turned").before #[] vs_A = true := List.all_eq_true.mp vwb_3 _ (List.mem_of_getElem? (i := 39) rfl)
def vwl_4 : List Cond := [Cond.instantiable "Orderbench$Turned" 3,
  Cond.initialized "Orderbench$Turned",
  Cond.instanceMethod ⟨"Orderbench$Turned", "<init>", "(LOrderbench$Shape;)V"⟩,
  Cond.code ⟨"Orderbench$Turned", "<init>", "(LOrderbench$Shape;)V"⟩ prog_7_method_1_code 2 none,
  Cond.methodLink "Orderbench" 137 ⟨"Orderbench$Turned", "<init>", "(LOrderbench$Shape;)V"⟩,
  Cond.methodLink "Orderbench" 139 ⟨"Orderbench", "needSize", "(LOrderbench$Shape;)V"⟩,
  Cond.static ⟨"Orderbench", "needSize", "(LOrderbench$Shape;)V"⟩,
  Cond.code ⟨"Orderbench", "needSize", "(LOrderbench$Shape;)V"⟩ prog_1_method_45_code 1 none,
  Cond.instanceMethod ⟨"Orderbench", "makeOrder", "(ILOrderbench$Shape;)I"⟩,
  Cond.code ⟨"Orderbench", "makeOrder", "(ILOrderbench$Shape;)I"⟩ prog_1_method_52_code 3 (some .int),
  Cond.methodLink "Orderbench" 129 ⟨"Orderbench", "makeOrder", "(ILOrderbench$Shape;)I"⟩,
  Cond.sameMethod "Orderbench" "Orderbench" "makeOrder" "(ILOrderbench$Shape;)I",
  Cond.selects "Orderbench" ⟨"Orderbench", "makeOrder", "(ILOrderbench$Shape;)I"⟩ ⟨"Orderbench", "makeOrder", "(ILOrderbench$Shape;)I"⟩,
  Cond.fieldLink "Orderbench$Turned" 3 "Orderbench$Shape" "length" "I",
  Cond.fieldLink "Orderbench$Turned" 9 "Orderbench$Shape" "safe" "Z",
  Cond.methodLink "Orderbench$Turned" 13 ⟨"Orderbench$Shape", "<init>", "(IZ)V"⟩,
  Cond.fieldLink "Orderbench$Turned" 17 "Orderbench$Turned" "of" "LOrderbench$Shape;",
  Cond.fieldLink "Orderbench" 133 "Orderbench$Shape" "length" "I",
  Cond.methodLink "OrderbenchModel" 130 ⟨"OrderbenchModel", "isNoOrder", "(I)Z"⟩,
  Cond.static ⟨"OrderbenchModel", "isNoOrder", "(I)Z"⟩,
  Cond.code ⟨"OrderbenchModel", "isNoOrder", "(I)Z"⟩ prog_10_method_8_code 1 (some .boolean),
  Cond.instanceMethod ⟨"OrderbenchModel", "fails", "(ZZ)Z"⟩,
  Cond.code ⟨"OrderbenchModel", "fails", "(ZZ)Z"⟩ prog_10_method_4_code 3 (some .boolean),
  Cond.methodLink "OrderbenchModel" 94 ⟨"OrderbenchModel", "fails", "(ZZ)Z"⟩,
  Cond.sameMethod "OrderbenchModel" "OrderbenchModel" "fails" "(ZZ)Z",
  Cond.selects "OrderbenchModel" ⟨"OrderbenchModel", "fails", "(ZZ)Z"⟩ ⟨"OrderbenchModel", "fails", "(ZZ)Z"⟩,
  Cond.instanceMethod ⟨"OrderbenchModel", "become", "(ILOrderbenchModel$Shape;)I"⟩,
  Cond.code ⟨"OrderbenchModel", "become", "(ILOrderbenchModel$Shape;)I"⟩ prog_10_method_29_code 3 (some .int),
  Cond.methodLink "OrderbenchModel" 163 ⟨"OrderbenchModel", "become", "(ILOrderbenchModel$Shape;)I"⟩,
  Cond.sameMethod "OrderbenchModel" "OrderbenchModel" "become" "(ILOrderbenchModel$Shape;)I",
  Cond.selects "OrderbenchModel" ⟨"OrderbenchModel", "become", "(ILOrderbenchModel$Shape;)I"⟩ ⟨"OrderbenchModel", "become", "(ILOrderbenchModel$Shape;)I"⟩,
  Cond.methodLink "OrderbenchModel" 37 ⟨"OrderbenchModel", "isIn", "(III)Z"⟩,
  Cond.static ⟨"OrderbenchModel", "isIn", "(III)Z"⟩,
  Cond.code ⟨"OrderbenchModel", "isIn", "(III)Z"⟩ prog_10_method_5_code 3 (some .boolean),
  Cond.instanceMethod ⟨"OrderbenchModel", "fails", "(ZZZ)Z"⟩,
  Cond.code ⟨"OrderbenchModel", "fails", "(ZZZ)Z"⟩ prog_10_method_3_code 4 (some .boolean),
  Cond.methodLink "OrderbenchModel" 33 ⟨"OrderbenchModel", "fails", "(ZZZ)Z"⟩,
  Cond.sameMethod "OrderbenchModel" "OrderbenchModel" "fails" "(ZZZ)Z",
  Cond.selects "OrderbenchModel" ⟨"OrderbenchModel", "fails", "(ZZZ)Z"⟩ ⟨"OrderbenchModel", "fails", "(ZZZ)Z"⟩,
  Cond.fieldLink "OrderbenchModel" 29 "OrderbenchModel" "thrown" "I"]
set_option maxRecDepth 100000 in
theorem vwb_4 : vwl_4.all (fun w => w.before #[] vs_A) = true := by decide +kernel
theorem vw_160 : (Cond.instantiable "Orderbench$Turned" 3).before #[] vs_A = true := List.all_eq_true.mp vwb_4 _ (List.mem_of_getElem? (i := 0) rfl)
theorem vw_161 : (Cond.initialized "Orderbench$Turned").before #[] vs_A = true := List.all_eq_true.mp vwb_4 _ (List.mem_of_getElem? (i := 1) rfl)
theorem vw_162 : (Cond.instanceMethod ⟨"Orderbench$Turned", "<init>", "(LOrderbench$Shape;)V"⟩).before #[] vs_A = true := List.all_eq_true.mp vwb_4 _ (List.mem_of_getElem? (i := 2) rfl)
theorem vw_163 : (Cond.code ⟨"Orderbench$Turned", "<init>", "(LOrderbench$Shape;)V"⟩ prog_7_method_1_code 2 none).before #[] vs_A = true := List.all_eq_true.mp vwb_4 _ (List.mem_of_getElem? (i := 3) rfl)
theorem vw_164 : (Cond.methodLink "Orderbench" 137 ⟨"Orderbench$Turned", "<init>", "(LOrderbench$Shape;)V"⟩).before #[] vs_A = true := List.all_eq_true.mp vwb_4 _ (List.mem_of_getElem? (i := 4) rfl)
theorem vw_165 : (Cond.methodLink "Orderbench" 139 ⟨"Orderbench", "needSize", "(LOrderbench$Shape;)V"⟩).before #[] vs_A = true := List.all_eq_true.mp vwb_4 _ (List.mem_of_getElem? (i := 5) rfl)
theorem vw_166 : (Cond.static ⟨"Orderbench", "needSize", "(LOrderbench$Shape;)V"⟩).before #[] vs_A = true := List.all_eq_true.mp vwb_4 _ (List.mem_of_getElem? (i := 6) rfl)
theorem vw_167 : (Cond.code ⟨"Orderbench", "needSize", "(LOrderbench$Shape;)V"⟩ prog_1_method_45_code 1 none).before #[] vs_A = true := List.all_eq_true.mp vwb_4 _ (List.mem_of_getElem? (i := 7) rfl)
theorem vw_168 : (Cond.instanceMethod ⟨"Orderbench", "makeOrder", "(ILOrderbench$Shape;)I"⟩).before #[] vs_A = true := List.all_eq_true.mp vwb_4 _ (List.mem_of_getElem? (i := 8) rfl)
theorem vw_169 : (Cond.code ⟨"Orderbench", "makeOrder", "(ILOrderbench$Shape;)I"⟩ prog_1_method_52_code 3 (some .int)).before #[] vs_A = true := List.all_eq_true.mp vwb_4 _ (List.mem_of_getElem? (i := 9) rfl)
theorem vw_170 : (Cond.methodLink "Orderbench" 129 ⟨"Orderbench", "makeOrder", "(ILOrderbench$Shape;)I"⟩).before #[] vs_A = true := List.all_eq_true.mp vwb_4 _ (List.mem_of_getElem? (i := 10) rfl)
theorem vw_171 : (Cond.sameMethod "Orderbench" "Orderbench" "makeOrder" "(ILOrderbench$Shape;)I").before #[] vs_A = true := List.all_eq_true.mp vwb_4 _ (List.mem_of_getElem? (i := 11) rfl)
theorem vw_172 : (Cond.selects "Orderbench" ⟨"Orderbench", "makeOrder", "(ILOrderbench$Shape;)I"⟩ ⟨"Orderbench", "makeOrder", "(ILOrderbench$Shape;)I"⟩).before #[] vs_A = true := List.all_eq_true.mp vwb_4 _ (List.mem_of_getElem? (i := 12) rfl)
theorem vw_173 : (Cond.fieldLink "Orderbench$Turned" 3 "Orderbench$Shape" "length" "I").before #[] vs_A = true := List.all_eq_true.mp vwb_4 _ (List.mem_of_getElem? (i := 13) rfl)
theorem vw_174 : (Cond.fieldLink "Orderbench$Turned" 9 "Orderbench$Shape" "safe" "Z").before #[] vs_A = true := List.all_eq_true.mp vwb_4 _ (List.mem_of_getElem? (i := 14) rfl)
theorem vw_175 : (Cond.methodLink "Orderbench$Turned" 13 ⟨"Orderbench$Shape", "<init>", "(IZ)V"⟩).before #[] vs_A = true := List.all_eq_true.mp vwb_4 _ (List.mem_of_getElem? (i := 15) rfl)
theorem vw_176 : (Cond.fieldLink "Orderbench$Turned" 17 "Orderbench$Turned" "of" "LOrderbench$Shape;").before #[] vs_A = true := List.all_eq_true.mp vwb_4 _ (List.mem_of_getElem? (i := 16) rfl)
theorem vw_177 : (Cond.fieldLink "Orderbench" 133 "Orderbench$Shape" "length" "I").before #[] vs_A = true := List.all_eq_true.mp vwb_4 _ (List.mem_of_getElem? (i := 17) rfl)
theorem vw_178 : (Cond.methodLink "OrderbenchModel" 130 ⟨"OrderbenchModel", "isNoOrder", "(I)Z"⟩).before #[] vs_A = true := List.all_eq_true.mp vwb_4 _ (List.mem_of_getElem? (i := 18) rfl)
theorem vw_179 : (Cond.static ⟨"OrderbenchModel", "isNoOrder", "(I)Z"⟩).before #[] vs_A = true := List.all_eq_true.mp vwb_4 _ (List.mem_of_getElem? (i := 19) rfl)
theorem vw_180 : (Cond.code ⟨"OrderbenchModel", "isNoOrder", "(I)Z"⟩ prog_10_method_8_code 1 (some .boolean)).before #[] vs_A = true := List.all_eq_true.mp vwb_4 _ (List.mem_of_getElem? (i := 20) rfl)
theorem vw_181 : (Cond.instanceMethod ⟨"OrderbenchModel", "fails", "(ZZ)Z"⟩).before #[] vs_A = true := List.all_eq_true.mp vwb_4 _ (List.mem_of_getElem? (i := 21) rfl)
theorem vw_182 : (Cond.code ⟨"OrderbenchModel", "fails", "(ZZ)Z"⟩ prog_10_method_4_code 3 (some .boolean)).before #[] vs_A = true := List.all_eq_true.mp vwb_4 _ (List.mem_of_getElem? (i := 22) rfl)
theorem vw_183 : (Cond.methodLink "OrderbenchModel" 94 ⟨"OrderbenchModel", "fails", "(ZZ)Z"⟩).before #[] vs_A = true := List.all_eq_true.mp vwb_4 _ (List.mem_of_getElem? (i := 23) rfl)
theorem vw_184 : (Cond.sameMethod "OrderbenchModel" "OrderbenchModel" "fails" "(ZZ)Z").before #[] vs_A = true := List.all_eq_true.mp vwb_4 _ (List.mem_of_getElem? (i := 24) rfl)
theorem vw_185 : (Cond.selects "OrderbenchModel" ⟨"OrderbenchModel", "fails", "(ZZ)Z"⟩ ⟨"OrderbenchModel", "fails", "(ZZ)Z"⟩).before #[] vs_A = true := List.all_eq_true.mp vwb_4 _ (List.mem_of_getElem? (i := 25) rfl)
theorem vw_186 : (Cond.instanceMethod ⟨"OrderbenchModel", "become", "(ILOrderbenchModel$Shape;)I"⟩).before #[] vs_A = true := List.all_eq_true.mp vwb_4 _ (List.mem_of_getElem? (i := 26) rfl)
theorem vw_187 : (Cond.code ⟨"OrderbenchModel", "become", "(ILOrderbenchModel$Shape;)I"⟩ prog_10_method_29_code 3 (some .int)).before #[] vs_A = true := List.all_eq_true.mp vwb_4 _ (List.mem_of_getElem? (i := 27) rfl)
theorem vw_188 : (Cond.methodLink "OrderbenchModel" 163 ⟨"OrderbenchModel", "become", "(ILOrderbenchModel$Shape;)I"⟩).before #[] vs_A = true := List.all_eq_true.mp vwb_4 _ (List.mem_of_getElem? (i := 28) rfl)
theorem vw_189 : (Cond.sameMethod "OrderbenchModel" "OrderbenchModel" "become" "(ILOrderbenchModel$Shape;)I").before #[] vs_A = true := List.all_eq_true.mp vwb_4 _ (List.mem_of_getElem? (i := 29) rfl)
theorem vw_190 : (Cond.selects "OrderbenchModel" ⟨"OrderbenchModel", "become", "(ILOrderbenchModel$Shape;)I"⟩ ⟨"OrderbenchModel", "become", "(ILOrderbenchModel$Shape;)I"⟩).before #[] vs_A = true := List.all_eq_true.mp vwb_4 _ (List.mem_of_getElem? (i := 30) rfl)
theorem vw_191 : (Cond.methodLink "OrderbenchModel" 37 ⟨"OrderbenchModel", "isIn", "(III)Z"⟩).before #[] vs_A = true := List.all_eq_true.mp vwb_4 _ (List.mem_of_getElem? (i := 31) rfl)
theorem vw_192 : (Cond.static ⟨"OrderbenchModel", "isIn", "(III)Z"⟩).before #[] vs_A = true := List.all_eq_true.mp vwb_4 _ (List.mem_of_getElem? (i := 32) rfl)
theorem vw_193 : (Cond.code ⟨"OrderbenchModel", "isIn", "(III)Z"⟩ prog_10_method_5_code 3 (some .boolean)).before #[] vs_A = true := List.all_eq_true.mp vwb_4 _ (List.mem_of_getElem? (i := 33) rfl)
theorem vw_194 : (Cond.instanceMethod ⟨"OrderbenchModel", "fails", "(ZZZ)Z"⟩).before #[] vs_A = true := List.all_eq_true.mp vwb_4 _ (List.mem_of_getElem? (i := 34) rfl)
theorem vw_195 : (Cond.code ⟨"OrderbenchModel", "fails", "(ZZZ)Z"⟩ prog_10_method_3_code 4 (some .boolean)).before #[] vs_A = true := List.all_eq_true.mp vwb_4 _ (List.mem_of_getElem? (i := 35) rfl)
theorem vw_196 : (Cond.methodLink "OrderbenchModel" 33 ⟨"OrderbenchModel", "fails", "(ZZZ)Z"⟩).before #[] vs_A = true := List.all_eq_true.mp vwb_4 _ (List.mem_of_getElem? (i := 36) rfl)
theorem vw_197 : (Cond.sameMethod "OrderbenchModel" "OrderbenchModel" "fails" "(ZZZ)Z").before #[] vs_A = true := List.all_eq_true.mp vwb_4 _ (List.mem_of_getElem? (i := 37) rfl)
theorem vw_198 : (Cond.selects "OrderbenchModel" ⟨"OrderbenchModel", "fails", "(ZZZ)Z"⟩ ⟨"OrderbenchModel", "fails", "(ZZZ)Z"⟩).before #[] vs_A = true := List.all_eq_true.mp vwb_4 _ (List.mem_of_getElem? (i := 38) rfl)
theorem vw_199 : (Cond.fieldLink "OrderbenchModel" 29 "OrderbenchModel" "thrown" "I").before #[] vs_A = true := List.all_eq_true.mp vwb_4 _ (List.mem_of_getElem? (i := 39) rfl)
def vwl_5 : List Cond := [Cond.instanceMethod ⟨"OrderbenchModel$Shape", "text", "()Ljava/lang/String;"⟩,
  Cond.code ⟨"OrderbenchModel$Shape", "text", "()Ljava/lang/String;"⟩ prog_11_method_2_code 1 (some (.object "java/lang/String")),
  Cond.methodLink "OrderbenchModel" 146 ⟨"OrderbenchModel$Shape", "text", "()Ljava/lang/String;"⟩,
  Cond.sameMethod "OrderbenchModel$Shape" "OrderbenchModel$Shape" "text" "()Ljava/lang/String;",
  Cond.selects "OrderbenchModel$Shape" ⟨"OrderbenchModel$Shape", "text", "()Ljava/lang/String;"⟩ ⟨"OrderbenchModel$Shape", "text", "()Ljava/lang/String;"⟩,
  Cond.instanceMethod ⟨"java/lang/String", "length", "()I"⟩,
  Cond.initialized "java/lang/String",
  Cond.code ⟨"java/lang/String", "length", "()I"⟩ prog_28_method_54_code 1 (some .int),
  Cond.methodLink "OrderbenchModel" 149 ⟨"java/lang/String", "length", "()I"⟩,
  Cond.sameMethod "java/lang/String" "java/lang/String" "length" "()I",
  Cond.selects "java/lang/String" ⟨"java/lang/String", "length", "()I"⟩ ⟨"java/lang/String", "length", "()I"⟩,
  Cond.instanceMethod ⟨"OrderbenchModel", "sizeOf", "(I)I"⟩,
  Cond.code ⟨"OrderbenchModel", "sizeOf", "(I)I"⟩ prog_10_method_27_code 2 (some .int),
  Cond.methodLink "OrderbenchModel" 154 ⟨"OrderbenchModel", "sizeOf", "(I)I"⟩,
  Cond.sameMethod "OrderbenchModel" "OrderbenchModel" "sizeOf" "(I)I",
  Cond.selects "OrderbenchModel" ⟨"OrderbenchModel", "sizeOf", "(I)I"⟩ ⟨"OrderbenchModel", "sizeOf", "(I)I"⟩,
  Cond.classLink "OrderbenchModel$Shape" 20 "java/lang/StringBuilder",
  Cond.methodLink "OrderbenchModel$Shape" 22 ⟨"java/lang/StringBuilder", "<init>", "()V"⟩,
  Cond.methodLink "OrderbenchModel$Shape" 23 ⟨"OrderbenchModel$Shape", "text", "()Ljava/lang/String;"⟩,
  Cond.instanceMethod ⟨"java/lang/StringBuilder", "append", "(Ljava/lang/String;)Ljava/lang/StringBuilder;"⟩,
  Cond.code ⟨"java/lang/StringBuilder", "append", "(Ljava/lang/String;)Ljava/lang/StringBuilder;"⟩ prog_29_method_7_code 2 (some (.object "java/lang/StringBuilder")),
  Cond.methodLink "OrderbenchModel$Shape" 27 ⟨"java/lang/StringBuilder", "append", "(Ljava/lang/String;)Ljava/lang/StringBuilder;"⟩,
  Cond.sameMethod "java/lang/StringBuilder" "java/lang/StringBuilder" "append" "(Ljava/lang/String;)Ljava/lang/StringBuilder;",
  Cond.selects "java/lang/StringBuilder" ⟨"java/lang/StringBuilder", "append", "(Ljava/lang/String;)Ljava/lang/StringBuilder;"⟩ ⟨"java/lang/StringBuilder", "append", "(Ljava/lang/String;)Ljava/lang/StringBuilder;"⟩,
  Cond.instanceMethod ⟨"java/lang/StringBuilder", "toString", "()Ljava/lang/String;"⟩,
  Cond.code ⟨"java/lang/StringBuilder", "toString", "()Ljava/lang/String;"⟩ prog_29_method_42_code 1 (some (.object "java/lang/String")),
  Cond.methodLink "OrderbenchModel$Shape" 33 ⟨"java/lang/StringBuilder", "toString", "()Ljava/lang/String;"⟩,
  Cond.sameMethod "java/lang/StringBuilder" "java/lang/StringBuilder" "toString" "()Ljava/lang/String;",
  Cond.selects "java/lang/StringBuilder" ⟨"java/lang/StringBuilder", "toString", "()Ljava/lang/String;"⟩ ⟨"java/lang/StringBuilder", "toString", "()Ljava/lang/String;"⟩,
  Cond.instanceMethod ⟨"java/lang/StringBuilder", "append", "(C)Ljava/lang/StringBuilder;"⟩,
  Cond.code ⟨"java/lang/StringBuilder", "append", "(C)Ljava/lang/StringBuilder;"⟩ prog_29_method_14_code 2 (some (.object "java/lang/StringBuilder")),
  Cond.methodLink "OrderbenchModel$Shape" 42 ⟨"java/lang/StringBuilder", "append", "(C)Ljava/lang/StringBuilder;"⟩,
  Cond.sameMethod "java/lang/StringBuilder" "java/lang/StringBuilder" "append" "(C)Ljava/lang/StringBuilder;",
  Cond.selects "java/lang/StringBuilder" ⟨"java/lang/StringBuilder", "append", "(C)Ljava/lang/StringBuilder;"⟩ ⟨"java/lang/StringBuilder", "append", "(C)Ljava/lang/StringBuilder;"⟩,
  Cond.instanceMethod ⟨"java/lang/AbstractStringBuilder", "append", "(C)Ljava/lang/AbstractStringBuilder;"⟩,
  Cond.code ⟨"java/lang/AbstractStringBuilder", "append", "(C)Ljava/lang/AbstractStringBuilder;"⟩ prog_13_method_31_code 2 (some (.object "java/lang/AbstractStringBuilder")),
  Cond.methodLink "java/lang/StringBuilder" 50 ⟨"java/lang/AbstractStringBuilder", "append", "(C)Ljava/lang/AbstractStringBuilder;"⟩,
  Cond.sameMethod "java/lang/AbstractStringBuilder" "java/lang/AbstractStringBuilder" "append" "(C)Ljava/lang/AbstractStringBuilder;",
  Cond.superclass "java/lang/StringBuilder" "java/lang/AbstractStringBuilder",
  Cond.fieldLink "java/lang/AbstractStringBuilder" 79 "java/lang/AbstractStringBuilder" "count" "I"]
set_option maxRecDepth 100000 in
theorem vwb_5 : vwl_5.all (fun w => w.before #[] vs_A) = true := by decide +kernel
theorem vw_200 : (Cond.instanceMethod ⟨"OrderbenchModel$Shape", "text", "()Ljava/lang/String;"⟩).before #[] vs_A = true := List.all_eq_true.mp vwb_5 _ (List.mem_of_getElem? (i := 0) rfl)
theorem vw_201 : (Cond.code ⟨"OrderbenchModel$Shape", "text", "()Ljava/lang/String;"⟩ prog_11_method_2_code 1 (some (.object "java/lang/String"))).before #[] vs_A = true := List.all_eq_true.mp vwb_5 _ (List.mem_of_getElem? (i := 1) rfl)
theorem vw_202 : (Cond.methodLink "OrderbenchModel" 146 ⟨"OrderbenchModel$Shape", "text", "()Ljava/lang/String;"⟩).before #[] vs_A = true := List.all_eq_true.mp vwb_5 _ (List.mem_of_getElem? (i := 2) rfl)
theorem vw_203 : (Cond.sameMethod "OrderbenchModel$Shape" "OrderbenchModel$Shape" "text" "()Ljava/lang/String;").before #[] vs_A = true := List.all_eq_true.mp vwb_5 _ (List.mem_of_getElem? (i := 3) rfl)
theorem vw_204 : (Cond.selects "OrderbenchModel$Shape" ⟨"OrderbenchModel$Shape", "text", "()Ljava/lang/String;"⟩ ⟨"OrderbenchModel$Shape", "text", "()Ljava/lang/String;"⟩).before #[] vs_A = true := List.all_eq_true.mp vwb_5 _ (List.mem_of_getElem? (i := 4) rfl)
theorem vw_205 : (Cond.instanceMethod ⟨"java/lang/String", "length", "()I"⟩).before #[] vs_A = true := List.all_eq_true.mp vwb_5 _ (List.mem_of_getElem? (i := 5) rfl)
theorem vw_206 : (Cond.initialized "java/lang/String").before #[] vs_A = true := List.all_eq_true.mp vwb_5 _ (List.mem_of_getElem? (i := 6) rfl)
theorem vw_207 : (Cond.code ⟨"java/lang/String", "length", "()I"⟩ prog_28_method_54_code 1 (some .int)).before #[] vs_A = true := List.all_eq_true.mp vwb_5 _ (List.mem_of_getElem? (i := 7) rfl)
theorem vw_208 : (Cond.methodLink "OrderbenchModel" 149 ⟨"java/lang/String", "length", "()I"⟩).before #[] vs_A = true := List.all_eq_true.mp vwb_5 _ (List.mem_of_getElem? (i := 8) rfl)
theorem vw_209 : (Cond.sameMethod "java/lang/String" "java/lang/String" "length" "()I").before #[] vs_A = true := List.all_eq_true.mp vwb_5 _ (List.mem_of_getElem? (i := 9) rfl)
theorem vw_210 : (Cond.selects "java/lang/String" ⟨"java/lang/String", "length", "()I"⟩ ⟨"java/lang/String", "length", "()I"⟩).before #[] vs_A = true := List.all_eq_true.mp vwb_5 _ (List.mem_of_getElem? (i := 10) rfl)
theorem vw_211 : (Cond.instanceMethod ⟨"OrderbenchModel", "sizeOf", "(I)I"⟩).before #[] vs_A = true := List.all_eq_true.mp vwb_5 _ (List.mem_of_getElem? (i := 11) rfl)
theorem vw_212 : (Cond.code ⟨"OrderbenchModel", "sizeOf", "(I)I"⟩ prog_10_method_27_code 2 (some .int)).before #[] vs_A = true := List.all_eq_true.mp vwb_5 _ (List.mem_of_getElem? (i := 12) rfl)
theorem vw_213 : (Cond.methodLink "OrderbenchModel" 154 ⟨"OrderbenchModel", "sizeOf", "(I)I"⟩).before #[] vs_A = true := List.all_eq_true.mp vwb_5 _ (List.mem_of_getElem? (i := 13) rfl)
theorem vw_214 : (Cond.sameMethod "OrderbenchModel" "OrderbenchModel" "sizeOf" "(I)I").before #[] vs_A = true := List.all_eq_true.mp vwb_5 _ (List.mem_of_getElem? (i := 14) rfl)
theorem vw_215 : (Cond.selects "OrderbenchModel" ⟨"OrderbenchModel", "sizeOf", "(I)I"⟩ ⟨"OrderbenchModel", "sizeOf", "(I)I"⟩).before #[] vs_A = true := List.all_eq_true.mp vwb_5 _ (List.mem_of_getElem? (i := 15) rfl)
theorem vw_216 : (Cond.classLink "OrderbenchModel$Shape" 20 "java/lang/StringBuilder").before #[] vs_A = true := List.all_eq_true.mp vwb_5 _ (List.mem_of_getElem? (i := 16) rfl)
theorem vw_217 : (Cond.methodLink "OrderbenchModel$Shape" 22 ⟨"java/lang/StringBuilder", "<init>", "()V"⟩).before #[] vs_A = true := List.all_eq_true.mp vwb_5 _ (List.mem_of_getElem? (i := 17) rfl)
theorem vw_218 : (Cond.methodLink "OrderbenchModel$Shape" 23 ⟨"OrderbenchModel$Shape", "text", "()Ljava/lang/String;"⟩).before #[] vs_A = true := List.all_eq_true.mp vwb_5 _ (List.mem_of_getElem? (i := 18) rfl)
theorem vw_219 : (Cond.instanceMethod ⟨"java/lang/StringBuilder", "append", "(Ljava/lang/String;)Ljava/lang/StringBuilder;"⟩).before #[] vs_A = true := List.all_eq_true.mp vwb_5 _ (List.mem_of_getElem? (i := 19) rfl)
theorem vw_220 : (Cond.code ⟨"java/lang/StringBuilder", "append", "(Ljava/lang/String;)Ljava/lang/StringBuilder;"⟩ prog_29_method_7_code 2 (some (.object "java/lang/StringBuilder"))).before #[] vs_A = true := List.all_eq_true.mp vwb_5 _ (List.mem_of_getElem? (i := 20) rfl)
theorem vw_221 : (Cond.methodLink "OrderbenchModel$Shape" 27 ⟨"java/lang/StringBuilder", "append", "(Ljava/lang/String;)Ljava/lang/StringBuilder;"⟩).before #[] vs_A = true := List.all_eq_true.mp vwb_5 _ (List.mem_of_getElem? (i := 21) rfl)
theorem vw_222 : (Cond.sameMethod "java/lang/StringBuilder" "java/lang/StringBuilder" "append" "(Ljava/lang/String;)Ljava/lang/StringBuilder;").before #[] vs_A = true := List.all_eq_true.mp vwb_5 _ (List.mem_of_getElem? (i := 22) rfl)
theorem vw_223 : (Cond.selects "java/lang/StringBuilder" ⟨"java/lang/StringBuilder", "append", "(Ljava/lang/String;)Ljava/lang/StringBuilder;"⟩ ⟨"java/lang/StringBuilder", "append", "(Ljava/lang/String;)Ljava/lang/StringBuilder;"⟩).before #[] vs_A = true := List.all_eq_true.mp vwb_5 _ (List.mem_of_getElem? (i := 23) rfl)
theorem vw_224 : (Cond.instanceMethod ⟨"java/lang/StringBuilder", "toString", "()Ljava/lang/String;"⟩).before #[] vs_A = true := List.all_eq_true.mp vwb_5 _ (List.mem_of_getElem? (i := 24) rfl)
theorem vw_225 : (Cond.code ⟨"java/lang/StringBuilder", "toString", "()Ljava/lang/String;"⟩ prog_29_method_42_code 1 (some (.object "java/lang/String"))).before #[] vs_A = true := List.all_eq_true.mp vwb_5 _ (List.mem_of_getElem? (i := 25) rfl)
theorem vw_226 : (Cond.methodLink "OrderbenchModel$Shape" 33 ⟨"java/lang/StringBuilder", "toString", "()Ljava/lang/String;"⟩).before #[] vs_A = true := List.all_eq_true.mp vwb_5 _ (List.mem_of_getElem? (i := 26) rfl)
theorem vw_227 : (Cond.sameMethod "java/lang/StringBuilder" "java/lang/StringBuilder" "toString" "()Ljava/lang/String;").before #[] vs_A = true := List.all_eq_true.mp vwb_5 _ (List.mem_of_getElem? (i := 27) rfl)
theorem vw_228 : (Cond.selects "java/lang/StringBuilder" ⟨"java/lang/StringBuilder", "toString", "()Ljava/lang/String;"⟩ ⟨"java/lang/StringBuilder", "toString", "()Ljava/lang/String;"⟩).before #[] vs_A = true := List.all_eq_true.mp vwb_5 _ (List.mem_of_getElem? (i := 28) rfl)
theorem vw_229 : (Cond.instanceMethod ⟨"java/lang/StringBuilder", "append", "(C)Ljava/lang/StringBuilder;"⟩).before #[] vs_A = true := List.all_eq_true.mp vwb_5 _ (List.mem_of_getElem? (i := 29) rfl)
theorem vw_230 : (Cond.code ⟨"java/lang/StringBuilder", "append", "(C)Ljava/lang/StringBuilder;"⟩ prog_29_method_14_code 2 (some (.object "java/lang/StringBuilder"))).before #[] vs_A = true := List.all_eq_true.mp vwb_5 _ (List.mem_of_getElem? (i := 30) rfl)
theorem vw_231 : (Cond.methodLink "OrderbenchModel$Shape" 42 ⟨"java/lang/StringBuilder", "append", "(C)Ljava/lang/StringBuilder;"⟩).before #[] vs_A = true := List.all_eq_true.mp vwb_5 _ (List.mem_of_getElem? (i := 31) rfl)
theorem vw_232 : (Cond.sameMethod "java/lang/StringBuilder" "java/lang/StringBuilder" "append" "(C)Ljava/lang/StringBuilder;").before #[] vs_A = true := List.all_eq_true.mp vwb_5 _ (List.mem_of_getElem? (i := 32) rfl)
theorem vw_233 : (Cond.selects "java/lang/StringBuilder" ⟨"java/lang/StringBuilder", "append", "(C)Ljava/lang/StringBuilder;"⟩ ⟨"java/lang/StringBuilder", "append", "(C)Ljava/lang/StringBuilder;"⟩).before #[] vs_A = true := List.all_eq_true.mp vwb_5 _ (List.mem_of_getElem? (i := 33) rfl)
theorem vw_234 : (Cond.instanceMethod ⟨"java/lang/AbstractStringBuilder", "append", "(C)Ljava/lang/AbstractStringBuilder;"⟩).before #[] vs_A = true := List.all_eq_true.mp vwb_5 _ (List.mem_of_getElem? (i := 34) rfl)
theorem vw_235 : (Cond.code ⟨"java/lang/AbstractStringBuilder", "append", "(C)Ljava/lang/AbstractStringBuilder;"⟩ prog_13_method_31_code 2 (some (.object "java/lang/AbstractStringBuilder"))).before #[] vs_A = true := List.all_eq_true.mp vwb_5 _ (List.mem_of_getElem? (i := 35) rfl)
theorem vw_236 : (Cond.methodLink "java/lang/StringBuilder" 50 ⟨"java/lang/AbstractStringBuilder", "append", "(C)Ljava/lang/AbstractStringBuilder;"⟩).before #[] vs_A = true := List.all_eq_true.mp vwb_5 _ (List.mem_of_getElem? (i := 36) rfl)
theorem vw_237 : (Cond.sameMethod "java/lang/AbstractStringBuilder" "java/lang/AbstractStringBuilder" "append" "(C)Ljava/lang/AbstractStringBuilder;").before #[] vs_A = true := List.all_eq_true.mp vwb_5 _ (List.mem_of_getElem? (i := 37) rfl)
theorem vw_238 : (Cond.superclass "java/lang/StringBuilder" "java/lang/AbstractStringBuilder").before #[] vs_A = true := List.all_eq_true.mp vwb_5 _ (List.mem_of_getElem? (i := 38) rfl)
theorem vw_239 : (Cond.fieldLink "java/lang/AbstractStringBuilder" 79 "java/lang/AbstractStringBuilder" "count" "I").before #[] vs_A = true := List.all_eq_true.mp vwb_5 _ (List.mem_of_getElem? (i := 39) rfl)
def vwl_6 : List Cond := [Cond.instanceMethod ⟨"java/lang/AbstractStringBuilder", "ensureCapacityInternal", "(I)V"⟩,
  Cond.code ⟨"java/lang/AbstractStringBuilder", "ensureCapacityInternal", "(I)V"⟩ prog_13_method_9_code 3 none,
  Cond.methodLink "java/lang/AbstractStringBuilder" 100 ⟨"java/lang/AbstractStringBuilder", "ensureCapacityInternal", "(I)V"⟩,
  Cond.sameMethod "java/lang/AbstractStringBuilder" "java/lang/AbstractStringBuilder" "ensureCapacityInternal" "(I)V",
  Cond.selects "java/lang/StringBuilder" ⟨"java/lang/AbstractStringBuilder", "ensureCapacityInternal", "(I)V"⟩ ⟨"java/lang/AbstractStringBuilder", "ensureCapacityInternal", "(I)V"⟩,
  Cond.instanceMethod ⟨"java/lang/AbstractStringBuilder", "isLatin1", "()Z"⟩,
  Cond.code ⟨"java/lang/AbstractStringBuilder", "isLatin1", "()Z"⟩ prog_13_method_68_code 1 (some .boolean),
  Cond.methodLink "java/lang/AbstractStringBuilder" 83 ⟨"java/lang/AbstractStringBuilder", "isLatin1", "()Z"⟩,
  Cond.sameMethod "java/lang/AbstractStringBuilder" "java/lang/AbstractStringBuilder" "isLatin1" "()Z",
  Cond.selects "java/lang/StringBuilder" ⟨"java/lang/AbstractStringBuilder", "isLatin1", "()Z"⟩ ⟨"java/lang/AbstractStringBuilder", "isLatin1", "()Z"⟩,
  Cond.methodLink "java/lang/AbstractStringBuilder" 191 ⟨"java/lang/StringLatin1", "canEncode", "(C)Z"⟩,
  Cond.static ⟨"java/lang/StringLatin1", "canEncode", "(C)Z"⟩,
  Cond.initialized "java/lang/StringLatin1",
  Cond.code ⟨"java/lang/StringLatin1", "canEncode", "(C)Z"⟩ prog_31_method_3_code 1 (some .boolean),
  Cond.instanceMethod ⟨"java/lang/AbstractStringBuilder", "newCapacity", "(I)I"⟩,
  Cond.code ⟨"java/lang/AbstractStringBuilder", "newCapacity", "(I)I"⟩ prog_13_method_10_code 6 (some .int),
  Cond.methodLink "java/lang/AbstractStringBuilder" 104 ⟨"java/lang/AbstractStringBuilder", "newCapacity", "(I)I"⟩,
  Cond.sameMethod "java/lang/AbstractStringBuilder" "java/lang/AbstractStringBuilder" "newCapacity" "(I)I",
  Cond.selects "java/lang/StringBuilder" ⟨"java/lang/AbstractStringBuilder", "newCapacity", "(I)I"⟩ ⟨"java/lang/AbstractStringBuilder", "newCapacity", "(I)I"⟩,
  Cond.methodLink "java/lang/AbstractStringBuilder" 108 ⟨"java/util/Arrays", "copyOf", "([BI)[B"⟩,
  Cond.static ⟨"java/util/Arrays", "copyOf", "([BI)[B"⟩,
  Cond.initialized "java/util/Arrays",
  Cond.code ⟨"java/util/Arrays", "copyOf", "([BI)[B"⟩ prog_41_method_121_code 3 (some (.array .byte)),
  Cond.instanceMethod ⟨"java/lang/AbstractStringBuilder", "append", "(Ljava/lang/String;)Ljava/lang/AbstractStringBuilder;"⟩,
  Cond.code ⟨"java/lang/AbstractStringBuilder", "append", "(Ljava/lang/String;)Ljava/lang/AbstractStringBuilder;"⟩ prog_13_method_22_code 3 (some (.object "java/lang/AbstractStringBuilder")),
  Cond.methodLink "java/lang/StringBuilder" 29 ⟨"java/lang/AbstractStringBuilder", "append", "(Ljava/lang/String;)Ljava/lang/AbstractStringBuilder;"⟩,
  Cond.sameMethod "java/lang/AbstractStringBuilder" "java/lang/AbstractStringBuilder" "append" "(Ljava/lang/String;)Ljava/lang/AbstractStringBuilder;",
  Cond.methodLink "java/lang/AbstractStringBuilder" 32 ⟨"java/lang/String", "length", "()I"⟩,
  Cond.instanceMethod ⟨"java/lang/AbstractStringBuilder", "putStringAt", "(ILjava/lang/String;)V"⟩,
  Cond.code ⟨"java/lang/AbstractStringBuilder", "putStringAt", "(ILjava/lang/String;)V"⟩ prog_13_method_73_code 3 none,
  Cond.methodLink "java/lang/AbstractStringBuilder" 208 ⟨"java/lang/AbstractStringBuilder", "putStringAt", "(ILjava/lang/String;)V"⟩,
  Cond.sameMethod "java/lang/AbstractStringBuilder" "java/lang/AbstractStringBuilder" "putStringAt" "(ILjava/lang/String;)V",
  Cond.selects "java/lang/StringBuilder" ⟨"java/lang/AbstractStringBuilder", "putStringAt", "(ILjava/lang/String;)V"⟩ ⟨"java/lang/AbstractStringBuilder", "putStringAt", "(ILjava/lang/String;)V"⟩,
  Cond.fieldLink "java/lang/String" 9 "java/lang/String" "value" "[B",
  Cond.instanceMethod ⟨"java/lang/String", "coder", "()B"⟩,
  Cond.code ⟨"java/lang/String", "coder", "()B"⟩ prog_28_method_152_code 1 (some .byte),
  Cond.methodLink "java/lang/String" 335 ⟨"java/lang/String", "coder", "()B"⟩,
  Cond.sameMethod "java/lang/String" "java/lang/String" "coder" "()B",
  Cond.selects "java/lang/String" ⟨"java/lang/String", "coder", "()B"⟩ ⟨"java/lang/String", "coder", "()B"⟩,
  Cond.fieldLink "java/lang/String" 38 "java/lang/String" "COMPACT_STRINGS" "Z"]
set_option maxRecDepth 100000 in
theorem vwb_6 : vwl_6.all (fun w => w.before #[] vs_A) = true := by decide +kernel
theorem vw_240 : (Cond.instanceMethod ⟨"java/lang/AbstractStringBuilder", "ensureCapacityInternal", "(I)V"⟩).before #[] vs_A = true := List.all_eq_true.mp vwb_6 _ (List.mem_of_getElem? (i := 0) rfl)
theorem vw_241 : (Cond.code ⟨"java/lang/AbstractStringBuilder", "ensureCapacityInternal", "(I)V"⟩ prog_13_method_9_code 3 none).before #[] vs_A = true := List.all_eq_true.mp vwb_6 _ (List.mem_of_getElem? (i := 1) rfl)
theorem vw_242 : (Cond.methodLink "java/lang/AbstractStringBuilder" 100 ⟨"java/lang/AbstractStringBuilder", "ensureCapacityInternal", "(I)V"⟩).before #[] vs_A = true := List.all_eq_true.mp vwb_6 _ (List.mem_of_getElem? (i := 2) rfl)
theorem vw_243 : (Cond.sameMethod "java/lang/AbstractStringBuilder" "java/lang/AbstractStringBuilder" "ensureCapacityInternal" "(I)V").before #[] vs_A = true := List.all_eq_true.mp vwb_6 _ (List.mem_of_getElem? (i := 3) rfl)
theorem vw_244 : (Cond.selects "java/lang/StringBuilder" ⟨"java/lang/AbstractStringBuilder", "ensureCapacityInternal", "(I)V"⟩ ⟨"java/lang/AbstractStringBuilder", "ensureCapacityInternal", "(I)V"⟩).before #[] vs_A = true := List.all_eq_true.mp vwb_6 _ (List.mem_of_getElem? (i := 4) rfl)
theorem vw_245 : (Cond.instanceMethod ⟨"java/lang/AbstractStringBuilder", "isLatin1", "()Z"⟩).before #[] vs_A = true := List.all_eq_true.mp vwb_6 _ (List.mem_of_getElem? (i := 5) rfl)
theorem vw_246 : (Cond.code ⟨"java/lang/AbstractStringBuilder", "isLatin1", "()Z"⟩ prog_13_method_68_code 1 (some .boolean)).before #[] vs_A = true := List.all_eq_true.mp vwb_6 _ (List.mem_of_getElem? (i := 6) rfl)
theorem vw_247 : (Cond.methodLink "java/lang/AbstractStringBuilder" 83 ⟨"java/lang/AbstractStringBuilder", "isLatin1", "()Z"⟩).before #[] vs_A = true := List.all_eq_true.mp vwb_6 _ (List.mem_of_getElem? (i := 7) rfl)
theorem vw_248 : (Cond.sameMethod "java/lang/AbstractStringBuilder" "java/lang/AbstractStringBuilder" "isLatin1" "()Z").before #[] vs_A = true := List.all_eq_true.mp vwb_6 _ (List.mem_of_getElem? (i := 8) rfl)
theorem vw_249 : (Cond.selects "java/lang/StringBuilder" ⟨"java/lang/AbstractStringBuilder", "isLatin1", "()Z"⟩ ⟨"java/lang/AbstractStringBuilder", "isLatin1", "()Z"⟩).before #[] vs_A = true := List.all_eq_true.mp vwb_6 _ (List.mem_of_getElem? (i := 9) rfl)
theorem vw_250 : (Cond.methodLink "java/lang/AbstractStringBuilder" 191 ⟨"java/lang/StringLatin1", "canEncode", "(C)Z"⟩).before #[] vs_A = true := List.all_eq_true.mp vwb_6 _ (List.mem_of_getElem? (i := 10) rfl)
theorem vw_251 : (Cond.static ⟨"java/lang/StringLatin1", "canEncode", "(C)Z"⟩).before #[] vs_A = true := List.all_eq_true.mp vwb_6 _ (List.mem_of_getElem? (i := 11) rfl)
theorem vw_252 : (Cond.initialized "java/lang/StringLatin1").before #[] vs_A = true := List.all_eq_true.mp vwb_6 _ (List.mem_of_getElem? (i := 12) rfl)
theorem vw_253 : (Cond.code ⟨"java/lang/StringLatin1", "canEncode", "(C)Z"⟩ prog_31_method_3_code 1 (some .boolean)).before #[] vs_A = true := List.all_eq_true.mp vwb_6 _ (List.mem_of_getElem? (i := 13) rfl)
theorem vw_254 : (Cond.instanceMethod ⟨"java/lang/AbstractStringBuilder", "newCapacity", "(I)I"⟩).before #[] vs_A = true := List.all_eq_true.mp vwb_6 _ (List.mem_of_getElem? (i := 14) rfl)
theorem vw_255 : (Cond.code ⟨"java/lang/AbstractStringBuilder", "newCapacity", "(I)I"⟩ prog_13_method_10_code 6 (some .int)).before #[] vs_A = true := List.all_eq_true.mp vwb_6 _ (List.mem_of_getElem? (i := 15) rfl)
theorem vw_256 : (Cond.methodLink "java/lang/AbstractStringBuilder" 104 ⟨"java/lang/AbstractStringBuilder", "newCapacity", "(I)I"⟩).before #[] vs_A = true := List.all_eq_true.mp vwb_6 _ (List.mem_of_getElem? (i := 16) rfl)
theorem vw_257 : (Cond.sameMethod "java/lang/AbstractStringBuilder" "java/lang/AbstractStringBuilder" "newCapacity" "(I)I").before #[] vs_A = true := List.all_eq_true.mp vwb_6 _ (List.mem_of_getElem? (i := 17) rfl)
theorem vw_258 : (Cond.selects "java/lang/StringBuilder" ⟨"java/lang/AbstractStringBuilder", "newCapacity", "(I)I"⟩ ⟨"java/lang/AbstractStringBuilder", "newCapacity", "(I)I"⟩).before #[] vs_A = true := List.all_eq_true.mp vwb_6 _ (List.mem_of_getElem? (i := 18) rfl)
theorem vw_259 : (Cond.methodLink "java/lang/AbstractStringBuilder" 108 ⟨"java/util/Arrays", "copyOf", "([BI)[B"⟩).before #[] vs_A = true := List.all_eq_true.mp vwb_6 _ (List.mem_of_getElem? (i := 19) rfl)
theorem vw_260 : (Cond.static ⟨"java/util/Arrays", "copyOf", "([BI)[B"⟩).before #[] vs_A = true := List.all_eq_true.mp vwb_6 _ (List.mem_of_getElem? (i := 20) rfl)
theorem vw_261 : (Cond.initialized "java/util/Arrays").before #[] vs_A = true := List.all_eq_true.mp vwb_6 _ (List.mem_of_getElem? (i := 21) rfl)
theorem vw_262 : (Cond.code ⟨"java/util/Arrays", "copyOf", "([BI)[B"⟩ prog_41_method_121_code 3 (some (.array .byte))).before #[] vs_A = true := List.all_eq_true.mp vwb_6 _ (List.mem_of_getElem? (i := 22) rfl)
theorem vw_263 : (Cond.instanceMethod ⟨"java/lang/AbstractStringBuilder", "append", "(Ljava/lang/String;)Ljava/lang/AbstractStringBuilder;"⟩).before #[] vs_A = true := List.all_eq_true.mp vwb_6 _ (List.mem_of_getElem? (i := 23) rfl)
theorem vw_264 : (Cond.code ⟨"java/lang/AbstractStringBuilder", "append", "(Ljava/lang/String;)Ljava/lang/AbstractStringBuilder;"⟩ prog_13_method_22_code 3 (some (.object "java/lang/AbstractStringBuilder"))).before #[] vs_A = true := List.all_eq_true.mp vwb_6 _ (List.mem_of_getElem? (i := 24) rfl)
theorem vw_265 : (Cond.methodLink "java/lang/StringBuilder" 29 ⟨"java/lang/AbstractStringBuilder", "append", "(Ljava/lang/String;)Ljava/lang/AbstractStringBuilder;"⟩).before #[] vs_A = true := List.all_eq_true.mp vwb_6 _ (List.mem_of_getElem? (i := 25) rfl)
theorem vw_266 : (Cond.sameMethod "java/lang/AbstractStringBuilder" "java/lang/AbstractStringBuilder" "append" "(Ljava/lang/String;)Ljava/lang/AbstractStringBuilder;").before #[] vs_A = true := List.all_eq_true.mp vwb_6 _ (List.mem_of_getElem? (i := 26) rfl)
theorem vw_267 : (Cond.methodLink "java/lang/AbstractStringBuilder" 32 ⟨"java/lang/String", "length", "()I"⟩).before #[] vs_A = true := List.all_eq_true.mp vwb_6 _ (List.mem_of_getElem? (i := 27) rfl)
theorem vw_268 : (Cond.instanceMethod ⟨"java/lang/AbstractStringBuilder", "putStringAt", "(ILjava/lang/String;)V"⟩).before #[] vs_A = true := List.all_eq_true.mp vwb_6 _ (List.mem_of_getElem? (i := 28) rfl)
theorem vw_269 : (Cond.code ⟨"java/lang/AbstractStringBuilder", "putStringAt", "(ILjava/lang/String;)V"⟩ prog_13_method_73_code 3 none).before #[] vs_A = true := List.all_eq_true.mp vwb_6 _ (List.mem_of_getElem? (i := 29) rfl)
theorem vw_270 : (Cond.methodLink "java/lang/AbstractStringBuilder" 208 ⟨"java/lang/AbstractStringBuilder", "putStringAt", "(ILjava/lang/String;)V"⟩).before #[] vs_A = true := List.all_eq_true.mp vwb_6 _ (List.mem_of_getElem? (i := 30) rfl)
theorem vw_271 : (Cond.sameMethod "java/lang/AbstractStringBuilder" "java/lang/AbstractStringBuilder" "putStringAt" "(ILjava/lang/String;)V").before #[] vs_A = true := List.all_eq_true.mp vwb_6 _ (List.mem_of_getElem? (i := 31) rfl)
theorem vw_272 : (Cond.selects "java/lang/StringBuilder" ⟨"java/lang/AbstractStringBuilder", "putStringAt", "(ILjava/lang/String;)V"⟩ ⟨"java/lang/AbstractStringBuilder", "putStringAt", "(ILjava/lang/String;)V"⟩).before #[] vs_A = true := List.all_eq_true.mp vwb_6 _ (List.mem_of_getElem? (i := 32) rfl)
theorem vw_273 : (Cond.fieldLink "java/lang/String" 9 "java/lang/String" "value" "[B").before #[] vs_A = true := List.all_eq_true.mp vwb_6 _ (List.mem_of_getElem? (i := 33) rfl)
theorem vw_274 : (Cond.instanceMethod ⟨"java/lang/String", "coder", "()B"⟩).before #[] vs_A = true := List.all_eq_true.mp vwb_6 _ (List.mem_of_getElem? (i := 34) rfl)
theorem vw_275 : (Cond.code ⟨"java/lang/String", "coder", "()B"⟩ prog_28_method_152_code 1 (some .byte)).before #[] vs_A = true := List.all_eq_true.mp vwb_6 _ (List.mem_of_getElem? (i := 35) rfl)
theorem vw_276 : (Cond.methodLink "java/lang/String" 335 ⟨"java/lang/String", "coder", "()B"⟩).before #[] vs_A = true := List.all_eq_true.mp vwb_6 _ (List.mem_of_getElem? (i := 36) rfl)
theorem vw_277 : (Cond.sameMethod "java/lang/String" "java/lang/String" "coder" "()B").before #[] vs_A = true := List.all_eq_true.mp vwb_6 _ (List.mem_of_getElem? (i := 37) rfl)
theorem vw_278 : (Cond.selects "java/lang/String" ⟨"java/lang/String", "coder", "()B"⟩ ⟨"java/lang/String", "coder", "()B"⟩).before #[] vs_A = true := List.all_eq_true.mp vwb_6 _ (List.mem_of_getElem? (i := 38) rfl)
theorem vw_279 : (Cond.fieldLink "java/lang/String" 38 "java/lang/String" "COMPACT_STRINGS" "Z").before #[] vs_A = true := List.all_eq_true.mp vwb_6 _ (List.mem_of_getElem? (i := 39) rfl)
def vwl_7 : List Cond := [Cond.fieldLink "java/lang/String" 15 "java/lang/String" "coder" "B",
  Cond.instanceMethod ⟨"java/lang/AbstractStringBuilder", "inflateIfNeededFor", "(Ljava/lang/String;)V"⟩,
  Cond.code ⟨"java/lang/AbstractStringBuilder", "inflateIfNeededFor", "(Ljava/lang/String;)V"⟩ prog_13_method_71_code 2 none,
  Cond.methodLink "java/lang/AbstractStringBuilder" 397 ⟨"java/lang/AbstractStringBuilder", "inflateIfNeededFor", "(Ljava/lang/String;)V"⟩,
  Cond.sameMethod "java/lang/AbstractStringBuilder" "java/lang/AbstractStringBuilder" "inflateIfNeededFor" "(Ljava/lang/String;)V",
  Cond.selects "java/lang/StringBuilder" ⟨"java/lang/AbstractStringBuilder", "inflateIfNeededFor", "(Ljava/lang/String;)V"⟩ ⟨"java/lang/AbstractStringBuilder", "inflateIfNeededFor", "(Ljava/lang/String;)V"⟩,
  Cond.instanceMethod ⟨"java/lang/String", "getBytes", "([BIB)V"⟩,
  Cond.code ⟨"java/lang/String", "getBytes", "([BIB)V"⟩ prog_28_method_147_code 4 none,
  Cond.methodLink "java/lang/AbstractStringBuilder" 399 ⟨"java/lang/String", "getBytes", "([BIB)V"⟩,
  Cond.sameMethod "java/lang/String" "java/lang/String" "getBytes" "([BIB)V",
  Cond.selects "java/lang/String" ⟨"java/lang/String", "getBytes", "([BIB)V"⟩ ⟨"java/lang/String", "getBytes", "([BIB)V"⟩,
  Cond.methodLink "java/lang/AbstractStringBuilder" 40 ⟨"java/lang/String", "coder", "()B"⟩,
  Cond.methodLink "java/lang/String" 212 arraycopyName,
  Cond.native arraycopyName,
  Cond.static arraycopyName,
  Cond.initialized "java/lang/System",
  Cond.classLink "java/lang/StringBuilder" 18 "java/lang/String",
  Cond.instantiable "java/lang/String" 4,
  Cond.instanceMethod ⟨"java/lang/String", "<init>", "(Ljava/lang/StringBuilder;)V"⟩,
  Cond.code ⟨"java/lang/String", "<init>", "(Ljava/lang/StringBuilder;)V"⟩ prog_28_method_53_code 2 none,
  Cond.methodLink "java/lang/StringBuilder" 137 ⟨"java/lang/String", "<init>", "(Ljava/lang/StringBuilder;)V"⟩,
  Cond.instanceMethod ⟨"java/lang/String", "<init>", "(Ljava/lang/AbstractStringBuilder;Ljava/lang/Void;)V"⟩,
  Cond.code ⟨"java/lang/String", "<init>", "(Ljava/lang/AbstractStringBuilder;Ljava/lang/Void;)V"⟩ prog_28_method_150_code 5 none,
  Cond.methodLink "java/lang/String" 489 ⟨"java/lang/String", "<init>", "(Ljava/lang/AbstractStringBuilder;Ljava/lang/Void;)V"⟩,
  Cond.methodLink "java/lang/String" 1 Lib.objectInit,
  Cond.instanceMethod ⟨"java/lang/AbstractStringBuilder", "getValue", "()[B"⟩,
  Cond.code ⟨"java/lang/AbstractStringBuilder", "getValue", "()[B"⟩ prog_13_method_64_code 1 (some (.array .byte)),
  Cond.methodLink "java/lang/String" 552 ⟨"java/lang/AbstractStringBuilder", "getValue", "()[B"⟩,
  Cond.sameMethod "java/lang/AbstractStringBuilder" "java/lang/AbstractStringBuilder" "getValue" "()[B",
  Cond.selects "java/lang/StringBuilder" ⟨"java/lang/AbstractStringBuilder", "getValue", "()[B"⟩ ⟨"java/lang/AbstractStringBuilder", "getValue", "()[B"⟩,
  Cond.instanceMethod ⟨"java/lang/StringBuilder", "length", "()I"⟩,
  Cond.code ⟨"java/lang/StringBuilder", "length", "()I"⟩ prog_29_method_93_code 1 (some .int),
  Cond.methodLink "java/lang/String" 549 ⟨"java/lang/AbstractStringBuilder", "length", "()I"⟩,
  Cond.sameMethod "java/lang/AbstractStringBuilder" "java/lang/AbstractStringBuilder" "length" "()I",
  Cond.selects "java/lang/StringBuilder" ⟨"java/lang/AbstractStringBuilder", "length", "()I"⟩ ⟨"java/lang/StringBuilder", "length", "()I"⟩,
  Cond.methodLink "java/lang/String" 1047 ⟨"java/lang/AbstractStringBuilder", "isLatin1", "()Z"⟩,
  Cond.methodLink "java/lang/String" 54 ⟨"java/util/Arrays", "copyOfRange", "([BII)[B"⟩,
  Cond.static ⟨"java/util/Arrays", "copyOfRange", "([BII)[B"⟩,
  Cond.code ⟨"java/util/Arrays", "copyOfRange", "([BII)[B"⟩ prog_41_method_132_code 3 (some (.array .byte)),
  Cond.instanceMethod ⟨"java/lang/AbstractStringBuilder", "length", "()I"⟩]
set_option maxRecDepth 100000 in
theorem vwb_7 : vwl_7.all (fun w => w.before #[] vs_A) = true := by decide +kernel
theorem vw_280 : (Cond.fieldLink "java/lang/String" 15 "java/lang/String" "coder" "B").before #[] vs_A = true := List.all_eq_true.mp vwb_7 _ (List.mem_of_getElem? (i := 0) rfl)
theorem vw_281 : (Cond.instanceMethod ⟨"java/lang/AbstractStringBuilder", "inflateIfNeededFor", "(Ljava/lang/String;)V"⟩).before #[] vs_A = true := List.all_eq_true.mp vwb_7 _ (List.mem_of_getElem? (i := 1) rfl)
theorem vw_282 : (Cond.code ⟨"java/lang/AbstractStringBuilder", "inflateIfNeededFor", "(Ljava/lang/String;)V"⟩ prog_13_method_71_code 2 none).before #[] vs_A = true := List.all_eq_true.mp vwb_7 _ (List.mem_of_getElem? (i := 2) rfl)
theorem vw_283 : (Cond.methodLink "java/lang/AbstractStringBuilder" 397 ⟨"java/lang/AbstractStringBuilder", "inflateIfNeededFor", "(Ljava/lang/String;)V"⟩).before #[] vs_A = true := List.all_eq_true.mp vwb_7 _ (List.mem_of_getElem? (i := 3) rfl)
theorem vw_284 : (Cond.sameMethod "java/lang/AbstractStringBuilder" "java/lang/AbstractStringBuilder" "inflateIfNeededFor" "(Ljava/lang/String;)V").before #[] vs_A = true := List.all_eq_true.mp vwb_7 _ (List.mem_of_getElem? (i := 4) rfl)
theorem vw_285 : (Cond.selects "java/lang/StringBuilder" ⟨"java/lang/AbstractStringBuilder", "inflateIfNeededFor", "(Ljava/lang/String;)V"⟩ ⟨"java/lang/AbstractStringBuilder", "inflateIfNeededFor", "(Ljava/lang/String;)V"⟩).before #[] vs_A = true := List.all_eq_true.mp vwb_7 _ (List.mem_of_getElem? (i := 5) rfl)
theorem vw_286 : (Cond.instanceMethod ⟨"java/lang/String", "getBytes", "([BIB)V"⟩).before #[] vs_A = true := List.all_eq_true.mp vwb_7 _ (List.mem_of_getElem? (i := 6) rfl)
theorem vw_287 : (Cond.code ⟨"java/lang/String", "getBytes", "([BIB)V"⟩ prog_28_method_147_code 4 none).before #[] vs_A = true := List.all_eq_true.mp vwb_7 _ (List.mem_of_getElem? (i := 7) rfl)
theorem vw_288 : (Cond.methodLink "java/lang/AbstractStringBuilder" 399 ⟨"java/lang/String", "getBytes", "([BIB)V"⟩).before #[] vs_A = true := List.all_eq_true.mp vwb_7 _ (List.mem_of_getElem? (i := 8) rfl)
theorem vw_289 : (Cond.sameMethod "java/lang/String" "java/lang/String" "getBytes" "([BIB)V").before #[] vs_A = true := List.all_eq_true.mp vwb_7 _ (List.mem_of_getElem? (i := 9) rfl)
theorem vw_290 : (Cond.selects "java/lang/String" ⟨"java/lang/String", "getBytes", "([BIB)V"⟩ ⟨"java/lang/String", "getBytes", "([BIB)V"⟩).before #[] vs_A = true := List.all_eq_true.mp vwb_7 _ (List.mem_of_getElem? (i := 10) rfl)
theorem vw_291 : (Cond.methodLink "java/lang/AbstractStringBuilder" 40 ⟨"java/lang/String", "coder", "()B"⟩).before #[] vs_A = true := List.all_eq_true.mp vwb_7 _ (List.mem_of_getElem? (i := 11) rfl)
theorem vw_292 : (Cond.methodLink "java/lang/String" 212 arraycopyName).before #[] vs_A = true := List.all_eq_true.mp vwb_7 _ (List.mem_of_getElem? (i := 12) rfl)
theorem vw_293 : (Cond.native arraycopyName).before #[] vs_A = true := List.all_eq_true.mp vwb_7 _ (List.mem_of_getElem? (i := 13) rfl)
theorem vw_294 : (Cond.static arraycopyName).before #[] vs_A = true := List.all_eq_true.mp vwb_7 _ (List.mem_of_getElem? (i := 14) rfl)
theorem vw_295 : (Cond.initialized "java/lang/System").before #[] vs_A = true := List.all_eq_true.mp vwb_7 _ (List.mem_of_getElem? (i := 15) rfl)
theorem vw_296 : (Cond.classLink "java/lang/StringBuilder" 18 "java/lang/String").before #[] vs_A = true := List.all_eq_true.mp vwb_7 _ (List.mem_of_getElem? (i := 16) rfl)
theorem vw_297 : (Cond.instantiable "java/lang/String" 4).before #[] vs_A = true := List.all_eq_true.mp vwb_7 _ (List.mem_of_getElem? (i := 17) rfl)
theorem vw_298 : (Cond.instanceMethod ⟨"java/lang/String", "<init>", "(Ljava/lang/StringBuilder;)V"⟩).before #[] vs_A = true := List.all_eq_true.mp vwb_7 _ (List.mem_of_getElem? (i := 18) rfl)
theorem vw_299 : (Cond.code ⟨"java/lang/String", "<init>", "(Ljava/lang/StringBuilder;)V"⟩ prog_28_method_53_code 2 none).before #[] vs_A = true := List.all_eq_true.mp vwb_7 _ (List.mem_of_getElem? (i := 19) rfl)
theorem vw_300 : (Cond.methodLink "java/lang/StringBuilder" 137 ⟨"java/lang/String", "<init>", "(Ljava/lang/StringBuilder;)V"⟩).before #[] vs_A = true := List.all_eq_true.mp vwb_7 _ (List.mem_of_getElem? (i := 20) rfl)
theorem vw_301 : (Cond.instanceMethod ⟨"java/lang/String", "<init>", "(Ljava/lang/AbstractStringBuilder;Ljava/lang/Void;)V"⟩).before #[] vs_A = true := List.all_eq_true.mp vwb_7 _ (List.mem_of_getElem? (i := 21) rfl)
theorem vw_302 : (Cond.code ⟨"java/lang/String", "<init>", "(Ljava/lang/AbstractStringBuilder;Ljava/lang/Void;)V"⟩ prog_28_method_150_code 5 none).before #[] vs_A = true := List.all_eq_true.mp vwb_7 _ (List.mem_of_getElem? (i := 22) rfl)
theorem vw_303 : (Cond.methodLink "java/lang/String" 489 ⟨"java/lang/String", "<init>", "(Ljava/lang/AbstractStringBuilder;Ljava/lang/Void;)V"⟩).before #[] vs_A = true := List.all_eq_true.mp vwb_7 _ (List.mem_of_getElem? (i := 23) rfl)
theorem vw_304 : (Cond.methodLink "java/lang/String" 1 Lib.objectInit).before #[] vs_A = true := List.all_eq_true.mp vwb_7 _ (List.mem_of_getElem? (i := 24) rfl)
theorem vw_305 : (Cond.instanceMethod ⟨"java/lang/AbstractStringBuilder", "getValue", "()[B"⟩).before #[] vs_A = true := List.all_eq_true.mp vwb_7 _ (List.mem_of_getElem? (i := 25) rfl)
theorem vw_306 : (Cond.code ⟨"java/lang/AbstractStringBuilder", "getValue", "()[B"⟩ prog_13_method_64_code 1 (some (.array .byte))).before #[] vs_A = true := List.all_eq_true.mp vwb_7 _ (List.mem_of_getElem? (i := 26) rfl)
theorem vw_307 : (Cond.methodLink "java/lang/String" 552 ⟨"java/lang/AbstractStringBuilder", "getValue", "()[B"⟩).before #[] vs_A = true := List.all_eq_true.mp vwb_7 _ (List.mem_of_getElem? (i := 27) rfl)
theorem vw_308 : (Cond.sameMethod "java/lang/AbstractStringBuilder" "java/lang/AbstractStringBuilder" "getValue" "()[B").before #[] vs_A = true := List.all_eq_true.mp vwb_7 _ (List.mem_of_getElem? (i := 28) rfl)
theorem vw_309 : (Cond.selects "java/lang/StringBuilder" ⟨"java/lang/AbstractStringBuilder", "getValue", "()[B"⟩ ⟨"java/lang/AbstractStringBuilder", "getValue", "()[B"⟩).before #[] vs_A = true := List.all_eq_true.mp vwb_7 _ (List.mem_of_getElem? (i := 29) rfl)
theorem vw_310 : (Cond.instanceMethod ⟨"java/lang/StringBuilder", "length", "()I"⟩).before #[] vs_A = true := List.all_eq_true.mp vwb_7 _ (List.mem_of_getElem? (i := 30) rfl)
theorem vw_311 : (Cond.code ⟨"java/lang/StringBuilder", "length", "()I"⟩ prog_29_method_93_code 1 (some .int)).before #[] vs_A = true := List.all_eq_true.mp vwb_7 _ (List.mem_of_getElem? (i := 31) rfl)
theorem vw_312 : (Cond.methodLink "java/lang/String" 549 ⟨"java/lang/AbstractStringBuilder", "length", "()I"⟩).before #[] vs_A = true := List.all_eq_true.mp vwb_7 _ (List.mem_of_getElem? (i := 32) rfl)
theorem vw_313 : (Cond.sameMethod "java/lang/AbstractStringBuilder" "java/lang/AbstractStringBuilder" "length" "()I").before #[] vs_A = true := List.all_eq_true.mp vwb_7 _ (List.mem_of_getElem? (i := 33) rfl)
theorem vw_314 : (Cond.selects "java/lang/StringBuilder" ⟨"java/lang/AbstractStringBuilder", "length", "()I"⟩ ⟨"java/lang/StringBuilder", "length", "()I"⟩).before #[] vs_A = true := List.all_eq_true.mp vwb_7 _ (List.mem_of_getElem? (i := 34) rfl)
theorem vw_315 : (Cond.methodLink "java/lang/String" 1047 ⟨"java/lang/AbstractStringBuilder", "isLatin1", "()Z"⟩).before #[] vs_A = true := List.all_eq_true.mp vwb_7 _ (List.mem_of_getElem? (i := 35) rfl)
theorem vw_316 : (Cond.methodLink "java/lang/String" 54 ⟨"java/util/Arrays", "copyOfRange", "([BII)[B"⟩).before #[] vs_A = true := List.all_eq_true.mp vwb_7 _ (List.mem_of_getElem? (i := 36) rfl)
theorem vw_317 : (Cond.static ⟨"java/util/Arrays", "copyOfRange", "([BII)[B"⟩).before #[] vs_A = true := List.all_eq_true.mp vwb_7 _ (List.mem_of_getElem? (i := 37) rfl)
theorem vw_318 : (Cond.code ⟨"java/util/Arrays", "copyOfRange", "([BII)[B"⟩ prog_41_method_132_code 3 (some (.array .byte))).before #[] vs_A = true := List.all_eq_true.mp vwb_7 _ (List.mem_of_getElem? (i := 38) rfl)
theorem vw_319 : (Cond.instanceMethod ⟨"java/lang/AbstractStringBuilder", "length", "()I"⟩).before #[] vs_A = true := List.all_eq_true.mp vwb_7 _ (List.mem_of_getElem? (i := 39) rfl)
def vwl_8 : List Cond := [Cond.code ⟨"java/lang/AbstractStringBuilder", "length", "()I"⟩ prog_13_method_6_code 1 (some .int),
  Cond.methodLink "java/lang/StringBuilder" 343 ⟨"java/lang/AbstractStringBuilder", "length", "()I"⟩,
  Cond.methodLink "java/util/Arrays" 339 ⟨"java/util/Arrays", "copyOfRangeByte", "([BII)[B"⟩,
  Cond.static ⟨"java/util/Arrays", "copyOfRangeByte", "([BII)[B"⟩,
  Cond.code ⟨"java/util/Arrays", "copyOfRangeByte", "([BII)[B"⟩ prog_41_method_133_code 5 (some (.array .byte)),
  Cond.methodLink "java/util/Arrays" 310 ⟨"[B", "clone", "()Ljava/lang/Object;"⟩,
  Cond.sameMethod "[B" "java/lang/Object" "clone" "()Ljava/lang/Object;",
  Cond.native ⟨"java/lang/Object", "clone", "()Ljava/lang/Object;"⟩,
  Cond.instanceMethod ⟨"java/lang/Object", "clone", "()Ljava/lang/Object;"⟩,
  Cond.selects "[B" ⟨"[B", "clone", "()Ljava/lang/Object;"⟩ ⟨"java/lang/Object", "clone", "()Ljava/lang/Object;"⟩,
  Cond.classLink "java/util/Arrays" 311 "[B",
  Cond.methodLink "java/util/Arrays" 343 ⟨"java/util/Arrays", "checkLength", "(II)V"⟩,
  Cond.static ⟨"java/util/Arrays", "checkLength", "(II)V"⟩,
  Cond.code ⟨"java/util/Arrays", "checkLength", "(II)V"⟩ prog_41_method_131_code 2 none,
  Cond.methodLink "java/util/Arrays" 304 ⟨"java/lang/Math", "min", "(II)I"⟩,
  Cond.static ⟨"java/lang/Math", "min", "(II)I"⟩,
  Cond.code ⟨"java/lang/Math", "min", "(II)I"⟩ prog_25_method_69_code 2 (some .int),
  Cond.methodLink "java/util/Arrays" 150 arraycopyName,
  Cond.methodLink "java/lang/AbstractStringBuilder" 114 ⟨"jdk/internal/util/ArraysSupport", "newLength", "(III)I"⟩,
  Cond.static ⟨"jdk/internal/util/ArraysSupport", "newLength", "(III)I"⟩,
  Cond.initialized "jdk/internal/util/ArraysSupport",
  Cond.code ⟨"jdk/internal/util/ArraysSupport", "newLength", "(III)I"⟩ prog_48_method_27_code 4 (some .int),
  Cond.constant "java/lang/AbstractStringBuilder" 39 (2147483647),
  Cond.methodLink "jdk/internal/util/ArraysSupport" 194 ⟨"java/lang/Math", "max", "(II)I"⟩,
  Cond.constant "jdk/internal/util/ArraysSupport" 200 (2147483639),
  Cond.constantLong "Orderbench" 226 (7773),
  Cond.constantLong "Orderbench" 228 (31),
  Cond.instanceMethod ⟨"Orderbench", "houseNumber", "(I)I"⟩,
  Cond.code ⟨"Orderbench", "houseNumber", "(I)I"⟩ prog_1_method_69_code 2 (some .int),
  Cond.methodLink "Orderbench" 217 ⟨"Orderbench", "houseNumber", "(I)I"⟩,
  Cond.sameMethod "Orderbench" "Orderbench" "houseNumber" "(I)I",
  Cond.selects "Orderbench" ⟨"Orderbench", "houseNumber", "(I)I"⟩ ⟨"Orderbench", "houseNumber", "(I)I"⟩,
  Cond.instanceMethod ⟨"Orderbench", "digestBench", "(JLOrderbench$Row;)J"⟩,
  Cond.code ⟨"Orderbench", "digestBench", "(JLOrderbench$Row;)J"⟩ prog_1_method_72_code 8 (some .long),
  Cond.methodLink "Orderbench" 230 ⟨"Orderbench", "digestBench", "(JLOrderbench$Row;)J"⟩,
  Cond.sameMethod "Orderbench" "Orderbench" "digestBench" "(JLOrderbench$Row;)J",
  Cond.selects "Orderbench" ⟨"Orderbench", "digestBench", "(JLOrderbench$Row;)J"⟩ ⟨"Orderbench", "digestBench", "(JLOrderbench$Row;)J"⟩,
  Cond.instanceMethod ⟨"Orderbench", "digestOrder", "(JLOrderbench$Shape;)J"⟩,
  Cond.code ⟨"Orderbench", "digestOrder", "(JLOrderbench$Shape;)J"⟩ prog_1_method_73_code 4 (some .long),
  Cond.methodLink "Orderbench" 234 ⟨"Orderbench", "digestOrder", "(JLOrderbench$Shape;)J"⟩]
set_option maxRecDepth 100000 in
theorem vwb_8 : vwl_8.all (fun w => w.before #[] vs_A) = true := by decide +kernel
theorem vw_320 : (Cond.code ⟨"java/lang/AbstractStringBuilder", "length", "()I"⟩ prog_13_method_6_code 1 (some .int)).before #[] vs_A = true := List.all_eq_true.mp vwb_8 _ (List.mem_of_getElem? (i := 0) rfl)
theorem vw_321 : (Cond.methodLink "java/lang/StringBuilder" 343 ⟨"java/lang/AbstractStringBuilder", "length", "()I"⟩).before #[] vs_A = true := List.all_eq_true.mp vwb_8 _ (List.mem_of_getElem? (i := 1) rfl)
theorem vw_322 : (Cond.methodLink "java/util/Arrays" 339 ⟨"java/util/Arrays", "copyOfRangeByte", "([BII)[B"⟩).before #[] vs_A = true := List.all_eq_true.mp vwb_8 _ (List.mem_of_getElem? (i := 2) rfl)
theorem vw_323 : (Cond.static ⟨"java/util/Arrays", "copyOfRangeByte", "([BII)[B"⟩).before #[] vs_A = true := List.all_eq_true.mp vwb_8 _ (List.mem_of_getElem? (i := 3) rfl)
theorem vw_324 : (Cond.code ⟨"java/util/Arrays", "copyOfRangeByte", "([BII)[B"⟩ prog_41_method_133_code 5 (some (.array .byte))).before #[] vs_A = true := List.all_eq_true.mp vwb_8 _ (List.mem_of_getElem? (i := 4) rfl)
theorem vw_325 : (Cond.methodLink "java/util/Arrays" 310 ⟨"[B", "clone", "()Ljava/lang/Object;"⟩).before #[] vs_A = true := List.all_eq_true.mp vwb_8 _ (List.mem_of_getElem? (i := 5) rfl)
theorem vw_326 : (Cond.sameMethod "[B" "java/lang/Object" "clone" "()Ljava/lang/Object;").before #[] vs_A = true := List.all_eq_true.mp vwb_8 _ (List.mem_of_getElem? (i := 6) rfl)
theorem vw_327 : (Cond.native ⟨"java/lang/Object", "clone", "()Ljava/lang/Object;"⟩).before #[] vs_A = true := List.all_eq_true.mp vwb_8 _ (List.mem_of_getElem? (i := 7) rfl)
theorem vw_328 : (Cond.instanceMethod ⟨"java/lang/Object", "clone", "()Ljava/lang/Object;"⟩).before #[] vs_A = true := List.all_eq_true.mp vwb_8 _ (List.mem_of_getElem? (i := 8) rfl)
theorem vw_329 : (Cond.selects "[B" ⟨"[B", "clone", "()Ljava/lang/Object;"⟩ ⟨"java/lang/Object", "clone", "()Ljava/lang/Object;"⟩).before #[] vs_A = true := List.all_eq_true.mp vwb_8 _ (List.mem_of_getElem? (i := 9) rfl)
theorem vw_330 : (Cond.classLink "java/util/Arrays" 311 "[B").before #[] vs_A = true := List.all_eq_true.mp vwb_8 _ (List.mem_of_getElem? (i := 10) rfl)
theorem vw_331 : (Cond.methodLink "java/util/Arrays" 343 ⟨"java/util/Arrays", "checkLength", "(II)V"⟩).before #[] vs_A = true := List.all_eq_true.mp vwb_8 _ (List.mem_of_getElem? (i := 11) rfl)
theorem vw_332 : (Cond.static ⟨"java/util/Arrays", "checkLength", "(II)V"⟩).before #[] vs_A = true := List.all_eq_true.mp vwb_8 _ (List.mem_of_getElem? (i := 12) rfl)
theorem vw_333 : (Cond.code ⟨"java/util/Arrays", "checkLength", "(II)V"⟩ prog_41_method_131_code 2 none).before #[] vs_A = true := List.all_eq_true.mp vwb_8 _ (List.mem_of_getElem? (i := 13) rfl)
theorem vw_334 : (Cond.methodLink "java/util/Arrays" 304 ⟨"java/lang/Math", "min", "(II)I"⟩).before #[] vs_A = true := List.all_eq_true.mp vwb_8 _ (List.mem_of_getElem? (i := 14) rfl)
theorem vw_335 : (Cond.static ⟨"java/lang/Math", "min", "(II)I"⟩).before #[] vs_A = true := List.all_eq_true.mp vwb_8 _ (List.mem_of_getElem? (i := 15) rfl)
theorem vw_336 : (Cond.code ⟨"java/lang/Math", "min", "(II)I"⟩ prog_25_method_69_code 2 (some .int)).before #[] vs_A = true := List.all_eq_true.mp vwb_8 _ (List.mem_of_getElem? (i := 16) rfl)
theorem vw_337 : (Cond.methodLink "java/util/Arrays" 150 arraycopyName).before #[] vs_A = true := List.all_eq_true.mp vwb_8 _ (List.mem_of_getElem? (i := 17) rfl)
theorem vw_338 : (Cond.methodLink "java/lang/AbstractStringBuilder" 114 ⟨"jdk/internal/util/ArraysSupport", "newLength", "(III)I"⟩).before #[] vs_A = true := List.all_eq_true.mp vwb_8 _ (List.mem_of_getElem? (i := 18) rfl)
theorem vw_339 : (Cond.static ⟨"jdk/internal/util/ArraysSupport", "newLength", "(III)I"⟩).before #[] vs_A = true := List.all_eq_true.mp vwb_8 _ (List.mem_of_getElem? (i := 19) rfl)
theorem vw_340 : (Cond.initialized "jdk/internal/util/ArraysSupport").before #[] vs_A = true := List.all_eq_true.mp vwb_8 _ (List.mem_of_getElem? (i := 20) rfl)
theorem vw_341 : (Cond.code ⟨"jdk/internal/util/ArraysSupport", "newLength", "(III)I"⟩ prog_48_method_27_code 4 (some .int)).before #[] vs_A = true := List.all_eq_true.mp vwb_8 _ (List.mem_of_getElem? (i := 21) rfl)
theorem vw_342 : (Cond.constant "java/lang/AbstractStringBuilder" 39 (2147483647)).before #[] vs_A = true := List.all_eq_true.mp vwb_8 _ (List.mem_of_getElem? (i := 22) rfl)
theorem vw_343 : (Cond.methodLink "jdk/internal/util/ArraysSupport" 194 ⟨"java/lang/Math", "max", "(II)I"⟩).before #[] vs_A = true := List.all_eq_true.mp vwb_8 _ (List.mem_of_getElem? (i := 23) rfl)
theorem vw_344 : (Cond.constant "jdk/internal/util/ArraysSupport" 200 (2147483639)).before #[] vs_A = true := List.all_eq_true.mp vwb_8 _ (List.mem_of_getElem? (i := 24) rfl)
theorem vw_345 : (Cond.constantLong "Orderbench" 226 (7773)).before #[] vs_A = true := List.all_eq_true.mp vwb_8 _ (List.mem_of_getElem? (i := 25) rfl)
theorem vw_346 : (Cond.constantLong "Orderbench" 228 (31)).before #[] vs_A = true := List.all_eq_true.mp vwb_8 _ (List.mem_of_getElem? (i := 26) rfl)
theorem vw_347 : (Cond.instanceMethod ⟨"Orderbench", "houseNumber", "(I)I"⟩).before #[] vs_A = true := List.all_eq_true.mp vwb_8 _ (List.mem_of_getElem? (i := 27) rfl)
theorem vw_348 : (Cond.code ⟨"Orderbench", "houseNumber", "(I)I"⟩ prog_1_method_69_code 2 (some .int)).before #[] vs_A = true := List.all_eq_true.mp vwb_8 _ (List.mem_of_getElem? (i := 28) rfl)
theorem vw_349 : (Cond.methodLink "Orderbench" 217 ⟨"Orderbench", "houseNumber", "(I)I"⟩).before #[] vs_A = true := List.all_eq_true.mp vwb_8 _ (List.mem_of_getElem? (i := 29) rfl)
theorem vw_350 : (Cond.sameMethod "Orderbench" "Orderbench" "houseNumber" "(I)I").before #[] vs_A = true := List.all_eq_true.mp vwb_8 _ (List.mem_of_getElem? (i := 30) rfl)
theorem vw_351 : (Cond.selects "Orderbench" ⟨"Orderbench", "houseNumber", "(I)I"⟩ ⟨"Orderbench", "houseNumber", "(I)I"⟩).before #[] vs_A = true := List.all_eq_true.mp vwb_8 _ (List.mem_of_getElem? (i := 31) rfl)
theorem vw_352 : (Cond.instanceMethod ⟨"Orderbench", "digestBench", "(JLOrderbench$Row;)J"⟩).before #[] vs_A = true := List.all_eq_true.mp vwb_8 _ (List.mem_of_getElem? (i := 32) rfl)
theorem vw_353 : (Cond.code ⟨"Orderbench", "digestBench", "(JLOrderbench$Row;)J"⟩ prog_1_method_72_code 8 (some .long)).before #[] vs_A = true := List.all_eq_true.mp vwb_8 _ (List.mem_of_getElem? (i := 33) rfl)
theorem vw_354 : (Cond.methodLink "Orderbench" 230 ⟨"Orderbench", "digestBench", "(JLOrderbench$Row;)J"⟩).before #[] vs_A = true := List.all_eq_true.mp vwb_8 _ (List.mem_of_getElem? (i := 34) rfl)
theorem vw_355 : (Cond.sameMethod "Orderbench" "Orderbench" "digestBench" "(JLOrderbench$Row;)J").before #[] vs_A = true := List.all_eq_true.mp vwb_8 _ (List.mem_of_getElem? (i := 35) rfl)
theorem vw_356 : (Cond.selects "Orderbench" ⟨"Orderbench", "digestBench", "(JLOrderbench$Row;)J"⟩ ⟨"Orderbench", "digestBench", "(JLOrderbench$Row;)J"⟩).before #[] vs_A = true := List.all_eq_true.mp vwb_8 _ (List.mem_of_getElem? (i := 36) rfl)
theorem vw_357 : (Cond.instanceMethod ⟨"Orderbench", "digestOrder", "(JLOrderbench$Shape;)J"⟩).before #[] vs_A = true := List.all_eq_true.mp vwb_8 _ (List.mem_of_getElem? (i := 37) rfl)
theorem vw_358 : (Cond.code ⟨"Orderbench", "digestOrder", "(JLOrderbench$Shape;)J"⟩ prog_1_method_73_code 4 (some .long)).before #[] vs_A = true := List.all_eq_true.mp vwb_8 _ (List.mem_of_getElem? (i := 38) rfl)
theorem vw_359 : (Cond.methodLink "Orderbench" 234 ⟨"Orderbench", "digestOrder", "(JLOrderbench$Shape;)J"⟩).before #[] vs_A = true := List.all_eq_true.mp vwb_8 _ (List.mem_of_getElem? (i := 39) rfl)
def vwl_9 : List Cond := [Cond.sameMethod "Orderbench" "Orderbench" "digestOrder" "(JLOrderbench$Shape;)J",
  Cond.selects "Orderbench" ⟨"Orderbench", "digestOrder", "(JLOrderbench$Shape;)J"⟩ ⟨"Orderbench", "digestOrder", "(JLOrderbench$Shape;)J"⟩,
  Cond.instanceMethod ⟨"Orderbench", "isSound", "()Z"⟩,
  Cond.code ⟨"Orderbench", "isSound", "()Z"⟩ prog_1_method_37_code 3 (some .boolean),
  Cond.methodLink "Orderbench" 238 ⟨"Orderbench", "isSound", "()Z"⟩,
  Cond.sameMethod "Orderbench" "Orderbench" "isSound" "()Z",
  Cond.selects "Orderbench" ⟨"Orderbench", "isSound", "()Z"⟩ ⟨"Orderbench", "isSound", "()Z"⟩,
  Cond.fieldLinkNest "Orderbench" 64 "Orderbench$Row" "many" "I" "Orderbench",
  Cond.fieldLink "Orderbench" 263 "Orderbench" "laid" "I",
  Cond.instanceMethod ⟨"Orderbench", "howManySafe", "()I"⟩,
  Cond.code ⟨"Orderbench", "howManySafe", "()I"⟩ prog_1_method_70_code 3 (some .int),
  Cond.methodLink "Orderbench" 304 ⟨"Orderbench", "howManySafe", "()I"⟩,
  Cond.sameMethod "Orderbench" "Orderbench" "howManySafe" "()I",
  Cond.selects "Orderbench" ⟨"Orderbench", "howManySafe", "()I"⟩ ⟨"Orderbench", "howManySafe", "()I"⟩,
  Cond.fieldLink "Orderbench" 276 "Orderbench" "refusals" "I",
  Cond.fieldLink "Orderbench" 220 "Orderbench" "knocks" "I",
  Cond.instanceMethod ⟨"Orderbench$Row", "empties", "()I"⟩,
  Cond.code ⟨"Orderbench$Row", "empties", "()I"⟩ prog_4_method_9_code 1 (some .int),
  Cond.methodLink "Orderbench" 209 ⟨"Orderbench$Row", "empties", "()I"⟩,
  Cond.sameMethod "Orderbench$Row" "Orderbench$Row" "empties" "()I",
  Cond.selects "Orderbench$Row" ⟨"Orderbench$Row", "empties", "()I"⟩ ⟨"Orderbench$Row", "empties", "()I"⟩,
  Cond.fieldLink "Orderbench" 147 "Orderbench$Shape" "safe" "Z",
  Cond.instanceMethod ⟨"Orderbench$Row", "howOften", "(I)I"⟩,
  Cond.code ⟨"Orderbench$Row", "howOften", "(I)I"⟩ prog_4_method_10_code 4 (some .int),
  Cond.methodLink "Orderbench$Row" 35 ⟨"Orderbench$Row", "howOften", "(I)I"⟩,
  Cond.sameMethod "Orderbench$Row" "Orderbench$Row" "howOften" "(I)I",
  Cond.selects "Orderbench$Row" ⟨"Orderbench$Row", "howOften", "(I)I"⟩ ⟨"Orderbench$Row", "howOften", "(I)I"⟩,
  Cond.fieldLink "Orderbench$Row" 15 "Orderbench$Row" "many" "I",
  Cond.instanceMethod ⟨"java/lang/StringBuilder", "setLength", "(I)V"⟩,
  Cond.code ⟨"java/lang/StringBuilder", "setLength", "(I)V"⟩ prog_29_method_89_code 2 none,
  Cond.methodLink "Orderbench" 159 ⟨"java/lang/StringBuilder", "setLength", "(I)V"⟩,
  Cond.sameMethod "java/lang/StringBuilder" "java/lang/StringBuilder" "setLength" "(I)V",
  Cond.selects "java/lang/StringBuilder" ⟨"java/lang/StringBuilder", "setLength", "(I)V"⟩ ⟨"java/lang/StringBuilder", "setLength", "(I)V"⟩,
  Cond.instanceMethod ⟨"Orderbench", "writeRow", "(LOrderbench$Row;)V"⟩,
  Cond.code ⟨"Orderbench", "writeRow", "(LOrderbench$Row;)V"⟩ prog_1_method_50_code 3 none,
  Cond.methodLink "Orderbench" 185 ⟨"Orderbench", "writeRow", "(LOrderbench$Row;)V"⟩,
  Cond.sameMethod "Orderbench" "Orderbench" "writeRow" "(LOrderbench$Row;)V",
  Cond.selects "Orderbench" ⟨"Orderbench", "writeRow", "(LOrderbench$Row;)V"⟩ ⟨"Orderbench", "writeRow", "(LOrderbench$Row;)V"⟩,
  Cond.instanceMethod ⟨"Orderbench", "digestSigns", "(J)J"⟩,
  Cond.code ⟨"Orderbench", "digestSigns", "(J)J"⟩ prog_1_method_71_code 6 (some .long)]
set_option maxRecDepth 100000 in
theorem vwb_9 : vwl_9.all (fun w => w.before #[] vs_A) = true := by decide +kernel
theorem vw_360 : (Cond.sameMethod "Orderbench" "Orderbench" "digestOrder" "(JLOrderbench$Shape;)J").before #[] vs_A = true := List.all_eq_true.mp vwb_9 _ (List.mem_of_getElem? (i := 0) rfl)
theorem vw_361 : (Cond.selects "Orderbench" ⟨"Orderbench", "digestOrder", "(JLOrderbench$Shape;)J"⟩ ⟨"Orderbench", "digestOrder", "(JLOrderbench$Shape;)J"⟩).before #[] vs_A = true := List.all_eq_true.mp vwb_9 _ (List.mem_of_getElem? (i := 1) rfl)
theorem vw_362 : (Cond.instanceMethod ⟨"Orderbench", "isSound", "()Z"⟩).before #[] vs_A = true := List.all_eq_true.mp vwb_9 _ (List.mem_of_getElem? (i := 2) rfl)
theorem vw_363 : (Cond.code ⟨"Orderbench", "isSound", "()Z"⟩ prog_1_method_37_code 3 (some .boolean)).before #[] vs_A = true := List.all_eq_true.mp vwb_9 _ (List.mem_of_getElem? (i := 3) rfl)
theorem vw_364 : (Cond.methodLink "Orderbench" 238 ⟨"Orderbench", "isSound", "()Z"⟩).before #[] vs_A = true := List.all_eq_true.mp vwb_9 _ (List.mem_of_getElem? (i := 4) rfl)
theorem vw_365 : (Cond.sameMethod "Orderbench" "Orderbench" "isSound" "()Z").before #[] vs_A = true := List.all_eq_true.mp vwb_9 _ (List.mem_of_getElem? (i := 5) rfl)
theorem vw_366 : (Cond.selects "Orderbench" ⟨"Orderbench", "isSound", "()Z"⟩ ⟨"Orderbench", "isSound", "()Z"⟩).before #[] vs_A = true := List.all_eq_true.mp vwb_9 _ (List.mem_of_getElem? (i := 6) rfl)
theorem vw_367 : (Cond.fieldLinkNest "Orderbench" 64 "Orderbench$Row" "many" "I" "Orderbench").before #[] vs_A = true := List.all_eq_true.mp vwb_9 _ (List.mem_of_getElem? (i := 7) rfl)
theorem vw_368 : (Cond.fieldLink "Orderbench" 263 "Orderbench" "laid" "I").before #[] vs_A = true := List.all_eq_true.mp vwb_9 _ (List.mem_of_getElem? (i := 8) rfl)
theorem vw_369 : (Cond.instanceMethod ⟨"Orderbench", "howManySafe", "()I"⟩).before #[] vs_A = true := List.all_eq_true.mp vwb_9 _ (List.mem_of_getElem? (i := 9) rfl)
theorem vw_370 : (Cond.code ⟨"Orderbench", "howManySafe", "()I"⟩ prog_1_method_70_code 3 (some .int)).before #[] vs_A = true := List.all_eq_true.mp vwb_9 _ (List.mem_of_getElem? (i := 10) rfl)
theorem vw_371 : (Cond.methodLink "Orderbench" 304 ⟨"Orderbench", "howManySafe", "()I"⟩).before #[] vs_A = true := List.all_eq_true.mp vwb_9 _ (List.mem_of_getElem? (i := 11) rfl)
theorem vw_372 : (Cond.sameMethod "Orderbench" "Orderbench" "howManySafe" "()I").before #[] vs_A = true := List.all_eq_true.mp vwb_9 _ (List.mem_of_getElem? (i := 12) rfl)
theorem vw_373 : (Cond.selects "Orderbench" ⟨"Orderbench", "howManySafe", "()I"⟩ ⟨"Orderbench", "howManySafe", "()I"⟩).before #[] vs_A = true := List.all_eq_true.mp vwb_9 _ (List.mem_of_getElem? (i := 13) rfl)
theorem vw_374 : (Cond.fieldLink "Orderbench" 276 "Orderbench" "refusals" "I").before #[] vs_A = true := List.all_eq_true.mp vwb_9 _ (List.mem_of_getElem? (i := 14) rfl)
theorem vw_375 : (Cond.fieldLink "Orderbench" 220 "Orderbench" "knocks" "I").before #[] vs_A = true := List.all_eq_true.mp vwb_9 _ (List.mem_of_getElem? (i := 15) rfl)
theorem vw_376 : (Cond.instanceMethod ⟨"Orderbench$Row", "empties", "()I"⟩).before #[] vs_A = true := List.all_eq_true.mp vwb_9 _ (List.mem_of_getElem? (i := 16) rfl)
theorem vw_377 : (Cond.code ⟨"Orderbench$Row", "empties", "()I"⟩ prog_4_method_9_code 1 (some .int)).before #[] vs_A = true := List.all_eq_true.mp vwb_9 _ (List.mem_of_getElem? (i := 17) rfl)
theorem vw_378 : (Cond.methodLink "Orderbench" 209 ⟨"Orderbench$Row", "empties", "()I"⟩).before #[] vs_A = true := List.all_eq_true.mp vwb_9 _ (List.mem_of_getElem? (i := 18) rfl)
theorem vw_379 : (Cond.sameMethod "Orderbench$Row" "Orderbench$Row" "empties" "()I").before #[] vs_A = true := List.all_eq_true.mp vwb_9 _ (List.mem_of_getElem? (i := 19) rfl)
theorem vw_380 : (Cond.selects "Orderbench$Row" ⟨"Orderbench$Row", "empties", "()I"⟩ ⟨"Orderbench$Row", "empties", "()I"⟩).before #[] vs_A = true := List.all_eq_true.mp vwb_9 _ (List.mem_of_getElem? (i := 20) rfl)
theorem vw_381 : (Cond.fieldLink "Orderbench" 147 "Orderbench$Shape" "safe" "Z").before #[] vs_A = true := List.all_eq_true.mp vwb_9 _ (List.mem_of_getElem? (i := 21) rfl)
theorem vw_382 : (Cond.instanceMethod ⟨"Orderbench$Row", "howOften", "(I)I"⟩).before #[] vs_A = true := List.all_eq_true.mp vwb_9 _ (List.mem_of_getElem? (i := 22) rfl)
theorem vw_383 : (Cond.code ⟨"Orderbench$Row", "howOften", "(I)I"⟩ prog_4_method_10_code 4 (some .int)).before #[] vs_A = true := List.all_eq_true.mp vwb_9 _ (List.mem_of_getElem? (i := 23) rfl)
theorem vw_384 : (Cond.methodLink "Orderbench$Row" 35 ⟨"Orderbench$Row", "howOften", "(I)I"⟩).before #[] vs_A = true := List.all_eq_true.mp vwb_9 _ (List.mem_of_getElem? (i := 24) rfl)
theorem vw_385 : (Cond.sameMethod "Orderbench$Row" "Orderbench$Row" "howOften" "(I)I").before #[] vs_A = true := List.all_eq_true.mp vwb_9 _ (List.mem_of_getElem? (i := 25) rfl)
theorem vw_386 : (Cond.selects "Orderbench$Row" ⟨"Orderbench$Row", "howOften", "(I)I"⟩ ⟨"Orderbench$Row", "howOften", "(I)I"⟩).before #[] vs_A = true := List.all_eq_true.mp vwb_9 _ (List.mem_of_getElem? (i := 26) rfl)
theorem vw_387 : (Cond.fieldLink "Orderbench$Row" 15 "Orderbench$Row" "many" "I").before #[] vs_A = true := List.all_eq_true.mp vwb_9 _ (List.mem_of_getElem? (i := 27) rfl)
theorem vw_388 : (Cond.instanceMethod ⟨"java/lang/StringBuilder", "setLength", "(I)V"⟩).before #[] vs_A = true := List.all_eq_true.mp vwb_9 _ (List.mem_of_getElem? (i := 28) rfl)
theorem vw_389 : (Cond.code ⟨"java/lang/StringBuilder", "setLength", "(I)V"⟩ prog_29_method_89_code 2 none).before #[] vs_A = true := List.all_eq_true.mp vwb_9 _ (List.mem_of_getElem? (i := 29) rfl)
theorem vw_390 : (Cond.methodLink "Orderbench" 159 ⟨"java/lang/StringBuilder", "setLength", "(I)V"⟩).before #[] vs_A = true := List.all_eq_true.mp vwb_9 _ (List.mem_of_getElem? (i := 30) rfl)
theorem vw_391 : (Cond.sameMethod "java/lang/StringBuilder" "java/lang/StringBuilder" "setLength" "(I)V").before #[] vs_A = true := List.all_eq_true.mp vwb_9 _ (List.mem_of_getElem? (i := 31) rfl)
theorem vw_392 : (Cond.selects "java/lang/StringBuilder" ⟨"java/lang/StringBuilder", "setLength", "(I)V"⟩ ⟨"java/lang/StringBuilder", "setLength", "(I)V"⟩).before #[] vs_A = true := List.all_eq_true.mp vwb_9 _ (List.mem_of_getElem? (i := 32) rfl)
theorem vw_393 : (Cond.instanceMethod ⟨"Orderbench", "writeRow", "(LOrderbench$Row;)V"⟩).before #[] vs_A = true := List.all_eq_true.mp vwb_9 _ (List.mem_of_getElem? (i := 33) rfl)
theorem vw_394 : (Cond.code ⟨"Orderbench", "writeRow", "(LOrderbench$Row;)V"⟩ prog_1_method_50_code 3 none).before #[] vs_A = true := List.all_eq_true.mp vwb_9 _ (List.mem_of_getElem? (i := 34) rfl)
theorem vw_395 : (Cond.methodLink "Orderbench" 185 ⟨"Orderbench", "writeRow", "(LOrderbench$Row;)V"⟩).before #[] vs_A = true := List.all_eq_true.mp vwb_9 _ (List.mem_of_getElem? (i := 35) rfl)
theorem vw_396 : (Cond.sameMethod "Orderbench" "Orderbench" "writeRow" "(LOrderbench$Row;)V").before #[] vs_A = true := List.all_eq_true.mp vwb_9 _ (List.mem_of_getElem? (i := 36) rfl)
theorem vw_397 : (Cond.selects "Orderbench" ⟨"Orderbench", "writeRow", "(LOrderbench$Row;)V"⟩ ⟨"Orderbench", "writeRow", "(LOrderbench$Row;)V"⟩).before #[] vs_A = true := List.all_eq_true.mp vwb_9 _ (List.mem_of_getElem? (i := 37) rfl)
theorem vw_398 : (Cond.instanceMethod ⟨"Orderbench", "digestSigns", "(J)J"⟩).before #[] vs_A = true := List.all_eq_true.mp vwb_9 _ (List.mem_of_getElem? (i := 38) rfl)
theorem vw_399 : (Cond.code ⟨"Orderbench", "digestSigns", "(J)J"⟩ prog_1_method_71_code 6 (some .long)).before #[] vs_A = true := List.all_eq_true.mp vwb_9 _ (List.mem_of_getElem? (i := 39) rfl)
def vwl_10 : List Cond := [Cond.methodLink "Orderbench" 312 ⟨"Orderbench", "digestSigns", "(J)J"⟩,
  Cond.sameMethod "Orderbench" "Orderbench" "digestSigns" "(J)J",
  Cond.selects "Orderbench" ⟨"Orderbench", "digestSigns", "(J)J"⟩ ⟨"Orderbench", "digestSigns", "(J)J"⟩,
  Cond.methodLink "Orderbench" 188 ⟨"Orderbench", "liesSorted", "(LOrderbench$Row;LOrderbench$Shape;)Z"⟩,
  Cond.static ⟨"Orderbench", "liesSorted", "(LOrderbench$Row;LOrderbench$Shape;)Z"⟩,
  Cond.code ⟨"Orderbench", "liesSorted", "(LOrderbench$Row;LOrderbench$Shape;)Z"⟩ prog_1_method_59_code 2 (some .boolean),
  Cond.methodLink "Orderbench" 191 ⟨"Orderbench", "classesOf", "(LOrderbench$Row;LOrderbench$Shape;)I"⟩,
  Cond.static ⟨"Orderbench", "classesOf", "(LOrderbench$Row;LOrderbench$Shape;)I"⟩,
  Cond.code ⟨"Orderbench", "classesOf", "(LOrderbench$Row;LOrderbench$Shape;)I"⟩ prog_1_method_63_code 4 (some .int),
  Cond.methodLink "Orderbench" 195 ⟨"Orderbench", "alikeToFarthest", "(LOrderbench$Row;LOrderbench$Shape;I)I"⟩,
  Cond.static ⟨"Orderbench", "alikeToFarthest", "(LOrderbench$Row;LOrderbench$Shape;I)I"⟩,
  Cond.code ⟨"Orderbench", "alikeToFarthest", "(LOrderbench$Row;LOrderbench$Shape;I)I"⟩ prog_1_method_65_code 5 (some .int),
  Cond.instanceMethod ⟨"java/lang/AbstractStringBuilder", "setLength", "(I)V"⟩,
  Cond.code ⟨"java/lang/AbstractStringBuilder", "setLength", "(I)V"⟩ prog_13_method_13_code 2 none,
  Cond.methodLink "java/lang/StringBuilder" 333 ⟨"java/lang/AbstractStringBuilder", "setLength", "(I)V"⟩,
  Cond.sameMethod "java/lang/AbstractStringBuilder" "java/lang/AbstractStringBuilder" "setLength" "(I)V",
  Cond.fieldLink "java/lang/AbstractStringBuilder" 73 "java/lang/AbstractStringBuilder" "maybeLatin1" "Z",
  Cond.methodLink "Orderbench" 307 ⟨"java/lang/StringBuilder", "length", "()I"⟩,
  Cond.sameMethod "java/lang/StringBuilder" "java/lang/StringBuilder" "length" "()I",
  Cond.selects "java/lang/StringBuilder" ⟨"java/lang/StringBuilder", "length", "()I"⟩ ⟨"java/lang/StringBuilder", "length", "()I"⟩,
  Cond.instanceMethod ⟨"java/lang/StringBuilder", "charAt", "(I)C"⟩,
  Cond.code ⟨"java/lang/StringBuilder", "charAt", "(I)C"⟩ prog_29_method_88_code 2 (some .char),
  Cond.methodLink "Orderbench" 308 ⟨"java/lang/StringBuilder", "charAt", "(I)C"⟩,
  Cond.sameMethod "java/lang/StringBuilder" "java/lang/StringBuilder" "charAt" "(I)C",
  Cond.selects "java/lang/StringBuilder" ⟨"java/lang/StringBuilder", "charAt", "(I)C"⟩ ⟨"java/lang/StringBuilder", "charAt", "(I)C"⟩,
  Cond.methodLink "Orderbench" 104 ⟨"Orderbench", "takes", "(LOrderbench$Row;LOrderbench$Shape;)Z"⟩,
  Cond.static ⟨"Orderbench", "takes", "(LOrderbench$Row;LOrderbench$Shape;)Z"⟩,
  Cond.code ⟨"Orderbench", "takes", "(LOrderbench$Row;LOrderbench$Shape;)Z"⟩ prog_1_method_55_code 2 (some .boolean),
  Cond.methodLink "Orderbench" 290 ⟨"Orderbench", "isAscending", "(LOrderbench$Row;LOrderbench$Shape;)Z"⟩,
  Cond.static ⟨"Orderbench", "isAscending", "(LOrderbench$Row;LOrderbench$Shape;)Z"⟩,
  Cond.code ⟨"Orderbench", "isAscending", "(LOrderbench$Row;LOrderbench$Shape;)Z"⟩ prog_1_method_60_code 3 (some .boolean),
  Cond.methodLink "Orderbench" 212 ⟨"Orderbench", "takesEach", "(LOrderbench$Row;LOrderbench$Shape;)Z"⟩,
  Cond.static ⟨"Orderbench", "takesEach", "(LOrderbench$Row;LOrderbench$Shape;)Z"⟩,
  Cond.code ⟨"Orderbench", "takesEach", "(LOrderbench$Row;LOrderbench$Shape;)Z"⟩ prog_1_method_54_code 2 (some .boolean),
  Cond.instanceMethod ⟨"Orderbench$Turned", "write", "(Ljava/lang/StringBuilder;I)V"⟩,
  Cond.code ⟨"Orderbench$Turned", "write", "(Ljava/lang/StringBuilder;I)V"⟩ prog_7_method_3_code 3 none,
  Cond.methodLink "Orderbench" 162 ⟨"Orderbench$Shape", "write", "(Ljava/lang/StringBuilder;I)V"⟩,
  Cond.sameMethod "Orderbench$Shape" "Orderbench$Shape" "write" "(Ljava/lang/StringBuilder;I)V",
  Cond.selects "Orderbench$Turned" ⟨"Orderbench$Shape", "write", "(Ljava/lang/StringBuilder;I)V"⟩ ⟨"Orderbench$Turned", "write", "(Ljava/lang/StringBuilder;I)V"⟩,
  Cond.methodLink "Orderbench$Turned" 27 ⟨"Orderbench$Shape", "write", "(Ljava/lang/StringBuilder;I)V"⟩]
set_option maxRecDepth 100000 in
theorem vwb_10 : vwl_10.all (fun w => w.before #[] vs_A) = true := by decide +kernel
theorem vw_400 : (Cond.methodLink "Orderbench" 312 ⟨"Orderbench", "digestSigns", "(J)J"⟩).before #[] vs_A = true := List.all_eq_true.mp vwb_10 _ (List.mem_of_getElem? (i := 0) rfl)
theorem vw_401 : (Cond.sameMethod "Orderbench" "Orderbench" "digestSigns" "(J)J").before #[] vs_A = true := List.all_eq_true.mp vwb_10 _ (List.mem_of_getElem? (i := 1) rfl)
theorem vw_402 : (Cond.selects "Orderbench" ⟨"Orderbench", "digestSigns", "(J)J"⟩ ⟨"Orderbench", "digestSigns", "(J)J"⟩).before #[] vs_A = true := List.all_eq_true.mp vwb_10 _ (List.mem_of_getElem? (i := 2) rfl)
theorem vw_403 : (Cond.methodLink "Orderbench" 188 ⟨"Orderbench", "liesSorted", "(LOrderbench$Row;LOrderbench$Shape;)Z"⟩).before #[] vs_A = true := List.all_eq_true.mp vwb_10 _ (List.mem_of_getElem? (i := 3) rfl)
theorem vw_404 : (Cond.static ⟨"Orderbench", "liesSorted", "(LOrderbench$Row;LOrderbench$Shape;)Z"⟩).before #[] vs_A = true := List.all_eq_true.mp vwb_10 _ (List.mem_of_getElem? (i := 4) rfl)
theorem vw_405 : (Cond.code ⟨"Orderbench", "liesSorted", "(LOrderbench$Row;LOrderbench$Shape;)Z"⟩ prog_1_method_59_code 2 (some .boolean)).before #[] vs_A = true := List.all_eq_true.mp vwb_10 _ (List.mem_of_getElem? (i := 5) rfl)
theorem vw_406 : (Cond.methodLink "Orderbench" 191 ⟨"Orderbench", "classesOf", "(LOrderbench$Row;LOrderbench$Shape;)I"⟩).before #[] vs_A = true := List.all_eq_true.mp vwb_10 _ (List.mem_of_getElem? (i := 6) rfl)
theorem vw_407 : (Cond.static ⟨"Orderbench", "classesOf", "(LOrderbench$Row;LOrderbench$Shape;)I"⟩).before #[] vs_A = true := List.all_eq_true.mp vwb_10 _ (List.mem_of_getElem? (i := 7) rfl)
theorem vw_408 : (Cond.code ⟨"Orderbench", "classesOf", "(LOrderbench$Row;LOrderbench$Shape;)I"⟩ prog_1_method_63_code 4 (some .int)).before #[] vs_A = true := List.all_eq_true.mp vwb_10 _ (List.mem_of_getElem? (i := 8) rfl)
theorem vw_409 : (Cond.methodLink "Orderbench" 195 ⟨"Orderbench", "alikeToFarthest", "(LOrderbench$Row;LOrderbench$Shape;I)I"⟩).before #[] vs_A = true := List.all_eq_true.mp vwb_10 _ (List.mem_of_getElem? (i := 9) rfl)
theorem vw_410 : (Cond.static ⟨"Orderbench", "alikeToFarthest", "(LOrderbench$Row;LOrderbench$Shape;I)I"⟩).before #[] vs_A = true := List.all_eq_true.mp vwb_10 _ (List.mem_of_getElem? (i := 10) rfl)
theorem vw_411 : (Cond.code ⟨"Orderbench", "alikeToFarthest", "(LOrderbench$Row;LOrderbench$Shape;I)I"⟩ prog_1_method_65_code 5 (some .int)).before #[] vs_A = true := List.all_eq_true.mp vwb_10 _ (List.mem_of_getElem? (i := 11) rfl)
theorem vw_412 : (Cond.instanceMethod ⟨"java/lang/AbstractStringBuilder", "setLength", "(I)V"⟩).before #[] vs_A = true := List.all_eq_true.mp vwb_10 _ (List.mem_of_getElem? (i := 12) rfl)
theorem vw_413 : (Cond.code ⟨"java/lang/AbstractStringBuilder", "setLength", "(I)V"⟩ prog_13_method_13_code 2 none).before #[] vs_A = true := List.all_eq_true.mp vwb_10 _ (List.mem_of_getElem? (i := 13) rfl)
theorem vw_414 : (Cond.methodLink "java/lang/StringBuilder" 333 ⟨"java/lang/AbstractStringBuilder", "setLength", "(I)V"⟩).before #[] vs_A = true := List.all_eq_true.mp vwb_10 _ (List.mem_of_getElem? (i := 14) rfl)
theorem vw_415 : (Cond.sameMethod "java/lang/AbstractStringBuilder" "java/lang/AbstractStringBuilder" "setLength" "(I)V").before #[] vs_A = true := List.all_eq_true.mp vwb_10 _ (List.mem_of_getElem? (i := 15) rfl)
theorem vw_416 : (Cond.fieldLink "java/lang/AbstractStringBuilder" 73 "java/lang/AbstractStringBuilder" "maybeLatin1" "Z").before #[] vs_A = true := List.all_eq_true.mp vwb_10 _ (List.mem_of_getElem? (i := 16) rfl)
theorem vw_417 : (Cond.methodLink "Orderbench" 307 ⟨"java/lang/StringBuilder", "length", "()I"⟩).before #[] vs_A = true := List.all_eq_true.mp vwb_10 _ (List.mem_of_getElem? (i := 17) rfl)
theorem vw_418 : (Cond.sameMethod "java/lang/StringBuilder" "java/lang/StringBuilder" "length" "()I").before #[] vs_A = true := List.all_eq_true.mp vwb_10 _ (List.mem_of_getElem? (i := 18) rfl)
theorem vw_419 : (Cond.selects "java/lang/StringBuilder" ⟨"java/lang/StringBuilder", "length", "()I"⟩ ⟨"java/lang/StringBuilder", "length", "()I"⟩).before #[] vs_A = true := List.all_eq_true.mp vwb_10 _ (List.mem_of_getElem? (i := 19) rfl)
theorem vw_420 : (Cond.instanceMethod ⟨"java/lang/StringBuilder", "charAt", "(I)C"⟩).before #[] vs_A = true := List.all_eq_true.mp vwb_10 _ (List.mem_of_getElem? (i := 20) rfl)
theorem vw_421 : (Cond.code ⟨"java/lang/StringBuilder", "charAt", "(I)C"⟩ prog_29_method_88_code 2 (some .char)).before #[] vs_A = true := List.all_eq_true.mp vwb_10 _ (List.mem_of_getElem? (i := 21) rfl)
theorem vw_422 : (Cond.methodLink "Orderbench" 308 ⟨"java/lang/StringBuilder", "charAt", "(I)C"⟩).before #[] vs_A = true := List.all_eq_true.mp vwb_10 _ (List.mem_of_getElem? (i := 22) rfl)
theorem vw_423 : (Cond.sameMethod "java/lang/StringBuilder" "java/lang/StringBuilder" "charAt" "(I)C").before #[] vs_A = true := List.all_eq_true.mp vwb_10 _ (List.mem_of_getElem? (i := 23) rfl)
theorem vw_424 : (Cond.selects "java/lang/StringBuilder" ⟨"java/lang/StringBuilder", "charAt", "(I)C"⟩ ⟨"java/lang/StringBuilder", "charAt", "(I)C"⟩).before #[] vs_A = true := List.all_eq_true.mp vwb_10 _ (List.mem_of_getElem? (i := 24) rfl)
theorem vw_425 : (Cond.methodLink "Orderbench" 104 ⟨"Orderbench", "takes", "(LOrderbench$Row;LOrderbench$Shape;)Z"⟩).before #[] vs_A = true := List.all_eq_true.mp vwb_10 _ (List.mem_of_getElem? (i := 25) rfl)
theorem vw_426 : (Cond.static ⟨"Orderbench", "takes", "(LOrderbench$Row;LOrderbench$Shape;)Z"⟩).before #[] vs_A = true := List.all_eq_true.mp vwb_10 _ (List.mem_of_getElem? (i := 26) rfl)
theorem vw_427 : (Cond.code ⟨"Orderbench", "takes", "(LOrderbench$Row;LOrderbench$Shape;)Z"⟩ prog_1_method_55_code 2 (some .boolean)).before #[] vs_A = true := List.all_eq_true.mp vwb_10 _ (List.mem_of_getElem? (i := 27) rfl)
theorem vw_428 : (Cond.methodLink "Orderbench" 290 ⟨"Orderbench", "isAscending", "(LOrderbench$Row;LOrderbench$Shape;)Z"⟩).before #[] vs_A = true := List.all_eq_true.mp vwb_10 _ (List.mem_of_getElem? (i := 28) rfl)
theorem vw_429 : (Cond.static ⟨"Orderbench", "isAscending", "(LOrderbench$Row;LOrderbench$Shape;)Z"⟩).before #[] vs_A = true := List.all_eq_true.mp vwb_10 _ (List.mem_of_getElem? (i := 29) rfl)
theorem vw_430 : (Cond.code ⟨"Orderbench", "isAscending", "(LOrderbench$Row;LOrderbench$Shape;)Z"⟩ prog_1_method_60_code 3 (some .boolean)).before #[] vs_A = true := List.all_eq_true.mp vwb_10 _ (List.mem_of_getElem? (i := 30) rfl)
theorem vw_431 : (Cond.methodLink "Orderbench" 212 ⟨"Orderbench", "takesEach", "(LOrderbench$Row;LOrderbench$Shape;)Z"⟩).before #[] vs_A = true := List.all_eq_true.mp vwb_10 _ (List.mem_of_getElem? (i := 31) rfl)
theorem vw_432 : (Cond.static ⟨"Orderbench", "takesEach", "(LOrderbench$Row;LOrderbench$Shape;)Z"⟩).before #[] vs_A = true := List.all_eq_true.mp vwb_10 _ (List.mem_of_getElem? (i := 32) rfl)
theorem vw_433 : (Cond.code ⟨"Orderbench", "takesEach", "(LOrderbench$Row;LOrderbench$Shape;)Z"⟩ prog_1_method_54_code 2 (some .boolean)).before #[] vs_A = true := List.all_eq_true.mp vwb_10 _ (List.mem_of_getElem? (i := 33) rfl)
theorem vw_434 : (Cond.instanceMethod ⟨"Orderbench$Turned", "write", "(Ljava/lang/StringBuilder;I)V"⟩).before #[] vs_A = true := List.all_eq_true.mp vwb_10 _ (List.mem_of_getElem? (i := 34) rfl)
theorem vw_435 : (Cond.code ⟨"Orderbench$Turned", "write", "(Ljava/lang/StringBuilder;I)V"⟩ prog_7_method_3_code 3 none).before #[] vs_A = true := List.all_eq_true.mp vwb_10 _ (List.mem_of_getElem? (i := 35) rfl)
theorem vw_436 : (Cond.methodLink "Orderbench" 162 ⟨"Orderbench$Shape", "write", "(Ljava/lang/StringBuilder;I)V"⟩).before #[] vs_A = true := List.all_eq_true.mp vwb_10 _ (List.mem_of_getElem? (i := 36) rfl)
theorem vw_437 : (Cond.sameMethod "Orderbench$Shape" "Orderbench$Shape" "write" "(Ljava/lang/StringBuilder;I)V").before #[] vs_A = true := List.all_eq_true.mp vwb_10 _ (List.mem_of_getElem? (i := 37) rfl)
theorem vw_438 : (Cond.selects "Orderbench$Turned" ⟨"Orderbench$Shape", "write", "(Ljava/lang/StringBuilder;I)V"⟩ ⟨"Orderbench$Turned", "write", "(Ljava/lang/StringBuilder;I)V"⟩).before #[] vs_A = true := List.all_eq_true.mp vwb_10 _ (List.mem_of_getElem? (i := 38) rfl)
theorem vw_439 : (Cond.methodLink "Orderbench$Turned" 27 ⟨"Orderbench$Shape", "write", "(Ljava/lang/StringBuilder;I)V"⟩).before #[] vs_A = true := List.all_eq_true.mp vwb_10 _ (List.mem_of_getElem? (i := 39) rfl)
def vwl_11 : List Cond := [Cond.instanceMethod ⟨"Orderbench$Base", "write", "(Ljava/lang/StringBuilder;I)V"⟩,
  Cond.code ⟨"Orderbench$Base", "write", "(Ljava/lang/StringBuilder;I)V"⟩ prog_2_method_3_code 3 none,
  Cond.selects "Orderbench$Base" ⟨"Orderbench$Shape", "write", "(Ljava/lang/StringBuilder;I)V"⟩ ⟨"Orderbench$Base", "write", "(Ljava/lang/StringBuilder;I)V"⟩,
  Cond.methodLink "Orderbench$Turned" 31 ⟨"java/lang/StringBuilder", "append", "(C)Ljava/lang/StringBuilder;"⟩,
  Cond.methodLink "Orderbench$Base" 25 ⟨"java/lang/String", "length", "()I"⟩,
  Cond.instanceMethod ⟨"java/lang/String", "charAt", "(I)C"⟩,
  Cond.code ⟨"java/lang/String", "charAt", "(I)C"⟩ prog_28_method_56_code 2 (some .char),
  Cond.methodLink "Orderbench$Base" 31 ⟨"java/lang/String", "charAt", "(I)C"⟩,
  Cond.sameMethod "java/lang/String" "java/lang/String" "charAt" "(I)C",
  Cond.selects "java/lang/String" ⟨"java/lang/String", "charAt", "(I)C"⟩ ⟨"java/lang/String", "charAt", "(I)C"⟩,
  Cond.methodLink "Orderbench$Base" 35 ⟨"java/lang/StringBuilder", "append", "(C)Ljava/lang/StringBuilder;"⟩,
  Cond.instanceMethod ⟨"java/lang/String", "isLatin1", "()Z"⟩,
  Cond.code ⟨"java/lang/String", "isLatin1", "()Z"⟩ prog_28_method_154_code 1 (some .boolean),
  Cond.methodLink "java/lang/String" 492 ⟨"java/lang/String", "isLatin1", "()Z"⟩,
  Cond.sameMethod "java/lang/String" "java/lang/String" "isLatin1" "()Z",
  Cond.selects "java/lang/String" ⟨"java/lang/String", "isLatin1", "()Z"⟩ ⟨"java/lang/String", "isLatin1", "()Z"⟩,
  Cond.methodLink "java/lang/String" 495 ⟨"java/lang/StringLatin1", "charAt", "([BI)C"⟩,
  Cond.static ⟨"java/lang/StringLatin1", "charAt", "([BI)C"⟩,
  Cond.code ⟨"java/lang/StringLatin1", "charAt", "([BI)C"⟩ prog_31_method_2_code 2 (some .char),
  Cond.methodLink "java/lang/StringLatin1" 9 ⟨"java/lang/String", "checkIndex", "(II)V"⟩,
  Cond.static ⟨"java/lang/String", "checkIndex", "(II)V"⟩,
  Cond.code ⟨"java/lang/String", "checkIndex", "(II)V"⟩ prog_28_method_155_code 2 none,
  Cond.fieldLink "java/lang/String" 1053 "jdk/internal/util/Preconditions" "SIOOBE_FORMATTER" "Ljava/util/function/BiFunction;",
  Cond.methodLink "java/lang/String" 1059 ⟨"jdk/internal/util/Preconditions", "checkIndex", "(IILjava/util/function/BiFunction;)I"⟩,
  Cond.static ⟨"jdk/internal/util/Preconditions", "checkIndex", "(IILjava/util/function/BiFunction;)I"⟩,
  Cond.initialized "jdk/internal/util/Preconditions",
  Cond.code ⟨"jdk/internal/util/Preconditions", "checkIndex", "(IILjava/util/function/BiFunction;)I"⟩ prog_49_method_11_code 3 (some .int),
  Cond.instanceMethod ⟨"java/lang/AbstractStringBuilder", "charAt", "(I)C"⟩,
  Cond.code ⟨"java/lang/AbstractStringBuilder", "charAt", "(I)C"⟩ prog_13_method_14_code 5 (some .char),
  Cond.methodLink "java/lang/StringBuilder" 329 ⟨"java/lang/AbstractStringBuilder", "charAt", "(I)C"⟩,
  Cond.sameMethod "java/lang/AbstractStringBuilder" "java/lang/AbstractStringBuilder" "charAt" "(I)C",
  Cond.methodLink "java/lang/AbstractStringBuilder" 138 ⟨"java/lang/Math", "min", "(II)I"⟩,
  Cond.methodLink "java/lang/AbstractStringBuilder" 144 ⟨"java/lang/String", "checkIndex", "(II)V"⟩,
  Cond.instanceMethod ⟨"Orderbench", "isSoundOn", "(LOrderbench$Row;LOrderbench$Shape;)Z"⟩,
  Cond.code ⟨"Orderbench", "isSoundOn", "(LOrderbench$Row;LOrderbench$Shape;)Z"⟩ prog_1_method_68_code 4 (some .boolean),
  Cond.methodLink "Orderbench" 223 ⟨"Orderbench", "isSoundOn", "(LOrderbench$Row;LOrderbench$Shape;)Z"⟩,
  Cond.sameMethod "Orderbench" "Orderbench" "isSoundOn" "(LOrderbench$Row;LOrderbench$Shape;)Z",
  Cond.selects "Orderbench" ⟨"Orderbench", "isSoundOn", "(LOrderbench$Row;LOrderbench$Shape;)Z"⟩ ⟨"Orderbench", "isSoundOn", "(LOrderbench$Row;LOrderbench$Shape;)Z"⟩,
  Cond.instanceMethod ⟨"Orderbench", "ranksAll", "(LOrderbench$Row;LOrderbench$Shape;)Z"⟩,
  Cond.code ⟨"Orderbench", "ranksAll", "(LOrderbench$Row;LOrderbench$Shape;)Z"⟩ prog_1_method_57_code 6 (some .boolean)]
set_option maxRecDepth 100000 in
theorem vwb_11 : vwl_11.all (fun w => w.before #[] vs_A) = true := by decide +kernel
theorem vw_440 : (Cond.instanceMethod ⟨"Orderbench$Base", "write", "(Ljava/lang/StringBuilder;I)V"⟩).before #[] vs_A = true := List.all_eq_true.mp vwb_11 _ (List.mem_of_getElem? (i := 0) rfl)
theorem vw_441 : (Cond.code ⟨"Orderbench$Base", "write", "(Ljava/lang/StringBuilder;I)V"⟩ prog_2_method_3_code 3 none).before #[] vs_A = true := List.all_eq_true.mp vwb_11 _ (List.mem_of_getElem? (i := 1) rfl)
theorem vw_442 : (Cond.selects "Orderbench$Base" ⟨"Orderbench$Shape", "write", "(Ljava/lang/StringBuilder;I)V"⟩ ⟨"Orderbench$Base", "write", "(Ljava/lang/StringBuilder;I)V"⟩).before #[] vs_A = true := List.all_eq_true.mp vwb_11 _ (List.mem_of_getElem? (i := 2) rfl)
theorem vw_443 : (Cond.methodLink "Orderbench$Turned" 31 ⟨"java/lang/StringBuilder", "append", "(C)Ljava/lang/StringBuilder;"⟩).before #[] vs_A = true := List.all_eq_true.mp vwb_11 _ (List.mem_of_getElem? (i := 3) rfl)
theorem vw_444 : (Cond.methodLink "Orderbench$Base" 25 ⟨"java/lang/String", "length", "()I"⟩).before #[] vs_A = true := List.all_eq_true.mp vwb_11 _ (List.mem_of_getElem? (i := 4) rfl)
theorem vw_445 : (Cond.instanceMethod ⟨"java/lang/String", "charAt", "(I)C"⟩).before #[] vs_A = true := List.all_eq_true.mp vwb_11 _ (List.mem_of_getElem? (i := 5) rfl)
theorem vw_446 : (Cond.code ⟨"java/lang/String", "charAt", "(I)C"⟩ prog_28_method_56_code 2 (some .char)).before #[] vs_A = true := List.all_eq_true.mp vwb_11 _ (List.mem_of_getElem? (i := 6) rfl)
end
section
theorem vw_447 : (Cond.methodLink "Orderbench$Base" 31 ⟨"java/lang/String", "charAt", "(I)C"⟩).before #[] vs_A = true := List.all_eq_true.mp vwb_11 _ (List.mem_of_getElem? (i := 7) rfl)
theorem vw_448 : (Cond.sameMethod "java/lang/String" "java/lang/String" "charAt" "(I)C").before #[] vs_A = true := List.all_eq_true.mp vwb_11 _ (List.mem_of_getElem? (i := 8) rfl)
theorem vw_449 : (Cond.selects "java/lang/String" ⟨"java/lang/String", "charAt", "(I)C"⟩ ⟨"java/lang/String", "charAt", "(I)C"⟩).before #[] vs_A = true := List.all_eq_true.mp vwb_11 _ (List.mem_of_getElem? (i := 9) rfl)
theorem vw_450 : (Cond.methodLink "Orderbench$Base" 35 ⟨"java/lang/StringBuilder", "append", "(C)Ljava/lang/StringBuilder;"⟩).before #[] vs_A = true := List.all_eq_true.mp vwb_11 _ (List.mem_of_getElem? (i := 10) rfl)
theorem vw_451 : (Cond.instanceMethod ⟨"java/lang/String", "isLatin1", "()Z"⟩).before #[] vs_A = true := List.all_eq_true.mp vwb_11 _ (List.mem_of_getElem? (i := 11) rfl)
theorem vw_452 : (Cond.code ⟨"java/lang/String", "isLatin1", "()Z"⟩ prog_28_method_154_code 1 (some .boolean)).before #[] vs_A = true := List.all_eq_true.mp vwb_11 _ (List.mem_of_getElem? (i := 12) rfl)
theorem vw_453 : (Cond.methodLink "java/lang/String" 492 ⟨"java/lang/String", "isLatin1", "()Z"⟩).before #[] vs_A = true := List.all_eq_true.mp vwb_11 _ (List.mem_of_getElem? (i := 13) rfl)
theorem vw_454 : (Cond.sameMethod "java/lang/String" "java/lang/String" "isLatin1" "()Z").before #[] vs_A = true := List.all_eq_true.mp vwb_11 _ (List.mem_of_getElem? (i := 14) rfl)
theorem vw_455 : (Cond.selects "java/lang/String" ⟨"java/lang/String", "isLatin1", "()Z"⟩ ⟨"java/lang/String", "isLatin1", "()Z"⟩).before #[] vs_A = true := List.all_eq_true.mp vwb_11 _ (List.mem_of_getElem? (i := 15) rfl)
theorem vw_456 : (Cond.methodLink "java/lang/String" 495 ⟨"java/lang/StringLatin1", "charAt", "([BI)C"⟩).before #[] vs_A = true := List.all_eq_true.mp vwb_11 _ (List.mem_of_getElem? (i := 16) rfl)
theorem vw_457 : (Cond.static ⟨"java/lang/StringLatin1", "charAt", "([BI)C"⟩).before #[] vs_A = true := List.all_eq_true.mp vwb_11 _ (List.mem_of_getElem? (i := 17) rfl)
theorem vw_458 : (Cond.code ⟨"java/lang/StringLatin1", "charAt", "([BI)C"⟩ prog_31_method_2_code 2 (some .char)).before #[] vs_A = true := List.all_eq_true.mp vwb_11 _ (List.mem_of_getElem? (i := 18) rfl)
theorem vw_459 : (Cond.methodLink "java/lang/StringLatin1" 9 ⟨"java/lang/String", "checkIndex", "(II)V"⟩).before #[] vs_A = true := List.all_eq_true.mp vwb_11 _ (List.mem_of_getElem? (i := 19) rfl)
theorem vw_460 : (Cond.static ⟨"java/lang/String", "checkIndex", "(II)V"⟩).before #[] vs_A = true := List.all_eq_true.mp vwb_11 _ (List.mem_of_getElem? (i := 20) rfl)
theorem vw_461 : (Cond.code ⟨"java/lang/String", "checkIndex", "(II)V"⟩ prog_28_method_155_code 2 none).before #[] vs_A = true := List.all_eq_true.mp vwb_11 _ (List.mem_of_getElem? (i := 21) rfl)
theorem vw_462 : (Cond.fieldLink "java/lang/String" 1053 "jdk/internal/util/Preconditions" "SIOOBE_FORMATTER" "Ljava/util/function/BiFunction;").before #[] vs_A = true := List.all_eq_true.mp vwb_11 _ (List.mem_of_getElem? (i := 22) rfl)
theorem vw_463 : (Cond.methodLink "java/lang/String" 1059 ⟨"jdk/internal/util/Preconditions", "checkIndex", "(IILjava/util/function/BiFunction;)I"⟩).before #[] vs_A = true := List.all_eq_true.mp vwb_11 _ (List.mem_of_getElem? (i := 23) rfl)
theorem vw_464 : (Cond.static ⟨"jdk/internal/util/Preconditions", "checkIndex", "(IILjava/util/function/BiFunction;)I"⟩).before #[] vs_A = true := List.all_eq_true.mp vwb_11 _ (List.mem_of_getElem? (i := 24) rfl)
theorem vw_465 : (Cond.initialized "jdk/internal/util/Preconditions").before #[] vs_A = true := List.all_eq_true.mp vwb_11 _ (List.mem_of_getElem? (i := 25) rfl)
theorem vw_466 : (Cond.code ⟨"jdk/internal/util/Preconditions", "checkIndex", "(IILjava/util/function/BiFunction;)I"⟩ prog_49_method_11_code 3 (some .int)).before #[] vs_A = true := List.all_eq_true.mp vwb_11 _ (List.mem_of_getElem? (i := 26) rfl)
theorem vw_467 : (Cond.instanceMethod ⟨"java/lang/AbstractStringBuilder", "charAt", "(I)C"⟩).before #[] vs_A = true := List.all_eq_true.mp vwb_11 _ (List.mem_of_getElem? (i := 27) rfl)
theorem vw_468 : (Cond.code ⟨"java/lang/AbstractStringBuilder", "charAt", "(I)C"⟩ prog_13_method_14_code 5 (some .char)).before #[] vs_A = true := List.all_eq_true.mp vwb_11 _ (List.mem_of_getElem? (i := 28) rfl)
theorem vw_469 : (Cond.methodLink "java/lang/StringBuilder" 329 ⟨"java/lang/AbstractStringBuilder", "charAt", "(I)C"⟩).before #[] vs_A = true := List.all_eq_true.mp vwb_11 _ (List.mem_of_getElem? (i := 29) rfl)
theorem vw_470 : (Cond.sameMethod "java/lang/AbstractStringBuilder" "java/lang/AbstractStringBuilder" "charAt" "(I)C").before #[] vs_A = true := List.all_eq_true.mp vwb_11 _ (List.mem_of_getElem? (i := 30) rfl)
theorem vw_471 : (Cond.methodLink "java/lang/AbstractStringBuilder" 138 ⟨"java/lang/Math", "min", "(II)I"⟩).before #[] vs_A = true := List.all_eq_true.mp vwb_11 _ (List.mem_of_getElem? (i := 31) rfl)
theorem vw_472 : (Cond.methodLink "java/lang/AbstractStringBuilder" 144 ⟨"java/lang/String", "checkIndex", "(II)V"⟩).before #[] vs_A = true := List.all_eq_true.mp vwb_11 _ (List.mem_of_getElem? (i := 32) rfl)
theorem vw_473 : (Cond.instanceMethod ⟨"Orderbench", "isSoundOn", "(LOrderbench$Row;LOrderbench$Shape;)Z"⟩).before #[] vs_A = true := List.all_eq_true.mp vwb_11 _ (List.mem_of_getElem? (i := 33) rfl)
theorem vw_474 : (Cond.code ⟨"Orderbench", "isSoundOn", "(LOrderbench$Row;LOrderbench$Shape;)Z"⟩ prog_1_method_68_code 4 (some .boolean)).before #[] vs_A = true := List.all_eq_true.mp vwb_11 _ (List.mem_of_getElem? (i := 34) rfl)
theorem vw_475 : (Cond.methodLink "Orderbench" 223 ⟨"Orderbench", "isSoundOn", "(LOrderbench$Row;LOrderbench$Shape;)Z"⟩).before #[] vs_A = true := List.all_eq_true.mp vwb_11 _ (List.mem_of_getElem? (i := 35) rfl)
theorem vw_476 : (Cond.sameMethod "Orderbench" "Orderbench" "isSoundOn" "(LOrderbench$Row;LOrderbench$Shape;)Z").before #[] vs_A = true := List.all_eq_true.mp vwb_11 _ (List.mem_of_getElem? (i := 36) rfl)
theorem vw_477 : (Cond.selects "Orderbench" ⟨"Orderbench", "isSoundOn", "(LOrderbench$Row;LOrderbench$Shape;)Z"⟩ ⟨"Orderbench", "isSoundOn", "(LOrderbench$Row;LOrderbench$Shape;)Z"⟩).before #[] vs_A = true := List.all_eq_true.mp vwb_11 _ (List.mem_of_getElem? (i := 37) rfl)
theorem vw_478 : (Cond.instanceMethod ⟨"Orderbench", "ranksAll", "(LOrderbench$Row;LOrderbench$Shape;)Z"⟩).before #[] vs_A = true := List.all_eq_true.mp vwb_11 _ (List.mem_of_getElem? (i := 38) rfl)
theorem vw_479 : (Cond.code ⟨"Orderbench", "ranksAll", "(LOrderbench$Row;LOrderbench$Shape;)Z"⟩ prog_1_method_57_code 6 (some .boolean)).before #[] vs_A = true := List.all_eq_true.mp vwb_11 _ (List.mem_of_getElem? (i := 39) rfl)
def vwl_12 : List Cond := [Cond.methodLink "Orderbench" 182 ⟨"Orderbench", "ranksAll", "(LOrderbench$Row;LOrderbench$Shape;)Z"⟩,
  Cond.sameMethod "Orderbench" "Orderbench" "ranksAll" "(LOrderbench$Row;LOrderbench$Shape;)Z",
  Cond.selects "Orderbench" ⟨"Orderbench", "ranksAll", "(LOrderbench$Row;LOrderbench$Shape;)Z"⟩ ⟨"Orderbench", "ranksAll", "(LOrderbench$Row;LOrderbench$Shape;)Z"⟩,
  Cond.methodLink "Orderbench" 178 ⟨"Orderbench", "tellTheSame", "(LOrderbench$Row;LOrderbench$Shape;LOrderbench$Shape;)Z"⟩,
  Cond.static ⟨"Orderbench", "tellTheSame", "(LOrderbench$Row;LOrderbench$Shape;LOrderbench$Shape;)Z"⟩,
  Cond.code ⟨"Orderbench", "tellTheSame", "(LOrderbench$Row;LOrderbench$Shape;LOrderbench$Shape;)Z"⟩ prog_1_method_56_code 7 (some .boolean),
  Cond.instanceMethod ⟨"Orderbench", "sortsWell", "(LOrderbench$Row;LOrderbench$Shape;)Z"⟩,
  Cond.code ⟨"Orderbench", "sortsWell", "(LOrderbench$Row;LOrderbench$Shape;)Z"⟩ prog_1_method_67_code 3 (some .boolean),
  Cond.methodLink "Orderbench" 301 ⟨"Orderbench", "sortsWell", "(LOrderbench$Row;LOrderbench$Shape;)Z"⟩,
  Cond.sameMethod "Orderbench" "Orderbench" "sortsWell" "(LOrderbench$Row;LOrderbench$Shape;)Z",
  Cond.selects "Orderbench" ⟨"Orderbench", "sortsWell", "(LOrderbench$Row;LOrderbench$Shape;)Z"⟩ ⟨"Orderbench", "sortsWell", "(LOrderbench$Row;LOrderbench$Shape;)Z"⟩,
  Cond.instanceMethod ⟨"Orderbench", "sortsAsTwice", "(LOrderbench$Row;LOrderbench$Shape;LOrderbench$Shape;)Z"⟩,
  Cond.code ⟨"Orderbench", "sortsAsTwice", "(LOrderbench$Row;LOrderbench$Shape;LOrderbench$Shape;)Z"⟩ prog_1_method_66_code 4 (some .boolean),
  Cond.methodLink "Orderbench" 206 ⟨"Orderbench", "sortsAsTwice", "(LOrderbench$Row;LOrderbench$Shape;LOrderbench$Shape;)Z"⟩,
  Cond.sameMethod "Orderbench" "Orderbench" "sortsAsTwice" "(LOrderbench$Row;LOrderbench$Shape;LOrderbench$Shape;)Z",
  Cond.selects "Orderbench" ⟨"Orderbench", "sortsAsTwice", "(LOrderbench$Row;LOrderbench$Shape;LOrderbench$Shape;)Z"⟩ ⟨"Orderbench", "sortsAsTwice", "(LOrderbench$Row;LOrderbench$Shape;LOrderbench$Shape;)Z"⟩,
  Cond.instanceMethod ⟨"Orderbench$Row", "becomeTaken", "(LOrderbench$Row;Z)V"⟩,
  Cond.code ⟨"Orderbench$Row", "becomeTaken", "(LOrderbench$Row;Z)V"⟩ prog_4_method_8_code 5 none,
  Cond.methodLink "Orderbench" 282 ⟨"Orderbench$Row", "becomeTaken", "(LOrderbench$Row;Z)V"⟩,
  Cond.sameMethod "Orderbench$Row" "Orderbench$Row" "becomeTaken" "(LOrderbench$Row;Z)V",
  Cond.selects "Orderbench$Row" ⟨"Orderbench$Row", "becomeTaken", "(LOrderbench$Row;Z)V"⟩ ⟨"Orderbench$Row", "becomeTaken", "(LOrderbench$Row;Z)V"⟩,
  Cond.instanceMethod ⟨"Orderbench$Row", "become", "(LOrderbench$Row;)V"⟩,
  Cond.code ⟨"Orderbench$Row", "become", "(LOrderbench$Row;)V"⟩ prog_4_method_7_code 2 none,
  Cond.methodLink "Orderbench" 96 ⟨"Orderbench$Row", "become", "(LOrderbench$Row;)V"⟩,
  Cond.sameMethod "Orderbench$Row" "Orderbench$Row" "become" "(LOrderbench$Row;)V",
  Cond.selects "Orderbench$Row" ⟨"Orderbench$Row", "become", "(LOrderbench$Row;)V"⟩ ⟨"Orderbench$Row", "become", "(LOrderbench$Row;)V"⟩,
  Cond.instanceMethod ⟨"Orderbench$Row", "arrange", "(LOrderbench$Shape;)V"⟩,
  Cond.code ⟨"Orderbench$Row", "arrange", "(LOrderbench$Shape;)V"⟩ prog_4_method_13_code 5 none,
  Cond.methodLink "Orderbench" 111 ⟨"Orderbench$Row", "arrange", "(LOrderbench$Shape;)V"⟩,
  Cond.sameMethod "Orderbench$Row" "Orderbench$Row" "arrange" "(LOrderbench$Shape;)V",
  Cond.selects "Orderbench$Row" ⟨"Orderbench$Row", "arrange", "(LOrderbench$Shape;)V"⟩ ⟨"Orderbench$Row", "arrange", "(LOrderbench$Shape;)V"⟩,
  Cond.instanceMethod ⟨"Orderbench$Row", "holdsAllOf", "(LOrderbench$Row;)Z"⟩,
  Cond.code ⟨"Orderbench$Row", "holdsAllOf", "(LOrderbench$Row;)Z"⟩ prog_4_method_12_code 3 (some .boolean),
  Cond.methodLink "Orderbench" 297 ⟨"Orderbench$Row", "holdsAllOf", "(LOrderbench$Row;)Z"⟩,
  Cond.sameMethod "Orderbench$Row" "Orderbench$Row" "holdsAllOf" "(LOrderbench$Row;)Z",
  Cond.selects "Orderbench$Row" ⟨"Orderbench$Row", "holdsAllOf", "(LOrderbench$Row;)Z"⟩ ⟨"Orderbench$Row", "holdsAllOf", "(LOrderbench$Row;)Z"⟩,
  Cond.instanceMethod ⟨"Orderbench$Row", "unlike", "(LOrderbench$Row;)I"⟩,
  Cond.code ⟨"Orderbench$Row", "unlike", "(LOrderbench$Row;)I"⟩ prog_4_method_11_code 4 (some .int),
  Cond.methodLink "Orderbench" 115 ⟨"Orderbench$Row", "unlike", "(LOrderbench$Row;)I"⟩,
  Cond.sameMethod "Orderbench$Row" "Orderbench$Row" "unlike" "(LOrderbench$Row;)I"]
set_option maxRecDepth 100000 in
theorem vwb_12 : vwl_12.all (fun w => w.before #[] vs_A) = true := by decide +kernel
theorem vw_480 : (Cond.methodLink "Orderbench" 182 ⟨"Orderbench", "ranksAll", "(LOrderbench$Row;LOrderbench$Shape;)Z"⟩).before #[] vs_A = true := List.all_eq_true.mp vwb_12 _ (List.mem_of_getElem? (i := 0) rfl)
theorem vw_481 : (Cond.sameMethod "Orderbench" "Orderbench" "ranksAll" "(LOrderbench$Row;LOrderbench$Shape;)Z").before #[] vs_A = true := List.all_eq_true.mp vwb_12 _ (List.mem_of_getElem? (i := 1) rfl)
theorem vw_482 : (Cond.selects "Orderbench" ⟨"Orderbench", "ranksAll", "(LOrderbench$Row;LOrderbench$Shape;)Z"⟩ ⟨"Orderbench", "ranksAll", "(LOrderbench$Row;LOrderbench$Shape;)Z"⟩).before #[] vs_A = true := List.all_eq_true.mp vwb_12 _ (List.mem_of_getElem? (i := 2) rfl)
theorem vw_483 : (Cond.methodLink "Orderbench" 178 ⟨"Orderbench", "tellTheSame", "(LOrderbench$Row;LOrderbench$Shape;LOrderbench$Shape;)Z"⟩).before #[] vs_A = true := List.all_eq_true.mp vwb_12 _ (List.mem_of_getElem? (i := 3) rfl)
theorem vw_484 : (Cond.static ⟨"Orderbench", "tellTheSame", "(LOrderbench$Row;LOrderbench$Shape;LOrderbench$Shape;)Z"⟩).before #[] vs_A = true := List.all_eq_true.mp vwb_12 _ (List.mem_of_getElem? (i := 4) rfl)
theorem vw_485 : (Cond.code ⟨"Orderbench", "tellTheSame", "(LOrderbench$Row;LOrderbench$Shape;LOrderbench$Shape;)Z"⟩ prog_1_method_56_code 7 (some .boolean)).before #[] vs_A = true := List.all_eq_true.mp vwb_12 _ (List.mem_of_getElem? (i := 5) rfl)
theorem vw_486 : (Cond.instanceMethod ⟨"Orderbench", "sortsWell", "(LOrderbench$Row;LOrderbench$Shape;)Z"⟩).before #[] vs_A = true := List.all_eq_true.mp vwb_12 _ (List.mem_of_getElem? (i := 6) rfl)
theorem vw_487 : (Cond.code ⟨"Orderbench", "sortsWell", "(LOrderbench$Row;LOrderbench$Shape;)Z"⟩ prog_1_method_67_code 3 (some .boolean)).before #[] vs_A = true := List.all_eq_true.mp vwb_12 _ (List.mem_of_getElem? (i := 7) rfl)
theorem vw_488 : (Cond.methodLink "Orderbench" 301 ⟨"Orderbench", "sortsWell", "(LOrderbench$Row;LOrderbench$Shape;)Z"⟩).before #[] vs_A = true := List.all_eq_true.mp vwb_12 _ (List.mem_of_getElem? (i := 8) rfl)
theorem vw_489 : (Cond.sameMethod "Orderbench" "Orderbench" "sortsWell" "(LOrderbench$Row;LOrderbench$Shape;)Z").before #[] vs_A = true := List.all_eq_true.mp vwb_12 _ (List.mem_of_getElem? (i := 9) rfl)
theorem vw_490 : (Cond.selects "Orderbench" ⟨"Orderbench", "sortsWell", "(LOrderbench$Row;LOrderbench$Shape;)Z"⟩ ⟨"Orderbench", "sortsWell", "(LOrderbench$Row;LOrderbench$Shape;)Z"⟩).before #[] vs_A = true := List.all_eq_true.mp vwb_12 _ (List.mem_of_getElem? (i := 10) rfl)
theorem vw_491 : (Cond.instanceMethod ⟨"Orderbench", "sortsAsTwice", "(LOrderbench$Row;LOrderbench$Shape;LOrderbench$Shape;)Z"⟩).before #[] vs_A = true := List.all_eq_true.mp vwb_12 _ (List.mem_of_getElem? (i := 11) rfl)
theorem vw_492 : (Cond.code ⟨"Orderbench", "sortsAsTwice", "(LOrderbench$Row;LOrderbench$Shape;LOrderbench$Shape;)Z"⟩ prog_1_method_66_code 4 (some .boolean)).before #[] vs_A = true := List.all_eq_true.mp vwb_12 _ (List.mem_of_getElem? (i := 12) rfl)
theorem vw_493 : (Cond.methodLink "Orderbench" 206 ⟨"Orderbench", "sortsAsTwice", "(LOrderbench$Row;LOrderbench$Shape;LOrderbench$Shape;)Z"⟩).before #[] vs_A = true := List.all_eq_true.mp vwb_12 _ (List.mem_of_getElem? (i := 13) rfl)
theorem vw_494 : (Cond.sameMethod "Orderbench" "Orderbench" "sortsAsTwice" "(LOrderbench$Row;LOrderbench$Shape;LOrderbench$Shape;)Z").before #[] vs_A = true := List.all_eq_true.mp vwb_12 _ (List.mem_of_getElem? (i := 14) rfl)
theorem vw_495 : (Cond.selects "Orderbench" ⟨"Orderbench", "sortsAsTwice", "(LOrderbench$Row;LOrderbench$Shape;LOrderbench$Shape;)Z"⟩ ⟨"Orderbench", "sortsAsTwice", "(LOrderbench$Row;LOrderbench$Shape;LOrderbench$Shape;)Z"⟩).before #[] vs_A = true := List.all_eq_true.mp vwb_12 _ (List.mem_of_getElem? (i := 15) rfl)
theorem vw_496 : (Cond.instanceMethod ⟨"Orderbench$Row", "becomeTaken", "(LOrderbench$Row;Z)V"⟩).before #[] vs_A = true := List.all_eq_true.mp vwb_12 _ (List.mem_of_getElem? (i := 16) rfl)
theorem vw_497 : (Cond.code ⟨"Orderbench$Row", "becomeTaken", "(LOrderbench$Row;Z)V"⟩ prog_4_method_8_code 5 none).before #[] vs_A = true := List.all_eq_true.mp vwb_12 _ (List.mem_of_getElem? (i := 17) rfl)
theorem vw_498 : (Cond.methodLink "Orderbench" 282 ⟨"Orderbench$Row", "becomeTaken", "(LOrderbench$Row;Z)V"⟩).before #[] vs_A = true := List.all_eq_true.mp vwb_12 _ (List.mem_of_getElem? (i := 18) rfl)
theorem vw_499 : (Cond.sameMethod "Orderbench$Row" "Orderbench$Row" "becomeTaken" "(LOrderbench$Row;Z)V").before #[] vs_A = true := List.all_eq_true.mp vwb_12 _ (List.mem_of_getElem? (i := 19) rfl)
theorem vw_500 : (Cond.selects "Orderbench$Row" ⟨"Orderbench$Row", "becomeTaken", "(LOrderbench$Row;Z)V"⟩ ⟨"Orderbench$Row", "becomeTaken", "(LOrderbench$Row;Z)V"⟩).before #[] vs_A = true := List.all_eq_true.mp vwb_12 _ (List.mem_of_getElem? (i := 20) rfl)
theorem vw_501 : (Cond.instanceMethod ⟨"Orderbench$Row", "become", "(LOrderbench$Row;)V"⟩).before #[] vs_A = true := List.all_eq_true.mp vwb_12 _ (List.mem_of_getElem? (i := 21) rfl)
theorem vw_502 : (Cond.code ⟨"Orderbench$Row", "become", "(LOrderbench$Row;)V"⟩ prog_4_method_7_code 2 none).before #[] vs_A = true := List.all_eq_true.mp vwb_12 _ (List.mem_of_getElem? (i := 22) rfl)
theorem vw_503 : (Cond.methodLink "Orderbench" 96 ⟨"Orderbench$Row", "become", "(LOrderbench$Row;)V"⟩).before #[] vs_A = true := List.all_eq_true.mp vwb_12 _ (List.mem_of_getElem? (i := 23) rfl)
theorem vw_504 : (Cond.sameMethod "Orderbench$Row" "Orderbench$Row" "become" "(LOrderbench$Row;)V").before #[] vs_A = true := List.all_eq_true.mp vwb_12 _ (List.mem_of_getElem? (i := 24) rfl)
theorem vw_505 : (Cond.selects "Orderbench$Row" ⟨"Orderbench$Row", "become", "(LOrderbench$Row;)V"⟩ ⟨"Orderbench$Row", "become", "(LOrderbench$Row;)V"⟩).before #[] vs_A = true := List.all_eq_true.mp vwb_12 _ (List.mem_of_getElem? (i := 25) rfl)
theorem vw_506 : (Cond.instanceMethod ⟨"Orderbench$Row", "arrange", "(LOrderbench$Shape;)V"⟩).before #[] vs_A = true := List.all_eq_true.mp vwb_12 _ (List.mem_of_getElem? (i := 26) rfl)
theorem vw_507 : (Cond.code ⟨"Orderbench$Row", "arrange", "(LOrderbench$Shape;)V"⟩ prog_4_method_13_code 5 none).before #[] vs_A = true := List.all_eq_true.mp vwb_12 _ (List.mem_of_getElem? (i := 27) rfl)
theorem vw_508 : (Cond.methodLink "Orderbench" 111 ⟨"Orderbench$Row", "arrange", "(LOrderbench$Shape;)V"⟩).before #[] vs_A = true := List.all_eq_true.mp vwb_12 _ (List.mem_of_getElem? (i := 28) rfl)
theorem vw_509 : (Cond.sameMethod "Orderbench$Row" "Orderbench$Row" "arrange" "(LOrderbench$Shape;)V").before #[] vs_A = true := List.all_eq_true.mp vwb_12 _ (List.mem_of_getElem? (i := 29) rfl)
theorem vw_510 : (Cond.selects "Orderbench$Row" ⟨"Orderbench$Row", "arrange", "(LOrderbench$Shape;)V"⟩ ⟨"Orderbench$Row", "arrange", "(LOrderbench$Shape;)V"⟩).before #[] vs_A = true := List.all_eq_true.mp vwb_12 _ (List.mem_of_getElem? (i := 30) rfl)
theorem vw_511 : (Cond.instanceMethod ⟨"Orderbench$Row", "holdsAllOf", "(LOrderbench$Row;)Z"⟩).before #[] vs_A = true := List.all_eq_true.mp vwb_12 _ (List.mem_of_getElem? (i := 31) rfl)
theorem vw_512 : (Cond.code ⟨"Orderbench$Row", "holdsAllOf", "(LOrderbench$Row;)Z"⟩ prog_4_method_12_code 3 (some .boolean)).before #[] vs_A = true := List.all_eq_true.mp vwb_12 _ (List.mem_of_getElem? (i := 32) rfl)
theorem vw_513 : (Cond.methodLink "Orderbench" 297 ⟨"Orderbench$Row", "holdsAllOf", "(LOrderbench$Row;)Z"⟩).before #[] vs_A = true := List.all_eq_true.mp vwb_12 _ (List.mem_of_getElem? (i := 33) rfl)
theorem vw_514 : (Cond.sameMethod "Orderbench$Row" "Orderbench$Row" "holdsAllOf" "(LOrderbench$Row;)Z").before #[] vs_A = true := List.all_eq_true.mp vwb_12 _ (List.mem_of_getElem? (i := 34) rfl)
theorem vw_515 : (Cond.selects "Orderbench$Row" ⟨"Orderbench$Row", "holdsAllOf", "(LOrderbench$Row;)Z"⟩ ⟨"Orderbench$Row", "holdsAllOf", "(LOrderbench$Row;)Z"⟩).before #[] vs_A = true := List.all_eq_true.mp vwb_12 _ (List.mem_of_getElem? (i := 35) rfl)
theorem vw_516 : (Cond.instanceMethod ⟨"Orderbench$Row", "unlike", "(LOrderbench$Row;)I"⟩).before #[] vs_A = true := List.all_eq_true.mp vwb_12 _ (List.mem_of_getElem? (i := 36) rfl)
theorem vw_517 : (Cond.code ⟨"Orderbench$Row", "unlike", "(LOrderbench$Row;)I"⟩ prog_4_method_11_code 4 (some .int)).before #[] vs_A = true := List.all_eq_true.mp vwb_12 _ (List.mem_of_getElem? (i := 37) rfl)
theorem vw_518 : (Cond.methodLink "Orderbench" 115 ⟨"Orderbench$Row", "unlike", "(LOrderbench$Row;)I"⟩).before #[] vs_A = true := List.all_eq_true.mp vwb_12 _ (List.mem_of_getElem? (i := 38) rfl)
theorem vw_519 : (Cond.sameMethod "Orderbench$Row" "Orderbench$Row" "unlike" "(LOrderbench$Row;)I").before #[] vs_A = true := List.all_eq_true.mp vwb_12 _ (List.mem_of_getElem? (i := 39) rfl)
def vwl_13 : List Cond := [Cond.selects "Orderbench$Row" ⟨"Orderbench$Row", "unlike", "(LOrderbench$Row;)I"⟩ ⟨"Orderbench$Row", "unlike", "(LOrderbench$Row;)I"⟩,
  Cond.methodLink "Orderbench$Row" 23 ⟨"Orderbench$Row", "becomeTaken", "(LOrderbench$Row;Z)V"⟩,
  Cond.classLink "Orderbench" 142 "Orderbench$Together",
  Cond.instantiable "Orderbench$Together" 4,
  Cond.initialized "Orderbench$Together",
  Cond.instanceMethod ⟨"Orderbench$Together", "<init>", "(LOrderbench$Shape;LOrderbench$Shape;)V"⟩,
  Cond.code ⟨"Orderbench$Together", "<init>", "(LOrderbench$Shape;LOrderbench$Shape;)V"⟩ prog_6_method_1_code 3 none,
  Cond.methodLink "Orderbench" 144 ⟨"Orderbench$Together", "<init>", "(LOrderbench$Shape;LOrderbench$Shape;)V"⟩,
  Cond.fieldLink "Orderbench$Together" 3 "Orderbench$Shape" "length" "I",
  Cond.fieldLink "Orderbench$Together" 9 "Orderbench$Shape" "safe" "Z",
  Cond.methodLink "Orderbench$Together" 13 ⟨"Orderbench$Shape", "<init>", "(IZ)V"⟩,
  Cond.fieldLink "Orderbench$Together" 17 "Orderbench$Together" "first" "LOrderbench$Shape;",
  Cond.fieldLink "Orderbench$Together" 23 "Orderbench$Together" "second" "LOrderbench$Shape;",
  Cond.constantLong "OrderbenchModel" 236 (7773),
  Cond.instanceMethod ⟨"OrderbenchModel", "houseOf", "(I)I"⟩,
  Cond.code ⟨"OrderbenchModel", "houseOf", "(I)I"⟩ prog_10_method_64_code 7 (some .int),
  Cond.methodLink "OrderbenchModel" 228 ⟨"OrderbenchModel", "houseOf", "(I)I"⟩,
  Cond.sameMethod "OrderbenchModel" "OrderbenchModel" "houseOf" "(I)I",
  Cond.selects "OrderbenchModel" ⟨"OrderbenchModel", "houseOf", "(I)I"⟩ ⟨"OrderbenchModel", "houseOf", "(I)I"⟩,
  Cond.methodLink "OrderbenchModel" 233 ⟨"OrderbenchModel", "add", "(JJ)J"⟩,
  Cond.static ⟨"OrderbenchModel", "add", "(JJ)J"⟩,
  Cond.code ⟨"OrderbenchModel", "add", "(JJ)J"⟩ prog_10_method_68_code 4 (some .long),
  Cond.instanceMethod ⟨"OrderbenchModel", "textOf", "(I)Ljava/lang/String;"⟩,
  Cond.code ⟨"OrderbenchModel", "textOf", "(I)Ljava/lang/String;"⟩ prog_10_method_44_code 4 (some (.object "java/lang/String")),
  Cond.methodLink "OrderbenchModel" 200 ⟨"OrderbenchModel", "textOf", "(I)Ljava/lang/String;"⟩,
  Cond.sameMethod "OrderbenchModel" "OrderbenchModel" "textOf" "(I)Ljava/lang/String;",
  Cond.selects "OrderbenchModel" ⟨"OrderbenchModel", "textOf", "(I)Ljava/lang/String;"⟩ ⟨"OrderbenchModel", "textOf", "(I)Ljava/lang/String;"⟩,
  Cond.methodLink "OrderbenchModel" 238 ⟨"OrderbenchModel", "add", "(JLjava/lang/String;)J"⟩,
  Cond.static ⟨"OrderbenchModel", "add", "(JLjava/lang/String;)J"⟩,
  Cond.code ⟨"OrderbenchModel", "add", "(JLjava/lang/String;)J"⟩ prog_10_method_69_code 6 (some .long),
  Cond.instanceMethod ⟨"OrderbenchModel", "isSortedBy", "(II)Z"⟩,
  Cond.code ⟨"OrderbenchModel", "isSortedBy", "(II)Z"⟩ prog_10_method_52_code 4 (some .boolean),
  Cond.methodLink "OrderbenchModel" 211 ⟨"OrderbenchModel", "isSortedBy", "(II)Z"⟩,
  Cond.sameMethod "OrderbenchModel" "OrderbenchModel" "isSortedBy" "(II)Z",
  Cond.selects "OrderbenchModel" ⟨"OrderbenchModel", "isSortedBy", "(II)Z"⟩ ⟨"OrderbenchModel", "isSortedBy", "(II)Z"⟩,
  Cond.methodLink "OrderbenchModel" 113 ⟨"OrderbenchModel", "bit", "(Z)I"⟩,
  Cond.static ⟨"OrderbenchModel", "bit", "(Z)I"⟩,
  Cond.code ⟨"OrderbenchModel", "bit", "(Z)I"⟩ prog_10_method_6_code 1 (some .int),
  Cond.instanceMethod ⟨"OrderbenchModel", "classesOf", "(II)I"⟩,
  Cond.code ⟨"OrderbenchModel", "classesOf", "(II)I"⟩ prog_10_method_55_code 7 (some .int)]
set_option maxRecDepth 100000 in
theorem vwb_13 : vwl_13.all (fun w => w.before #[] vs_A) = true := by decide +kernel
theorem vw_520 : (Cond.selects "Orderbench$Row" ⟨"Orderbench$Row", "unlike", "(LOrderbench$Row;)I"⟩ ⟨"Orderbench$Row", "unlike", "(LOrderbench$Row;)I"⟩).before #[] vs_A = true := List.all_eq_true.mp vwb_13 _ (List.mem_of_getElem? (i := 0) rfl)
theorem vw_521 : (Cond.methodLink "Orderbench$Row" 23 ⟨"Orderbench$Row", "becomeTaken", "(LOrderbench$Row;Z)V"⟩).before #[] vs_A = true := List.all_eq_true.mp vwb_13 _ (List.mem_of_getElem? (i := 1) rfl)
theorem vw_522 : (Cond.classLink "Orderbench" 142 "Orderbench$Together").before #[] vs_A = true := List.all_eq_true.mp vwb_13 _ (List.mem_of_getElem? (i := 2) rfl)
theorem vw_523 : (Cond.instantiable "Orderbench$Together" 4).before #[] vs_A = true := List.all_eq_true.mp vwb_13 _ (List.mem_of_getElem? (i := 3) rfl)
theorem vw_524 : (Cond.initialized "Orderbench$Together").before #[] vs_A = true := List.all_eq_true.mp vwb_13 _ (List.mem_of_getElem? (i := 4) rfl)
theorem vw_525 : (Cond.instanceMethod ⟨"Orderbench$Together", "<init>", "(LOrderbench$Shape;LOrderbench$Shape;)V"⟩).before #[] vs_A = true := List.all_eq_true.mp vwb_13 _ (List.mem_of_getElem? (i := 5) rfl)
theorem vw_526 : (Cond.code ⟨"Orderbench$Together", "<init>", "(LOrderbench$Shape;LOrderbench$Shape;)V"⟩ prog_6_method_1_code 3 none).before #[] vs_A = true := List.all_eq_true.mp vwb_13 _ (List.mem_of_getElem? (i := 6) rfl)
theorem vw_527 : (Cond.methodLink "Orderbench" 144 ⟨"Orderbench$Together", "<init>", "(LOrderbench$Shape;LOrderbench$Shape;)V"⟩).before #[] vs_A = true := List.all_eq_true.mp vwb_13 _ (List.mem_of_getElem? (i := 7) rfl)
theorem vw_528 : (Cond.fieldLink "Orderbench$Together" 3 "Orderbench$Shape" "length" "I").before #[] vs_A = true := List.all_eq_true.mp vwb_13 _ (List.mem_of_getElem? (i := 8) rfl)
theorem vw_529 : (Cond.fieldLink "Orderbench$Together" 9 "Orderbench$Shape" "safe" "Z").before #[] vs_A = true := List.all_eq_true.mp vwb_13 _ (List.mem_of_getElem? (i := 9) rfl)
theorem vw_530 : (Cond.methodLink "Orderbench$Together" 13 ⟨"Orderbench$Shape", "<init>", "(IZ)V"⟩).before #[] vs_A = true := List.all_eq_true.mp vwb_13 _ (List.mem_of_getElem? (i := 10) rfl)
theorem vw_531 : (Cond.fieldLink "Orderbench$Together" 17 "Orderbench$Together" "first" "LOrderbench$Shape;").before #[] vs_A = true := List.all_eq_true.mp vwb_13 _ (List.mem_of_getElem? (i := 11) rfl)
theorem vw_532 : (Cond.fieldLink "Orderbench$Together" 23 "Orderbench$Together" "second" "LOrderbench$Shape;").before #[] vs_A = true := List.all_eq_true.mp vwb_13 _ (List.mem_of_getElem? (i := 12) rfl)
theorem vw_533 : (Cond.constantLong "OrderbenchModel" 236 (7773)).before #[] vs_A = true := List.all_eq_true.mp vwb_13 _ (List.mem_of_getElem? (i := 13) rfl)
theorem vw_534 : (Cond.instanceMethod ⟨"OrderbenchModel", "houseOf", "(I)I"⟩).before #[] vs_A = true := List.all_eq_true.mp vwb_13 _ (List.mem_of_getElem? (i := 14) rfl)
theorem vw_535 : (Cond.code ⟨"OrderbenchModel", "houseOf", "(I)I"⟩ prog_10_method_64_code 7 (some .int)).before #[] vs_A = true := List.all_eq_true.mp vwb_13 _ (List.mem_of_getElem? (i := 15) rfl)
theorem vw_536 : (Cond.methodLink "OrderbenchModel" 228 ⟨"OrderbenchModel", "houseOf", "(I)I"⟩).before #[] vs_A = true := List.all_eq_true.mp vwb_13 _ (List.mem_of_getElem? (i := 16) rfl)
theorem vw_537 : (Cond.sameMethod "OrderbenchModel" "OrderbenchModel" "houseOf" "(I)I").before #[] vs_A = true := List.all_eq_true.mp vwb_13 _ (List.mem_of_getElem? (i := 17) rfl)
theorem vw_538 : (Cond.selects "OrderbenchModel" ⟨"OrderbenchModel", "houseOf", "(I)I"⟩ ⟨"OrderbenchModel", "houseOf", "(I)I"⟩).before #[] vs_A = true := List.all_eq_true.mp vwb_13 _ (List.mem_of_getElem? (i := 18) rfl)
theorem vw_539 : (Cond.methodLink "OrderbenchModel" 233 ⟨"OrderbenchModel", "add", "(JJ)J"⟩).before #[] vs_A = true := List.all_eq_true.mp vwb_13 _ (List.mem_of_getElem? (i := 19) rfl)
theorem vw_540 : (Cond.static ⟨"OrderbenchModel", "add", "(JJ)J"⟩).before #[] vs_A = true := List.all_eq_true.mp vwb_13 _ (List.mem_of_getElem? (i := 20) rfl)
theorem vw_541 : (Cond.code ⟨"OrderbenchModel", "add", "(JJ)J"⟩ prog_10_method_68_code 4 (some .long)).before #[] vs_A = true := List.all_eq_true.mp vwb_13 _ (List.mem_of_getElem? (i := 21) rfl)
theorem vw_542 : (Cond.instanceMethod ⟨"OrderbenchModel", "textOf", "(I)Ljava/lang/String;"⟩).before #[] vs_A = true := List.all_eq_true.mp vwb_13 _ (List.mem_of_getElem? (i := 22) rfl)
theorem vw_543 : (Cond.code ⟨"OrderbenchModel", "textOf", "(I)Ljava/lang/String;"⟩ prog_10_method_44_code 4 (some (.object "java/lang/String"))).before #[] vs_A = true := List.all_eq_true.mp vwb_13 _ (List.mem_of_getElem? (i := 23) rfl)
theorem vw_544 : (Cond.methodLink "OrderbenchModel" 200 ⟨"OrderbenchModel", "textOf", "(I)Ljava/lang/String;"⟩).before #[] vs_A = true := List.all_eq_true.mp vwb_13 _ (List.mem_of_getElem? (i := 24) rfl)
theorem vw_545 : (Cond.sameMethod "OrderbenchModel" "OrderbenchModel" "textOf" "(I)Ljava/lang/String;").before #[] vs_A = true := List.all_eq_true.mp vwb_13 _ (List.mem_of_getElem? (i := 25) rfl)
theorem vw_546 : (Cond.selects "OrderbenchModel" ⟨"OrderbenchModel", "textOf", "(I)Ljava/lang/String;"⟩ ⟨"OrderbenchModel", "textOf", "(I)Ljava/lang/String;"⟩).before #[] vs_A = true := List.all_eq_true.mp vwb_13 _ (List.mem_of_getElem? (i := 26) rfl)
theorem vw_547 : (Cond.methodLink "OrderbenchModel" 238 ⟨"OrderbenchModel", "add", "(JLjava/lang/String;)J"⟩).before #[] vs_A = true := List.all_eq_true.mp vwb_13 _ (List.mem_of_getElem? (i := 27) rfl)
theorem vw_548 : (Cond.static ⟨"OrderbenchModel", "add", "(JLjava/lang/String;)J"⟩).before #[] vs_A = true := List.all_eq_true.mp vwb_13 _ (List.mem_of_getElem? (i := 28) rfl)
theorem vw_549 : (Cond.code ⟨"OrderbenchModel", "add", "(JLjava/lang/String;)J"⟩ prog_10_method_69_code 6 (some .long)).before #[] vs_A = true := List.all_eq_true.mp vwb_13 _ (List.mem_of_getElem? (i := 29) rfl)
theorem vw_550 : (Cond.instanceMethod ⟨"OrderbenchModel", "isSortedBy", "(II)Z"⟩).before #[] vs_A = true := List.all_eq_true.mp vwb_13 _ (List.mem_of_getElem? (i := 30) rfl)
theorem vw_551 : (Cond.code ⟨"OrderbenchModel", "isSortedBy", "(II)Z"⟩ prog_10_method_52_code 4 (some .boolean)).before #[] vs_A = true := List.all_eq_true.mp vwb_13 _ (List.mem_of_getElem? (i := 31) rfl)
theorem vw_552 : (Cond.methodLink "OrderbenchModel" 211 ⟨"OrderbenchModel", "isSortedBy", "(II)Z"⟩).before #[] vs_A = true := List.all_eq_true.mp vwb_13 _ (List.mem_of_getElem? (i := 32) rfl)
theorem vw_553 : (Cond.sameMethod "OrderbenchModel" "OrderbenchModel" "isSortedBy" "(II)Z").before #[] vs_A = true := List.all_eq_true.mp vwb_13 _ (List.mem_of_getElem? (i := 33) rfl)
theorem vw_554 : (Cond.selects "OrderbenchModel" ⟨"OrderbenchModel", "isSortedBy", "(II)Z"⟩ ⟨"OrderbenchModel", "isSortedBy", "(II)Z"⟩).before #[] vs_A = true := List.all_eq_true.mp vwb_13 _ (List.mem_of_getElem? (i := 34) rfl)
theorem vw_555 : (Cond.methodLink "OrderbenchModel" 113 ⟨"OrderbenchModel", "bit", "(Z)I"⟩).before #[] vs_A = true := List.all_eq_true.mp vwb_13 _ (List.mem_of_getElem? (i := 35) rfl)
theorem vw_556 : (Cond.static ⟨"OrderbenchModel", "bit", "(Z)I"⟩).before #[] vs_A = true := List.all_eq_true.mp vwb_13 _ (List.mem_of_getElem? (i := 36) rfl)
theorem vw_557 : (Cond.code ⟨"OrderbenchModel", "bit", "(Z)I"⟩ prog_10_method_6_code 1 (some .int)).before #[] vs_A = true := List.all_eq_true.mp vwb_13 _ (List.mem_of_getElem? (i := 37) rfl)
theorem vw_558 : (Cond.instanceMethod ⟨"OrderbenchModel", "classesOf", "(II)I"⟩).before #[] vs_A = true := List.all_eq_true.mp vwb_13 _ (List.mem_of_getElem? (i := 38) rfl)
theorem vw_559 : (Cond.code ⟨"OrderbenchModel", "classesOf", "(II)I"⟩ prog_10_method_55_code 7 (some .int)).before #[] vs_A = true := List.all_eq_true.mp vwb_13 _ (List.mem_of_getElem? (i := 39) rfl)
def vwl_14 : List Cond := [Cond.methodLink "OrderbenchModel" 214 ⟨"OrderbenchModel", "classesOf", "(II)I"⟩,
  Cond.sameMethod "OrderbenchModel" "OrderbenchModel" "classesOf" "(II)I",
  Cond.selects "OrderbenchModel" ⟨"OrderbenchModel", "classesOf", "(II)I"⟩ ⟨"OrderbenchModel", "classesOf", "(II)I"⟩,
  Cond.instanceMethod ⟨"OrderbenchModel", "endOf", "(III)I"⟩,
  Cond.code ⟨"OrderbenchModel", "endOf", "(III)I"⟩ prog_10_method_57_code 10 (some .int),
  Cond.methodLink "OrderbenchModel" 218 ⟨"OrderbenchModel", "endOf", "(III)I"⟩,
  Cond.sameMethod "OrderbenchModel" "OrderbenchModel" "endOf" "(III)I",
  Cond.selects "OrderbenchModel" ⟨"OrderbenchModel", "endOf", "(III)I"⟩ ⟨"OrderbenchModel", "endOf", "(III)I"⟩,
  Cond.instanceMethod ⟨"OrderbenchModel$Shape", "isSafe", "()Z"⟩,
  Cond.code ⟨"OrderbenchModel$Shape", "isSafe", "()Z"⟩ prog_11_method_4_code 1 (some .boolean),
  Cond.methodLink "OrderbenchModel" 123 ⟨"OrderbenchModel$Shape", "isSafe", "()Z"⟩,
  Cond.sameMethod "OrderbenchModel$Shape" "OrderbenchModel$Shape" "isSafe" "()Z",
  Cond.selects "OrderbenchModel$Shape" ⟨"OrderbenchModel$Shape", "isSafe", "()Z"⟩ ⟨"OrderbenchModel$Shape", "isSafe", "()Z"⟩,
  Cond.instanceMethod ⟨"OrderbenchModel", "many", "(I)I"⟩,
  Cond.code ⟨"OrderbenchModel", "many", "(I)I"⟩ prog_10_method_12_code 2 (some .int),
  Cond.methodLink "OrderbenchModel" 86 ⟨"OrderbenchModel", "many", "(I)I"⟩,
  Cond.sameMethod "OrderbenchModel" "OrderbenchModel" "many" "(I)I",
  Cond.selects "OrderbenchModel" ⟨"OrderbenchModel", "many", "(I)I"⟩ ⟨"OrderbenchModel", "many", "(I)I"⟩,
  Cond.fieldLink "OrderbenchModel" 79 "OrderbenchModel" "laid" "I",
  Cond.fieldLink "OrderbenchModel" 53 "OrderbenchModel" "refused" "I",
  Cond.fieldLink "OrderbenchModel" 225 "OrderbenchModel" "knocks" "I",
  Cond.instanceMethod ⟨"OrderbenchModel", "nothingsOn", "(I)I"⟩,
  Cond.code ⟨"OrderbenchModel", "nothingsOn", "(I)I"⟩ prog_10_method_23_code 4 (some .int),
  Cond.methodLink "OrderbenchModel" 120 ⟨"OrderbenchModel", "nothingsOn", "(I)I"⟩,
  Cond.sameMethod "OrderbenchModel" "OrderbenchModel" "nothingsOn" "(I)I",
  Cond.selects "OrderbenchModel" ⟨"OrderbenchModel", "nothingsOn", "(I)I"⟩ ⟨"OrderbenchModel", "nothingsOn", "(I)I"⟩,
  Cond.instanceMethod ⟨"OrderbenchModel$Shape", "isEnds", "()Z"⟩,
  Cond.code ⟨"OrderbenchModel$Shape", "isEnds", "()Z"⟩ prog_11_method_3_code 1 (some .boolean),
  Cond.methodLink "OrderbenchModel$Shape" 47 ⟨"OrderbenchModel$Shape", "isEnds", "()Z"⟩,
  Cond.sameMethod "OrderbenchModel$Shape" "OrderbenchModel$Shape" "isEnds" "()Z",
  Cond.selects "OrderbenchModel$Shape" ⟨"OrderbenchModel$Shape", "isEnds", "()Z"⟩ ⟨"OrderbenchModel$Shape", "isEnds", "()Z"⟩,
  Cond.methodLink "OrderbenchModel$Shape" 51 ⟨"OrderbenchModel$Shape", "isSafe", "()Z"⟩,
  Cond.instanceMethod ⟨"java/util/ArrayList", "get", "(I)Ljava/lang/Object;"⟩,
  Cond.code ⟨"java/util/ArrayList", "get", "(I)Ljava/lang/Object;"⟩ prog_39_method_20_code 2 (some (.object "java/lang/Object")),
  Cond.methodLink "OrderbenchModel" 45 ⟨"java/util/ArrayList", "get", "(I)Ljava/lang/Object;"⟩,
  Cond.sameMethod "java/util/ArrayList" "java/util/ArrayList" "get" "(I)Ljava/lang/Object;",
  Cond.selects "java/util/ArrayList" ⟨"java/util/ArrayList", "get", "(I)Ljava/lang/Object;"⟩ ⟨"java/util/ArrayList", "get", "(I)Ljava/lang/Object;"⟩,
  Cond.instanceMethod ⟨"java/util/ArrayList", "size", "()I"⟩,
  Cond.code ⟨"java/util/ArrayList", "size", "()I"⟩ prog_39_method_8_code 1 (some .int),
  Cond.methodLink "OrderbenchModel" 49 ⟨"java/util/ArrayList", "size", "()I"⟩]
set_option maxRecDepth 100000 in
theorem vwb_14 : vwl_14.all (fun w => w.before #[] vs_A) = true := by decide +kernel
theorem vw_560 : (Cond.methodLink "OrderbenchModel" 214 ⟨"OrderbenchModel", "classesOf", "(II)I"⟩).before #[] vs_A = true := List.all_eq_true.mp vwb_14 _ (List.mem_of_getElem? (i := 0) rfl)
theorem vw_561 : (Cond.sameMethod "OrderbenchModel" "OrderbenchModel" "classesOf" "(II)I").before #[] vs_A = true := List.all_eq_true.mp vwb_14 _ (List.mem_of_getElem? (i := 1) rfl)
theorem vw_562 : (Cond.selects "OrderbenchModel" ⟨"OrderbenchModel", "classesOf", "(II)I"⟩ ⟨"OrderbenchModel", "classesOf", "(II)I"⟩).before #[] vs_A = true := List.all_eq_true.mp vwb_14 _ (List.mem_of_getElem? (i := 2) rfl)
theorem vw_563 : (Cond.instanceMethod ⟨"OrderbenchModel", "endOf", "(III)I"⟩).before #[] vs_A = true := List.all_eq_true.mp vwb_14 _ (List.mem_of_getElem? (i := 3) rfl)
theorem vw_564 : (Cond.code ⟨"OrderbenchModel", "endOf", "(III)I"⟩ prog_10_method_57_code 10 (some .int)).before #[] vs_A = true := List.all_eq_true.mp vwb_14 _ (List.mem_of_getElem? (i := 4) rfl)
theorem vw_565 : (Cond.methodLink "OrderbenchModel" 218 ⟨"OrderbenchModel", "endOf", "(III)I"⟩).before #[] vs_A = true := List.all_eq_true.mp vwb_14 _ (List.mem_of_getElem? (i := 5) rfl)
theorem vw_566 : (Cond.sameMethod "OrderbenchModel" "OrderbenchModel" "endOf" "(III)I").before #[] vs_A = true := List.all_eq_true.mp vwb_14 _ (List.mem_of_getElem? (i := 6) rfl)
theorem vw_567 : (Cond.selects "OrderbenchModel" ⟨"OrderbenchModel", "endOf", "(III)I"⟩ ⟨"OrderbenchModel", "endOf", "(III)I"⟩).before #[] vs_A = true := List.all_eq_true.mp vwb_14 _ (List.mem_of_getElem? (i := 7) rfl)
theorem vw_568 : (Cond.instanceMethod ⟨"OrderbenchModel$Shape", "isSafe", "()Z"⟩).before #[] vs_A = true := List.all_eq_true.mp vwb_14 _ (List.mem_of_getElem? (i := 8) rfl)
theorem vw_569 : (Cond.code ⟨"OrderbenchModel$Shape", "isSafe", "()Z"⟩ prog_11_method_4_code 1 (some .boolean)).before #[] vs_A = true := List.all_eq_true.mp vwb_14 _ (List.mem_of_getElem? (i := 9) rfl)
theorem vw_570 : (Cond.methodLink "OrderbenchModel" 123 ⟨"OrderbenchModel$Shape", "isSafe", "()Z"⟩).before #[] vs_A = true := List.all_eq_true.mp vwb_14 _ (List.mem_of_getElem? (i := 10) rfl)
theorem vw_571 : (Cond.sameMethod "OrderbenchModel$Shape" "OrderbenchModel$Shape" "isSafe" "()Z").before #[] vs_A = true := List.all_eq_true.mp vwb_14 _ (List.mem_of_getElem? (i := 11) rfl)
theorem vw_572 : (Cond.selects "OrderbenchModel$Shape" ⟨"OrderbenchModel$Shape", "isSafe", "()Z"⟩ ⟨"OrderbenchModel$Shape", "isSafe", "()Z"⟩).before #[] vs_A = true := List.all_eq_true.mp vwb_14 _ (List.mem_of_getElem? (i := 12) rfl)
theorem vw_573 : (Cond.instanceMethod ⟨"OrderbenchModel", "many", "(I)I"⟩).before #[] vs_A = true := List.all_eq_true.mp vwb_14 _ (List.mem_of_getElem? (i := 13) rfl)
theorem vw_574 : (Cond.code ⟨"OrderbenchModel", "many", "(I)I"⟩ prog_10_method_12_code 2 (some .int)).before #[] vs_A = true := List.all_eq_true.mp vwb_14 _ (List.mem_of_getElem? (i := 14) rfl)
theorem vw_575 : (Cond.methodLink "OrderbenchModel" 86 ⟨"OrderbenchModel", "many", "(I)I"⟩).before #[] vs_A = true := List.all_eq_true.mp vwb_14 _ (List.mem_of_getElem? (i := 15) rfl)
theorem vw_576 : (Cond.sameMethod "OrderbenchModel" "OrderbenchModel" "many" "(I)I").before #[] vs_A = true := List.all_eq_true.mp vwb_14 _ (List.mem_of_getElem? (i := 16) rfl)
theorem vw_577 : (Cond.selects "OrderbenchModel" ⟨"OrderbenchModel", "many", "(I)I"⟩ ⟨"OrderbenchModel", "many", "(I)I"⟩).before #[] vs_A = true := List.all_eq_true.mp vwb_14 _ (List.mem_of_getElem? (i := 17) rfl)
theorem vw_578 : (Cond.fieldLink "OrderbenchModel" 79 "OrderbenchModel" "laid" "I").before #[] vs_A = true := List.all_eq_true.mp vwb_14 _ (List.mem_of_getElem? (i := 18) rfl)
theorem vw_579 : (Cond.fieldLink "OrderbenchModel" 53 "OrderbenchModel" "refused" "I").before #[] vs_A = true := List.all_eq_true.mp vwb_14 _ (List.mem_of_getElem? (i := 19) rfl)
theorem vw_580 : (Cond.fieldLink "OrderbenchModel" 225 "OrderbenchModel" "knocks" "I").before #[] vs_A = true := List.all_eq_true.mp vwb_14 _ (List.mem_of_getElem? (i := 20) rfl)
theorem vw_581 : (Cond.instanceMethod ⟨"OrderbenchModel", "nothingsOn", "(I)I"⟩).before #[] vs_A = true := List.all_eq_true.mp vwb_14 _ (List.mem_of_getElem? (i := 21) rfl)
theorem vw_582 : (Cond.code ⟨"OrderbenchModel", "nothingsOn", "(I)I"⟩ prog_10_method_23_code 4 (some .int)).before #[] vs_A = true := List.all_eq_true.mp vwb_14 _ (List.mem_of_getElem? (i := 22) rfl)
theorem vw_583 : (Cond.methodLink "OrderbenchModel" 120 ⟨"OrderbenchModel", "nothingsOn", "(I)I"⟩).before #[] vs_A = true := List.all_eq_true.mp vwb_14 _ (List.mem_of_getElem? (i := 23) rfl)
theorem vw_584 : (Cond.sameMethod "OrderbenchModel" "OrderbenchModel" "nothingsOn" "(I)I").before #[] vs_A = true := List.all_eq_true.mp vwb_14 _ (List.mem_of_getElem? (i := 24) rfl)
theorem vw_585 : (Cond.selects "OrderbenchModel" ⟨"OrderbenchModel", "nothingsOn", "(I)I"⟩ ⟨"OrderbenchModel", "nothingsOn", "(I)I"⟩).before #[] vs_A = true := List.all_eq_true.mp vwb_14 _ (List.mem_of_getElem? (i := 25) rfl)
theorem vw_586 : (Cond.instanceMethod ⟨"OrderbenchModel$Shape", "isEnds", "()Z"⟩).before #[] vs_A = true := List.all_eq_true.mp vwb_14 _ (List.mem_of_getElem? (i := 26) rfl)
theorem vw_587 : (Cond.code ⟨"OrderbenchModel$Shape", "isEnds", "()Z"⟩ prog_11_method_3_code 1 (some .boolean)).before #[] vs_A = true := List.all_eq_true.mp vwb_14 _ (List.mem_of_getElem? (i := 27) rfl)
theorem vw_588 : (Cond.methodLink "OrderbenchModel$Shape" 47 ⟨"OrderbenchModel$Shape", "isEnds", "()Z"⟩).before #[] vs_A = true := List.all_eq_true.mp vwb_14 _ (List.mem_of_getElem? (i := 28) rfl)
theorem vw_589 : (Cond.sameMethod "OrderbenchModel$Shape" "OrderbenchModel$Shape" "isEnds" "()Z").before #[] vs_A = true := List.all_eq_true.mp vwb_14 _ (List.mem_of_getElem? (i := 29) rfl)
theorem vw_590 : (Cond.selects "OrderbenchModel$Shape" ⟨"OrderbenchModel$Shape", "isEnds", "()Z"⟩ ⟨"OrderbenchModel$Shape", "isEnds", "()Z"⟩).before #[] vs_A = true := List.all_eq_true.mp vwb_14 _ (List.mem_of_getElem? (i := 30) rfl)
theorem vw_591 : (Cond.methodLink "OrderbenchModel$Shape" 51 ⟨"OrderbenchModel$Shape", "isSafe", "()Z"⟩).before #[] vs_A = true := List.all_eq_true.mp vwb_14 _ (List.mem_of_getElem? (i := 31) rfl)
theorem vw_592 : (Cond.instanceMethod ⟨"java/util/ArrayList", "get", "(I)Ljava/lang/Object;"⟩).before #[] vs_A = true := List.all_eq_true.mp vwb_14 _ (List.mem_of_getElem? (i := 32) rfl)
theorem vw_593 : (Cond.code ⟨"java/util/ArrayList", "get", "(I)Ljava/lang/Object;"⟩ prog_39_method_20_code 2 (some (.object "java/lang/Object"))).before #[] vs_A = true := List.all_eq_true.mp vwb_14 _ (List.mem_of_getElem? (i := 33) rfl)
theorem vw_594 : (Cond.methodLink "OrderbenchModel" 45 ⟨"java/util/ArrayList", "get", "(I)Ljava/lang/Object;"⟩).before #[] vs_A = true := List.all_eq_true.mp vwb_14 _ (List.mem_of_getElem? (i := 34) rfl)
theorem vw_595 : (Cond.sameMethod "java/util/ArrayList" "java/util/ArrayList" "get" "(I)Ljava/lang/Object;").before #[] vs_A = true := List.all_eq_true.mp vwb_14 _ (List.mem_of_getElem? (i := 35) rfl)
theorem vw_596 : (Cond.selects "java/util/ArrayList" ⟨"java/util/ArrayList", "get", "(I)Ljava/lang/Object;"⟩ ⟨"java/util/ArrayList", "get", "(I)Ljava/lang/Object;"⟩).before #[] vs_A = true := List.all_eq_true.mp vwb_14 _ (List.mem_of_getElem? (i := 36) rfl)
theorem vw_597 : (Cond.instanceMethod ⟨"java/util/ArrayList", "size", "()I"⟩).before #[] vs_A = true := List.all_eq_true.mp vwb_14 _ (List.mem_of_getElem? (i := 37) rfl)
theorem vw_598 : (Cond.code ⟨"java/util/ArrayList", "size", "()I"⟩ prog_39_method_8_code 1 (some .int)).before #[] vs_A = true := List.all_eq_true.mp vwb_14 _ (List.mem_of_getElem? (i := 38) rfl)
theorem vw_599 : (Cond.methodLink "OrderbenchModel" 49 ⟨"java/util/ArrayList", "size", "()I"⟩).before #[] vs_A = true := List.all_eq_true.mp vwb_14 _ (List.mem_of_getElem? (i := 39) rfl)
def vwl_15 : List Cond := [Cond.sameMethod "java/util/ArrayList" "java/util/ArrayList" "size" "()I",
  Cond.selects "java/util/ArrayList" ⟨"java/util/ArrayList", "size", "()I"⟩ ⟨"java/util/ArrayList", "size", "()I"⟩,
  Cond.methodLink "java/util/ArrayList" 118 ⟨"java/util/Objects", "checkIndex", "(II)I"⟩,
  Cond.static ⟨"java/util/Objects", "checkIndex", "(II)I"⟩,
  Cond.initialized "java/util/Objects",
  Cond.code ⟨"java/util/Objects", "checkIndex", "(II)I"⟩ prog_45_method_17_code 2 (some .int),
  Cond.instanceMethod ⟨"java/util/ArrayList", "elementData", "(I)Ljava/lang/Object;"⟩,
  Cond.code ⟨"java/util/ArrayList", "elementData", "(I)Ljava/lang/Object;"⟩ prog_39_method_18_code 2 (some (.object "java/lang/Object")),
  Cond.methodLink "java/util/ArrayList" 123 ⟨"java/util/ArrayList", "elementData", "(I)Ljava/lang/Object;"⟩,
  Cond.sameMethod "java/util/ArrayList" "java/util/ArrayList" "elementData" "(I)Ljava/lang/Object;",
  Cond.selects "java/util/ArrayList" ⟨"java/util/ArrayList", "elementData", "(I)Ljava/lang/Object;"⟩ ⟨"java/util/ArrayList", "elementData", "(I)Ljava/lang/Object;"⟩,
  Cond.methodLink "java/util/Objects" 105 ⟨"jdk/internal/util/Preconditions", "checkIndex", "(IILjava/util/function/BiFunction;)I"⟩,
  Cond.constantLong "OrderbenchModel" 231 (31),
  Cond.methodLink "OrderbenchModel" 159 ⟨"java/lang/String", "charAt", "(I)C"⟩,
  Cond.instanceMethod ⟨"OrderbenchModel", "takesBench", "(II)Z"⟩,
  Cond.code ⟨"OrderbenchModel", "takesBench", "(II)Z"⟩ prog_10_method_24_code 3 (some .boolean),
  Cond.methodLink "OrderbenchModel" 133 ⟨"OrderbenchModel", "takesBench", "(II)Z"⟩,
  Cond.sameMethod "OrderbenchModel" "OrderbenchModel" "takesBench" "(II)Z",
  Cond.selects "OrderbenchModel" ⟨"OrderbenchModel", "takesBench", "(II)Z"⟩ ⟨"OrderbenchModel", "takesBench", "(II)Z"⟩,
  Cond.instanceMethod ⟨"OrderbenchModel", "hasNothing", "(I)Z"⟩,
  Cond.code ⟨"OrderbenchModel", "hasNothing", "(I)Z"⟩ prog_10_method_22_code 2 (some .boolean),
  Cond.methodLink "OrderbenchModel" 127 ⟨"OrderbenchModel", "hasNothing", "(I)Z"⟩,
  Cond.sameMethod "OrderbenchModel" "OrderbenchModel" "hasNothing" "(I)Z",
  Cond.selects "OrderbenchModel" ⟨"OrderbenchModel", "hasNothing", "(I)Z"⟩ ⟨"OrderbenchModel", "hasNothing", "(I)Z"⟩,
  Cond.instanceMethod ⟨"OrderbenchModel", "takesEach", "(II)Z"⟩,
  Cond.code ⟨"OrderbenchModel", "takesEach", "(II)Z"⟩ prog_10_method_54_code 3 (some .boolean),
  Cond.methodLink "OrderbenchModel" 204 ⟨"OrderbenchModel", "takesEach", "(II)Z"⟩,
  Cond.sameMethod "OrderbenchModel" "OrderbenchModel" "takesEach" "(II)Z",
  Cond.selects "OrderbenchModel" ⟨"OrderbenchModel", "takesEach", "(II)Z"⟩ ⟨"OrderbenchModel", "takesEach", "(II)Z"⟩]
set_option maxRecDepth 100000 in
theorem vwb_15 : vwl_15.all (fun w => w.before #[] vs_A) = true := by decide +kernel
theorem vw_600 : (Cond.sameMethod "java/util/ArrayList" "java/util/ArrayList" "size" "()I").before #[] vs_A = true := List.all_eq_true.mp vwb_15 _ (List.mem_of_getElem? (i := 0) rfl)
theorem vw_601 : (Cond.selects "java/util/ArrayList" ⟨"java/util/ArrayList", "size", "()I"⟩ ⟨"java/util/ArrayList", "size", "()I"⟩).before #[] vs_A = true := List.all_eq_true.mp vwb_15 _ (List.mem_of_getElem? (i := 1) rfl)
theorem vw_602 : (Cond.methodLink "java/util/ArrayList" 118 ⟨"java/util/Objects", "checkIndex", "(II)I"⟩).before #[] vs_A = true := List.all_eq_true.mp vwb_15 _ (List.mem_of_getElem? (i := 2) rfl)
theorem vw_603 : (Cond.static ⟨"java/util/Objects", "checkIndex", "(II)I"⟩).before #[] vs_A = true := List.all_eq_true.mp vwb_15 _ (List.mem_of_getElem? (i := 3) rfl)
theorem vw_604 : (Cond.initialized "java/util/Objects").before #[] vs_A = true := List.all_eq_true.mp vwb_15 _ (List.mem_of_getElem? (i := 4) rfl)
theorem vw_605 : (Cond.code ⟨"java/util/Objects", "checkIndex", "(II)I"⟩ prog_45_method_17_code 2 (some .int)).before #[] vs_A = true := List.all_eq_true.mp vwb_15 _ (List.mem_of_getElem? (i := 5) rfl)
theorem vw_606 : (Cond.instanceMethod ⟨"java/util/ArrayList", "elementData", "(I)Ljava/lang/Object;"⟩).before #[] vs_A = true := List.all_eq_true.mp vwb_15 _ (List.mem_of_getElem? (i := 6) rfl)
theorem vw_607 : (Cond.code ⟨"java/util/ArrayList", "elementData", "(I)Ljava/lang/Object;"⟩ prog_39_method_18_code 2 (some (.object "java/lang/Object"))).before #[] vs_A = true := List.all_eq_true.mp vwb_15 _ (List.mem_of_getElem? (i := 7) rfl)
theorem vw_608 : (Cond.methodLink "java/util/ArrayList" 123 ⟨"java/util/ArrayList", "elementData", "(I)Ljava/lang/Object;"⟩).before #[] vs_A = true := List.all_eq_true.mp vwb_15 _ (List.mem_of_getElem? (i := 8) rfl)
theorem vw_609 : (Cond.sameMethod "java/util/ArrayList" "java/util/ArrayList" "elementData" "(I)Ljava/lang/Object;").before #[] vs_A = true := List.all_eq_true.mp vwb_15 _ (List.mem_of_getElem? (i := 9) rfl)
theorem vw_610 : (Cond.selects "java/util/ArrayList" ⟨"java/util/ArrayList", "elementData", "(I)Ljava/lang/Object;"⟩ ⟨"java/util/ArrayList", "elementData", "(I)Ljava/lang/Object;"⟩).before #[] vs_A = true := List.all_eq_true.mp vwb_15 _ (List.mem_of_getElem? (i := 10) rfl)
theorem vw_611 : (Cond.methodLink "java/util/Objects" 105 ⟨"jdk/internal/util/Preconditions", "checkIndex", "(IILjava/util/function/BiFunction;)I"⟩).before #[] vs_A = true := List.all_eq_true.mp vwb_15 _ (List.mem_of_getElem? (i := 11) rfl)
theorem vw_612 : (Cond.constantLong "OrderbenchModel" 231 (31)).before #[] vs_A = true := List.all_eq_true.mp vwb_15 _ (List.mem_of_getElem? (i := 12) rfl)
theorem vw_613 : (Cond.methodLink "OrderbenchModel" 159 ⟨"java/lang/String", "charAt", "(I)C"⟩).before #[] vs_A = true := List.all_eq_true.mp vwb_15 _ (List.mem_of_getElem? (i := 13) rfl)
theorem vw_614 : (Cond.instanceMethod ⟨"OrderbenchModel", "takesBench", "(II)Z"⟩).before #[] vs_A = true := List.all_eq_true.mp vwb_15 _ (List.mem_of_getElem? (i := 14) rfl)
theorem vw_615 : (Cond.code ⟨"OrderbenchModel", "takesBench", "(II)Z"⟩ prog_10_method_24_code 3 (some .boolean)).before #[] vs_A = true := List.all_eq_true.mp vwb_15 _ (List.mem_of_getElem? (i := 15) rfl)
theorem vw_616 : (Cond.methodLink "OrderbenchModel" 133 ⟨"OrderbenchModel", "takesBench", "(II)Z"⟩).before #[] vs_A = true := List.all_eq_true.mp vwb_15 _ (List.mem_of_getElem? (i := 16) rfl)
theorem vw_617 : (Cond.sameMethod "OrderbenchModel" "OrderbenchModel" "takesBench" "(II)Z").before #[] vs_A = true := List.all_eq_true.mp vwb_15 _ (List.mem_of_getElem? (i := 17) rfl)
theorem vw_618 : (Cond.selects "OrderbenchModel" ⟨"OrderbenchModel", "takesBench", "(II)Z"⟩ ⟨"OrderbenchModel", "takesBench", "(II)Z"⟩).before #[] vs_A = true := List.all_eq_true.mp vwb_15 _ (List.mem_of_getElem? (i := 18) rfl)
theorem vw_619 : (Cond.instanceMethod ⟨"OrderbenchModel", "hasNothing", "(I)Z"⟩).before #[] vs_A = true := List.all_eq_true.mp vwb_15 _ (List.mem_of_getElem? (i := 19) rfl)
theorem vw_620 : (Cond.code ⟨"OrderbenchModel", "hasNothing", "(I)Z"⟩ prog_10_method_22_code 2 (some .boolean)).before #[] vs_A = true := List.all_eq_true.mp vwb_15 _ (List.mem_of_getElem? (i := 20) rfl)
theorem vw_621 : (Cond.methodLink "OrderbenchModel" 127 ⟨"OrderbenchModel", "hasNothing", "(I)Z"⟩).before #[] vs_A = true := List.all_eq_true.mp vwb_15 _ (List.mem_of_getElem? (i := 21) rfl)
theorem vw_622 : (Cond.sameMethod "OrderbenchModel" "OrderbenchModel" "hasNothing" "(I)Z").before #[] vs_A = true := List.all_eq_true.mp vwb_15 _ (List.mem_of_getElem? (i := 22) rfl)
theorem vw_623 : (Cond.selects "OrderbenchModel" ⟨"OrderbenchModel", "hasNothing", "(I)Z"⟩ ⟨"OrderbenchModel", "hasNothing", "(I)Z"⟩).before #[] vs_A = true := List.all_eq_true.mp vwb_15 _ (List.mem_of_getElem? (i := 23) rfl)
theorem vw_624 : (Cond.instanceMethod ⟨"OrderbenchModel", "takesEach", "(II)Z"⟩).before #[] vs_A = true := List.all_eq_true.mp vwb_15 _ (List.mem_of_getElem? (i := 24) rfl)
theorem vw_625 : (Cond.code ⟨"OrderbenchModel", "takesEach", "(II)Z"⟩ prog_10_method_54_code 3 (some .boolean)).before #[] vs_A = true := List.all_eq_true.mp vwb_15 _ (List.mem_of_getElem? (i := 25) rfl)
theorem vw_626 : (Cond.methodLink "OrderbenchModel" 204 ⟨"OrderbenchModel", "takesEach", "(II)Z"⟩).before #[] vs_A = true := List.all_eq_true.mp vwb_15 _ (List.mem_of_getElem? (i := 26) rfl)
theorem vw_627 : (Cond.sameMethod "OrderbenchModel" "OrderbenchModel" "takesEach" "(II)Z").before #[] vs_A = true := List.all_eq_true.mp vwb_15 _ (List.mem_of_getElem? (i := 27) rfl)
theorem vw_628 : (Cond.selects "OrderbenchModel" ⟨"OrderbenchModel", "takesEach", "(II)Z"⟩ ⟨"OrderbenchModel", "takesEach", "(II)Z"⟩).before #[] vs_A = true := List.all_eq_true.mp vwb_15 _ (List.mem_of_getElem? (i := 28) rfl)
set_option maxRecDepth 100000 in
theorem vfb_0 : (vs_A.vm.findClass "Orderbench" = some 2) ∧ (((vs_A.vm.classes[2]?).any (fun k => decide (k.instanceTypes.map defaultValue = ([.null, .null, .null, .null, .null, .null, .int 0, .int 0, .int 0] : List Value).toArray)) = true) ∧ (((parseMethodDescriptor "()V").map (fun d => d.parameters.length) = some 0) ∧ ((vs_A.vm.findClass "OrderbenchModel" = some 6) ∧ (((vs_A.vm.classes[6]?).any (fun k => decide (k.instanceTypes.map defaultValue = ([.int 0, .null, .null, .int 0, .int 0, .int 0] : List Value).toArray)) = true) ∧ ((vs_A.vm.findClass "OrderbenchLaw$Out" = some 12) ∧ (((vs_A.vm.classes[12]?).any (fun k => decide (k.instanceTypes.map defaultValue = ([.long 0, .null] : List Value).toArray)) = true) ∧ ((ve_ar vs_A 51 .int = true) ∧ (((parseMethodDescriptor "(LOrderbench;IILOrderbenchLaw$Out;)I").map (fun d => d.parameters.length) = some 4) ∧ (((parseMethodDescriptor "(II)I").map (fun d => d.parameters.length) = some 2) ∧ ((ve_de vs_A ⟨"OrderbenchModel", "turn", "(II)I"⟩ = true) ∧ (((parseMethodDescriptor "()J").map (fun d => d.parameters.length) = some 0) ∧ ((ve_de vs_A ⟨"Orderbench", "digest", "()J"⟩ = true) ∧ ((ve_de vs_A ⟨"OrderbenchModel", "digest", "()J"⟩ = true) ∧ ((vs_A.vm.findClass ("[" ++ (FieldType.object "Orderbench$Row").toString) = some 54) ∧ ((ve_cs vs_A 0 [2] (.array (.object "Orderbench$Row")) = true) ∧ (((vs_A.fieldFound? "Orderbench" "benches" "[LOrderbench$Row;").any (fun q => q.2.2.2.slot.beq 0 && (!q.2.2.2.isStatic && (decide (vs_A.vm.findClass "Orderbench" = some q.1) && decide (q.2.2.2.type = (.array (.object "Orderbench$Row")))))) = true) ∧ (((vs_A.fieldFound? "Orderbench" "benches" "[LOrderbench$Row;").any (fun q => q.2.2.2.slot.beq 0 && !q.2.2.2.isStatic) = true) ∧ ((vs_A.vm.findClass "Orderbench$Row" = some 3) ∧ (((vs_A.vm.classes[3]?).any (fun k => decide (k.instanceTypes.map defaultValue = ([.null, .int 0] : List Value).toArray)) = true) ∧ ((ve_aa vs_A 54 [3] = true) ∧ ((vs_A.vm.findClass ("[" ++ (FieldType.object "Orderbench$Shape").toString) = some 55) ∧ ((ve_cs vs_A 1 [2] (.array (.object "Orderbench$Shape")) = true) ∧ (((vs_A.fieldFound? "Orderbench" "orders" "[LOrderbench$Shape;").any (fun q => q.2.2.2.slot.beq 1 && (!q.2.2.2.isStatic && (decide (vs_A.vm.findClass "Orderbench" = some q.1) && decide (q.2.2.2.type = (.array (.object "Orderbench$Shape")))))) = true) ∧ ((vs_A.vm.findClass "Orderbench$Base" = some 26))))))))))))))))))))))))) := by decide +kernel
theorem vf_0 : vs_A.vm.findClass "Orderbench" = some 2 := vfb_0.1
theorem vf_1 : (vs_A.vm.classes[2]?).any (fun k => decide (k.instanceTypes.map defaultValue = ([.null, .null, .null, .null, .null, .null, .int 0, .int 0, .int 0] : List Value).toArray)) = true := vfb_0.2.1
theorem vf_2 : (parseMethodDescriptor "()V").map (fun d => d.parameters.length) = some 0 := vfb_0.2.2.1
theorem vf_3 : vs_A.vm.findClass "OrderbenchModel" = some 6 := vfb_0.2.2.2.1
theorem vf_4 : (vs_A.vm.classes[6]?).any (fun k => decide (k.instanceTypes.map defaultValue = ([.int 0, .null, .null, .int 0, .int 0, .int 0] : List Value).toArray)) = true := vfb_0.2.2.2.2.1
theorem vf_5 : vs_A.vm.findClass "OrderbenchLaw$Out" = some 12 := vfb_0.2.2.2.2.2.1
theorem vf_6 : (vs_A.vm.classes[12]?).any (fun k => decide (k.instanceTypes.map defaultValue = ([.long 0, .null] : List Value).toArray)) = true := vfb_0.2.2.2.2.2.2.1
theorem vf_7 : ve_ar vs_A 51 .int = true := vfb_0.2.2.2.2.2.2.2.1
theorem vf_8 : (parseMethodDescriptor "(LOrderbench;IILOrderbenchLaw$Out;)I").map (fun d => d.parameters.length) = some 4 := vfb_0.2.2.2.2.2.2.2.2.1
theorem vf_9 : (parseMethodDescriptor "(II)I").map (fun d => d.parameters.length) = some 2 := vfb_0.2.2.2.2.2.2.2.2.2.1
theorem vf_10 : ve_de vs_A ⟨"OrderbenchModel", "turn", "(II)I"⟩ = true := vfb_0.2.2.2.2.2.2.2.2.2.2.1
theorem vf_11 : (parseMethodDescriptor "()J").map (fun d => d.parameters.length) = some 0 := vfb_0.2.2.2.2.2.2.2.2.2.2.2.1
theorem vf_12 : ve_de vs_A ⟨"Orderbench", "digest", "()J"⟩ = true := vfb_0.2.2.2.2.2.2.2.2.2.2.2.2.1
theorem vf_13 : ve_de vs_A ⟨"OrderbenchModel", "digest", "()J"⟩ = true := vfb_0.2.2.2.2.2.2.2.2.2.2.2.2.2.1
theorem vf_14 : vs_A.vm.findClass ("[" ++ (FieldType.object "Orderbench$Row").toString) = some 54 := vfb_0.2.2.2.2.2.2.2.2.2.2.2.2.2.2.1
theorem vf_15 : ve_cs vs_A 0 [2] (.array (.object "Orderbench$Row")) = true := vfb_0.2.2.2.2.2.2.2.2.2.2.2.2.2.2.2.1
theorem vf_16 : (vs_A.fieldFound? "Orderbench" "benches" "[LOrderbench$Row;").any (fun q => q.2.2.2.slot.beq 0 && (!q.2.2.2.isStatic && (decide (vs_A.vm.findClass "Orderbench" = some q.1) && decide (q.2.2.2.type = (.array (.object "Orderbench$Row")))))) = true := vfb_0.2.2.2.2.2.2.2.2.2.2.2.2.2.2.2.2.1
theorem vf_17 : (vs_A.fieldFound? "Orderbench" "benches" "[LOrderbench$Row;").any (fun q => q.2.2.2.slot.beq 0 && !q.2.2.2.isStatic) = true := vfb_0.2.2.2.2.2.2.2.2.2.2.2.2.2.2.2.2.2.1
theorem vf_18 : vs_A.vm.findClass "Orderbench$Row" = some 3 := vfb_0.2.2.2.2.2.2.2.2.2.2.2.2.2.2.2.2.2.2.1
theorem vf_19 : (vs_A.vm.classes[3]?).any (fun k => decide (k.instanceTypes.map defaultValue = ([.null, .int 0] : List Value).toArray)) = true := vfb_0.2.2.2.2.2.2.2.2.2.2.2.2.2.2.2.2.2.2.2.1
theorem vf_20 : ve_aa vs_A 54 [3] = true := vfb_0.2.2.2.2.2.2.2.2.2.2.2.2.2.2.2.2.2.2.2.2.1
theorem vf_21 : vs_A.vm.findClass ("[" ++ (FieldType.object "Orderbench$Shape").toString) = some 55 := vfb_0.2.2.2.2.2.2.2.2.2.2.2.2.2.2.2.2.2.2.2.2.2.1
theorem vf_22 : ve_cs vs_A 1 [2] (.array (.object "Orderbench$Shape")) = true := vfb_0.2.2.2.2.2.2.2.2.2.2.2.2.2.2.2.2.2.2.2.2.2.2.1
theorem vf_23 : (vs_A.fieldFound? "Orderbench" "orders" "[LOrderbench$Shape;").any (fun q => q.2.2.2.slot.beq 1 && (!q.2.2.2.isStatic && (decide (vs_A.vm.findClass "Orderbench" = some q.1) && decide (q.2.2.2.type = (.array (.object "Orderbench$Shape")))))) = true := vfb_0.2.2.2.2.2.2.2.2.2.2.2.2.2.2.2.2.2.2.2.2.2.2.2.1
theorem vf_24 : vs_A.vm.findClass "Orderbench$Base" = some 26 := vfb_0.2.2.2.2.2.2.2.2.2.2.2.2.2.2.2.2.2.2.2.2.2.2.2.2
set_option maxRecDepth 100000 in
theorem vfb_1 : ((vs_A.vm.classes[26]?).any (fun k => decide (k.instanceTypes.map defaultValue = ([.int 0, .int 0, .int 0] : List Value).toArray)) = true) ∧ (((parseMethodDescriptor "(I)V").map (fun d => d.parameters.length) = some 1) ∧ (((vs_A.fieldFound? "Orderbench" "orders" "[LOrderbench$Shape;").any (fun q => q.2.2.2.slot.beq 1 && !q.2.2.2.isStatic) = true) ∧ ((ve_aa vs_A 55 [26] = true) ∧ ((ve_cs vs_A 2 [2] (.object "Orderbench$Row") = true) ∧ (((vs_A.fieldFound? "Orderbench" "copied" "LOrderbench$Row;").any (fun q => q.2.2.2.slot.beq 2 && (!q.2.2.2.isStatic && (decide (vs_A.vm.findClass "Orderbench" = some q.1) && decide (q.2.2.2.type = (.object "Orderbench$Row"))))) = true) ∧ ((ve_cs vs_A 3 [2] (.object "Orderbench$Row") = true) ∧ (((vs_A.fieldFound? "Orderbench" "copiedToo" "LOrderbench$Row;").any (fun q => q.2.2.2.slot.beq 3 && (!q.2.2.2.isStatic && (decide (vs_A.vm.findClass "Orderbench" = some q.1) && decide (q.2.2.2.type = (.object "Orderbench$Row"))))) = true) ∧ ((vs_A.vm.findClass ("[" ++ (newarray.typeOf .int).toString) = some 51) ∧ ((ve_cs vs_A 4 [2] (.array .int) = true) ∧ (((vs_A.fieldFound? "Orderbench" "ranks" "[I").any (fun q => q.2.2.2.slot.beq 4 && (!q.2.2.2.isStatic && (decide (vs_A.vm.findClass "Orderbench" = some q.1) && decide (q.2.2.2.type = (.array .int))))) = true) ∧ ((vs_A.vm.findClass "java/lang/StringBuilder" = some 36) ∧ (((vs_A.vm.classes[36]?).any (fun k => decide (k.instanceTypes.map defaultValue = ([.null, .int 0, .int 0, .int 0] : List Value).toArray)) = true) ∧ ((ve_cs vs_A 5 [2] (.object "java/lang/StringBuilder") = true) ∧ (((vs_A.fieldFound? "Orderbench" "signs" "Ljava/lang/StringBuilder;").any (fun q => q.2.2.2.slot.beq 5 && (!q.2.2.2.isStatic && (decide (vs_A.vm.findClass "Orderbench" = some q.1) && decide (q.2.2.2.type = (.object "java/lang/StringBuilder"))))) = true) ∧ ((ve_cs vs_A 0 [3] (.array .int) = true) ∧ (((vs_A.fieldFound? "Orderbench$Row" "codes" "[I").any (fun q => q.2.2.2.slot.beq 0 && (!q.2.2.2.isStatic && (decide (vs_A.vm.findClass "Orderbench$Row" = some q.1) && decide (q.2.2.2.type = (.array .int))))) = true) ∧ (((parseMethodDescriptor "(IZ)V").map (fun d => d.parameters.length) = some 2) ∧ ((ve_cs vs_A 2 [26] .int = true) ∧ (((vs_A.fieldFound? "Orderbench$Base" "kind" "I").any (fun q => q.2.2.2.slot.beq 2 && (!q.2.2.2.isStatic && (decide (vs_A.vm.findClass "Orderbench$Base" = some q.1) && decide (q.2.2.2.type = .int)))) = true) ∧ ((ve_cs vs_A 0 [26, 32, 33] .int = true) ∧ (((vs_A.fieldFound? "Orderbench$Shape" "length" "I").any (fun q => q.2.2.2.slot.beq 0 && (!q.2.2.2.isStatic && (decide (vs_A.vm.findClass "Orderbench$Shape" = some q.1) && decide (q.2.2.2.type = .int)))) = true) ∧ ((ve_cs vs_A 1 [26, 32, 33] .boolean = true) ∧ (((vs_A.fieldFound? "Orderbench$Shape" "safe" "Z").any (fun q => q.2.2.2.slot.beq 1 && (!q.2.2.2.isStatic && (decide (vs_A.vm.findClass "Orderbench$Shape" = some q.1) && decide (q.2.2.2.type = .boolean)))) = true) ∧ (((vs_A.fieldFound? "java/lang/String" "COMPACT_STRINGS" "Z").any (fun q => q.2.2.2.slot.beq 1 && (q.2.2.2.isStatic && (decide (q.2.1.init = .initialized) && decide (q.2.1.statics = some 3)))) = true))))))))))))))))))))))))) := by decide +kernel
theorem vf_25 : (vs_A.vm.classes[26]?).any (fun k => decide (k.instanceTypes.map defaultValue = ([.int 0, .int 0, .int 0] : List Value).toArray)) = true := vfb_1.1
theorem vf_26 : (parseMethodDescriptor "(I)V").map (fun d => d.parameters.length) = some 1 := vfb_1.2.1
theorem vf_27 : (vs_A.fieldFound? "Orderbench" "orders" "[LOrderbench$Shape;").any (fun q => q.2.2.2.slot.beq 1 && !q.2.2.2.isStatic) = true := vfb_1.2.2.1
theorem vf_28 : ve_aa vs_A 55 [26] = true := vfb_1.2.2.2.1
theorem vf_29 : ve_cs vs_A 2 [2] (.object "Orderbench$Row") = true := vfb_1.2.2.2.2.1
theorem vf_30 : (vs_A.fieldFound? "Orderbench" "copied" "LOrderbench$Row;").any (fun q => q.2.2.2.slot.beq 2 && (!q.2.2.2.isStatic && (decide (vs_A.vm.findClass "Orderbench" = some q.1) && decide (q.2.2.2.type = (.object "Orderbench$Row"))))) = true := vfb_1.2.2.2.2.2.1
theorem vf_31 : ve_cs vs_A 3 [2] (.object "Orderbench$Row") = true := vfb_1.2.2.2.2.2.2.1
theorem vf_32 : (vs_A.fieldFound? "Orderbench" "copiedToo" "LOrderbench$Row;").any (fun q => q.2.2.2.slot.beq 3 && (!q.2.2.2.isStatic && (decide (vs_A.vm.findClass "Orderbench" = some q.1) && decide (q.2.2.2.type = (.object "Orderbench$Row"))))) = true := vfb_1.2.2.2.2.2.2.2.1
theorem vf_33 : vs_A.vm.findClass ("[" ++ (newarray.typeOf .int).toString) = some 51 := vfb_1.2.2.2.2.2.2.2.2.1
theorem vf_34 : ve_cs vs_A 4 [2] (.array .int) = true := vfb_1.2.2.2.2.2.2.2.2.2.1
theorem vf_35 : (vs_A.fieldFound? "Orderbench" "ranks" "[I").any (fun q => q.2.2.2.slot.beq 4 && (!q.2.2.2.isStatic && (decide (vs_A.vm.findClass "Orderbench" = some q.1) && decide (q.2.2.2.type = (.array .int))))) = true := vfb_1.2.2.2.2.2.2.2.2.2.2.1
theorem vf_36 : vs_A.vm.findClass "java/lang/StringBuilder" = some 36 := vfb_1.2.2.2.2.2.2.2.2.2.2.2.1
theorem vf_37 : (vs_A.vm.classes[36]?).any (fun k => decide (k.instanceTypes.map defaultValue = ([.null, .int 0, .int 0, .int 0] : List Value).toArray)) = true := vfb_1.2.2.2.2.2.2.2.2.2.2.2.2.1
theorem vf_38 : ve_cs vs_A 5 [2] (.object "java/lang/StringBuilder") = true := vfb_1.2.2.2.2.2.2.2.2.2.2.2.2.2.1
theorem vf_39 : (vs_A.fieldFound? "Orderbench" "signs" "Ljava/lang/StringBuilder;").any (fun q => q.2.2.2.slot.beq 5 && (!q.2.2.2.isStatic && (decide (vs_A.vm.findClass "Orderbench" = some q.1) && decide (q.2.2.2.type = (.object "java/lang/StringBuilder"))))) = true := vfb_1.2.2.2.2.2.2.2.2.2.2.2.2.2.2.1
theorem vf_40 : ve_cs vs_A 0 [3] (.array .int) = true := vfb_1.2.2.2.2.2.2.2.2.2.2.2.2.2.2.2.1
theorem vf_41 : (vs_A.fieldFound? "Orderbench$Row" "codes" "[I").any (fun q => q.2.2.2.slot.beq 0 && (!q.2.2.2.isStatic && (decide (vs_A.vm.findClass "Orderbench$Row" = some q.1) && decide (q.2.2.2.type = (.array .int))))) = true := vfb_1.2.2.2.2.2.2.2.2.2.2.2.2.2.2.2.2.1
theorem vf_42 : (parseMethodDescriptor "(IZ)V").map (fun d => d.parameters.length) = some 2 := vfb_1.2.2.2.2.2.2.2.2.2.2.2.2.2.2.2.2.2.1
theorem vf_43 : ve_cs vs_A 2 [26] .int = true := vfb_1.2.2.2.2.2.2.2.2.2.2.2.2.2.2.2.2.2.2.1
theorem vf_44 : (vs_A.fieldFound? "Orderbench$Base" "kind" "I").any (fun q => q.2.2.2.slot.beq 2 && (!q.2.2.2.isStatic && (decide (vs_A.vm.findClass "Orderbench$Base" = some q.1) && decide (q.2.2.2.type = .int)))) = true := vfb_1.2.2.2.2.2.2.2.2.2.2.2.2.2.2.2.2.2.2.2.1
theorem vf_45 : ve_cs vs_A 0 [26, 32, 33] .int = true := vfb_1.2.2.2.2.2.2.2.2.2.2.2.2.2.2.2.2.2.2.2.2.1
theorem vf_46 : (vs_A.fieldFound? "Orderbench$Shape" "length" "I").any (fun q => q.2.2.2.slot.beq 0 && (!q.2.2.2.isStatic && (decide (vs_A.vm.findClass "Orderbench$Shape" = some q.1) && decide (q.2.2.2.type = .int)))) = true := vfb_1.2.2.2.2.2.2.2.2.2.2.2.2.2.2.2.2.2.2.2.2.2.1
theorem vf_47 : ve_cs vs_A 1 [26, 32, 33] .boolean = true := vfb_1.2.2.2.2.2.2.2.2.2.2.2.2.2.2.2.2.2.2.2.2.2.2.1
theorem vf_48 : (vs_A.fieldFound? "Orderbench$Shape" "safe" "Z").any (fun q => q.2.2.2.slot.beq 1 && (!q.2.2.2.isStatic && (decide (vs_A.vm.findClass "Orderbench$Shape" = some q.1) && decide (q.2.2.2.type = .boolean)))) = true := vfb_1.2.2.2.2.2.2.2.2.2.2.2.2.2.2.2.2.2.2.2.2.2.2.2.1
theorem vf_49 : (vs_A.fieldFound? "java/lang/String" "COMPACT_STRINGS" "Z").any (fun q => q.2.2.2.slot.beq 1 && (q.2.2.2.isStatic && (decide (q.2.1.init = .initialized) && decide (q.2.1.statics = some 3)))) = true := vfb_1.2.2.2.2.2.2.2.2.2.2.2.2.2.2.2.2.2.2.2.2.2.2.2.2
set_option maxRecDepth 100000 in
theorem vfb_2 : (vs_A.vm.findClass ("[" ++ (newarray.typeOf .byte).toString) = some 53) ∧ ((ve_cs vs_A 0 [36] (.array .byte) = true) ∧ (((vs_A.fieldFound? "java/lang/AbstractStringBuilder" "value" "[B").any (fun q => q.2.2.2.slot.beq 0 && (!q.2.2.2.isStatic && (!hasFlag q.2.2.2.accessFlags Acc.final && decide (q.2.2.2.type = (.array .byte))))) = true) ∧ ((ve_cs vs_A 1 [36] .byte = true) ∧ (((vs_A.fieldFound? "java/lang/AbstractStringBuilder" "coder" "B").any (fun q => q.2.2.2.slot.beq 1 && (!q.2.2.2.isStatic && (!hasFlag q.2.2.2.accessFlags Acc.final && decide (q.2.2.2.type = .byte)))) = true) ∧ ((vs_A.vm.findClass "java/util/ArrayList" = some 47) ∧ (((vs_A.vm.classes[47]?).any (fun k => decide (k.instanceTypes.map defaultValue = ([.int 0, .null, .int 0] : List Value).toArray)) = true) ∧ ((ve_cs vs_A 1 [6] (.object "java/util/ArrayList") = true) ∧ (((vs_A.fieldFound? "OrderbenchModel" "benches" "Ljava/util/ArrayList;").any (fun q => q.2.2.2.slot.beq 1 && (!q.2.2.2.isStatic && (decide (vs_A.vm.findClass "OrderbenchModel" = some q.1) && decide (q.2.2.2.type = (.object "java/util/ArrayList"))))) = true) ∧ ((vs_A.vm.findClass ("[" ++ (FieldType.object "OrderbenchModel$Shape").toString) = some 56) ∧ ((ve_cs vs_A 2 [6] (.array (.object "OrderbenchModel$Shape")) = true) ∧ (((vs_A.fieldFound? "OrderbenchModel" "shapes" "[LOrderbenchModel$Shape;").any (fun q => q.2.2.2.slot.beq 2 && (!q.2.2.2.isStatic && (decide (vs_A.vm.findClass "OrderbenchModel" = some q.1) && decide (q.2.2.2.type = (.array (.object "OrderbenchModel$Shape")))))) = true) ∧ (((vs_A.fieldFound? "OrderbenchModel" "benches" "Ljava/util/ArrayList;").any (fun q => q.2.2.2.slot.beq 1 && !q.2.2.2.isStatic) = true) ∧ (((parseMethodDescriptor "(Ljava/lang/Object;)Z").map (fun d => d.parameters.length) = some 1) ∧ ((ve_de vs_A ⟨"java/util/ArrayList", "add", "(Ljava/lang/Object;)Z"⟩ = true) ∧ (((vs_A.fieldFound? "OrderbenchModel" "shapes" "[LOrderbenchModel$Shape;").any (fun q => q.2.2.2.slot.beq 2 && !q.2.2.2.isStatic) = true) ∧ ((vs_A.vm.findClass "OrderbenchModel$Shape" = some 11) ∧ (((vs_A.vm.classes[11]?).any (fun k => decide (k.instanceTypes.map defaultValue = ([.int 0, .null, .null] : List Value).toArray)) = true) ∧ (((parseMethodDescriptor "(CLOrderbenchModel$Shape;LOrderbenchModel$Shape;)V").map (fun d => d.parameters.length) = some 3) ∧ ((ve_aa vs_A 56 [11] = true) ∧ (((vs_A.fieldFound? "java/util/ArrayList" "DEFAULTCAPACITY_EMPTY_ELEMENTDATA" "[Ljava/lang/Object;").any (fun q => q.2.2.2.slot.beq 3 && (q.2.2.2.isStatic && (decide (q.2.1.init = .initialized) && decide (q.2.1.statics = some 6)))) = true) ∧ ((ve_cs vs_A 1 [47] (.array (.object "java/lang/Object")) = true) ∧ (((vs_A.fieldFound? "java/util/ArrayList" "elementData" "[Ljava/lang/Object;").any (fun q => q.2.2.2.slot.beq 1 && (!q.2.2.2.isStatic && (!hasFlag q.2.2.2.accessFlags Acc.final && decide (q.2.2.2.type = (.array (.object "java/lang/Object")))))) = true) ∧ ((ve_cs vs_A 0 [47] .int = true) ∧ (((vs_A.fieldFound? "java/util/AbstractList" "modCount" "I").any (fun q => q.2.2.2.slot.beq 0 && (!q.2.2.2.isStatic && (!hasFlag q.2.2.2.accessFlags Acc.final && decide (q.2.2.2.type = .int)))) = true))))))))))))))))))))))))) := by decide +kernel
theorem vf_50 : vs_A.vm.findClass ("[" ++ (newarray.typeOf .byte).toString) = some 53 := vfb_2.1
theorem vf_51 : ve_cs vs_A 0 [36] (.array .byte) = true := vfb_2.2.1
theorem vf_52 : (vs_A.fieldFound? "java/lang/AbstractStringBuilder" "value" "[B").any (fun q => q.2.2.2.slot.beq 0 && (!q.2.2.2.isStatic && (!hasFlag q.2.2.2.accessFlags Acc.final && decide (q.2.2.2.type = (.array .byte))))) = true := vfb_2.2.2.1
theorem vf_53 : ve_cs vs_A 1 [36] .byte = true := vfb_2.2.2.2.1
theorem vf_54 : (vs_A.fieldFound? "java/lang/AbstractStringBuilder" "coder" "B").any (fun q => q.2.2.2.slot.beq 1 && (!q.2.2.2.isStatic && (!hasFlag q.2.2.2.accessFlags Acc.final && decide (q.2.2.2.type = .byte)))) = true := vfb_2.2.2.2.2.1
theorem vf_55 : vs_A.vm.findClass "java/util/ArrayList" = some 47 := vfb_2.2.2.2.2.2.1
theorem vf_56 : (vs_A.vm.classes[47]?).any (fun k => decide (k.instanceTypes.map defaultValue = ([.int 0, .null, .int 0] : List Value).toArray)) = true := vfb_2.2.2.2.2.2.2.1
theorem vf_57 : ve_cs vs_A 1 [6] (.object "java/util/ArrayList") = true := vfb_2.2.2.2.2.2.2.2.1
theorem vf_58 : (vs_A.fieldFound? "OrderbenchModel" "benches" "Ljava/util/ArrayList;").any (fun q => q.2.2.2.slot.beq 1 && (!q.2.2.2.isStatic && (decide (vs_A.vm.findClass "OrderbenchModel" = some q.1) && decide (q.2.2.2.type = (.object "java/util/ArrayList"))))) = true := vfb_2.2.2.2.2.2.2.2.2.1
theorem vf_59 : vs_A.vm.findClass ("[" ++ (FieldType.object "OrderbenchModel$Shape").toString) = some 56 := vfb_2.2.2.2.2.2.2.2.2.2.1
theorem vf_60 : ve_cs vs_A 2 [6] (.array (.object "OrderbenchModel$Shape")) = true := vfb_2.2.2.2.2.2.2.2.2.2.2.1
theorem vf_61 : (vs_A.fieldFound? "OrderbenchModel" "shapes" "[LOrderbenchModel$Shape;").any (fun q => q.2.2.2.slot.beq 2 && (!q.2.2.2.isStatic && (decide (vs_A.vm.findClass "OrderbenchModel" = some q.1) && decide (q.2.2.2.type = (.array (.object "OrderbenchModel$Shape")))))) = true := vfb_2.2.2.2.2.2.2.2.2.2.2.2.1
theorem vf_62 : (vs_A.fieldFound? "OrderbenchModel" "benches" "Ljava/util/ArrayList;").any (fun q => q.2.2.2.slot.beq 1 && !q.2.2.2.isStatic) = true := vfb_2.2.2.2.2.2.2.2.2.2.2.2.2.1
theorem vf_63 : (parseMethodDescriptor "(Ljava/lang/Object;)Z").map (fun d => d.parameters.length) = some 1 := vfb_2.2.2.2.2.2.2.2.2.2.2.2.2.2.1
theorem vf_64 : ve_de vs_A ⟨"java/util/ArrayList", "add", "(Ljava/lang/Object;)Z"⟩ = true := vfb_2.2.2.2.2.2.2.2.2.2.2.2.2.2.2.1
theorem vf_65 : (vs_A.fieldFound? "OrderbenchModel" "shapes" "[LOrderbenchModel$Shape;").any (fun q => q.2.2.2.slot.beq 2 && !q.2.2.2.isStatic) = true := vfb_2.2.2.2.2.2.2.2.2.2.2.2.2.2.2.2.1
theorem vf_66 : vs_A.vm.findClass "OrderbenchModel$Shape" = some 11 := vfb_2.2.2.2.2.2.2.2.2.2.2.2.2.2.2.2.2.1
theorem vf_67 : (vs_A.vm.classes[11]?).any (fun k => decide (k.instanceTypes.map defaultValue = ([.int 0, .null, .null] : List Value).toArray)) = true := vfb_2.2.2.2.2.2.2.2.2.2.2.2.2.2.2.2.2.2.1
theorem vf_68 : (parseMethodDescriptor "(CLOrderbenchModel$Shape;LOrderbenchModel$Shape;)V").map (fun d => d.parameters.length) = some 3 := vfb_2.2.2.2.2.2.2.2.2.2.2.2.2.2.2.2.2.2.2.1
theorem vf_69 : ve_aa vs_A 56 [11] = true := vfb_2.2.2.2.2.2.2.2.2.2.2.2.2.2.2.2.2.2.2.2.1
theorem vf_70 : (vs_A.fieldFound? "java/util/ArrayList" "DEFAULTCAPACITY_EMPTY_ELEMENTDATA" "[Ljava/lang/Object;").any (fun q => q.2.2.2.slot.beq 3 && (q.2.2.2.isStatic && (decide (q.2.1.init = .initialized) && decide (q.2.1.statics = some 6)))) = true := vfb_2.2.2.2.2.2.2.2.2.2.2.2.2.2.2.2.2.2.2.2.2.1
theorem vf_71 : ve_cs vs_A 1 [47] (.array (.object "java/lang/Object")) = true := vfb_2.2.2.2.2.2.2.2.2.2.2.2.2.2.2.2.2.2.2.2.2.2.1
theorem vf_72 : (vs_A.fieldFound? "java/util/ArrayList" "elementData" "[Ljava/lang/Object;").any (fun q => q.2.2.2.slot.beq 1 && (!q.2.2.2.isStatic && (!hasFlag q.2.2.2.accessFlags Acc.final && decide (q.2.2.2.type = (.array (.object "java/lang/Object")))))) = true := vfb_2.2.2.2.2.2.2.2.2.2.2.2.2.2.2.2.2.2.2.2.2.2.2.1
theorem vf_73 : ve_cs vs_A 0 [47] .int = true := vfb_2.2.2.2.2.2.2.2.2.2.2.2.2.2.2.2.2.2.2.2.2.2.2.2.1
theorem vf_74 : (vs_A.fieldFound? "java/util/AbstractList" "modCount" "I").any (fun q => q.2.2.2.slot.beq 0 && (!q.2.2.2.isStatic && (!hasFlag q.2.2.2.accessFlags Acc.final && decide (q.2.2.2.type = .int)))) = true := vfb_2.2.2.2.2.2.2.2.2.2.2.2.2.2.2.2.2.2.2.2.2.2.2.2.2
set_option maxRecDepth 100000 in
theorem vfb_3 : ((vs_A.fieldFound? "java/util/ArrayList" "modCount" "I").any (fun q => q.2.2.2.slot.beq 0 && !q.2.2.2.isStatic) = true) ∧ (((vs_A.fieldFound? "java/util/ArrayList" "modCount" "I").any (fun q => q.2.2.2.slot.beq 0 && (!q.2.2.2.isStatic && (!hasFlag q.2.2.2.accessFlags Acc.final && decide (q.2.2.2.type = .int)))) = true) ∧ (((vs_A.fieldFound? "java/util/ArrayList" "elementData" "[Ljava/lang/Object;").any (fun q => q.2.2.2.slot.beq 1 && !q.2.2.2.isStatic) = true) ∧ (((vs_A.fieldFound? "java/util/ArrayList" "size" "I").any (fun q => q.2.2.2.slot.beq 2 && !q.2.2.2.isStatic) = true) ∧ (((parseMethodDescriptor "(Ljava/lang/Object;[Ljava/lang/Object;I)V").map (fun d => d.parameters.length) = some 3) ∧ ((ve_de vs_A ⟨"java/util/ArrayList", "add", "(Ljava/lang/Object;[Ljava/lang/Object;I)V"⟩ = true) ∧ ((ve_ar vs_A 57 (.object "java/lang/Object") = true) ∧ (((parseMethodDescriptor "()[Ljava/lang/Object;").map (fun d => d.parameters.length) = some 0) ∧ ((ve_de vs_A ⟨"java/util/ArrayList", "grow", "()[Ljava/lang/Object;"⟩ = true) ∧ ((ve_aa vs_A 57 [47] = true) ∧ ((ve_cs vs_A 2 [47] .int = true) ∧ (((vs_A.fieldFound? "java/util/ArrayList" "size" "I").any (fun q => q.2.2.2.slot.beq 2 && (!q.2.2.2.isStatic && (!hasFlag q.2.2.2.accessFlags Acc.final && decide (q.2.2.2.type = .int)))) = true) ∧ (((parseMethodDescriptor "(I)[Ljava/lang/Object;").map (fun d => d.parameters.length) = some 1) ∧ ((ve_de vs_A ⟨"java/util/ArrayList", "grow", "(I)[Ljava/lang/Object;"⟩ = true) ∧ ((vs_A.vm.findClass ("[" ++ (FieldType.object "java/lang/Object").toString) = some 57) ∧ ((ve_cs vs_A 0 [11] .char = true) ∧ (((vs_A.fieldFound? "OrderbenchModel$Shape" "sort" "C").any (fun q => q.2.2.2.slot.beq 0 && (!q.2.2.2.isStatic && (decide (vs_A.vm.findClass "OrderbenchModel$Shape" = some q.1) && decide (q.2.2.2.type = .char)))) = true) ∧ ((ve_cs vs_A 1 [11] (.object "OrderbenchModel$Shape") = true) ∧ (((vs_A.fieldFound? "OrderbenchModel$Shape" "one" "LOrderbenchModel$Shape;").any (fun q => q.2.2.2.slot.beq 1 && (!q.2.2.2.isStatic && (decide (vs_A.vm.findClass "OrderbenchModel$Shape" = some q.1) && decide (q.2.2.2.type = (.object "OrderbenchModel$Shape"))))) = true) ∧ ((ve_cs vs_A 2 [11] (.object "OrderbenchModel$Shape") = true) ∧ (((vs_A.fieldFound? "OrderbenchModel$Shape" "other" "LOrderbenchModel$Shape;").any (fun q => q.2.2.2.slot.beq 2 && (!q.2.2.2.isStatic && (decide (vs_A.vm.findClass "OrderbenchModel$Shape" = some q.1) && decide (q.2.2.2.type = (.object "OrderbenchModel$Shape"))))) = true) ∧ ((ve_de vs_A ⟨"Orderbench", "turn", "(II)I"⟩ = true) ∧ ((ve_cs vs_A 0 [12] .long = true) ∧ (((vs_A.fieldFound? "OrderbenchLaw$Out" "n" "J").any (fun q => q.2.2.2.slot.beq 0 && (!q.2.2.2.isStatic && (!hasFlag q.2.2.2.accessFlags Acc.final && decide (q.2.2.2.type = .long)))) = true) ∧ (((parseMethodDescriptor "(I)LOrderbench$Shape;").map (fun d => d.parameters.length) = some 1))))))))))))))))))))))))) := by decide +kernel
theorem vf_75 : (vs_A.fieldFound? "java/util/ArrayList" "modCount" "I").any (fun q => q.2.2.2.slot.beq 0 && !q.2.2.2.isStatic) = true := vfb_3.1
theorem vf_76 : (vs_A.fieldFound? "java/util/ArrayList" "modCount" "I").any (fun q => q.2.2.2.slot.beq 0 && (!q.2.2.2.isStatic && (!hasFlag q.2.2.2.accessFlags Acc.final && decide (q.2.2.2.type = .int)))) = true := vfb_3.2.1
theorem vf_77 : (vs_A.fieldFound? "java/util/ArrayList" "elementData" "[Ljava/lang/Object;").any (fun q => q.2.2.2.slot.beq 1 && !q.2.2.2.isStatic) = true := vfb_3.2.2.1
theorem vf_78 : (vs_A.fieldFound? "java/util/ArrayList" "size" "I").any (fun q => q.2.2.2.slot.beq 2 && !q.2.2.2.isStatic) = true := vfb_3.2.2.2.1
theorem vf_79 : (parseMethodDescriptor "(Ljava/lang/Object;[Ljava/lang/Object;I)V").map (fun d => d.parameters.length) = some 3 := vfb_3.2.2.2.2.1
theorem vf_80 : ve_de vs_A ⟨"java/util/ArrayList", "add", "(Ljava/lang/Object;[Ljava/lang/Object;I)V"⟩ = true := vfb_3.2.2.2.2.2.1
theorem vf_81 : ve_ar vs_A 57 (.object "java/lang/Object") = true := vfb_3.2.2.2.2.2.2.1
theorem vf_82 : (parseMethodDescriptor "()[Ljava/lang/Object;").map (fun d => d.parameters.length) = some 0 := vfb_3.2.2.2.2.2.2.2.1
theorem vf_83 : ve_de vs_A ⟨"java/util/ArrayList", "grow", "()[Ljava/lang/Object;"⟩ = true := vfb_3.2.2.2.2.2.2.2.2.1
theorem vf_84 : ve_aa vs_A 57 [47] = true := vfb_3.2.2.2.2.2.2.2.2.2.1
theorem vf_85 : ve_cs vs_A 2 [47] .int = true := vfb_3.2.2.2.2.2.2.2.2.2.2.1
theorem vf_86 : (vs_A.fieldFound? "java/util/ArrayList" "size" "I").any (fun q => q.2.2.2.slot.beq 2 && (!q.2.2.2.isStatic && (!hasFlag q.2.2.2.accessFlags Acc.final && decide (q.2.2.2.type = .int)))) = true := vfb_3.2.2.2.2.2.2.2.2.2.2.2.1
theorem vf_87 : (parseMethodDescriptor "(I)[Ljava/lang/Object;").map (fun d => d.parameters.length) = some 1 := vfb_3.2.2.2.2.2.2.2.2.2.2.2.2.1
theorem vf_88 : ve_de vs_A ⟨"java/util/ArrayList", "grow", "(I)[Ljava/lang/Object;"⟩ = true := vfb_3.2.2.2.2.2.2.2.2.2.2.2.2.2.1
theorem vf_89 : vs_A.vm.findClass ("[" ++ (FieldType.object "java/lang/Object").toString) = some 57 := vfb_3.2.2.2.2.2.2.2.2.2.2.2.2.2.2.1
theorem vf_90 : ve_cs vs_A 0 [11] .char = true := vfb_3.2.2.2.2.2.2.2.2.2.2.2.2.2.2.2.1
theorem vf_91 : (vs_A.fieldFound? "OrderbenchModel$Shape" "sort" "C").any (fun q => q.2.2.2.slot.beq 0 && (!q.2.2.2.isStatic && (decide (vs_A.vm.findClass "OrderbenchModel$Shape" = some q.1) && decide (q.2.2.2.type = .char)))) = true := vfb_3.2.2.2.2.2.2.2.2.2.2.2.2.2.2.2.2.1
theorem vf_92 : ve_cs vs_A 1 [11] (.object "OrderbenchModel$Shape") = true := vfb_3.2.2.2.2.2.2.2.2.2.2.2.2.2.2.2.2.2.1
theorem vf_93 : (vs_A.fieldFound? "OrderbenchModel$Shape" "one" "LOrderbenchModel$Shape;").any (fun q => q.2.2.2.slot.beq 1 && (!q.2.2.2.isStatic && (decide (vs_A.vm.findClass "OrderbenchModel$Shape" = some q.1) && decide (q.2.2.2.type = (.object "OrderbenchModel$Shape"))))) = true := vfb_3.2.2.2.2.2.2.2.2.2.2.2.2.2.2.2.2.2.2.1
theorem vf_94 : ve_cs vs_A 2 [11] (.object "OrderbenchModel$Shape") = true := vfb_3.2.2.2.2.2.2.2.2.2.2.2.2.2.2.2.2.2.2.2.1
theorem vf_95 : (vs_A.fieldFound? "OrderbenchModel$Shape" "other" "LOrderbenchModel$Shape;").any (fun q => q.2.2.2.slot.beq 2 && (!q.2.2.2.isStatic && (decide (vs_A.vm.findClass "OrderbenchModel$Shape" = some q.1) && decide (q.2.2.2.type = (.object "OrderbenchModel$Shape"))))) = true := vfb_3.2.2.2.2.2.2.2.2.2.2.2.2.2.2.2.2.2.2.2.2.1
theorem vf_96 : ve_de vs_A ⟨"Orderbench", "turn", "(II)I"⟩ = true := vfb_3.2.2.2.2.2.2.2.2.2.2.2.2.2.2.2.2.2.2.2.2.2.1
theorem vf_97 : ve_cs vs_A 0 [12] .long = true := vfb_3.2.2.2.2.2.2.2.2.2.2.2.2.2.2.2.2.2.2.2.2.2.2.1
theorem vf_98 : (vs_A.fieldFound? "OrderbenchLaw$Out" "n" "J").any (fun q => q.2.2.2.slot.beq 0 && (!q.2.2.2.isStatic && (!hasFlag q.2.2.2.accessFlags Acc.final && decide (q.2.2.2.type = .long)))) = true := vfb_3.2.2.2.2.2.2.2.2.2.2.2.2.2.2.2.2.2.2.2.2.2.2.2.1
theorem vf_99 : (parseMethodDescriptor "(I)LOrderbench$Shape;").map (fun d => d.parameters.length) = some 1 := vfb_3.2.2.2.2.2.2.2.2.2.2.2.2.2.2.2.2.2.2.2.2.2.2.2.2
set_option maxRecDepth 100000 in
theorem vfb_4 : (ve_de vs_A ⟨"Orderbench", "orderAt", "(I)LOrderbench$Shape;"⟩ = true) ∧ ((vs_A.vm.findClass "Orderbench$Turned" = some 32) ∧ (((vs_A.vm.classes[32]?).any (fun k => decide (k.instanceTypes.map defaultValue = ([.int 0, .int 0, .null] : List Value).toArray)) = true) ∧ (((parseMethodDescriptor "(LOrderbench$Shape;)V").map (fun d => d.parameters.length) = some 1) ∧ (((parseMethodDescriptor "(ILOrderbench$Shape;)I").map (fun d => d.parameters.length) = some 2) ∧ ((ve_de vs_A ⟨"Orderbench", "makeOrder", "(ILOrderbench$Shape;)I"⟩ = true) ∧ ((ve_ar vs_A 55 (.object "Orderbench$Shape") = true) ∧ (((vs_A.fieldFound? "Orderbench$Shape" "length" "I").any (fun q => q.2.2.2.slot.beq 0 && !q.2.2.2.isStatic) = true) ∧ (((vs_A.fieldFound? "Orderbench$Shape" "safe" "Z").any (fun q => q.2.2.2.slot.beq 1 && !q.2.2.2.isStatic) = true) ∧ ((ve_cs vs_A 2 [32] (.object "Orderbench$Shape") = true) ∧ (((vs_A.fieldFound? "Orderbench$Turned" "of" "LOrderbench$Shape;").any (fun q => q.2.2.2.slot.beq 2 && (!q.2.2.2.isStatic && (decide (vs_A.vm.findClass "Orderbench$Turned" = some q.1) && decide (q.2.2.2.type = (.object "Orderbench$Shape"))))) = true) ∧ ((ve_aa vs_A 55 [32] = true) ∧ (((parseMethodDescriptor "(I)Z").map (fun d => d.parameters.length) = some 1) ∧ (((parseMethodDescriptor "(ZZ)Z").map (fun d => d.parameters.length) = some 2) ∧ ((ve_de vs_A ⟨"OrderbenchModel", "fails", "(ZZ)Z"⟩ = true) ∧ ((ve_ar vs_A 56 (.object "OrderbenchModel$Shape") = true) ∧ (((parseMethodDescriptor "(ILOrderbenchModel$Shape;)I").map (fun d => d.parameters.length) = some 2) ∧ ((ve_de vs_A ⟨"OrderbenchModel", "become", "(ILOrderbenchModel$Shape;)I"⟩ = true) ∧ (((parseMethodDescriptor "(III)Z").map (fun d => d.parameters.length) = some 3) ∧ (((parseMethodDescriptor "(ZZZ)Z").map (fun d => d.parameters.length) = some 3) ∧ ((ve_de vs_A ⟨"OrderbenchModel", "fails", "(ZZZ)Z"⟩ = true) ∧ ((ve_cs vs_A 0 [6] .int = true) ∧ (((vs_A.fieldFound? "OrderbenchModel" "thrown" "I").any (fun q => q.2.2.2.slot.beq 0 && (!q.2.2.2.isStatic && (!hasFlag q.2.2.2.accessFlags Acc.final && decide (q.2.2.2.type = .int)))) = true) ∧ (((vs_A.fieldFound? "OrderbenchModel" "thrown" "I").any (fun q => q.2.2.2.slot.beq 0 && !q.2.2.2.isStatic) = true) ∧ (((parseMethodDescriptor "()Ljava/lang/String;").map (fun d => d.parameters.length) = some 0))))))))))))))))))))))))) := by decide +kernel
theorem vf_100 : ve_de vs_A ⟨"Orderbench", "orderAt", "(I)LOrderbench$Shape;"⟩ = true := vfb_4.1
theorem vf_101 : vs_A.vm.findClass "Orderbench$Turned" = some 32 := vfb_4.2.1
theorem vf_102 : (vs_A.vm.classes[32]?).any (fun k => decide (k.instanceTypes.map defaultValue = ([.int 0, .int 0, .null] : List Value).toArray)) = true := vfb_4.2.2.1
theorem vf_103 : (parseMethodDescriptor "(LOrderbench$Shape;)V").map (fun d => d.parameters.length) = some 1 := vfb_4.2.2.2.1
theorem vf_104 : (parseMethodDescriptor "(ILOrderbench$Shape;)I").map (fun d => d.parameters.length) = some 2 := vfb_4.2.2.2.2.1
theorem vf_105 : ve_de vs_A ⟨"Orderbench", "makeOrder", "(ILOrderbench$Shape;)I"⟩ = true := vfb_4.2.2.2.2.2.1
theorem vf_106 : ve_ar vs_A 55 (.object "Orderbench$Shape") = true := vfb_4.2.2.2.2.2.2.1
theorem vf_107 : (vs_A.fieldFound? "Orderbench$Shape" "length" "I").any (fun q => q.2.2.2.slot.beq 0 && !q.2.2.2.isStatic) = true := vfb_4.2.2.2.2.2.2.2.1
theorem vf_108 : (vs_A.fieldFound? "Orderbench$Shape" "safe" "Z").any (fun q => q.2.2.2.slot.beq 1 && !q.2.2.2.isStatic) = true := vfb_4.2.2.2.2.2.2.2.2.1
theorem vf_109 : ve_cs vs_A 2 [32] (.object "Orderbench$Shape") = true := vfb_4.2.2.2.2.2.2.2.2.2.1
theorem vf_110 : (vs_A.fieldFound? "Orderbench$Turned" "of" "LOrderbench$Shape;").any (fun q => q.2.2.2.slot.beq 2 && (!q.2.2.2.isStatic && (decide (vs_A.vm.findClass "Orderbench$Turned" = some q.1) && decide (q.2.2.2.type = (.object "Orderbench$Shape"))))) = true := vfb_4.2.2.2.2.2.2.2.2.2.2.1
theorem vf_111 : ve_aa vs_A 55 [32] = true := vfb_4.2.2.2.2.2.2.2.2.2.2.2.1
theorem vf_112 : (parseMethodDescriptor "(I)Z").map (fun d => d.parameters.length) = some 1 := vfb_4.2.2.2.2.2.2.2.2.2.2.2.2.1
theorem vf_113 : (parseMethodDescriptor "(ZZ)Z").map (fun d => d.parameters.length) = some 2 := vfb_4.2.2.2.2.2.2.2.2.2.2.2.2.2.1
theorem vf_114 : ve_de vs_A ⟨"OrderbenchModel", "fails", "(ZZ)Z"⟩ = true := vfb_4.2.2.2.2.2.2.2.2.2.2.2.2.2.2.1
theorem vf_115 : ve_ar vs_A 56 (.object "OrderbenchModel$Shape") = true := vfb_4.2.2.2.2.2.2.2.2.2.2.2.2.2.2.2.1
theorem vf_116 : (parseMethodDescriptor "(ILOrderbenchModel$Shape;)I").map (fun d => d.parameters.length) = some 2 := vfb_4.2.2.2.2.2.2.2.2.2.2.2.2.2.2.2.2.1
theorem vf_117 : ve_de vs_A ⟨"OrderbenchModel", "become", "(ILOrderbenchModel$Shape;)I"⟩ = true := vfb_4.2.2.2.2.2.2.2.2.2.2.2.2.2.2.2.2.2.1
theorem vf_118 : (parseMethodDescriptor "(III)Z").map (fun d => d.parameters.length) = some 3 := vfb_4.2.2.2.2.2.2.2.2.2.2.2.2.2.2.2.2.2.2.1
theorem vf_119 : (parseMethodDescriptor "(ZZZ)Z").map (fun d => d.parameters.length) = some 3 := vfb_4.2.2.2.2.2.2.2.2.2.2.2.2.2.2.2.2.2.2.2.1
theorem vf_120 : ve_de vs_A ⟨"OrderbenchModel", "fails", "(ZZZ)Z"⟩ = true := vfb_4.2.2.2.2.2.2.2.2.2.2.2.2.2.2.2.2.2.2.2.2.1
theorem vf_121 : ve_cs vs_A 0 [6] .int = true := vfb_4.2.2.2.2.2.2.2.2.2.2.2.2.2.2.2.2.2.2.2.2.2.1
theorem vf_122 : (vs_A.fieldFound? "OrderbenchModel" "thrown" "I").any (fun q => q.2.2.2.slot.beq 0 && (!q.2.2.2.isStatic && (!hasFlag q.2.2.2.accessFlags Acc.final && decide (q.2.2.2.type = .int)))) = true := vfb_4.2.2.2.2.2.2.2.2.2.2.2.2.2.2.2.2.2.2.2.2.2.2.1
theorem vf_123 : (vs_A.fieldFound? "OrderbenchModel" "thrown" "I").any (fun q => q.2.2.2.slot.beq 0 && !q.2.2.2.isStatic) = true := vfb_4.2.2.2.2.2.2.2.2.2.2.2.2.2.2.2.2.2.2.2.2.2.2.2.1
theorem vf_124 : (parseMethodDescriptor "()Ljava/lang/String;").map (fun d => d.parameters.length) = some 0 := vfb_4.2.2.2.2.2.2.2.2.2.2.2.2.2.2.2.2.2.2.2.2.2.2.2.2
set_option maxRecDepth 100000 in
theorem vfb_5 : (ve_de vs_A ⟨"OrderbenchModel$Shape", "text", "()Ljava/lang/String;"⟩ = true) ∧ (((parseMethodDescriptor "()I").map (fun d => d.parameters.length) = some 0) ∧ ((vs_A.vm.findClass "java/lang/String" = some 28) ∧ ((ve_de vs_A ⟨"java/lang/String", "length", "()I"⟩ = true) ∧ (((parseMethodDescriptor "(I)I").map (fun d => d.parameters.length) = some 1) ∧ ((ve_de vs_A ⟨"OrderbenchModel", "sizeOf", "(I)I"⟩ = true) ∧ (((vs_A.fieldFound? "OrderbenchModel$Shape" "sort" "C").any (fun q => q.2.2.2.slot.beq 0 && !q.2.2.2.isStatic) = true) ∧ (((vs_A.fieldFound? "OrderbenchModel$Shape" "one" "LOrderbenchModel$Shape;").any (fun q => q.2.2.2.slot.beq 1 && !q.2.2.2.isStatic) = true) ∧ (((parseMethodDescriptor "(Ljava/lang/String;)Ljava/lang/StringBuilder;").map (fun d => d.parameters.length) = some 1) ∧ ((ve_de vs_A ⟨"java/lang/StringBuilder", "append", "(Ljava/lang/String;)Ljava/lang/StringBuilder;"⟩ = true) ∧ ((ve_de vs_A ⟨"java/lang/StringBuilder", "toString", "()Ljava/lang/String;"⟩ = true) ∧ (((parseMethodDescriptor "(C)Ljava/lang/StringBuilder;").map (fun d => d.parameters.length) = some 1) ∧ ((ve_de vs_A ⟨"java/lang/StringBuilder", "append", "(C)Ljava/lang/StringBuilder;"⟩ = true) ∧ (((parseMethodDescriptor "(C)Ljava/lang/AbstractStringBuilder;").map (fun d => d.parameters.length) = some 1) ∧ (((vs_A.vm.classes[36]?).any (fun x => decide (x.kind = .ordinary)) = true) ∧ (((vs_A.fieldFound? "java/lang/AbstractStringBuilder" "count" "I").any (fun q => q.2.2.2.slot.beq 3 && !q.2.2.2.isStatic) = true) ∧ ((ve_de vs_A ⟨"java/lang/AbstractStringBuilder", "ensureCapacityInternal", "(I)V"⟩ = true) ∧ (((parseMethodDescriptor "()Z").map (fun d => d.parameters.length) = some 0) ∧ ((ve_de vs_A ⟨"java/lang/AbstractStringBuilder", "isLatin1", "()Z"⟩ = true) ∧ (((parseMethodDescriptor "(C)Z").map (fun d => d.parameters.length) = some 1) ∧ (((vs_A.fieldFound? "java/lang/AbstractStringBuilder" "value" "[B").any (fun q => q.2.2.2.slot.beq 0 && !q.2.2.2.isStatic) = true) ∧ ((ve_cs vs_A 3 [36] .int = true) ∧ (((vs_A.fieldFound? "java/lang/AbstractStringBuilder" "count" "I").any (fun q => q.2.2.2.slot.beq 3 && (!q.2.2.2.isStatic && (!hasFlag q.2.2.2.accessFlags Acc.final && decide (q.2.2.2.type = .int)))) = true) ∧ ((ve_ar vs_A 53 .byte = true) ∧ (((vs_A.fieldFound? "java/lang/AbstractStringBuilder" "coder" "B").any (fun q => q.2.2.2.slot.beq 1 && !q.2.2.2.isStatic) = true))))))))))))))))))))))))) := by decide +kernel
theorem vf_125 : ve_de vs_A ⟨"OrderbenchModel$Shape", "text", "()Ljava/lang/String;"⟩ = true := vfb_5.1
theorem vf_126 : (parseMethodDescriptor "()I").map (fun d => d.parameters.length) = some 0 := vfb_5.2.1
theorem vf_127 : vs_A.vm.findClass "java/lang/String" = some 28 := vfb_5.2.2.1
theorem vf_128 : ve_de vs_A ⟨"java/lang/String", "length", "()I"⟩ = true := vfb_5.2.2.2.1
theorem vf_129 : (parseMethodDescriptor "(I)I").map (fun d => d.parameters.length) = some 1 := vfb_5.2.2.2.2.1
theorem vf_130 : ve_de vs_A ⟨"OrderbenchModel", "sizeOf", "(I)I"⟩ = true := vfb_5.2.2.2.2.2.1
theorem vf_131 : (vs_A.fieldFound? "OrderbenchModel$Shape" "sort" "C").any (fun q => q.2.2.2.slot.beq 0 && !q.2.2.2.isStatic) = true := vfb_5.2.2.2.2.2.2.1
theorem vf_132 : (vs_A.fieldFound? "OrderbenchModel$Shape" "one" "LOrderbenchModel$Shape;").any (fun q => q.2.2.2.slot.beq 1 && !q.2.2.2.isStatic) = true := vfb_5.2.2.2.2.2.2.2.1
theorem vf_133 : (parseMethodDescriptor "(Ljava/lang/String;)Ljava/lang/StringBuilder;").map (fun d => d.parameters.length) = some 1 := vfb_5.2.2.2.2.2.2.2.2.1
theorem vf_134 : ve_de vs_A ⟨"java/lang/StringBuilder", "append", "(Ljava/lang/String;)Ljava/lang/StringBuilder;"⟩ = true := vfb_5.2.2.2.2.2.2.2.2.2.1
theorem vf_136 : ve_de vs_A ⟨"java/lang/StringBuilder", "toString", "()Ljava/lang/String;"⟩ = true := vfb_5.2.2.2.2.2.2.2.2.2.2.1
theorem vf_137 : (parseMethodDescriptor "(C)Ljava/lang/StringBuilder;").map (fun d => d.parameters.length) = some 1 := vfb_5.2.2.2.2.2.2.2.2.2.2.2.1
theorem vf_138 : ve_de vs_A ⟨"java/lang/StringBuilder", "append", "(C)Ljava/lang/StringBuilder;"⟩ = true := vfb_5.2.2.2.2.2.2.2.2.2.2.2.2.1
theorem vf_140 : (parseMethodDescriptor "(C)Ljava/lang/AbstractStringBuilder;").map (fun d => d.parameters.length) = some 1 := vfb_5.2.2.2.2.2.2.2.2.2.2.2.2.2.1
theorem vf_141 : (vs_A.vm.classes[36]?).any (fun x => decide (x.kind = .ordinary)) = true := vfb_5.2.2.2.2.2.2.2.2.2.2.2.2.2.2.1
theorem vf_142 : (vs_A.fieldFound? "java/lang/AbstractStringBuilder" "count" "I").any (fun q => q.2.2.2.slot.beq 3 && !q.2.2.2.isStatic) = true := vfb_5.2.2.2.2.2.2.2.2.2.2.2.2.2.2.2.1
theorem vf_143 : ve_de vs_A ⟨"java/lang/AbstractStringBuilder", "ensureCapacityInternal", "(I)V"⟩ = true := vfb_5.2.2.2.2.2.2.2.2.2.2.2.2.2.2.2.2.1
theorem vf_144 : (parseMethodDescriptor "()Z").map (fun d => d.parameters.length) = some 0 := vfb_5.2.2.2.2.2.2.2.2.2.2.2.2.2.2.2.2.2.1
theorem vf_145 : ve_de vs_A ⟨"java/lang/AbstractStringBuilder", "isLatin1", "()Z"⟩ = true := vfb_5.2.2.2.2.2.2.2.2.2.2.2.2.2.2.2.2.2.2.1
theorem vf_146 : (parseMethodDescriptor "(C)Z").map (fun d => d.parameters.length) = some 1 := vfb_5.2.2.2.2.2.2.2.2.2.2.2.2.2.2.2.2.2.2.2.1
theorem vf_147 : (vs_A.fieldFound? "java/lang/AbstractStringBuilder" "value" "[B").any (fun q => q.2.2.2.slot.beq 0 && !q.2.2.2.isStatic) = true := vfb_5.2.2.2.2.2.2.2.2.2.2.2.2.2.2.2.2.2.2.2.2.1
theorem vf_148 : ve_cs vs_A 3 [36] .int = true := vfb_5.2.2.2.2.2.2.2.2.2.2.2.2.2.2.2.2.2.2.2.2.2.1
theorem vf_149 : (vs_A.fieldFound? "java/lang/AbstractStringBuilder" "count" "I").any (fun q => q.2.2.2.slot.beq 3 && (!q.2.2.2.isStatic && (!hasFlag q.2.2.2.accessFlags Acc.final && decide (q.2.2.2.type = .int)))) = true := vfb_5.2.2.2.2.2.2.2.2.2.2.2.2.2.2.2.2.2.2.2.2.2.2.1
theorem vf_150 : ve_ar vs_A 53 .byte = true := vfb_5.2.2.2.2.2.2.2.2.2.2.2.2.2.2.2.2.2.2.2.2.2.2.2.1
theorem vf_151 : (vs_A.fieldFound? "java/lang/AbstractStringBuilder" "coder" "B").any (fun q => q.2.2.2.slot.beq 1 && !q.2.2.2.isStatic) = true := vfb_5.2.2.2.2.2.2.2.2.2.2.2.2.2.2.2.2.2.2.2.2.2.2.2.2
set_option maxRecDepth 100000 in
theorem vfb_6 : (ve_de vs_A ⟨"java/lang/AbstractStringBuilder", "newCapacity", "(I)I"⟩ = true) ∧ (((parseMethodDescriptor "([BI)[B").map (fun d => d.parameters.length) = some 2) ∧ (((parseMethodDescriptor "(Ljava/lang/String;)Ljava/lang/AbstractStringBuilder;").map (fun d => d.parameters.length) = some 1) ∧ (((parseMethodDescriptor "(ILjava/lang/String;)V").map (fun d => d.parameters.length) = some 2) ∧ ((ve_de vs_A ⟨"java/lang/AbstractStringBuilder", "putStringAt", "(ILjava/lang/String;)V"⟩ = true) ∧ (((vs_A.fieldFound? "java/lang/String" "value" "[B").any (fun q => q.2.2.2.slot.beq 0 && !q.2.2.2.isStatic) = true) ∧ (((parseMethodDescriptor "()B").map (fun d => d.parameters.length) = some 0) ∧ ((ve_de vs_A ⟨"java/lang/String", "coder", "()B"⟩ = true) ∧ (((vs_A.fieldFound? "java/lang/String" "coder" "B").any (fun q => q.2.2.2.slot.beq 1 && !q.2.2.2.isStatic) = true) ∧ (((parseMethodDescriptor "(Ljava/lang/String;)V").map (fun d => d.parameters.length) = some 1) ∧ ((ve_de vs_A ⟨"java/lang/AbstractStringBuilder", "inflateIfNeededFor", "(Ljava/lang/String;)V"⟩ = true) ∧ (((parseMethodDescriptor "([BIB)V").map (fun d => d.parameters.length) = some 3) ∧ ((ve_de vs_A ⟨"java/lang/String", "getBytes", "([BIB)V"⟩ = true) ∧ (((vs_A.vm.classes[28]?).any (fun k => decide (k.instanceTypes.map defaultValue = ([.null, .int 0, .int 0, .int 0] : List Value).toArray)) = true) ∧ (((parseMethodDescriptor "(Ljava/lang/StringBuilder;)V").map (fun d => d.parameters.length) = some 1) ∧ (((parseMethodDescriptor "(Ljava/lang/AbstractStringBuilder;Ljava/lang/Void;)V").map (fun d => d.parameters.length) = some 2) ∧ (((parseMethodDescriptor "()[B").map (fun d => d.parameters.length) = some 0) ∧ ((ve_de vs_A ⟨"java/lang/AbstractStringBuilder", "getValue", "()[B"⟩ = true) ∧ ((ve_de vs_A ⟨"java/lang/AbstractStringBuilder", "length", "()I"⟩ = true) ∧ ((ve_cs vs_A 1 [28] .byte = true) ∧ (((vs_A.fieldFound? "java/lang/String" "coder" "B").any (fun q => q.2.2.2.slot.beq 1 && (!q.2.2.2.isStatic && (decide (vs_A.vm.findClass "java/lang/String" = some q.1) && decide (q.2.2.2.type = .byte)))) = true) ∧ (((parseMethodDescriptor "([BII)[B").map (fun d => d.parameters.length) = some 3) ∧ ((ve_cs vs_A 0 [28] (.array .byte) = true) ∧ (((vs_A.fieldFound? "java/lang/String" "value" "[B").any (fun q => q.2.2.2.slot.beq 0 && (!q.2.2.2.isStatic && (decide (vs_A.vm.findClass "java/lang/String" = some q.1) && decide (q.2.2.2.type = (.array .byte))))) = true) ∧ ((vs_A.vm.findClass "java/lang/Cloneable" = some 17))))))))))))))))))))))))) := by decide +kernel
theorem vf_152 : ve_de vs_A ⟨"java/lang/AbstractStringBuilder", "newCapacity", "(I)I"⟩ = true := vfb_6.1
theorem vf_153 : (parseMethodDescriptor "([BI)[B").map (fun d => d.parameters.length) = some 2 := vfb_6.2.1
theorem vf_154 : (parseMethodDescriptor "(Ljava/lang/String;)Ljava/lang/AbstractStringBuilder;").map (fun d => d.parameters.length) = some 1 := vfb_6.2.2.1
theorem vf_155 : (parseMethodDescriptor "(ILjava/lang/String;)V").map (fun d => d.parameters.length) = some 2 := vfb_6.2.2.2.1
theorem vf_156 : ve_de vs_A ⟨"java/lang/AbstractStringBuilder", "putStringAt", "(ILjava/lang/String;)V"⟩ = true := vfb_6.2.2.2.2.1
theorem vf_157 : (vs_A.fieldFound? "java/lang/String" "value" "[B").any (fun q => q.2.2.2.slot.beq 0 && !q.2.2.2.isStatic) = true := vfb_6.2.2.2.2.2.1
theorem vf_158 : (parseMethodDescriptor "()B").map (fun d => d.parameters.length) = some 0 := vfb_6.2.2.2.2.2.2.1
theorem vf_159 : ve_de vs_A ⟨"java/lang/String", "coder", "()B"⟩ = true := vfb_6.2.2.2.2.2.2.2.1
theorem vf_160 : (vs_A.fieldFound? "java/lang/String" "coder" "B").any (fun q => q.2.2.2.slot.beq 1 && !q.2.2.2.isStatic) = true := vfb_6.2.2.2.2.2.2.2.2.1
theorem vf_161 : (parseMethodDescriptor "(Ljava/lang/String;)V").map (fun d => d.parameters.length) = some 1 := vfb_6.2.2.2.2.2.2.2.2.2.1
theorem vf_162 : ve_de vs_A ⟨"java/lang/AbstractStringBuilder", "inflateIfNeededFor", "(Ljava/lang/String;)V"⟩ = true := vfb_6.2.2.2.2.2.2.2.2.2.2.1
theorem vf_163 : (parseMethodDescriptor "([BIB)V").map (fun d => d.parameters.length) = some 3 := vfb_6.2.2.2.2.2.2.2.2.2.2.2.1
theorem vf_164 : ve_de vs_A ⟨"java/lang/String", "getBytes", "([BIB)V"⟩ = true := vfb_6.2.2.2.2.2.2.2.2.2.2.2.2.1
theorem vf_165 : (vs_A.vm.classes[28]?).any (fun k => decide (k.instanceTypes.map defaultValue = ([.null, .int 0, .int 0, .int 0] : List Value).toArray)) = true := vfb_6.2.2.2.2.2.2.2.2.2.2.2.2.2.1
theorem vf_166 : (parseMethodDescriptor "(Ljava/lang/StringBuilder;)V").map (fun d => d.parameters.length) = some 1 := vfb_6.2.2.2.2.2.2.2.2.2.2.2.2.2.2.1
theorem vf_167 : (parseMethodDescriptor "(Ljava/lang/AbstractStringBuilder;Ljava/lang/Void;)V").map (fun d => d.parameters.length) = some 2 := vfb_6.2.2.2.2.2.2.2.2.2.2.2.2.2.2.2.1
theorem vf_168 : (parseMethodDescriptor "()[B").map (fun d => d.parameters.length) = some 0 := vfb_6.2.2.2.2.2.2.2.2.2.2.2.2.2.2.2.2.1
theorem vf_169 : ve_de vs_A ⟨"java/lang/AbstractStringBuilder", "getValue", "()[B"⟩ = true := vfb_6.2.2.2.2.2.2.2.2.2.2.2.2.2.2.2.2.2.1
theorem vf_170 : ve_de vs_A ⟨"java/lang/AbstractStringBuilder", "length", "()I"⟩ = true := vfb_6.2.2.2.2.2.2.2.2.2.2.2.2.2.2.2.2.2.2.1
theorem vf_171 : ve_cs vs_A 1 [28] .byte = true := vfb_6.2.2.2.2.2.2.2.2.2.2.2.2.2.2.2.2.2.2.2.1
theorem vf_172 : (vs_A.fieldFound? "java/lang/String" "coder" "B").any (fun q => q.2.2.2.slot.beq 1 && (!q.2.2.2.isStatic && (decide (vs_A.vm.findClass "java/lang/String" = some q.1) && decide (q.2.2.2.type = .byte)))) = true := vfb_6.2.2.2.2.2.2.2.2.2.2.2.2.2.2.2.2.2.2.2.2.1
theorem vf_173 : (parseMethodDescriptor "([BII)[B").map (fun d => d.parameters.length) = some 3 := vfb_6.2.2.2.2.2.2.2.2.2.2.2.2.2.2.2.2.2.2.2.2.2.1
theorem vf_174 : ve_cs vs_A 0 [28] (.array .byte) = true := vfb_6.2.2.2.2.2.2.2.2.2.2.2.2.2.2.2.2.2.2.2.2.2.2.1
theorem vf_175 : (vs_A.fieldFound? "java/lang/String" "value" "[B").any (fun q => q.2.2.2.slot.beq 0 && (!q.2.2.2.isStatic && (decide (vs_A.vm.findClass "java/lang/String" = some q.1) && decide (q.2.2.2.type = (.array .byte))))) = true := vfb_6.2.2.2.2.2.2.2.2.2.2.2.2.2.2.2.2.2.2.2.2.2.2.2.1
theorem vf_176 : vs_A.vm.findClass "java/lang/Cloneable" = some 17 := vfb_6.2.2.2.2.2.2.2.2.2.2.2.2.2.2.2.2.2.2.2.2.2.2.2.2
set_option maxRecDepth 100000 in
theorem vfb_7 : (vs_A.vm.assignable 53 17 = true) ∧ ((vs_A.vm.findClass "[B" = some 53) ∧ ((([53] : List Nat).all (fun x => x.blt 1000 && vs_A.vm.assignable x 53) = true) ∧ (((parseMethodDescriptor "(II)V").map (fun d => d.parameters.length) = some 2) ∧ (((parseMethodDescriptor "(III)I").map (fun d => d.parameters.length) = some 3) ∧ ((ve_de vs_A ⟨"Orderbench", "houseNumber", "(I)I"⟩ = true) ∧ ((ve_ar vs_A 54 (.object "Orderbench$Row") = true) ∧ (((parseMethodDescriptor "(JLOrderbench$Row;)J").map (fun d => d.parameters.length) = some 2) ∧ ((ve_de vs_A ⟨"Orderbench", "digestBench", "(JLOrderbench$Row;)J"⟩ = true) ∧ (((parseMethodDescriptor "(JLOrderbench$Shape;)J").map (fun d => d.parameters.length) = some 2) ∧ ((ve_de vs_A ⟨"Orderbench", "digestOrder", "(JLOrderbench$Shape;)J"⟩ = true) ∧ ((ve_de vs_A ⟨"Orderbench", "isSound", "()Z"⟩ = true) ∧ (((vs_A.fieldFound? "Orderbench$Row" "many" "I").any (fun q => q.2.2.2.slot.beq 1 && !q.2.2.2.isStatic) = true) ∧ (((vs_A.fieldFound? "Orderbench" "laid" "I").any (fun q => q.2.2.2.slot.beq 6 && !q.2.2.2.isStatic) = true) ∧ ((ve_de vs_A ⟨"Orderbench", "howManySafe", "()I"⟩ = true) ∧ (((vs_A.fieldFound? "Orderbench" "refusals" "I").any (fun q => q.2.2.2.slot.beq 7 && !q.2.2.2.isStatic) = true) ∧ (((vs_A.fieldFound? "Orderbench" "knocks" "I").any (fun q => q.2.2.2.slot.beq 8 && !q.2.2.2.isStatic) = true) ∧ ((ve_de vs_A ⟨"Orderbench$Row", "empties", "()I"⟩ = true) ∧ ((ve_de vs_A ⟨"Orderbench$Row", "howOften", "(I)I"⟩ = true) ∧ (((vs_A.fieldFound? "Orderbench" "signs" "Ljava/lang/StringBuilder;").any (fun q => q.2.2.2.slot.beq 5 && !q.2.2.2.isStatic) = true) ∧ ((ve_de vs_A ⟨"java/lang/StringBuilder", "setLength", "(I)V"⟩ = true) ∧ (((parseMethodDescriptor "(LOrderbench$Row;)V").map (fun d => d.parameters.length) = some 1) ∧ ((ve_de vs_A ⟨"Orderbench", "writeRow", "(LOrderbench$Row;)V"⟩ = true) ∧ (((parseMethodDescriptor "(J)J").map (fun d => d.parameters.length) = some 1) ∧ ((ve_de vs_A ⟨"Orderbench", "digestSigns", "(J)J"⟩ = true))))))))))))))))))))))))) := by decide +kernel
theorem vf_177 : vs_A.vm.assignable 53 17 = true := vfb_7.1
theorem vf_178 : vs_A.vm.findClass "[B" = some 53 := vfb_7.2.1
theorem vf_180 : ([53] : List Nat).all (fun x => x.blt 1000 && vs_A.vm.assignable x 53) = true := vfb_7.2.2.1
theorem vf_181 : (parseMethodDescriptor "(II)V").map (fun d => d.parameters.length) = some 2 := vfb_7.2.2.2.1
theorem vf_182 : (parseMethodDescriptor "(III)I").map (fun d => d.parameters.length) = some 3 := vfb_7.2.2.2.2.1
theorem vf_183 : ve_de vs_A ⟨"Orderbench", "houseNumber", "(I)I"⟩ = true := vfb_7.2.2.2.2.2.1
theorem vf_184 : ve_ar vs_A 54 (.object "Orderbench$Row") = true := vfb_7.2.2.2.2.2.2.1
theorem vf_185 : (parseMethodDescriptor "(JLOrderbench$Row;)J").map (fun d => d.parameters.length) = some 2 := vfb_7.2.2.2.2.2.2.2.1
theorem vf_186 : ve_de vs_A ⟨"Orderbench", "digestBench", "(JLOrderbench$Row;)J"⟩ = true := vfb_7.2.2.2.2.2.2.2.2.1
theorem vf_187 : (parseMethodDescriptor "(JLOrderbench$Shape;)J").map (fun d => d.parameters.length) = some 2 := vfb_7.2.2.2.2.2.2.2.2.2.1
theorem vf_188 : ve_de vs_A ⟨"Orderbench", "digestOrder", "(JLOrderbench$Shape;)J"⟩ = true := vfb_7.2.2.2.2.2.2.2.2.2.2.1
theorem vf_189 : ve_de vs_A ⟨"Orderbench", "isSound", "()Z"⟩ = true := vfb_7.2.2.2.2.2.2.2.2.2.2.2.1
theorem vf_190 : (vs_A.fieldFound? "Orderbench$Row" "many" "I").any (fun q => q.2.2.2.slot.beq 1 && !q.2.2.2.isStatic) = true := vfb_7.2.2.2.2.2.2.2.2.2.2.2.2.1
theorem vf_191 : (vs_A.fieldFound? "Orderbench" "laid" "I").any (fun q => q.2.2.2.slot.beq 6 && !q.2.2.2.isStatic) = true := vfb_7.2.2.2.2.2.2.2.2.2.2.2.2.2.1
theorem vf_192 : ve_de vs_A ⟨"Orderbench", "howManySafe", "()I"⟩ = true := vfb_7.2.2.2.2.2.2.2.2.2.2.2.2.2.2.1
theorem vf_193 : (vs_A.fieldFound? "Orderbench" "refusals" "I").any (fun q => q.2.2.2.slot.beq 7 && !q.2.2.2.isStatic) = true := vfb_7.2.2.2.2.2.2.2.2.2.2.2.2.2.2.2.1
theorem vf_194 : (vs_A.fieldFound? "Orderbench" "knocks" "I").any (fun q => q.2.2.2.slot.beq 8 && !q.2.2.2.isStatic) = true := vfb_7.2.2.2.2.2.2.2.2.2.2.2.2.2.2.2.2.1
theorem vf_195 : ve_de vs_A ⟨"Orderbench$Row", "empties", "()I"⟩ = true := vfb_7.2.2.2.2.2.2.2.2.2.2.2.2.2.2.2.2.2.1
theorem vf_196 : ve_de vs_A ⟨"Orderbench$Row", "howOften", "(I)I"⟩ = true := vfb_7.2.2.2.2.2.2.2.2.2.2.2.2.2.2.2.2.2.2.1
theorem vf_197 : (vs_A.fieldFound? "Orderbench" "signs" "Ljava/lang/StringBuilder;").any (fun q => q.2.2.2.slot.beq 5 && !q.2.2.2.isStatic) = true := vfb_7.2.2.2.2.2.2.2.2.2.2.2.2.2.2.2.2.2.2.2.1
theorem vf_198 : ve_de vs_A ⟨"java/lang/StringBuilder", "setLength", "(I)V"⟩ = true := vfb_7.2.2.2.2.2.2.2.2.2.2.2.2.2.2.2.2.2.2.2.2.1
theorem vf_199 : (parseMethodDescriptor "(LOrderbench$Row;)V").map (fun d => d.parameters.length) = some 1 := vfb_7.2.2.2.2.2.2.2.2.2.2.2.2.2.2.2.2.2.2.2.2.2.1
theorem vf_200 : ve_de vs_A ⟨"Orderbench", "writeRow", "(LOrderbench$Row;)V"⟩ = true := vfb_7.2.2.2.2.2.2.2.2.2.2.2.2.2.2.2.2.2.2.2.2.2.2.1
theorem vf_201 : (parseMethodDescriptor "(J)J").map (fun d => d.parameters.length) = some 1 := vfb_7.2.2.2.2.2.2.2.2.2.2.2.2.2.2.2.2.2.2.2.2.2.2.2.1
theorem vf_202 : ve_de vs_A ⟨"Orderbench", "digestSigns", "(J)J"⟩ = true := vfb_7.2.2.2.2.2.2.2.2.2.2.2.2.2.2.2.2.2.2.2.2.2.2.2.2
set_option maxRecDepth 100000 in
theorem vfb_8 : ((parseMethodDescriptor "(LOrderbench$Row;LOrderbench$Shape;)Z").map (fun d => d.parameters.length) = some 2) ∧ (((parseMethodDescriptor "(LOrderbench$Row;LOrderbench$Shape;)I").map (fun d => d.parameters.length) = some 2) ∧ (((parseMethodDescriptor "(LOrderbench$Row;LOrderbench$Shape;I)I").map (fun d => d.parameters.length) = some 3) ∧ ((ve_cs vs_A 2 [36] .boolean = true) ∧ (((vs_A.fieldFound? "java/lang/AbstractStringBuilder" "maybeLatin1" "Z").any (fun q => q.2.2.2.slot.beq 2 && (!q.2.2.2.isStatic && (!hasFlag q.2.2.2.accessFlags Acc.final && decide (q.2.2.2.type = .boolean)))) = true) ∧ ((ve_de vs_A ⟨"java/lang/StringBuilder", "length", "()I"⟩ = true) ∧ (((parseMethodDescriptor "(I)C").map (fun d => d.parameters.length) = some 1) ∧ ((ve_de vs_A ⟨"java/lang/StringBuilder", "charAt", "(I)C"⟩ = true) ∧ (((parseMethodDescriptor "(Ljava/lang/StringBuilder;I)V").map (fun d => d.parameters.length) = some 2) ∧ ((ve_de vs_A ⟨"Orderbench$Shape", "write", "(Ljava/lang/StringBuilder;I)V"⟩ = true) ∧ (((vs_A.fieldFound? "Orderbench$Turned" "of" "LOrderbench$Shape;").any (fun q => q.2.2.2.slot.beq 2 && !q.2.2.2.isStatic) = true) ∧ (((vs_A.fieldFound? "Orderbench$Base" "kind" "I").any (fun q => q.2.2.2.slot.beq 2 && !q.2.2.2.isStatic) = true) ∧ ((ve_de vs_A ⟨"java/lang/String", "charAt", "(I)C"⟩ = true) ∧ ((ve_de vs_A ⟨"java/lang/String", "isLatin1", "()Z"⟩ = true) ∧ (((parseMethodDescriptor "([BI)C").map (fun d => d.parameters.length) = some 2) ∧ (((vs_A.fieldFound? "jdk/internal/util/Preconditions" "SIOOBE_FORMATTER" "Ljava/util/function/BiFunction;").any (fun q => q.2.2.2.slot.beq 0 && (q.2.2.2.isStatic && (decide (q.2.1.init = .initialized) && decide (q.2.1.statics = some 2)))) = true) ∧ (((parseMethodDescriptor "(IILjava/util/function/BiFunction;)I").map (fun d => d.parameters.length) = some 3) ∧ ((ve_de vs_A ⟨"Orderbench", "isSoundOn", "(LOrderbench$Row;LOrderbench$Shape;)Z"⟩ = true) ∧ ((ve_de vs_A ⟨"Orderbench", "ranksAll", "(LOrderbench$Row;LOrderbench$Shape;)Z"⟩ = true) ∧ (((parseMethodDescriptor "(LOrderbench$Row;LOrderbench$Shape;LOrderbench$Shape;)Z").map (fun d => d.parameters.length) = some 3) ∧ ((ve_de vs_A ⟨"Orderbench", "sortsWell", "(LOrderbench$Row;LOrderbench$Shape;)Z"⟩ = true) ∧ ((ve_de vs_A ⟨"Orderbench", "sortsAsTwice", "(LOrderbench$Row;LOrderbench$Shape;LOrderbench$Shape;)Z"⟩ = true) ∧ (((vs_A.fieldFound? "Orderbench" "copied" "LOrderbench$Row;").any (fun q => q.2.2.2.slot.beq 2 && !q.2.2.2.isStatic) = true) ∧ (((parseMethodDescriptor "(LOrderbench$Row;Z)V").map (fun d => d.parameters.length) = some 2) ∧ ((ve_de vs_A ⟨"Orderbench$Row", "becomeTaken", "(LOrderbench$Row;Z)V"⟩ = true))))))))))))))))))))))))) := by decide +kernel
theorem vf_203 : (parseMethodDescriptor "(LOrderbench$Row;LOrderbench$Shape;)Z").map (fun d => d.parameters.length) = some 2 := vfb_8.1
theorem vf_204 : (parseMethodDescriptor "(LOrderbench$Row;LOrderbench$Shape;)I").map (fun d => d.parameters.length) = some 2 := vfb_8.2.1
theorem vf_205 : (parseMethodDescriptor "(LOrderbench$Row;LOrderbench$Shape;I)I").map (fun d => d.parameters.length) = some 3 := vfb_8.2.2.1
theorem vf_206 : ve_cs vs_A 2 [36] .boolean = true := vfb_8.2.2.2.1
theorem vf_207 : (vs_A.fieldFound? "java/lang/AbstractStringBuilder" "maybeLatin1" "Z").any (fun q => q.2.2.2.slot.beq 2 && (!q.2.2.2.isStatic && (!hasFlag q.2.2.2.accessFlags Acc.final && decide (q.2.2.2.type = .boolean)))) = true := vfb_8.2.2.2.2.1
theorem vf_208 : ve_de vs_A ⟨"java/lang/StringBuilder", "length", "()I"⟩ = true := vfb_8.2.2.2.2.2.1
theorem vf_209 : (parseMethodDescriptor "(I)C").map (fun d => d.parameters.length) = some 1 := vfb_8.2.2.2.2.2.2.1
theorem vf_210 : ve_de vs_A ⟨"java/lang/StringBuilder", "charAt", "(I)C"⟩ = true := vfb_8.2.2.2.2.2.2.2.1
theorem vf_211 : (parseMethodDescriptor "(Ljava/lang/StringBuilder;I)V").map (fun d => d.parameters.length) = some 2 := vfb_8.2.2.2.2.2.2.2.2.1
theorem vf_212 : ve_de vs_A ⟨"Orderbench$Shape", "write", "(Ljava/lang/StringBuilder;I)V"⟩ = true := vfb_8.2.2.2.2.2.2.2.2.2.1
theorem vf_213 : (vs_A.fieldFound? "Orderbench$Turned" "of" "LOrderbench$Shape;").any (fun q => q.2.2.2.slot.beq 2 && !q.2.2.2.isStatic) = true := vfb_8.2.2.2.2.2.2.2.2.2.2.1
theorem vf_214 : (vs_A.fieldFound? "Orderbench$Base" "kind" "I").any (fun q => q.2.2.2.slot.beq 2 && !q.2.2.2.isStatic) = true := vfb_8.2.2.2.2.2.2.2.2.2.2.2.1
theorem vf_216 : ve_de vs_A ⟨"java/lang/String", "charAt", "(I)C"⟩ = true := vfb_8.2.2.2.2.2.2.2.2.2.2.2.2.1
theorem vf_217 : ve_de vs_A ⟨"java/lang/String", "isLatin1", "()Z"⟩ = true := vfb_8.2.2.2.2.2.2.2.2.2.2.2.2.2.1
theorem vf_218 : (parseMethodDescriptor "([BI)C").map (fun d => d.parameters.length) = some 2 := vfb_8.2.2.2.2.2.2.2.2.2.2.2.2.2.2.1
theorem vf_219 : (vs_A.fieldFound? "jdk/internal/util/Preconditions" "SIOOBE_FORMATTER" "Ljava/util/function/BiFunction;").any (fun q => q.2.2.2.slot.beq 0 && (q.2.2.2.isStatic && (decide (q.2.1.init = .initialized) && decide (q.2.1.statics = some 2)))) = true := vfb_8.2.2.2.2.2.2.2.2.2.2.2.2.2.2.2.1
theorem vf_220 : (parseMethodDescriptor "(IILjava/util/function/BiFunction;)I").map (fun d => d.parameters.length) = some 3 := vfb_8.2.2.2.2.2.2.2.2.2.2.2.2.2.2.2.2.1
theorem vf_221 : ve_de vs_A ⟨"Orderbench", "isSoundOn", "(LOrderbench$Row;LOrderbench$Shape;)Z"⟩ = true := vfb_8.2.2.2.2.2.2.2.2.2.2.2.2.2.2.2.2.2.1
theorem vf_222 : ve_de vs_A ⟨"Orderbench", "ranksAll", "(LOrderbench$Row;LOrderbench$Shape;)Z"⟩ = true := vfb_8.2.2.2.2.2.2.2.2.2.2.2.2.2.2.2.2.2.2.1
theorem vf_223 : (parseMethodDescriptor "(LOrderbench$Row;LOrderbench$Shape;LOrderbench$Shape;)Z").map (fun d => d.parameters.length) = some 3 := vfb_8.2.2.2.2.2.2.2.2.2.2.2.2.2.2.2.2.2.2.2.1
theorem vf_224 : ve_de vs_A ⟨"Orderbench", "sortsWell", "(LOrderbench$Row;LOrderbench$Shape;)Z"⟩ = true := vfb_8.2.2.2.2.2.2.2.2.2.2.2.2.2.2.2.2.2.2.2.2.1
theorem vf_225 : ve_de vs_A ⟨"Orderbench", "sortsAsTwice", "(LOrderbench$Row;LOrderbench$Shape;LOrderbench$Shape;)Z"⟩ = true := vfb_8.2.2.2.2.2.2.2.2.2.2.2.2.2.2.2.2.2.2.2.2.2.1
theorem vf_226 : (vs_A.fieldFound? "Orderbench" "copied" "LOrderbench$Row;").any (fun q => q.2.2.2.slot.beq 2 && !q.2.2.2.isStatic) = true := vfb_8.2.2.2.2.2.2.2.2.2.2.2.2.2.2.2.2.2.2.2.2.2.2.1
theorem vf_227 : (parseMethodDescriptor "(LOrderbench$Row;Z)V").map (fun d => d.parameters.length) = some 2 := vfb_8.2.2.2.2.2.2.2.2.2.2.2.2.2.2.2.2.2.2.2.2.2.2.2.1
theorem vf_228 : ve_de vs_A ⟨"Orderbench$Row", "becomeTaken", "(LOrderbench$Row;Z)V"⟩ = true := vfb_8.2.2.2.2.2.2.2.2.2.2.2.2.2.2.2.2.2.2.2.2.2.2.2.2
set_option maxRecDepth 100000 in
theorem vfb_9 : (ve_cs vs_A 1 [3] .int = true) ∧ (((vs_A.fieldFound? "Orderbench$Row" "many" "I").any (fun q => q.2.2.2.slot.beq 1 && (!q.2.2.2.isStatic && (!hasFlag q.2.2.2.accessFlags Acc.final && decide (q.2.2.2.type = .int)))) = true) ∧ ((ve_de vs_A ⟨"Orderbench$Row", "become", "(LOrderbench$Row;)V"⟩ = true) ∧ ((ve_de vs_A ⟨"Orderbench$Row", "arrange", "(LOrderbench$Shape;)V"⟩ = true) ∧ (((parseMethodDescriptor "(LOrderbench$Row;)Z").map (fun d => d.parameters.length) = some 1) ∧ ((ve_de vs_A ⟨"Orderbench$Row", "holdsAllOf", "(LOrderbench$Row;)Z"⟩ = true) ∧ (((vs_A.fieldFound? "Orderbench" "copiedToo" "LOrderbench$Row;").any (fun q => q.2.2.2.slot.beq 3 && !q.2.2.2.isStatic) = true) ∧ (((parseMethodDescriptor "(LOrderbench$Row;)I").map (fun d => d.parameters.length) = some 1) ∧ ((ve_de vs_A ⟨"Orderbench$Row", "unlike", "(LOrderbench$Row;)I"⟩ = true) ∧ ((vs_A.vm.findClass "Orderbench$Together" = some 33) ∧ (((vs_A.vm.classes[33]?).any (fun k => decide (k.instanceTypes.map defaultValue = ([.int 0, .int 0, .null, .null] : List Value).toArray)) = true) ∧ (((parseMethodDescriptor "(LOrderbench$Shape;LOrderbench$Shape;)V").map (fun d => d.parameters.length) = some 2) ∧ ((ve_cs vs_A 2 [33] (.object "Orderbench$Shape") = true) ∧ (((vs_A.fieldFound? "Orderbench$Together" "first" "LOrderbench$Shape;").any (fun q => q.2.2.2.slot.beq 2 && (!q.2.2.2.isStatic && (decide (vs_A.vm.findClass "Orderbench$Together" = some q.1) && decide (q.2.2.2.type = (.object "Orderbench$Shape"))))) = true) ∧ ((ve_cs vs_A 3 [33] (.object "Orderbench$Shape") = true) ∧ (((vs_A.fieldFound? "Orderbench$Together" "second" "LOrderbench$Shape;").any (fun q => q.2.2.2.slot.beq 3 && (!q.2.2.2.isStatic && (decide (vs_A.vm.findClass "Orderbench$Together" = some q.1) && decide (q.2.2.2.type = (.object "Orderbench$Shape"))))) = true) ∧ ((ve_de vs_A ⟨"OrderbenchModel", "houseOf", "(I)I"⟩ = true) ∧ (((parseMethodDescriptor "(JJ)J").map (fun d => d.parameters.length) = some 2) ∧ (((parseMethodDescriptor "(I)Ljava/lang/String;").map (fun d => d.parameters.length) = some 1) ∧ ((ve_de vs_A ⟨"OrderbenchModel", "textOf", "(I)Ljava/lang/String;"⟩ = true) ∧ (((parseMethodDescriptor "(JLjava/lang/String;)J").map (fun d => d.parameters.length) = some 2) ∧ (((parseMethodDescriptor "(II)Z").map (fun d => d.parameters.length) = some 2) ∧ ((ve_de vs_A ⟨"OrderbenchModel", "isSortedBy", "(II)Z"⟩ = true) ∧ (((parseMethodDescriptor "(Z)I").map (fun d => d.parameters.length) = some 1) ∧ ((ve_de vs_A ⟨"OrderbenchModel", "classesOf", "(II)I"⟩ = true))))))))))))))))))))))))) := by decide +kernel
theorem vf_229 : ve_cs vs_A 1 [3] .int = true := vfb_9.1
theorem vf_230 : (vs_A.fieldFound? "Orderbench$Row" "many" "I").any (fun q => q.2.2.2.slot.beq 1 && (!q.2.2.2.isStatic && (!hasFlag q.2.2.2.accessFlags Acc.final && decide (q.2.2.2.type = .int)))) = true := vfb_9.2.1
theorem vf_231 : ve_de vs_A ⟨"Orderbench$Row", "become", "(LOrderbench$Row;)V"⟩ = true := vfb_9.2.2.1
theorem vf_232 : ve_de vs_A ⟨"Orderbench$Row", "arrange", "(LOrderbench$Shape;)V"⟩ = true := vfb_9.2.2.2.1
theorem vf_233 : (parseMethodDescriptor "(LOrderbench$Row;)Z").map (fun d => d.parameters.length) = some 1 := vfb_9.2.2.2.2.1
theorem vf_234 : ve_de vs_A ⟨"Orderbench$Row", "holdsAllOf", "(LOrderbench$Row;)Z"⟩ = true := vfb_9.2.2.2.2.2.1
theorem vf_235 : (vs_A.fieldFound? "Orderbench" "copiedToo" "LOrderbench$Row;").any (fun q => q.2.2.2.slot.beq 3 && !q.2.2.2.isStatic) = true := vfb_9.2.2.2.2.2.2.1
theorem vf_236 : (parseMethodDescriptor "(LOrderbench$Row;)I").map (fun d => d.parameters.length) = some 1 := vfb_9.2.2.2.2.2.2.2.1
theorem vf_237 : ve_de vs_A ⟨"Orderbench$Row", "unlike", "(LOrderbench$Row;)I"⟩ = true := vfb_9.2.2.2.2.2.2.2.2.1
theorem vf_238 : vs_A.vm.findClass "Orderbench$Together" = some 33 := vfb_9.2.2.2.2.2.2.2.2.2.1
theorem vf_239 : (vs_A.vm.classes[33]?).any (fun k => decide (k.instanceTypes.map defaultValue = ([.int 0, .int 0, .null, .null] : List Value).toArray)) = true := vfb_9.2.2.2.2.2.2.2.2.2.2.1
theorem vf_240 : (parseMethodDescriptor "(LOrderbench$Shape;LOrderbench$Shape;)V").map (fun d => d.parameters.length) = some 2 := vfb_9.2.2.2.2.2.2.2.2.2.2.2.1
theorem vf_241 : ve_cs vs_A 2 [33] (.object "Orderbench$Shape") = true := vfb_9.2.2.2.2.2.2.2.2.2.2.2.2.1
theorem vf_242 : (vs_A.fieldFound? "Orderbench$Together" "first" "LOrderbench$Shape;").any (fun q => q.2.2.2.slot.beq 2 && (!q.2.2.2.isStatic && (decide (vs_A.vm.findClass "Orderbench$Together" = some q.1) && decide (q.2.2.2.type = (.object "Orderbench$Shape"))))) = true := vfb_9.2.2.2.2.2.2.2.2.2.2.2.2.2.1
theorem vf_243 : ve_cs vs_A 3 [33] (.object "Orderbench$Shape") = true := vfb_9.2.2.2.2.2.2.2.2.2.2.2.2.2.2.1
theorem vf_244 : (vs_A.fieldFound? "Orderbench$Together" "second" "LOrderbench$Shape;").any (fun q => q.2.2.2.slot.beq 3 && (!q.2.2.2.isStatic && (decide (vs_A.vm.findClass "Orderbench$Together" = some q.1) && decide (q.2.2.2.type = (.object "Orderbench$Shape"))))) = true := vfb_9.2.2.2.2.2.2.2.2.2.2.2.2.2.2.2.1
theorem vf_245 : ve_de vs_A ⟨"OrderbenchModel", "houseOf", "(I)I"⟩ = true := vfb_9.2.2.2.2.2.2.2.2.2.2.2.2.2.2.2.2.1
theorem vf_246 : (parseMethodDescriptor "(JJ)J").map (fun d => d.parameters.length) = some 2 := vfb_9.2.2.2.2.2.2.2.2.2.2.2.2.2.2.2.2.2.1
theorem vf_247 : (parseMethodDescriptor "(I)Ljava/lang/String;").map (fun d => d.parameters.length) = some 1 := vfb_9.2.2.2.2.2.2.2.2.2.2.2.2.2.2.2.2.2.2.1
theorem vf_248 : ve_de vs_A ⟨"OrderbenchModel", "textOf", "(I)Ljava/lang/String;"⟩ = true := vfb_9.2.2.2.2.2.2.2.2.2.2.2.2.2.2.2.2.2.2.2.1
theorem vf_249 : (parseMethodDescriptor "(JLjava/lang/String;)J").map (fun d => d.parameters.length) = some 2 := vfb_9.2.2.2.2.2.2.2.2.2.2.2.2.2.2.2.2.2.2.2.2.1
theorem vf_250 : (parseMethodDescriptor "(II)Z").map (fun d => d.parameters.length) = some 2 := vfb_9.2.2.2.2.2.2.2.2.2.2.2.2.2.2.2.2.2.2.2.2.2.1
theorem vf_251 : ve_de vs_A ⟨"OrderbenchModel", "isSortedBy", "(II)Z"⟩ = true := vfb_9.2.2.2.2.2.2.2.2.2.2.2.2.2.2.2.2.2.2.2.2.2.2.1
theorem vf_252 : (parseMethodDescriptor "(Z)I").map (fun d => d.parameters.length) = some 1 := vfb_9.2.2.2.2.2.2.2.2.2.2.2.2.2.2.2.2.2.2.2.2.2.2.2.1
theorem vf_253 : ve_de vs_A ⟨"OrderbenchModel", "classesOf", "(II)I"⟩ = true := vfb_9.2.2.2.2.2.2.2.2.2.2.2.2.2.2.2.2.2.2.2.2.2.2.2.2
set_option maxRecDepth 100000 in
theorem vfb_10 : (ve_de vs_A ⟨"OrderbenchModel", "endOf", "(III)I"⟩ = true) ∧ ((ve_de vs_A ⟨"OrderbenchModel$Shape", "isSafe", "()Z"⟩ = true) ∧ ((ve_de vs_A ⟨"OrderbenchModel", "many", "(I)I"⟩ = true) ∧ (((vs_A.fieldFound? "OrderbenchModel" "laid" "I").any (fun q => q.2.2.2.slot.beq 3 && !q.2.2.2.isStatic) = true) ∧ (((vs_A.fieldFound? "OrderbenchModel" "refused" "I").any (fun q => q.2.2.2.slot.beq 4 && !q.2.2.2.isStatic) = true) ∧ (((vs_A.fieldFound? "OrderbenchModel" "knocks" "I").any (fun q => q.2.2.2.slot.beq 5 && !q.2.2.2.isStatic) = true) ∧ ((ve_de vs_A ⟨"OrderbenchModel", "nothingsOn", "(I)I"⟩ = true) ∧ ((ve_de vs_A ⟨"OrderbenchModel$Shape", "isEnds", "()Z"⟩ = true) ∧ (((parseMethodDescriptor "(I)Ljava/lang/Object;").map (fun d => d.parameters.length) = some 1) ∧ ((ve_de vs_A ⟨"java/util/ArrayList", "get", "(I)Ljava/lang/Object;"⟩ = true) ∧ ((([47] : List Nat).all (fun x => x.blt 1000 && vs_A.vm.assignable x 47) = true) ∧ ((ve_de vs_A ⟨"java/util/ArrayList", "size", "()I"⟩ = true) ∧ ((ve_de vs_A ⟨"java/util/ArrayList", "elementData", "(I)Ljava/lang/Object;"⟩ = true) ∧ ((ve_de vs_A ⟨"OrderbenchModel", "takesBench", "(II)Z"⟩ = true) ∧ ((ve_de vs_A ⟨"OrderbenchModel", "hasNothing", "(I)Z"⟩ = true) ∧ ((ve_de vs_A ⟨"OrderbenchModel", "takesEach", "(II)Z"⟩ = true)))))))))))))))) := by decide +kernel
theorem vf_254 : ve_de vs_A ⟨"OrderbenchModel", "endOf", "(III)I"⟩ = true := vfb_10.1
theorem vf_255 : ve_de vs_A ⟨"OrderbenchModel$Shape", "isSafe", "()Z"⟩ = true := vfb_10.2.1
theorem vf_256 : ve_de vs_A ⟨"OrderbenchModel", "many", "(I)I"⟩ = true := vfb_10.2.2.1
theorem vf_257 : (vs_A.fieldFound? "OrderbenchModel" "laid" "I").any (fun q => q.2.2.2.slot.beq 3 && !q.2.2.2.isStatic) = true := vfb_10.2.2.2.1
theorem vf_258 : (vs_A.fieldFound? "OrderbenchModel" "refused" "I").any (fun q => q.2.2.2.slot.beq 4 && !q.2.2.2.isStatic) = true := vfb_10.2.2.2.2.1
theorem vf_259 : (vs_A.fieldFound? "OrderbenchModel" "knocks" "I").any (fun q => q.2.2.2.slot.beq 5 && !q.2.2.2.isStatic) = true := vfb_10.2.2.2.2.2.1
theorem vf_260 : ve_de vs_A ⟨"OrderbenchModel", "nothingsOn", "(I)I"⟩ = true := vfb_10.2.2.2.2.2.2.1
theorem vf_261 : ve_de vs_A ⟨"OrderbenchModel$Shape", "isEnds", "()Z"⟩ = true := vfb_10.2.2.2.2.2.2.2.1
theorem vf_262 : (parseMethodDescriptor "(I)Ljava/lang/Object;").map (fun d => d.parameters.length) = some 1 := vfb_10.2.2.2.2.2.2.2.2.1
theorem vf_263 : ve_de vs_A ⟨"java/util/ArrayList", "get", "(I)Ljava/lang/Object;"⟩ = true := vfb_10.2.2.2.2.2.2.2.2.2.1
theorem vf_264 : ([47] : List Nat).all (fun x => x.blt 1000 && vs_A.vm.assignable x 47) = true := vfb_10.2.2.2.2.2.2.2.2.2.2.1
theorem vf_265 : ve_de vs_A ⟨"java/util/ArrayList", "size", "()I"⟩ = true := vfb_10.2.2.2.2.2.2.2.2.2.2.2.1
theorem vf_266 : ve_de vs_A ⟨"java/util/ArrayList", "elementData", "(I)Ljava/lang/Object;"⟩ = true := vfb_10.2.2.2.2.2.2.2.2.2.2.2.2.1
theorem vf_268 : ve_de vs_A ⟨"OrderbenchModel", "takesBench", "(II)Z"⟩ = true := vfb_10.2.2.2.2.2.2.2.2.2.2.2.2.2.1
theorem vf_269 : ve_de vs_A ⟨"OrderbenchModel", "hasNothing", "(I)Z"⟩ = true := vfb_10.2.2.2.2.2.2.2.2.2.2.2.2.2.2.1
theorem vf_270 : ve_de vs_A ⟨"OrderbenchModel", "takesEach", "(II)Z"⟩ = true := vfb_10.2.2.2.2.2.2.2.2.2.2.2.2.2.2.2
set_option maxRecDepth 16384 in
theorem vf_135 : vk_R "OrderbenchModel$Shape" 31 "~" 52 vs_A := ⟨by decide +kernel, by decide +kernel⟩
set_option maxRecDepth 16384 in
theorem vf_139 : vk_R "OrderbenchModel$Shape" 45 "" 42 vs_A := ⟨by decide +kernel, by decide +kernel⟩
set_option maxRecDepth 16384 in
theorem vf_179 : ∀ k, vs_A.slotType? 53 .none k = some .byte := fun _ => rfl
set_option maxRecDepth 16384 in
theorem vf_215 : vk_R "Orderbench$Base" 23 "wlpnbdt" 22 vs_A := ⟨by decide +kernel, by decide +kernel⟩
set_option maxRecDepth 16384 in
theorem vf_267 : vk_R "OrderbenchModel" 61 "" 42 vs_A := ⟨by decide +kernel, by decide +kernel⟩
end
section
/-! the instructions of the methods that the run takes (by a text program out of the listings) -/
set_option maxRecDepth 20000 in
def vt_0 : Nat → ve_M := fun pc => bif pc.ble 643 then (bif pc.ble 29 then (bif pc.ble 15 then (bif pc.ble 7 then (bif pc.ble 3 then (bif pc.ble 0 then (bif pc.beq 0 then ve_nw 3 2 [.null, .null, .null, .null, .null, .null, .int 0, .int 0, .int 0] else ve_no) else (bif pc.beq 3 then ve_pu (ve_dup 4) else ve_no)) else (bif pc.ble 4 then (bif pc.beq 4 then ve_cw 59 1 7 [(2, 1)] else ve_no) else (bif pc.beq 7 then ve_pu (ve_as 8 1 7) else ve_no))) else (bif pc.ble 11 then (bif pc.ble 8 then (bif pc.beq 8 then ve_nw 11 6 [.int 0, .null, .null, .int 0, .int 0, .int 0] else ve_no) else (bif pc.beq 11 then ve_pu (ve_dup 12) else ve_no)) else (bif pc.ble 12 then (bif pc.beq 12 then ve_cw 59 1 15 [(6, 7)] else ve_no) else (bif pc.beq 15 then ve_pu (ve_as 16 2 7) else ve_no)))) else (bif pc.ble 23 then (bif pc.ble 19 then (bif pc.ble 16 then (bif pc.beq 16 then ve_nw 19 12 [.long 0, .null] else ve_no) else (bif pc.beq 19 then ve_pu (ve_dup 20) else ve_no)) else (bif pc.ble 20 then (bif pc.beq 20 then ve_cw 59 1 23 [(12, 17)] else ve_no) else (bif pc.beq 23 then ve_pu (ve_as 24 3 7) else ve_no))) else (bif pc.ble 25 then (bif pc.ble 24 then (bif pc.beq 24 then ve_pu (ve_push 25 (.int (0))) else ve_no) else (bif pc.beq 25 then ve_pu (ve_is 27 4 7) else ve_no)) else (bif pc.ble 27 then (bif pc.beq 27 then ve_pu (ve_il 29 4) else ve_no) else (bif pc.beq 29 then ve_pu (ve_al 30 0) else ve_no))))) else (bif pc.ble 41 then (bif pc.ble 34 then (bif pc.ble 31 then (bif pc.ble 30 then (bif pc.beq 30 then ve_len 31 51 else ve_no) else (bif pc.beq 31 then ve_pu (ve_push 33 (.int (6))) else ve_no)) else (bif pc.ble 33 then (bif pc.beq 33 then ve_pu (ve_isub 34) else ve_no) else (bif pc.beq 34 then ve_pu (ve_br2 (fun x y => decide (y < x)) 1766 37) else ve_no))) else (bif pc.ble 38 then (bif pc.ble 37 then (bif pc.beq 37 then ve_pu (ve_al 38 0) else ve_no) else (bif pc.beq 38 then ve_pu (ve_il 40 4) else ve_no)) else (bif pc.ble 40 then (bif pc.beq 40 then ve_ald 41 51 else ve_no) else (bif pc.beq 41 then ve_pu (ve_push 43 (.int (63))) else ve_no)))) else (bif pc.ble 638 then (bif pc.ble 44 then (bif pc.ble 43 then (bif pc.beq 43 then ve_pu (ve_iand 44) else ve_no) else (bif pc.beq 44 then ve_pu (ve_tsw (0) (36) [208, 289, 317, 381, 421, 473, 501, 529, 569, 597, 637, 677, 729, 797, 837, 865, 893, 957, 1033, 1085, 1125, 1153, 1193, 1221, 1261, 1301, 1341, 1381, 1445, 1509, 1561, 1589, 1641, 1693, 1721, 1734, 1747] 1760) else ve_no)) else (bif pc.ble 637 then (bif pc.beq 637 then ve_pu (ve_al 638 1) else ve_no) else (bif pc.beq 638 then ve_pu (ve_al 639 0) else ve_no))) else (bif pc.ble 641 then (bif pc.ble 639 then (bif pc.beq 639 then ve_pu (ve_il 641 4) else ve_no) else (bif pc.beq 641 then ve_pu (ve_push 642 (.int (1))) else ve_no)) else (bif pc.ble 642 then (bif pc.beq 642 then ve_pu (ve_iadd 643) else ve_no) else (bif pc.beq 643 then ve_ald 644 51 else ve_no)))))) else (bif pc.ble 664 then (bif pc.ble 654 then (bif pc.ble 648 then (bif pc.ble 645 then (bif pc.ble 644 then (bif pc.beq 644 then ve_pu (ve_al 645 0) else ve_no) else (bif pc.beq 645 then ve_pu (ve_il 647 4) else ve_no)) else (bif pc.ble 647 then (bif pc.beq 647 then ve_pu (ve_push 648 (.int (2))) else ve_no) else (bif pc.beq 648 then ve_pu (ve_iadd 649) else ve_no))) else (bif pc.ble 650 then (bif pc.ble 649 then (bif pc.beq 649 then ve_ald 650 51 else ve_no) else (bif pc.beq 650 then ve_pu (ve_al 651 3) else ve_no)) else (bif pc.ble 651 then (bif pc.beq 651 then ve_cl 59 18 4 654 else ve_no) else (bif pc.beq 654 then ve_pu (ve_is 656 5 7) else ve_no)))) else (bif pc.ble 660 then (bif pc.ble 657 then (bif pc.ble 656 then (bif pc.beq 656 then ve_pu (ve_al 657 2) else ve_no) else (bif pc.beq 657 then ve_pu (ve_al 658 0) else ve_no)) else (bif pc.ble 658 then (bif pc.beq 658 then ve_pu (ve_il 660 4) else ve_no) else (bif pc.beq 660 then ve_pu (ve_push 661 (.int (1))) else ve_no))) else (bif pc.ble 662 then (bif pc.ble 661 then (bif pc.beq 661 then ve_pu (ve_iadd 662) else ve_no) else (bif pc.beq 662 then ve_ald 663 51 else ve_no)) else (bif pc.ble 663 then (bif pc.beq 663 then ve_pu (ve_al 664 0) else ve_no) else (bif pc.beq 664 then ve_pu (ve_il 666 4) else ve_no))))) else (bif pc.ble 1748 then (bif pc.ble 669 then (bif pc.ble 667 then (bif pc.ble 666 then (bif pc.beq 666 then ve_pu (ve_push 667 (.int (2))) else ve_no) else (bif pc.beq 667 then ve_pu (ve_iadd 668) else ve_no)) else (bif pc.ble 668 then (bif pc.beq 668 then ve_ald 669 51 else ve_no) else (bif pc.beq 669 then ve_cw 59 3 672 [(6, 24)] else ve_no))) else (bif pc.ble 674 then (bif pc.ble 672 then (bif pc.beq 672 then ve_pu (ve_is 674 6 7) else ve_no) else (bif pc.beq 674 then ve_pu (ve_jmp 1760) else ve_no)) else (bif pc.ble 1747 then (bif pc.beq 1747 then ve_pu (ve_al 1748 1) else ve_no) else (bif pc.beq 1748 then ve_cw 59 1 1751 [(2, 57)] else ve_no)))) else (bif pc.ble 1756 then (bif pc.ble 1752 then (bif pc.ble 1751 then (bif pc.beq 1751 then ve_pu (ve_p2 1752) else ve_no) else (bif pc.beq 1752 then ve_pu (ve_al 1753 2) else ve_no)) else (bif pc.ble 1753 then (bif pc.beq 1753 then ve_cw 59 1 1756 [(6, 95)] else ve_no) else (bif pc.beq 1756 then ve_pu (ve_p2 1757) else ve_no))) else (bif pc.ble 1760 then (bif pc.ble 1757 then (bif pc.beq 1757 then ve_pu (ve_jmp 1760) else ve_no) else (bif pc.beq 1760 then ve_pu (ve_ii 1763 4 7 (6)) else ve_no)) else (bif pc.ble 1763 then (bif pc.beq 1763 then ve_pu (ve_jmp 27) else ve_no) else (bif pc.ble 1766 then (bif pc.beq 1766 then ve_pu (ve_push 1767 (.int (1))) else ve_no) else (bif pc.beq 1767 then ve_rt 1 .boolean else ve_no)))))))
set_option maxRecDepth 20000 in
def vt_1 : Nat → ve_M := fun pc => bif pc.ble 56 then (bif pc.ble 24 then (bif pc.ble 12 then (bif pc.ble 4 then (bif pc.ble 0 then (bif pc.beq 0 then ve_pu (ve_al 1 0) else ve_no) else (bif pc.ble 1 then (bif pc.beq 1 then ve_pu (ve_oi 4) else ve_no) else (bif pc.beq 4 then ve_pu (ve_al 5 0) else ve_no))) else (bif pc.ble 6 then (bif pc.ble 5 then (bif pc.beq 5 then ve_pu (ve_push 6 (.int (2))) else ve_no) else (bif pc.beq 6 then ve_na 9 54 .null else ve_no)) else (bif pc.ble 9 then (bif pc.beq 9 then ve_pf 12 0 [2] (.array (.object "Orderbench$Row")) else ve_no) else (bif pc.beq 12 then ve_pu (ve_push 13 (.int (0))) else ve_no)))) else (bif pc.ble 16 then (bif pc.ble 14 then (bif pc.ble 13 then (bif pc.beq 13 then ve_pu (ve_is 14 1 3) else ve_no) else (bif pc.beq 14 then ve_pu (ve_il 15 1) else ve_no)) else (bif pc.ble 15 then (bif pc.beq 15 then ve_pu (ve_push 16 (.int (2))) else ve_no) else (bif pc.beq 16 then ve_pu (ve_br2 (fun x y => decide (¬ x < y)) 38 19) else ve_no))) else (bif pc.ble 20 then (bif pc.ble 19 then (bif pc.beq 19 then ve_pu (ve_al 20 0) else ve_no) else (bif pc.beq 20 then ve_gf 23 0 else ve_no)) else (bif pc.ble 23 then (bif pc.beq 23 then ve_pu (ve_il 24 1) else ve_no) else (bif pc.beq 24 then ve_nw 27 3 [.null, .int 0] else ve_no))))) else (bif pc.ble 39 then (bif pc.ble 31 then (bif pc.ble 27 then (bif pc.beq 27 then ve_pu (ve_dup 28) else ve_no) else (bif pc.ble 28 then (bif pc.beq 28 then ve_cw 59 1 31 [(3, 2)] else ve_no) else (bif pc.beq 31 then ve_aas 32 54 [3] else ve_no))) else (bif pc.ble 35 then (bif pc.ble 32 then (bif pc.beq 32 then ve_pu (ve_ii 35 1 3 (1)) else ve_no) else (bif pc.beq 35 then ve_pu (ve_jmp 14) else ve_no)) else (bif pc.ble 38 then (bif pc.beq 38 then ve_pu (ve_al 39 0) else ve_no) else (bif pc.beq 39 then ve_pu (ve_push 41 (.int (10))) else ve_no)))) else (bif pc.ble 50 then (bif pc.ble 44 then (bif pc.ble 41 then (bif pc.beq 41 then ve_na 44 55 .null else ve_no) else (bif pc.beq 44 then ve_pf 47 1 [2] (.array (.object "Orderbench$Shape")) else ve_no)) else (bif pc.ble 47 then (bif pc.beq 47 then ve_nw 50 26 [.int 0, .int 0, .int 0] else ve_no) else (bif pc.beq 50 then ve_pu (ve_dup 51) else ve_no))) else (bif pc.ble 52 then (bif pc.ble 51 then (bif pc.beq 51 then ve_pu (ve_push 52 (.int (0))) else ve_no) else (bif pc.beq 52 then ve_cw 59 2 55 [(26, 3)] else ve_no)) else (bif pc.ble 55 then (bif pc.beq 55 then ve_pu (ve_as 56 1 3) else ve_no) else (bif pc.beq 56 then ve_pu (ve_push 57 (.int (0))) else ve_no)))))) else (bif pc.ble 82 then (bif pc.ble 68 then (bif pc.ble 59 then (bif pc.ble 57 then (bif pc.beq 57 then ve_pu (ve_is 58 2 3) else ve_no) else (bif pc.ble 58 then (bif pc.beq 58 then ve_pu (ve_il 59 2) else ve_no) else (bif pc.beq 59 then ve_pu (ve_push 61 (.int (10))) else ve_no))) else (bif pc.ble 64 then (bif pc.ble 61 then (bif pc.beq 61 then ve_pu (ve_br2 (fun x y => decide (¬ x < y)) 77 64) else ve_no) else (bif pc.beq 64 then ve_pu (ve_al 65 0) else ve_no)) else (bif pc.ble 65 then (bif pc.beq 65 then ve_gf 68 1 else ve_no) else (bif pc.beq 68 then ve_pu (ve_il 69 2) else ve_no)))) else (bif pc.ble 74 then (bif pc.ble 70 then (bif pc.ble 69 then (bif pc.beq 69 then ve_pu (ve_al 70 1) else ve_no) else (bif pc.beq 70 then ve_aas 71 55 [26] else ve_no)) else (bif pc.ble 71 then (bif pc.beq 71 then ve_pu (ve_ii 74 2 3 (1)) else ve_no) else (bif pc.beq 74 then ve_pu (ve_jmp 58) else ve_no))) else (bif pc.ble 78 then (bif pc.ble 77 then (bif pc.beq 77 then ve_pu (ve_al 78 0) else ve_no) else (bif pc.beq 78 then ve_nw 81 3 [.null, .int 0] else ve_no)) else (bif pc.ble 81 then (bif pc.beq 81 then ve_pu (ve_dup 82) else ve_no) else (bif pc.beq 82 then ve_cw 59 1 85 [(3, 2)] else ve_no))))) else (bif pc.ble 100 then (bif pc.ble 92 then (bif pc.ble 88 then (bif pc.ble 85 then (bif pc.beq 85 then ve_pf 88 2 [2] (.object "Orderbench$Row") else ve_no) else (bif pc.beq 88 then ve_pu (ve_al 89 0) else ve_no)) else (bif pc.ble 89 then (bif pc.beq 89 then ve_nw 92 3 [.null, .int 0] else ve_no) else (bif pc.beq 92 then ve_pu (ve_dup 93) else ve_no))) else (bif pc.ble 96 then (bif pc.ble 93 then (bif pc.beq 93 then ve_cw 59 1 96 [(3, 2)] else ve_no) else (bif pc.beq 96 then ve_pf 99 3 [2] (.object "Orderbench$Row") else ve_no)) else (bif pc.ble 99 then (bif pc.beq 99 then ve_pu (ve_al 100 0) else ve_no) else (bif pc.beq 100 then ve_pu (ve_push 102 (.int (16))) else ve_no)))) else (bif pc.ble 108 then (bif pc.ble 104 then (bif pc.ble 102 then (bif pc.beq 102 then ve_na 104 51 (.int 0) else ve_no) else (bif pc.beq 104 then ve_pf 107 4 [2] (.array .int) else ve_no)) else (bif pc.ble 107 then (bif pc.beq 107 then ve_pu (ve_al 108 0) else ve_no) else (bif pc.beq 108 then ve_nw 111 36 [.null, .int 0, .int 0, .int 0] else ve_no))) else (bif pc.ble 112 then (bif pc.ble 111 then (bif pc.beq 111 then ve_pu (ve_dup 112) else ve_no) else (bif pc.beq 112 then ve_cw 59 1 115 [(36, 5)] else ve_no)) else (bif pc.ble 115 then (bif pc.beq 115 then ve_pf 118 5 [2] (.object "java/lang/StringBuilder") else ve_no) else (bif pc.beq 118 then ve_rt 0 .int else ve_no))))))
set_option maxRecDepth 20000 in
def vt_2 : Nat → ve_M := fun pc => bif pc.ble 4 then (bif pc.ble 0 then (bif pc.beq 0 then ve_pu (ve_al 1 0) else ve_no) else (bif pc.ble 1 then (bif pc.beq 1 then ve_pu (ve_oi 4) else ve_no) else (bif pc.beq 4 then ve_pu (ve_al 5 0) else ve_no))) else (bif pc.ble 7 then (bif pc.ble 5 then (bif pc.beq 5 then ve_pu (ve_push 7 (.int (16))) else ve_no) else (bif pc.beq 7 then ve_na 9 51 (.int 0) else ve_no)) else (bif pc.ble 9 then (bif pc.beq 9 then ve_pf 12 0 [3] (.array .int) else ve_no) else (bif pc.beq 12 then ve_rt 0 .int else ve_no)))
set_option maxRecDepth 20000 in
def vt_3 : Nat → ve_M := fun pc => bif pc.ble 3 then (bif pc.ble 1 then (bif pc.ble 0 then (bif pc.beq 0 then ve_pu (ve_al 1 0) else ve_no) else (bif pc.beq 1 then ve_pu (ve_push 2 (.int (1))) else ve_no)) else (bif pc.ble 2 then (bif pc.beq 2 then ve_pu (ve_push 3 (.int (0))) else ve_no) else (bif pc.beq 3 then ve_cw 59 3 6 [(26, 4)] else ve_no))) else (bif pc.ble 7 then (bif pc.ble 6 then (bif pc.beq 6 then ve_pu (ve_al 7 0) else ve_no) else (bif pc.beq 7 then ve_pu (ve_il 8 1) else ve_no)) else (bif pc.ble 8 then (bif pc.beq 8 then ve_pf 11 2 [26] .int else ve_no) else (bif pc.beq 11 then ve_rt 0 .int else ve_no)))
set_option maxRecDepth 20000 in
def vt_4 : Nat → ve_M := fun pc => bif pc.ble 5 then (bif pc.ble 1 then (bif pc.ble 0 then (bif pc.beq 0 then ve_pu (ve_al 1 0) else ve_no) else (bif pc.beq 1 then ve_pu (ve_oi 4) else ve_no)) else (bif pc.ble 4 then (bif pc.beq 4 then ve_pu (ve_al 5 0) else ve_no) else (bif pc.beq 5 then ve_pu (ve_il 6 1) else ve_no))) else (bif pc.ble 9 then (bif pc.ble 6 then (bif pc.beq 6 then ve_pf 9 0 [26, 32, 33] .int else ve_no) else (bif pc.beq 9 then ve_pu (ve_al 10 0) else ve_no)) else (bif pc.ble 10 then (bif pc.beq 10 then ve_pu (ve_il 11 2) else ve_no) else (bif pc.ble 11 then (bif pc.beq 11 then ve_pf 14 1 [26, 32, 33] .boolean else ve_no) else (bif pc.beq 14 then ve_rt 0 .int else ve_no))))
set_option maxRecDepth 20000 in
def vt_5 : Nat → ve_M := fun pc => bif pc.ble 1 then (bif pc.ble 0 then (bif pc.beq 0 then ve_pu (ve_al 1 0) else ve_no) else (bif pc.beq 1 then ve_pu (ve_push 3 (.int (16))) else ve_no)) else (bif pc.ble 3 then (bif pc.beq 3 then ve_cw 59 2 6 [(36, 6)] else ve_no) else (bif pc.beq 6 then ve_rt 0 .int else ve_no))
set_option maxRecDepth 20000 in
def vt_6 : Nat → ve_M := fun pc => bif pc.ble 11 then (bif pc.ble 4 then (bif pc.ble 0 then (bif pc.beq 0 then ve_pu (ve_al 1 0) else ve_no) else (bif pc.ble 1 then (bif pc.beq 1 then ve_pu (ve_oi 4) else ve_no) else (bif pc.beq 4 then ve_gs 7 3 1 else ve_no))) else (bif pc.ble 7 then (bif pc.beq 7 then ve_pu (ve_br1 (fun x => decide (x = 0)) 25 10) else ve_no) else (bif pc.ble 10 then (bif pc.beq 10 then ve_pu (ve_al 11 0) else ve_no) else (bif pc.beq 11 then ve_pu (ve_il 12 1) else ve_no)))) else (bif pc.ble 17 then (bif pc.ble 12 then (bif pc.beq 12 then ve_na 14 53 (.int 0) else ve_no) else (bif pc.ble 14 then (bif pc.beq 14 then ve_pf 17 0 [36] (.array .byte) else ve_no) else (bif pc.beq 17 then ve_pu (ve_al 18 0) else ve_no))) else (bif pc.ble 19 then (bif pc.ble 18 then (bif pc.beq 18 then ve_pu (ve_push 19 (.int (0))) else ve_no) else (bif pc.beq 19 then ve_pf 22 1 [36] .byte else ve_no)) else (bif pc.ble 22 then (bif pc.beq 22 then ve_pu (ve_jmp 38) else ve_no) else (bif pc.beq 38 then ve_rt 0 .int else ve_no))))
set_option maxRecDepth 20000 in
def vt_7 : Nat → ve_M := fun pc => bif pc.ble 39 then (bif pc.ble 18 then (bif pc.ble 8 then (bif pc.ble 1 then (bif pc.ble 0 then (bif pc.beq 0 then ve_pu (ve_al 1 0) else ve_no) else (bif pc.beq 1 then ve_pu (ve_oi 4) else ve_no)) else (bif pc.ble 4 then (bif pc.beq 4 then ve_pu (ve_al 5 0) else ve_no) else (bif pc.ble 5 then (bif pc.beq 5 then ve_nw 8 47 [.int 0, .null, .int 0] else ve_no) else (bif pc.beq 8 then ve_pu (ve_dup 9) else ve_no)))) else (bif pc.ble 12 then (bif pc.ble 9 then (bif pc.beq 9 then ve_cw 59 1 12 [(47, 8)] else ve_no) else (bif pc.beq 12 then ve_pf 15 1 [6] (.object "java/util/ArrayList") else ve_no)) else (bif pc.ble 15 then (bif pc.beq 15 then ve_pu (ve_al 16 0) else ve_no) else (bif pc.ble 16 then (bif pc.beq 16 then ve_pu (ve_push 18 (.int (10))) else ve_no) else (bif pc.beq 18 then ve_na 21 56 .null else ve_no))))) else (bif pc.ble 27 then (bif pc.ble 24 then (bif pc.ble 21 then (bif pc.beq 21 then ve_pf 24 2 [6] (.array (.object "OrderbenchModel$Shape")) else ve_no) else (bif pc.beq 24 then ve_pu (ve_push 25 (.int (0))) else ve_no)) else (bif pc.ble 25 then (bif pc.beq 25 then ve_pu (ve_is 26 1 2) else ve_no) else (bif pc.ble 26 then (bif pc.beq 26 then ve_pu (ve_il 27 1) else ve_no) else (bif pc.beq 27 then ve_pu (ve_push 28 (.int (2))) else ve_no)))) else (bif pc.ble 32 then (bif pc.ble 28 then (bif pc.beq 28 then ve_pu (ve_br2 (fun x y => decide (¬ x < y)) 52 31) else ve_no) else (bif pc.ble 31 then (bif pc.beq 31 then ve_pu (ve_al 32 0) else ve_no) else (bif pc.beq 32 then ve_gf 35 1 else ve_no))) else (bif pc.ble 35 then (bif pc.beq 35 then ve_nw 38 47 [.int 0, .null, .int 0] else ve_no) else (bif pc.ble 38 then (bif pc.beq 38 then ve_pu (ve_dup 39) else ve_no) else (bif pc.beq 39 then ve_cw 59 1 42 [(47, 8)] else ve_no)))))) else (bif pc.ble 61 then (bif pc.ble 52 then (bif pc.ble 45 then (bif pc.ble 42 then (bif pc.beq 42 then ve_cw 59 2 45 [(47, 11)] else ve_no) else (bif pc.beq 45 then ve_pu (ve_pop 46) else ve_no)) else (bif pc.ble 46 then (bif pc.beq 46 then ve_pu (ve_ii 49 1 2 (1)) else ve_no) else (bif pc.ble 49 then (bif pc.beq 49 then ve_pu (ve_jmp 26) else ve_no) else (bif pc.beq 52 then ve_pu (ve_push 53 (.int (0))) else ve_no)))) else (bif pc.ble 55 then (bif pc.ble 53 then (bif pc.beq 53 then ve_pu (ve_is 54 1 2) else ve_no) else (bif pc.ble 54 then (bif pc.beq 54 then ve_pu (ve_il 55 1) else ve_no) else (bif pc.beq 55 then ve_pu (ve_push 57 (.int (10))) else ve_no))) else (bif pc.ble 57 then (bif pc.beq 57 then ve_pu (ve_br2 (fun x y => decide (¬ x < y)) 83 60) else ve_no) else (bif pc.ble 60 then (bif pc.beq 60 then ve_pu (ve_al 61 0) else ve_no) else (bif pc.beq 61 then ve_gf 64 2 else ve_no))))) else (bif pc.ble 71 then (bif pc.ble 65 then (bif pc.ble 64 then (bif pc.beq 64 then ve_pu (ve_il 65 1) else ve_no) else (bif pc.beq 65 then ve_nw 68 11 [.int 0, .null, .null] else ve_no)) else (bif pc.ble 68 then (bif pc.beq 68 then ve_pu (ve_dup 69) else ve_no) else (bif pc.ble 69 then (bif pc.beq 69 then ve_pu (ve_push 71 (.int (119))) else ve_no) else (bif pc.beq 71 then ve_pu (ve_push 72 .null) else ve_no)))) else (bif pc.ble 76 then (bif pc.ble 72 then (bif pc.beq 72 then ve_pu (ve_push 73 .null) else ve_no) else (bif pc.ble 73 then (bif pc.beq 73 then ve_cw 59 4 76 [(11, 16)] else ve_no) else (bif pc.beq 76 then ve_aas 77 56 [11] else ve_no))) else (bif pc.ble 77 then (bif pc.beq 77 then ve_pu (ve_ii 80 1 2 (1)) else ve_no) else (bif pc.ble 80 then (bif pc.beq 80 then ve_pu (ve_jmp 54) else ve_no) else (bif pc.beq 83 then ve_rt 0 .int else ve_no))))))
set_option maxRecDepth 20000 in
def vt_8 : Nat → ve_M := fun pc => bif pc.ble 4 then (bif pc.ble 0 then (bif pc.beq 0 then ve_pu (ve_al 1 0) else ve_no) else (bif pc.ble 1 then (bif pc.beq 1 then ve_cw 59 1 4 [(47, 9)] else ve_no) else (bif pc.beq 4 then ve_pu (ve_al 5 0) else ve_no))) else (bif pc.ble 5 then (bif pc.beq 5 then ve_gs 8 6 3 else ve_no) else (bif pc.ble 8 then (bif pc.beq 8 then ve_pf 11 1 [47] (.array (.object "java/lang/Object")) else ve_no) else (bif pc.beq 11 then ve_rt 0 .int else ve_no)))
set_option maxRecDepth 20000 in
def vt_9 : Nat → ve_M := fun pc => bif pc.ble 4 then (bif pc.ble 0 then (bif pc.beq 0 then ve_pu (ve_al 1 0) else ve_no) else (bif pc.ble 1 then (bif pc.beq 1 then ve_cw 59 1 4 [(47, 10)] else ve_no) else (bif pc.beq 4 then ve_pu (ve_al 5 0) else ve_no))) else (bif pc.ble 5 then (bif pc.beq 5 then ve_pu (ve_push 6 (.int (0))) else ve_no) else (bif pc.ble 6 then (bif pc.beq 6 then ve_pf 9 0 [47] .int else ve_no) else (bif pc.beq 9 then ve_rt 0 .int else ve_no)))
set_option maxRecDepth 20000 in
def vt_10 : Nat → ve_M := fun pc => bif pc.ble 0 then (bif pc.beq 0 then ve_pu (ve_al 1 0) else ve_no) else (bif pc.ble 1 then (bif pc.beq 1 then ve_pu (ve_oi 4) else ve_no) else (bif pc.beq 4 then ve_rt 0 .int else ve_no))
set_option maxRecDepth 20000 in
def vt_11 : Nat → ve_M := fun pc => bif pc.ble 10 then (bif pc.ble 2 then (bif pc.ble 0 then (bif pc.beq 0 then ve_pu (ve_al 1 0) else ve_no) else (bif pc.ble 1 then (bif pc.beq 1 then ve_pu (ve_dup 2) else ve_no) else (bif pc.beq 2 then ve_gf 5 0 else ve_no))) else (bif pc.ble 6 then (bif pc.ble 5 then (bif pc.beq 5 then ve_pu (ve_push 6 (.int (1))) else ve_no) else (bif pc.beq 6 then ve_pu (ve_iadd 7) else ve_no)) else (bif pc.ble 7 then (bif pc.beq 7 then ve_pf 10 0 [47] .int else ve_no) else (bif pc.beq 10 then ve_pu (ve_al 11 0) else ve_no)))) else (bif pc.ble 16 then (bif pc.ble 12 then (bif pc.ble 11 then (bif pc.beq 11 then ve_pu (ve_al 12 1) else ve_no) else (bif pc.beq 12 then ve_pu (ve_al 13 0) else ve_no)) else (bif pc.ble 13 then (bif pc.beq 13 then ve_gf 16 1 else ve_no) else (bif pc.beq 16 then ve_pu (ve_al 17 0) else ve_no))) else (bif pc.ble 20 then (bif pc.ble 17 then (bif pc.beq 17 then ve_gf 20 2 else ve_no) else (bif pc.beq 20 then ve_cw 59 4 23 [(47, 12)] else ve_no)) else (bif pc.ble 23 then (bif pc.beq 23 then ve_pu (ve_push 24 (.int (1))) else ve_no) else (bif pc.beq 24 then ve_rt 1 .boolean else ve_no))))
set_option maxRecDepth 20000 in
def vt_12 : Nat → ve_M := fun pc => bif pc.ble 11 then (bif pc.ble 3 then (bif pc.ble 1 then (bif pc.ble 0 then (bif pc.beq 0 then ve_pu (ve_il 1 3) else ve_no) else (bif pc.beq 1 then ve_pu (ve_al 2 2) else ve_no)) else (bif pc.ble 2 then (bif pc.beq 2 then ve_len 3 57 else ve_no) else (bif pc.beq 3 then ve_pu (ve_br2 (fun x y => decide (¬ x = y)) 11 6) else ve_no))) else (bif pc.ble 7 then (bif pc.ble 6 then (bif pc.beq 6 then ve_pu (ve_al 7 0) else ve_no) else (bif pc.beq 7 then ve_cw 59 1 10 [(47, 13)] else ve_no)) else (bif pc.ble 10 then (bif pc.beq 10 then ve_pu (ve_as 11 2 4) else ve_no) else (bif pc.beq 11 then ve_pu (ve_al 12 2) else ve_no)))) else (bif pc.ble 15 then (bif pc.ble 13 then (bif pc.ble 12 then (bif pc.beq 12 then ve_pu (ve_il 13 3) else ve_no) else (bif pc.beq 13 then ve_pu (ve_al 14 1) else ve_no)) else (bif pc.ble 14 then (bif pc.beq 14 then ve_aas 15 57 [47] else ve_no) else (bif pc.beq 15 then ve_pu (ve_al 16 0) else ve_no))) else (bif pc.ble 17 then (bif pc.ble 16 then (bif pc.beq 16 then ve_pu (ve_il 17 3) else ve_no) else (bif pc.beq 17 then ve_pu (ve_push 18 (.int (1))) else ve_no)) else (bif pc.ble 18 then (bif pc.beq 18 then ve_pu (ve_iadd 19) else ve_no) else (bif pc.ble 19 then (bif pc.beq 19 then ve_pf 22 2 [47] .int else ve_no) else (bif pc.beq 22 then ve_rt 0 .int else ve_no)))))
set_option maxRecDepth 20000 in
def vt_13 : Nat → ve_M := fun pc => bif pc.ble 2 then (bif pc.ble 0 then (bif pc.beq 0 then ve_pu (ve_al 1 0) else ve_no) else (bif pc.ble 1 then (bif pc.beq 1 then ve_pu (ve_al 2 0) else ve_no) else (bif pc.beq 2 then ve_gf 5 2 else ve_no))) else (bif pc.ble 6 then (bif pc.ble 5 then (bif pc.beq 5 then ve_pu (ve_push 6 (.int (1))) else ve_no) else (bif pc.beq 6 then ve_pu (ve_iadd 7) else ve_no)) else (bif pc.ble 7 then (bif pc.beq 7 then ve_cw 59 2 10 [(47, 14)] else ve_no) else (bif pc.beq 10 then ve_rt 3 (.array (.object "java/lang/Object")) else ve_no)))
set_option maxRecDepth 20000 in
def vt_14 : Nat → ve_M := fun pc => bif pc.ble 14 then (bif pc.ble 5 then (bif pc.ble 1 then (bif pc.ble 0 then (bif pc.beq 0 then ve_pu (ve_al 1 0) else ve_no) else (bif pc.beq 1 then ve_gf 4 1 else ve_no)) else (bif pc.ble 4 then (bif pc.beq 4 then ve_len 5 57 else ve_no) else (bif pc.beq 5 then ve_pu (ve_is 6 2 4) else ve_no))) else (bif pc.ble 7 then (bif pc.ble 6 then (bif pc.beq 6 then ve_pu (ve_il 7 2) else ve_no) else (bif pc.beq 7 then ve_pu (ve_br1 (fun x => decide (0 < x)) 20 10) else ve_no)) else (bif pc.ble 10 then (bif pc.beq 10 then ve_pu (ve_al 11 0) else ve_no) else (bif pc.ble 11 then (bif pc.beq 11 then ve_gf 14 1 else ve_no) else (bif pc.beq 14 then ve_gs 17 6 3 else ve_no))))) else (bif pc.ble 48 then (bif pc.ble 45 then (bif pc.ble 17 then (bif pc.beq 17 then ve_pu (ve_ac 45 20) else ve_no) else (bif pc.beq 45 then ve_pu (ve_al 46 0) else ve_no)) else (bif pc.ble 46 then (bif pc.beq 46 then ve_pu (ve_push 48 (.int (10))) else ve_no) else (bif pc.beq 48 then ve_pu (ve_il 49 1) else ve_no))) else (bif pc.ble 52 then (bif pc.ble 49 then (bif pc.beq 49 then ve_cl 59 15 2 52 else ve_no) else (bif pc.beq 52 then ve_na 55 57 .null else ve_no)) else (bif pc.ble 55 then (bif pc.beq 55 then ve_pu (ve_dx 56) else ve_no) else (bif pc.ble 56 then (bif pc.beq 56 then ve_pf 59 1 [47] (.array (.object "java/lang/Object")) else ve_no) else (bif pc.beq 59 then ve_rt 3 (.array (.object "java/lang/Object")) else ve_no)))))
set_option maxRecDepth 20000 in
def vt_15 : Nat → ve_M := fun pc => bif pc.ble 2 then (bif pc.ble 0 then (bif pc.beq 0 then ve_pu (ve_il 1 0) else ve_no) else (bif pc.ble 1 then (bif pc.beq 1 then ve_pu (ve_il 2 1) else ve_no) else (bif pc.beq 2 then ve_pu (ve_br2 (fun x y => decide (x < y)) 9 5) else ve_no))) else (bif pc.ble 6 then (bif pc.ble 5 then (bif pc.beq 5 then ve_pu (ve_il 6 0) else ve_no) else (bif pc.beq 6 then ve_pu (ve_jmp 10) else ve_no)) else (bif pc.ble 9 then (bif pc.beq 9 then ve_pu (ve_il 10 1) else ve_no) else (bif pc.beq 10 then ve_rt 1 .int else ve_no)))
set_option maxRecDepth 20000 in
def vt_16 : Nat → ve_M := fun pc => bif pc.ble 9 then (bif pc.ble 4 then (bif pc.ble 0 then (bif pc.beq 0 then ve_pu (ve_al 1 0) else ve_no) else (bif pc.ble 1 then (bif pc.beq 1 then ve_pu (ve_oi 4) else ve_no) else (bif pc.beq 4 then ve_pu (ve_al 5 0) else ve_no))) else (bif pc.ble 5 then (bif pc.beq 5 then ve_pu (ve_il 6 1) else ve_no) else (bif pc.ble 6 then (bif pc.beq 6 then ve_pf 9 0 [11] .char else ve_no) else (bif pc.beq 9 then ve_pu (ve_al 10 0) else ve_no)))) else (bif pc.ble 14 then (bif pc.ble 10 then (bif pc.beq 10 then ve_pu (ve_al 11 2) else ve_no) else (bif pc.ble 11 then (bif pc.beq 11 then ve_pf 14 1 [11] (.object "OrderbenchModel$Shape") else ve_no) else (bif pc.beq 14 then ve_pu (ve_al 15 0) else ve_no))) else (bif pc.ble 15 then (bif pc.beq 15 then ve_pu (ve_al 16 3) else ve_no) else (bif pc.ble 16 then (bif pc.beq 16 then ve_pf 19 2 [11] (.object "OrderbenchModel$Shape") else ve_no) else (bif pc.beq 19 then ve_rt 0 .int else ve_no))))
set_option maxRecDepth 20000 in
def vt_17 : Nat → ve_M := fun pc => bif pc.ble 0 then (bif pc.beq 0 then ve_pu (ve_al 1 0) else ve_no) else (bif pc.ble 1 then (bif pc.beq 1 then ve_pu (ve_oi 4) else ve_no) else (bif pc.beq 4 then ve_rt 0 .int else ve_no))
set_option maxRecDepth 20000 in
def vt_18 : Nat → ve_M := fun pc => bif pc.ble 4 then (bif pc.ble 1 then (bif pc.ble 0 then (bif pc.beq 0 then ve_pu (ve_al 1 3) else ve_no) else (bif pc.beq 1 then ve_pu (ve_al 2 0) else ve_no)) else (bif pc.ble 2 then (bif pc.beq 2 then ve_pu (ve_il 3 1) else ve_no) else (bif pc.ble 3 then (bif pc.beq 3 then ve_pu (ve_il 4 2) else ve_no) else (bif pc.beq 4 then ve_cw 59 3 7 [(2, 19)] else ve_no)))) else (bif pc.ble 8 then (bif pc.ble 7 then (bif pc.beq 7 then ve_pu (ve_i2l 8) else ve_no) else (bif pc.beq 8 then ve_pf 11 0 [12] .long else ve_no)) else (bif pc.ble 11 then (bif pc.beq 11 then ve_pu (ve_jmp 22) else ve_no) else (bif pc.ble 22 then (bif pc.beq 22 then ve_pu (ve_push 23 (.int (0))) else ve_no) else (bif pc.beq 23 then ve_rt 1 .int else ve_no))))
set_option maxRecDepth 20000 in
def vt_19 : Nat → ve_M := fun pc => bif pc.ble 12 then (bif pc.ble 5 then (bif pc.ble 1 then (bif pc.ble 0 then (bif pc.beq 0 then ve_pu (ve_al 1 0) else ve_no) else (bif pc.beq 1 then ve_pu (ve_il 2 1) else ve_no)) else (bif pc.ble 2 then (bif pc.beq 2 then ve_cw 59 2 5 [(2, 20)] else ve_no) else (bif pc.beq 5 then ve_pu (ve_pop 6) else ve_no))) else (bif pc.ble 9 then (bif pc.ble 6 then (bif pc.beq 6 then ve_nw 9 32 [.int 0, .int 0, .null] else ve_no) else (bif pc.beq 9 then ve_pu (ve_dup 10) else ve_no)) else (bif pc.ble 10 then (bif pc.beq 10 then ve_pu (ve_al 11 0) else ve_no) else (bif pc.ble 11 then (bif pc.beq 11 then ve_pu (ve_il 12 2) else ve_no) else (bif pc.beq 12 then ve_cw 59 2 15 [(2, 20)] else ve_no))))) else (bif pc.ble 20 then (bif pc.ble 18 then (bif pc.ble 15 then (bif pc.beq 15 then ve_cw 59 2 18 [(32, 21)] else ve_no) else (bif pc.beq 18 then ve_pu (ve_as 19 3 4) else ve_no)) else (bif pc.ble 19 then (bif pc.beq 19 then ve_pu (ve_al 20 3) else ve_no) else (bif pc.beq 20 then ve_cl 59 22 1 23 else ve_no))) else (bif pc.ble 24 then (bif pc.ble 23 then (bif pc.beq 23 then ve_pu (ve_al 24 0) else ve_no) else (bif pc.beq 24 then ve_pu (ve_il 25 1) else ve_no)) else (bif pc.ble 25 then (bif pc.beq 25 then ve_pu (ve_al 26 3) else ve_no) else (bif pc.ble 26 then (bif pc.beq 26 then ve_cw 59 3 29 [(2, 23)] else ve_no) else (bif pc.beq 29 then ve_rt 1 .int else ve_no)))))
set_option maxRecDepth 20000 in
def vt_20 : Nat → ve_M := fun pc => bif pc.ble 7 then (bif pc.ble 1 then (bif pc.ble 0 then (bif pc.beq 0 then ve_pu (ve_il 1 1) else ve_no) else (bif pc.beq 1 then ve_pu (ve_br1 (fun x => decide (x < 0)) 10 4) else ve_no)) else (bif pc.ble 4 then (bif pc.beq 4 then ve_pu (ve_il 5 1) else ve_no) else (bif pc.ble 5 then (bif pc.beq 5 then ve_pu (ve_push 7 (.int (10))) else ve_no) else (bif pc.beq 7 then ve_pu (ve_br2 (fun x y => decide (x < y)) 20 10) else ve_no)))) else (bif pc.ble 21 then (bif pc.ble 20 then (bif pc.beq 20 then ve_pu (ve_al 21 0) else ve_no) else (bif pc.beq 21 then ve_gf 24 1 else ve_no)) else (bif pc.ble 24 then (bif pc.beq 24 then ve_pu (ve_il 25 1) else ve_no) else (bif pc.ble 25 then (bif pc.beq 25 then ve_ald 26 55 else ve_no) else (bif pc.beq 26 then ve_rt 3 (.object "Orderbench$Shape") else ve_no))))
set_option maxRecDepth 20000 in
def vt_21 : Nat → ve_M := fun pc => bif pc.ble 7 then (bif pc.ble 2 then (bif pc.ble 0 then (bif pc.beq 0 then ve_pu (ve_al 1 0) else ve_no) else (bif pc.ble 1 then (bif pc.beq 1 then ve_pu (ve_al 2 1) else ve_no) else (bif pc.beq 2 then ve_gf 5 0 else ve_no))) else (bif pc.ble 5 then (bif pc.beq 5 then ve_pu (ve_push 6 (.int (1))) else ve_no) else (bif pc.ble 6 then (bif pc.beq 6 then ve_pu (ve_iadd 7) else ve_no) else (bif pc.beq 7 then ve_pu (ve_al 8 1) else ve_no)))) else (bif pc.ble 14 then (bif pc.ble 8 then (bif pc.beq 8 then ve_gf 11 1 else ve_no) else (bif pc.ble 11 then (bif pc.beq 11 then ve_cw 59 3 14 [(32, 4)] else ve_no) else (bif pc.beq 14 then ve_pu (ve_al 15 0) else ve_no))) else (bif pc.ble 15 then (bif pc.beq 15 then ve_pu (ve_al 16 1) else ve_no) else (bif pc.ble 16 then (bif pc.beq 16 then ve_pf 19 2 [32] (.object "Orderbench$Shape") else ve_no) else (bif pc.beq 19 then ve_rt 0 .int else ve_no))))
set_option maxRecDepth 20000 in
def vt_22 : Nat → ve_M := fun pc => bif pc.ble 1 then (bif pc.ble 0 then (bif pc.beq 0 then ve_pu (ve_al 1 0) else ve_no) else (bif pc.beq 1 then ve_gf 4 0 else ve_no)) else (bif pc.ble 4 then (bif pc.beq 4 then ve_pu (ve_push 6 (.int (40))) else ve_no) else (bif pc.ble 6 then (bif pc.beq 6 then ve_pu (ve_br2 (fun x y => decide (¬ y < x)) 20 9) else ve_no) else (bif pc.beq 20 then ve_rt 0 .int else ve_no)))
set_option maxRecDepth 20000 in
def vt_23 : Nat → ve_M := fun pc => bif pc.ble 10 then (bif pc.ble 4 then (bif pc.ble 0 then (bif pc.beq 0 then ve_pu (ve_il 1 1) else ve_no) else (bif pc.ble 1 then (bif pc.beq 1 then ve_pu (ve_br1 (fun x => decide (x < 0)) 17 4) else ve_no) else (bif pc.beq 4 then ve_pu (ve_il 5 1) else ve_no))) else (bif pc.ble 5 then (bif pc.beq 5 then ve_pu (ve_push 7 (.int (10))) else ve_no) else (bif pc.ble 7 then (bif pc.beq 7 then ve_pu (ve_br2 (fun x y => decide (¬ x < y)) 17 10) else ve_no) else (bif pc.beq 10 then ve_pu (ve_al 11 0) else ve_no)))) else (bif pc.ble 15 then (bif pc.ble 11 then (bif pc.beq 11 then ve_gf 14 1 else ve_no) else (bif pc.ble 14 then (bif pc.beq 14 then ve_pu (ve_il 15 1) else ve_no) else (bif pc.beq 15 then ve_pu (ve_al 16 2) else ve_no))) else (bif pc.ble 17 then (bif pc.ble 16 then (bif pc.beq 16 then ve_aas 17 55 [32] else ve_no) else (bif pc.beq 17 then ve_pu (ve_al 18 2) else ve_no)) else (bif pc.ble 18 then (bif pc.beq 18 then ve_gf 21 0 else ve_no) else (bif pc.beq 21 then ve_rt 1 .int else ve_no))))
set_option maxRecDepth 20000 in
def vt_24 : Nat → ve_M := fun pc => bif pc.ble 31 then (bif pc.ble 9 then (bif pc.ble 2 then (bif pc.ble 0 then (bif pc.beq 0 then ve_pu (ve_al 1 0) else ve_no) else (bif pc.ble 1 then (bif pc.beq 1 then ve_pu (ve_il 2 1) else ve_no) else (bif pc.beq 2 then ve_cl 59 25 1 5 else ve_no))) else (bif pc.ble 5 then (bif pc.beq 5 then ve_pu (ve_br1 (fun x => decide (¬ x = 0)) 15 8) else ve_no) else (bif pc.ble 8 then (bif pc.beq 8 then ve_pu (ve_il 9 2) else ve_no) else (bif pc.beq 9 then ve_cl 59 25 1 12 else ve_no)))) else (bif pc.ble 20 then (bif pc.ble 12 then (bif pc.beq 12 then ve_pu (ve_br1 (fun x => decide (x = 0)) 19 15) else ve_no) else (bif pc.ble 19 then (bif pc.beq 19 then ve_pu (ve_push 20 (.int (0))) else ve_no) else (bif pc.beq 20 then ve_pu (ve_push 21 (.int (0))) else ve_no))) else (bif pc.ble 21 then (bif pc.beq 21 then ve_cw 59 3 24 [(6, 27)] else ve_no) else (bif pc.ble 24 then (bif pc.beq 24 then ve_pu (ve_br1 (fun x => decide (x = 0)) 31 27) else ve_no) else (bif pc.beq 31 then ve_pu (ve_al 32 0) else ve_no))))) else (bif pc.ble 40 then (bif pc.ble 36 then (bif pc.ble 32 then (bif pc.beq 32 then ve_pu (ve_il 33 1) else ve_no) else (bif pc.ble 33 then (bif pc.beq 33 then ve_nw 36 11 [.int 0, .null, .null] else ve_no) else (bif pc.beq 36 then ve_pu (ve_dup 37) else ve_no))) else (bif pc.ble 37 then (bif pc.beq 37 then ve_pu (ve_push 39 (.int (126))) else ve_no) else (bif pc.ble 39 then (bif pc.beq 39 then ve_pu (ve_al 40 0) else ve_no) else (bif pc.beq 40 then ve_gf 43 2 else ve_no)))) else (bif pc.ble 45 then (bif pc.ble 43 then (bif pc.beq 43 then ve_pu (ve_il 44 2) else ve_no) else (bif pc.ble 44 then (bif pc.beq 44 then ve_ald 45 56 else ve_no) else (bif pc.beq 45 then ve_pu (ve_push 46 .null) else ve_no))) else (bif pc.ble 46 then (bif pc.beq 46 then ve_cw 59 4 49 [(11, 16)] else ve_no) else (bif pc.ble 49 then (bif pc.beq 49 then ve_cw 59 3 52 [(6, 29)] else ve_no) else (bif pc.beq 52 then ve_rt 1 .int else ve_no)))))
set_option maxRecDepth 20000 in
def vt_25 : Nat → ve_M := fun pc => bif pc.ble 2 then (bif pc.ble 0 then (bif pc.beq 0 then ve_pu (ve_il 1 0) else ve_no) else (bif pc.ble 1 then (bif pc.beq 1 then ve_pu (ve_push 2 (.int (0))) else ve_no) else (bif pc.beq 2 then ve_pu (ve_push 4 (.int (9))) else ve_no))) else (bif pc.ble 7 then (bif pc.ble 4 then (bif pc.beq 4 then ve_cl 59 26 3 7 else ve_no) else (bif pc.beq 7 then ve_pu (ve_br1 (fun x => decide (¬ x = 0)) 14 10) else ve_no)) else (bif pc.ble 14 then (bif pc.beq 14 then ve_pu (ve_push 15 (.int (0))) else ve_no) else (bif pc.beq 15 then ve_rt 1 .boolean else ve_no)))
set_option maxRecDepth 20000 in
def vt_26 : Nat → ve_M := fun pc => bif pc.ble 5 then (bif pc.ble 1 then (bif pc.ble 0 then (bif pc.beq 0 then ve_pu (ve_il 1 0) else ve_no) else (bif pc.beq 1 then ve_pu (ve_il 2 1) else ve_no)) else (bif pc.ble 2 then (bif pc.beq 2 then ve_pu (ve_br2 (fun x y => decide (x < y)) 14 5) else ve_no) else (bif pc.beq 5 then ve_pu (ve_il 6 0) else ve_no))) else (bif pc.ble 7 then (bif pc.ble 6 then (bif pc.beq 6 then ve_pu (ve_il 7 2) else ve_no) else (bif pc.beq 7 then ve_pu (ve_br2 (fun x y => decide (y < x)) 14 10) else ve_no)) else (bif pc.ble 10 then (bif pc.beq 10 then ve_pu (ve_push 11 (.int (1))) else ve_no) else (bif pc.ble 11 then (bif pc.beq 11 then ve_pu (ve_jmp 15) else ve_no) else (bif pc.beq 15 then ve_rt 1 .boolean else ve_no))))
set_option maxRecDepth 20000 in
def vt_27 : Nat → ve_M := fun pc => bif pc.ble 2 then (bif pc.ble 0 then (bif pc.beq 0 then ve_pu (ve_al 1 0) else ve_no) else (bif pc.ble 1 then (bif pc.beq 1 then ve_pu (ve_il 2 1) else ve_no) else (bif pc.beq 2 then ve_pu (ve_il 3 2) else ve_no))) else (bif pc.ble 3 then (bif pc.beq 3 then ve_pu (ve_push 4 (.int (0))) else ve_no) else (bif pc.ble 4 then (bif pc.beq 4 then ve_cw 59 4 7 [(6, 28)] else ve_no) else (bif pc.beq 7 then ve_rt 1 .boolean else ve_no)))
set_option maxRecDepth 20000 in
def vt_28 : Nat → ve_M := fun pc => bif pc.ble 18 then (bif pc.ble 2 then (bif pc.ble 0 then (bif pc.beq 0 then ve_pu (ve_al 1 0) else ve_no) else (bif pc.ble 1 then (bif pc.beq 1 then ve_pu (ve_il 2 1) else ve_no) else (bif pc.beq 2 then ve_pu (ve_br1 (fun x => decide (x = 0)) 9 5) else ve_no))) else (bif pc.ble 10 then (bif pc.ble 9 then (bif pc.beq 9 then ve_pu (ve_il 10 2) else ve_no) else (bif pc.beq 10 then ve_pu (ve_br1 (fun x => decide (x = 0)) 17 13) else ve_no)) else (bif pc.ble 17 then (bif pc.beq 17 then ve_pu (ve_il 18 3) else ve_no) else (bif pc.beq 18 then ve_pu (ve_br1 (fun x => decide (x = 0)) 25 21) else ve_no)))) else (bif pc.ble 29 then (bif pc.ble 25 then (bif pc.beq 25 then ve_pu (ve_push 26 (.int (0))) else ve_no) else (bif pc.ble 26 then (bif pc.beq 26 then ve_pf 29 0 [6] .int else ve_no) else (bif pc.beq 29 then ve_pu (ve_al 30 0) else ve_no))) else (bif pc.ble 33 then (bif pc.ble 30 then (bif pc.beq 30 then ve_gf 33 0 else ve_no) else (bif pc.beq 33 then ve_pu (ve_br1 (fun x => decide (¬ 0 < x)) 40 36) else ve_no)) else (bif pc.ble 40 then (bif pc.beq 40 then ve_pu (ve_push 41 (.int (0))) else ve_no) else (bif pc.beq 41 then ve_rt 1 .boolean else ve_no))))
set_option maxRecDepth 20000 in
def vt_29 : Nat → ve_M := fun pc => bif pc.ble 19 then (bif pc.ble 3 then (bif pc.ble 1 then (bif pc.ble 0 then (bif pc.beq 0 then ve_pu (ve_al 1 0) else ve_no) else (bif pc.beq 1 then ve_pu (ve_push 2 (.int (0))) else ve_no)) else (bif pc.ble 2 then (bif pc.beq 2 then ve_pu (ve_al 3 2) else ve_no) else (bif pc.beq 3 then ve_cw 59 1 6 [(11, 30)] else ve_no))) else (bif pc.ble 9 then (bif pc.ble 6 then (bif pc.beq 6 then ve_cw 59 1 9 [(28, 38)] else ve_no) else (bif pc.beq 9 then ve_pu (ve_push 11 (.int (40))) else ve_no)) else (bif pc.ble 11 then (bif pc.beq 11 then ve_pu (ve_br2 (fun x y => decide (¬ y < x)) 18 14) else ve_no) else (bif pc.ble 18 then (bif pc.beq 18 then ve_pu (ve_push 19 (.int (0))) else ve_no) else (bif pc.beq 19 then ve_cw 59 3 22 [(6, 27)] else ve_no))))) else (bif pc.ble 32 then (bif pc.ble 27 then (bif pc.ble 22 then (bif pc.beq 22 then ve_pu (ve_br1 (fun x => decide (x = 0)) 27 25) else ve_no) else (bif pc.beq 27 then ve_pu (ve_al 28 0) else ve_no)) else (bif pc.ble 28 then (bif pc.beq 28 then ve_gf 31 2 else ve_no) else (bif pc.ble 31 then (bif pc.beq 31 then ve_pu (ve_il 32 1) else ve_no) else (bif pc.beq 32 then ve_pu (ve_al 33 2) else ve_no)))) else (bif pc.ble 34 then (bif pc.ble 33 then (bif pc.beq 33 then ve_aas 34 56 [11] else ve_no) else (bif pc.beq 34 then ve_pu (ve_al 35 0) else ve_no)) else (bif pc.ble 35 then (bif pc.beq 35 then ve_pu (ve_il 36 1) else ve_no) else (bif pc.ble 36 then (bif pc.beq 36 then ve_cw 59 2 39 [(6, 53)] else ve_no) else (bif pc.beq 39 then ve_rt 1 .int else ve_no)))))
set_option maxRecDepth 20000 in
def vt_30 : Nat → ve_M := fun pc => bif pc.ble 35 then (bif pc.ble 16 then (bif pc.ble 6 then (bif pc.ble 1 then (bif pc.ble 0 then (bif pc.beq 0 then ve_pu (ve_al 1 0) else ve_no) else (bif pc.beq 1 then ve_gf 4 0 else ve_no)) else (bif pc.ble 4 then (bif pc.beq 4 then ve_pu (ve_push 6 (.int (126))) else ve_no) else (bif pc.beq 6 then ve_pu (ve_br2 (fun x y => decide (¬ x = y)) 35 9) else ve_no))) else (bif pc.ble 12 then (bif pc.ble 9 then (bif pc.beq 9 then ve_nw 12 36 [.null, .int 0, .int 0, .int 0] else ve_no) else (bif pc.beq 12 then ve_pu (ve_dup 13) else ve_no)) else (bif pc.ble 13 then (bif pc.beq 13 then ve_cw 59 1 16 [(36, 5)] else ve_no) else (bif pc.beq 16 then ve_pu (ve_al 17 0) else ve_no)))) else (bif pc.ble 26 then (bif pc.ble 20 then (bif pc.ble 17 then (bif pc.beq 17 then ve_gf 20 1 else ve_no) else (bif pc.beq 20 then ve_cw 59 1 23 [(11, 30)] else ve_no)) else (bif pc.ble 23 then (bif pc.beq 23 then ve_cw 59 2 26 [(36, 36)] else ve_no) else (bif pc.beq 26 then ve_pu (ve_push 28 (.ref 52)) else ve_no))) else (bif pc.ble 31 then (bif pc.ble 28 then (bif pc.beq 28 then ve_cw 59 2 31 [(36, 36)] else ve_no) else (bif pc.beq 31 then ve_cw 59 1 34 [(36, 43)] else ve_no)) else (bif pc.ble 34 then (bif pc.beq 34 then ve_rt 3 (.object "java/lang/String") else ve_no) else (bif pc.beq 35 then ve_pu (ve_al 36 0) else ve_no))))) else (bif pc.ble 98 then (bif pc.ble 90 then (bif pc.ble 39 then (bif pc.ble 36 then (bif pc.beq 36 then ve_gf 39 0 else ve_no) else (bif pc.beq 39 then ve_pu (ve_push 41 (.int (40))) else ve_no)) else (bif pc.ble 41 then (bif pc.beq 41 then ve_pu (ve_br2 (fun x y => decide (¬ x = y)) 90 44) else ve_no) else (bif pc.beq 90 then ve_nw 93 36 [.null, .int 0, .int 0, .int 0] else ve_no))) else (bif pc.ble 94 then (bif pc.ble 93 then (bif pc.beq 93 then ve_pu (ve_dup 94) else ve_no) else (bif pc.beq 94 then ve_cw 59 1 97 [(36, 5)] else ve_no)) else (bif pc.ble 97 then (bif pc.beq 97 then ve_pu (ve_al 98 0) else ve_no) else (bif pc.beq 98 then ve_gf 101 0 else ve_no)))) else (bif pc.ble 108 then (bif pc.ble 104 then (bif pc.ble 101 then (bif pc.beq 101 then ve_cw 59 2 104 [(36, 31)] else ve_no) else (bif pc.beq 104 then ve_pu (ve_al 105 0) else ve_no)) else (bif pc.ble 105 then (bif pc.beq 105 then ve_gf 108 1 else ve_no) else (bif pc.beq 108 then ve_pu (ve_nn 116 111) else ve_no))) else (bif pc.ble 113 then (bif pc.ble 111 then (bif pc.beq 111 then ve_pu (ve_push 113 (.ref 42)) else ve_no) else (bif pc.beq 113 then ve_pu (ve_jmp 123) else ve_no)) else (bif pc.ble 123 then (bif pc.beq 123 then ve_cw 59 2 126 [(36, 36)] else ve_no) else (bif pc.ble 126 then (bif pc.beq 126 then ve_cw 59 1 129 [(36, 43)] else ve_no) else (bif pc.beq 129 then ve_rt 3 (.object "java/lang/String") else ve_no))))))
set_option maxRecDepth 20000 in
def vt_31 : Nat → ve_M := fun pc => bif pc.ble 2 then (bif pc.ble 0 then (bif pc.beq 0 then ve_pu (ve_al 1 0) else ve_no) else (bif pc.ble 1 then (bif pc.beq 1 then ve_pu (ve_il 2 1) else ve_no) else (bif pc.beq 2 then ve_cw 59 2 5 [(36, 32)] else ve_no))) else (bif pc.ble 5 then (bif pc.beq 5 then ve_pu (ve_pop 6) else ve_no) else (bif pc.ble 6 then (bif pc.beq 6 then ve_pu (ve_al 7 0) else ve_no) else (bif pc.beq 7 then ve_rt 3 (.object "java/lang/StringBuilder") else ve_no)))
set_option maxRecDepth 20000 in
def vt_32 : Nat → ve_M := fun pc => bif pc.ble 24 then (bif pc.ble 7 then (bif pc.ble 2 then (bif pc.ble 0 then (bif pc.beq 0 then ve_pu (ve_al 1 0) else ve_no) else (bif pc.ble 1 then (bif pc.beq 1 then ve_pu (ve_al 2 0) else ve_no) else (bif pc.beq 2 then ve_gf 5 3 else ve_no))) else (bif pc.ble 5 then (bif pc.beq 5 then ve_pu (ve_push 6 (.int (1))) else ve_no) else (bif pc.ble 6 then (bif pc.beq 6 then ve_pu (ve_iadd 7) else ve_no) else (bif pc.beq 7 then ve_cw 59 2 10 [(36, 33)] else ve_no)))) else (bif pc.ble 14 then (bif pc.ble 10 then (bif pc.beq 10 then ve_pu (ve_al 11 0) else ve_no) else (bif pc.ble 11 then (bif pc.beq 11 then ve_cw 59 1 14 [(36, 34)] else ve_no) else (bif pc.beq 14 then ve_pu (ve_br1 (fun x => decide (x = 0)) 45 17) else ve_no))) else (bif pc.ble 18 then (bif pc.ble 17 then (bif pc.beq 17 then ve_pu (ve_il 18 1) else ve_no) else (bif pc.beq 18 then ve_cl 59 35 1 21 else ve_no)) else (bif pc.ble 21 then (bif pc.beq 21 then ve_pu (ve_br1 (fun x => decide (x = 0)) 45 24) else ve_no) else (bif pc.beq 24 then ve_pu (ve_al 25 0) else ve_no))))) else (bif pc.ble 35 then (bif pc.ble 29 then (bif pc.ble 25 then (bif pc.beq 25 then ve_gf 28 0 else ve_no) else (bif pc.ble 28 then (bif pc.beq 28 then ve_pu (ve_al 29 0) else ve_no) else (bif pc.beq 29 then ve_pu (ve_dup 30) else ve_no))) else (bif pc.ble 33 then (bif pc.ble 30 then (bif pc.beq 30 then ve_gf 33 3 else ve_no) else (bif pc.beq 33 then ve_pu (ve_dx 34) else ve_no)) else (bif pc.ble 34 then (bif pc.beq 34 then ve_pu (ve_push 35 (.int (1))) else ve_no) else (bif pc.beq 35 then ve_pu (ve_iadd 36) else ve_no)))) else (bif pc.ble 40 then (bif pc.ble 36 then (bif pc.beq 36 then ve_pf 39 3 [36] .int else ve_no) else (bif pc.ble 39 then (bif pc.beq 39 then ve_pu (ve_il 40 1) else ve_no) else (bif pc.beq 40 then ve_pu (ve_i2b 41) else ve_no))) else (bif pc.ble 42 then (bif pc.ble 41 then (bif pc.beq 41 then ve_ast 42 53 .byte else ve_no) else (bif pc.beq 42 then ve_pu (ve_jmp 75) else ve_no)) else (bif pc.ble 75 then (bif pc.beq 75 then ve_pu (ve_al 76 0) else ve_no) else (bif pc.beq 76 then ve_rt 3 (.object "java/lang/AbstractStringBuilder") else ve_no)))))
set_option maxRecDepth 20000 in
def vt_33 : Nat → ve_M := fun pc => bif pc.ble 14 then (bif pc.ble 6 then (bif pc.ble 1 then (bif pc.ble 0 then (bif pc.beq 0 then ve_pu (ve_al 1 0) else ve_no) else (bif pc.beq 1 then ve_gf 4 0 else ve_no)) else (bif pc.ble 4 then (bif pc.beq 4 then ve_len 5 53 else ve_no) else (bif pc.ble 5 then (bif pc.beq 5 then ve_pu (ve_al 6 0) else ve_no) else (bif pc.beq 6 then ve_gf 9 1 else ve_no)))) else (bif pc.ble 11 then (bif pc.ble 9 then (bif pc.beq 9 then ve_pu (ve_ishr 10) else ve_no) else (bif pc.ble 10 then (bif pc.beq 10 then ve_pu (ve_is 11 2 3) else ve_no) else (bif pc.beq 11 then ve_pu (ve_il 12 1) else ve_no))) else (bif pc.ble 12 then (bif pc.beq 12 then ve_pu (ve_il 13 2) else ve_no) else (bif pc.ble 13 then (bif pc.beq 13 then ve_pu (ve_isub 14) else ve_no) else (bif pc.beq 14 then ve_pu (ve_br1 (fun x => decide (¬ 0 < x)) 38 17) else ve_no))))) else (bif pc.ble 24 then (bif pc.ble 19 then (bif pc.ble 17 then (bif pc.beq 17 then ve_pu (ve_al 18 0) else ve_no) else (bif pc.ble 18 then (bif pc.beq 18 then ve_pu (ve_al 19 0) else ve_no) else (bif pc.beq 19 then ve_gf 22 0 else ve_no))) else (bif pc.ble 22 then (bif pc.beq 22 then ve_pu (ve_al 23 0) else ve_no) else (bif pc.ble 23 then (bif pc.beq 23 then ve_pu (ve_il 24 1) else ve_no) else (bif pc.beq 24 then ve_cw 59 2 27 [(36, 54)] else ve_no)))) else (bif pc.ble 31 then (bif pc.ble 27 then (bif pc.beq 27 then ve_pu (ve_al 28 0) else ve_no) else (bif pc.ble 28 then (bif pc.beq 28 then ve_gf 31 1 else ve_no) else (bif pc.beq 31 then ve_pu (ve_ishl 32) else ve_no))) else (bif pc.ble 32 then (bif pc.beq 32 then ve_cl 59 56 2 35 else ve_no) else (bif pc.ble 35 then (bif pc.beq 35 then ve_pf 38 0 [36] (.array .byte) else ve_no) else (bif pc.beq 38 then ve_rt 0 .int else ve_no)))))
set_option maxRecDepth 20000 in
def vt_34 : Nat → ve_M := fun pc => bif pc.ble 7 then (bif pc.ble 3 then (bif pc.ble 0 then (bif pc.beq 0 then ve_gs 3 3 1 else ve_no) else (bif pc.beq 3 then ve_pu (ve_br1 (fun x => decide (x = 0)) 17 6) else ve_no)) else (bif pc.ble 6 then (bif pc.beq 6 then ve_pu (ve_al 7 0) else ve_no) else (bif pc.beq 7 then ve_gf 10 1 else ve_no))) else (bif pc.ble 13 then (bif pc.ble 10 then (bif pc.beq 10 then ve_pu (ve_br1 (fun x => decide (¬ x = 0)) 17 13) else ve_no) else (bif pc.beq 13 then ve_pu (ve_push 14 (.int (1))) else ve_no)) else (bif pc.ble 14 then (bif pc.beq 14 then ve_pu (ve_jmp 18) else ve_no) else (bif pc.beq 18 then ve_rt 1 .boolean else ve_no)))
set_option maxRecDepth 20000 in
def vt_35 : Nat → ve_M := fun pc => bif pc.ble 4 then (bif pc.ble 0 then (bif pc.beq 0 then ve_pu (ve_il 1 0) else ve_no) else (bif pc.ble 1 then (bif pc.beq 1 then ve_pu (ve_push 4 (.int (255))) else ve_no) else (bif pc.beq 4 then ve_pu (ve_br2 (fun x y => decide (y < x)) 11 7) else ve_no))) else (bif pc.ble 7 then (bif pc.beq 7 then ve_pu (ve_push 8 (.int (1))) else ve_no) else (bif pc.ble 8 then (bif pc.beq 8 then ve_pu (ve_jmp 12) else ve_no) else (bif pc.beq 12 then ve_rt 1 .boolean else ve_no)))
set_option maxRecDepth 20000 in
def vt_36 : Nat → ve_M := fun pc => bif pc.ble 2 then (bif pc.ble 0 then (bif pc.beq 0 then ve_pu (ve_al 1 0) else ve_no) else (bif pc.ble 1 then (bif pc.beq 1 then ve_pu (ve_al 2 1) else ve_no) else (bif pc.beq 2 then ve_cw 59 2 5 [(36, 37)] else ve_no))) else (bif pc.ble 5 then (bif pc.beq 5 then ve_pu (ve_pop 6) else ve_no) else (bif pc.ble 6 then (bif pc.beq 6 then ve_pu (ve_al 7 0) else ve_no) else (bif pc.beq 7 then ve_rt 3 (.object "java/lang/StringBuilder") else ve_no)))
set_option maxRecDepth 20000 in
def vt_37 : Nat → ve_M := fun pc => bif pc.ble 24 then (bif pc.ble 14 then (bif pc.ble 9 then (bif pc.ble 0 then (bif pc.beq 0 then ve_pu (ve_al 1 1) else ve_no) else (bif pc.ble 1 then (bif pc.beq 1 then ve_pu (ve_nn 9 4) else ve_no) else (bif pc.beq 9 then ve_pu (ve_al 10 1) else ve_no))) else (bif pc.ble 10 then (bif pc.beq 10 then ve_cw 59 1 13 [(28, 38)] else ve_no) else (bif pc.ble 13 then (bif pc.beq 13 then ve_pu (ve_is 14 2 3) else ve_no) else (bif pc.beq 14 then ve_pu (ve_al 15 0) else ve_no)))) else (bif pc.ble 19 then (bif pc.ble 15 then (bif pc.beq 15 then ve_pu (ve_al 16 0) else ve_no) else (bif pc.ble 16 then (bif pc.beq 16 then ve_gf 19 3 else ve_no) else (bif pc.beq 19 then ve_pu (ve_il 20 2) else ve_no))) else (bif pc.ble 20 then (bif pc.beq 20 then ve_pu (ve_iadd 21) else ve_no) else (bif pc.ble 21 then (bif pc.beq 21 then ve_cw 59 2 24 [(36, 33)] else ve_no) else (bif pc.beq 24 then ve_pu (ve_al 25 0) else ve_no))))) else (bif pc.ble 34 then (bif pc.ble 29 then (bif pc.ble 25 then (bif pc.beq 25 then ve_pu (ve_al 26 0) else ve_no) else (bif pc.ble 26 then (bif pc.beq 26 then ve_gf 29 3 else ve_no) else (bif pc.beq 29 then ve_pu (ve_al 30 1) else ve_no))) else (bif pc.ble 30 then (bif pc.beq 30 then ve_cw 59 3 33 [(36, 40)] else ve_no) else (bif pc.ble 33 then (bif pc.beq 33 then ve_pu (ve_al 34 0) else ve_no) else (bif pc.beq 34 then ve_pu (ve_dup 35) else ve_no)))) else (bif pc.ble 39 then (bif pc.ble 35 then (bif pc.beq 35 then ve_gf 38 3 else ve_no) else (bif pc.ble 38 then (bif pc.beq 38 then ve_pu (ve_il 39 2) else ve_no) else (bif pc.beq 39 then ve_pu (ve_iadd 40) else ve_no))) else (bif pc.ble 40 then (bif pc.beq 40 then ve_pf 43 3 [36] .int else ve_no) else (bif pc.ble 43 then (bif pc.beq 43 then ve_pu (ve_al 44 0) else ve_no) else (bif pc.beq 44 then ve_rt 3 (.object "java/lang/AbstractStringBuilder") else ve_no)))))
set_option maxRecDepth 20000 in
def vt_38 : Nat → ve_M := fun pc => bif pc.ble 4 then (bif pc.ble 0 then (bif pc.beq 0 then ve_pu (ve_al 1 0) else ve_no) else (bif pc.ble 1 then (bif pc.beq 1 then ve_gf 4 0 else ve_no) else (bif pc.beq 4 then ve_len 5 53 else ve_no))) else (bif pc.ble 6 then (bif pc.ble 5 then (bif pc.beq 5 then ve_pu (ve_al 6 0) else ve_no) else (bif pc.beq 6 then ve_cw 59 1 9 [(28, 39)] else ve_no)) else (bif pc.ble 9 then (bif pc.beq 9 then ve_pu (ve_ishr 10) else ve_no) else (bif pc.beq 10 then ve_rt 1 .int else ve_no)))
set_option maxRecDepth 20000 in
def vt_39 : Nat → ve_M := fun pc => bif pc.ble 6 then (bif pc.ble 0 then (bif pc.beq 0 then ve_gs 3 3 1 else ve_no) else (bif pc.ble 3 then (bif pc.beq 3 then ve_pu (ve_br1 (fun x => decide (x = 0)) 13 6) else ve_no) else (bif pc.beq 6 then ve_pu (ve_al 7 0) else ve_no))) else (bif pc.ble 7 then (bif pc.beq 7 then ve_gf 10 1 else ve_no) else (bif pc.ble 10 then (bif pc.beq 10 then ve_pu (ve_jmp 14) else ve_no) else (bif pc.beq 14 then ve_rt 1 .byte else ve_no)))
set_option maxRecDepth 20000 in
def vt_40 : Nat → ve_M := fun pc => bif pc.ble 6 then (bif pc.ble 1 then (bif pc.ble 0 then (bif pc.beq 0 then ve_pu (ve_al 1 0) else ve_no) else (bif pc.beq 1 then ve_pu (ve_al 2 2) else ve_no)) else (bif pc.ble 2 then (bif pc.beq 2 then ve_cw 59 2 5 [(36, 41)] else ve_no) else (bif pc.ble 5 then (bif pc.beq 5 then ve_pu (ve_al 6 2) else ve_no) else (bif pc.beq 6 then ve_pu (ve_al 7 0) else ve_no)))) else (bif pc.ble 11 then (bif pc.ble 7 then (bif pc.beq 7 then ve_gf 10 0 else ve_no) else (bif pc.ble 10 then (bif pc.beq 10 then ve_pu (ve_il 11 1) else ve_no) else (bif pc.beq 11 then ve_pu (ve_al 12 0) else ve_no))) else (bif pc.ble 12 then (bif pc.beq 12 then ve_gf 15 1 else ve_no) else (bif pc.ble 15 then (bif pc.beq 15 then ve_cw 59 4 18 [(28, 42)] else ve_no) else (bif pc.beq 18 then ve_rt 0 .int else ve_no))))
set_option maxRecDepth 20000 in
def vt_41 : Nat → ve_M := fun pc => bif pc.ble 7 then (bif pc.ble 3 then (bif pc.ble 0 then (bif pc.beq 0 then ve_gs 3 3 1 else ve_no) else (bif pc.beq 3 then ve_pu (ve_br1 (fun x => decide (x = 0)) 21 6) else ve_no)) else (bif pc.ble 6 then (bif pc.beq 6 then ve_pu (ve_al 7 0) else ve_no) else (bif pc.beq 7 then ve_gf 10 1 else ve_no))) else (bif pc.ble 11 then (bif pc.ble 10 then (bif pc.beq 10 then ve_pu (ve_al 11 1) else ve_no) else (bif pc.beq 11 then ve_cw 59 1 14 [(28, 39)] else ve_no)) else (bif pc.ble 14 then (bif pc.beq 14 then ve_pu (ve_br2 (fun x y => decide (x = y)) 21 17) else ve_no) else (bif pc.beq 21 then ve_rt 0 .int else ve_no)))
set_option maxRecDepth 20000 in
def vt_42 : Nat → ve_M := fun pc => bif pc.ble 13 then (bif pc.ble 5 then (bif pc.ble 1 then (bif pc.ble 0 then (bif pc.beq 0 then ve_pu (ve_al 1 0) else ve_no) else (bif pc.beq 1 then ve_cw 59 1 4 [(28, 39)] else ve_no)) else (bif pc.ble 4 then (bif pc.beq 4 then ve_pu (ve_il 5 3) else ve_no) else (bif pc.beq 5 then ve_pu (ve_br2 (fun x y => decide (¬ x = y)) 28 8) else ve_no))) else (bif pc.ble 9 then (bif pc.ble 8 then (bif pc.beq 8 then ve_pu (ve_al 9 0) else ve_no) else (bif pc.beq 9 then ve_gf 12 0 else ve_no)) else (bif pc.ble 12 then (bif pc.beq 12 then ve_pu (ve_push 13 (.int (0))) else ve_no) else (bif pc.beq 13 then ve_pu (ve_al 14 1) else ve_no)))) else (bif pc.ble 17 then (bif pc.ble 15 then (bif pc.ble 14 then (bif pc.beq 14 then ve_pu (ve_il 15 2) else ve_no) else (bif pc.beq 15 then ve_pu (ve_il 16 3) else ve_no)) else (bif pc.ble 16 then (bif pc.beq 16 then ve_pu (ve_ishl 17) else ve_no) else (bif pc.beq 17 then ve_pu (ve_al 18 0) else ve_no))) else (bif pc.ble 21 then (bif pc.ble 18 then (bif pc.beq 18 then ve_gf 21 0 else ve_no) else (bif pc.beq 21 then ve_len 22 53 else ve_no)) else (bif pc.ble 22 then (bif pc.beq 22 then ve_cpy 25 53 .byte else ve_no) else (bif pc.ble 25 then (bif pc.beq 25 then ve_pu (ve_jmp 43) else ve_no) else (bif pc.beq 43 then ve_rt 0 .int else ve_no)))))
set_option maxRecDepth 20000 in
def vt_43 : Nat → ve_M := fun pc => bif pc.ble 3 then (bif pc.ble 0 then (bif pc.beq 0 then ve_nw 3 28 [.null, .int 0, .int 0, .int 0] else ve_no) else (bif pc.beq 3 then ve_pu (ve_dup 4) else ve_no)) else (bif pc.ble 4 then (bif pc.beq 4 then ve_pu (ve_al 5 0) else ve_no) else (bif pc.ble 5 then (bif pc.beq 5 then ve_cw 59 2 8 [(28, 44)] else ve_no) else (bif pc.beq 8 then ve_rt 3 (.object "java/lang/String") else ve_no)))
set_option maxRecDepth 20000 in
def vt_44 : Nat → ve_M := fun pc => bif pc.ble 1 then (bif pc.ble 0 then (bif pc.beq 0 then ve_pu (ve_al 1 0) else ve_no) else (bif pc.beq 1 then ve_pu (ve_al 2 1) else ve_no)) else (bif pc.ble 2 then (bif pc.beq 2 then ve_pu (ve_push 3 .null) else ve_no) else (bif pc.ble 3 then (bif pc.beq 3 then ve_cw 59 3 6 [(28, 45)] else ve_no) else (bif pc.beq 6 then ve_rt 0 .int else ve_no)))
set_option maxRecDepth 20000 in
def vt_45 : Nat → ve_M := fun pc => bif pc.ble 19 then (bif pc.ble 8 then (bif pc.ble 1 then (bif pc.ble 0 then (bif pc.beq 0 then ve_pu (ve_al 1 0) else ve_no) else (bif pc.beq 1 then ve_pu (ve_oi 4) else ve_no)) else (bif pc.ble 4 then (bif pc.beq 4 then ve_pu (ve_al 5 1) else ve_no) else (bif pc.ble 5 then (bif pc.beq 5 then ve_cw 59 1 8 [(36, 46)] else ve_no) else (bif pc.beq 8 then ve_pu (ve_as 9 3 5) else ve_no)))) else (bif pc.ble 13 then (bif pc.ble 9 then (bif pc.beq 9 then ve_pu (ve_al 10 1) else ve_no) else (bif pc.ble 10 then (bif pc.beq 10 then ve_cw 59 1 13 [(36, 47)] else ve_no) else (bif pc.beq 13 then ve_pu (ve_is 15 4 5) else ve_no))) else (bif pc.ble 15 then (bif pc.beq 15 then ve_pu (ve_al 16 1) else ve_no) else (bif pc.ble 16 then (bif pc.beq 16 then ve_cw 59 1 19 [(36, 34)] else ve_no) else (bif pc.beq 19 then ve_pu (ve_br1 (fun x => decide (x = 0)) 41 22) else ve_no))))) else (bif pc.ble 28 then (bif pc.ble 23 then (bif pc.ble 22 then (bif pc.beq 22 then ve_pu (ve_al 23 0) else ve_no) else (bif pc.beq 23 then ve_pu (ve_push 24 (.int (0))) else ve_no)) else (bif pc.ble 24 then (bif pc.beq 24 then ve_pf 27 1 [28] .byte else ve_no) else (bif pc.ble 27 then (bif pc.beq 27 then ve_pu (ve_al 28 0) else ve_no) else (bif pc.beq 28 then ve_pu (ve_al 29 3) else ve_no)))) else (bif pc.ble 32 then (bif pc.ble 29 then (bif pc.beq 29 then ve_pu (ve_push 30 (.int (0))) else ve_no) else (bif pc.ble 30 then (bif pc.beq 30 then ve_pu (ve_il 32 4) else ve_no) else (bif pc.beq 32 then ve_cl 59 49 3 35 else ve_no))) else (bif pc.ble 35 then (bif pc.beq 35 then ve_pf 38 0 [28] (.array .byte) else ve_no) else (bif pc.ble 38 then (bif pc.beq 38 then ve_pu (ve_jmp 97) else ve_no) else (bif pc.beq 97 then ve_rt 0 .int else ve_no)))))
set_option maxRecDepth 20000 in
def vt_46 : Nat → ve_M := fun pc => bif pc.ble 0 then (bif pc.beq 0 then ve_pu (ve_al 1 0) else ve_no) else (bif pc.ble 1 then (bif pc.beq 1 then ve_gf 4 0 else ve_no) else (bif pc.beq 4 then ve_rt 3 (.array .byte) else ve_no))
set_option maxRecDepth 20000 in
def vt_47 : Nat → ve_M := fun pc => bif pc.ble 0 then (bif pc.beq 0 then ve_pu (ve_al 1 0) else ve_no) else (bif pc.ble 1 then (bif pc.beq 1 then ve_cw 59 1 4 [(36, 48)] else ve_no) else (bif pc.beq 4 then ve_rt 1 .int else ve_no))
set_option maxRecDepth 20000 in
def vt_48 : Nat → ve_M := fun pc => bif pc.ble 0 then (bif pc.beq 0 then ve_pu (ve_al 1 0) else ve_no) else (bif pc.ble 1 then (bif pc.beq 1 then ve_gf 4 3 else ve_no) else (bif pc.beq 4 then ve_rt 1 .int else ve_no))
set_option maxRecDepth 20000 in
def vt_49 : Nat → ve_M := fun pc => bif pc.ble 10 then (bif pc.ble 4 then (bif pc.ble 0 then (bif pc.beq 0 then ve_pu (ve_il 1 1) else ve_no) else (bif pc.ble 1 then (bif pc.beq 1 then ve_pu (ve_br1 (fun x => decide (¬ x = 0)) 10 4) else ve_no) else (bif pc.beq 4 then ve_pu (ve_il 5 2) else ve_no))) else (bif pc.ble 6 then (bif pc.ble 5 then (bif pc.beq 5 then ve_pu (ve_al 6 0) else ve_no) else (bif pc.beq 6 then ve_len 7 53 else ve_no)) else (bif pc.ble 7 then (bif pc.beq 7 then ve_pu (ve_br2 (fun x y => decide (x = y)) 17 10) else ve_no) else (bif pc.beq 10 then ve_pu (ve_al 11 0) else ve_no)))) else (bif pc.ble 16 then (bif pc.ble 12 then (bif pc.ble 11 then (bif pc.beq 11 then ve_pu (ve_il 12 1) else ve_no) else (bif pc.beq 12 then ve_pu (ve_il 13 2) else ve_no)) else (bif pc.ble 13 then (bif pc.beq 13 then ve_cl 59 50 3 16 else ve_no) else (bif pc.beq 16 then ve_rt 3 (.array .byte) else ve_no))) else (bif pc.ble 18 then (bif pc.ble 17 then (bif pc.beq 17 then ve_pu (ve_al 18 0) else ve_no) else (bif pc.beq 18 then ve_cln 21 53 .byte else ve_no)) else (bif pc.ble 21 then (bif pc.beq 21 then ve_cc 24 [53] else ve_no) else (bif pc.beq 24 then ve_rt 3 (.array .byte) else ve_no))))
set_option maxRecDepth 20000 in
def vt_50 : Nat → ve_M := fun pc => bif pc.ble 14 then (bif pc.ble 6 then (bif pc.ble 1 then (bif pc.ble 0 then (bif pc.beq 0 then ve_pu (ve_il 1 1) else ve_no) else (bif pc.beq 1 then ve_pu (ve_il 2 2) else ve_no)) else (bif pc.ble 2 then (bif pc.beq 2 then ve_cl 59 51 2 5 else ve_no) else (bif pc.ble 5 then (bif pc.beq 5 then ve_pu (ve_il 6 2) else ve_no) else (bif pc.beq 6 then ve_pu (ve_il 7 1) else ve_no)))) else (bif pc.ble 9 then (bif pc.ble 7 then (bif pc.beq 7 then ve_pu (ve_isub 8) else ve_no) else (bif pc.ble 8 then (bif pc.beq 8 then ve_pu (ve_is 9 3 5) else ve_no) else (bif pc.beq 9 then ve_pu (ve_il 10 3) else ve_no))) else (bif pc.ble 10 then (bif pc.beq 10 then ve_na 12 53 (.int 0) else ve_no) else (bif pc.ble 12 then (bif pc.beq 12 then ve_pu (ve_as 14 4 5) else ve_no) else (bif pc.beq 14 then ve_pu (ve_al 15 0) else ve_no))))) else (bif pc.ble 21 then (bif pc.ble 18 then (bif pc.ble 15 then (bif pc.beq 15 then ve_pu (ve_il 16 1) else ve_no) else (bif pc.ble 16 then (bif pc.beq 16 then ve_pu (ve_al 18 4) else ve_no) else (bif pc.beq 18 then ve_pu (ve_push 19 (.int (0))) else ve_no))) else (bif pc.ble 19 then (bif pc.beq 19 then ve_pu (ve_al 20 0) else ve_no) else (bif pc.ble 20 then (bif pc.beq 20 then ve_len 21 53 else ve_no) else (bif pc.beq 21 then ve_pu (ve_il 22 1) else ve_no)))) else (bif pc.ble 24 then (bif pc.ble 22 then (bif pc.beq 22 then ve_pu (ve_isub 23) else ve_no) else (bif pc.ble 23 then (bif pc.beq 23 then ve_pu (ve_il 24 3) else ve_no) else (bif pc.beq 24 then ve_cl 59 52 2 27 else ve_no))) else (bif pc.ble 27 then (bif pc.beq 27 then ve_cpy 30 53 .byte else ve_no) else (bif pc.ble 30 then (bif pc.beq 30 then ve_pu (ve_al 32 4) else ve_no) else (bif pc.beq 32 then ve_rt 3 (.array .byte) else ve_no)))))
set_option maxRecDepth 20000 in
def vt_51 : Nat → ve_M := fun pc => bif pc.ble 1 then (bif pc.ble 0 then (bif pc.beq 0 then ve_pu (ve_il 1 1) else ve_no) else (bif pc.beq 1 then ve_pu (ve_il 2 0) else ve_no)) else (bif pc.ble 2 then (bif pc.beq 2 then ve_pu (ve_br2 (fun x y => decide (¬ x < y)) 37 5) else ve_no) else (bif pc.beq 37 then ve_rt 0 .int else ve_no))
set_option maxRecDepth 20000 in
def vt_52 : Nat → ve_M := fun pc => bif pc.ble 2 then (bif pc.ble 0 then (bif pc.beq 0 then ve_pu (ve_il 1 0) else ve_no) else (bif pc.ble 1 then (bif pc.beq 1 then ve_pu (ve_il 2 1) else ve_no) else (bif pc.beq 2 then ve_pu (ve_br2 (fun x y => decide (y < x)) 9 5) else ve_no))) else (bif pc.ble 6 then (bif pc.ble 5 then (bif pc.beq 5 then ve_pu (ve_il 6 0) else ve_no) else (bif pc.beq 6 then ve_pu (ve_jmp 10) else ve_no)) else (bif pc.ble 9 then (bif pc.beq 9 then ve_pu (ve_il 10 1) else ve_no) else (bif pc.beq 10 then ve_rt 1 .int else ve_no)))
set_option maxRecDepth 20000 in
def vt_53 : Nat → ve_M := fun pc => bif pc.ble 4 then (bif pc.ble 0 then (bif pc.beq 0 then ve_pu (ve_al 1 0) else ve_no) else (bif pc.ble 1 then (bif pc.beq 1 then ve_gf 4 2 else ve_no) else (bif pc.beq 4 then ve_pu (ve_il 5 1) else ve_no))) else (bif pc.ble 6 then (bif pc.ble 5 then (bif pc.beq 5 then ve_ald 6 56 else ve_no) else (bif pc.beq 6 then ve_cw 59 1 9 [(11, 30)] else ve_no)) else (bif pc.ble 9 then (bif pc.beq 9 then ve_cw 59 1 12 [(28, 38)] else ve_no) else (bif pc.beq 12 then ve_rt 1 .int else ve_no)))
set_option maxRecDepth 20000 in
def vt_54 : Nat → ve_M := fun pc => bif pc.ble 19 then (bif pc.ble 8 then (bif pc.ble 4 then (bif pc.ble 0 then (bif pc.beq 0 then ve_pu (ve_al 1 0) else ve_no) else (bif pc.ble 1 then (bif pc.beq 1 then ve_gf 4 0 else ve_no) else (bif pc.beq 4 then ve_len 5 53 else ve_no))) else (bif pc.ble 6 then (bif pc.ble 5 then (bif pc.beq 5 then ve_pu (ve_is 6 2 6) else ve_no) else (bif pc.beq 6 then ve_pu (ve_il 7 1) else ve_no)) else (bif pc.ble 7 then (bif pc.beq 7 then ve_pu (ve_al 8 0) else ve_no) else (bif pc.beq 8 then ve_gf 11 1 else ve_no)))) else (bif pc.ble 14 then (bif pc.ble 12 then (bif pc.ble 11 then (bif pc.beq 11 then ve_pu (ve_ishl 12) else ve_no) else (bif pc.beq 12 then ve_pu (ve_is 13 3 6) else ve_no)) else (bif pc.ble 13 then (bif pc.beq 13 then ve_pu (ve_il 14 3) else ve_no) else (bif pc.beq 14 then ve_pu (ve_il 15 2) else ve_no))) else (bif pc.ble 16 then (bif pc.ble 15 then (bif pc.beq 15 then ve_pu (ve_isub 16) else ve_no) else (bif pc.beq 16 then ve_pu (ve_is 18 4 6) else ve_no)) else (bif pc.ble 18 then (bif pc.beq 18 then ve_pu (ve_il 19 2) else ve_no) else (bif pc.beq 19 then ve_pu (ve_il 21 4) else ve_no))))) else (bif pc.ble 32 then (bif pc.ble 24 then (bif pc.ble 22 then (bif pc.ble 21 then (bif pc.beq 21 then ve_pu (ve_il 22 2) else ve_no) else (bif pc.beq 22 then ve_pu (ve_push 23 (.int (2))) else ve_no)) else (bif pc.ble 23 then (bif pc.beq 23 then ve_pu (ve_al 24 0) else ve_no) else (bif pc.beq 24 then ve_gf 27 1 else ve_no))) else (bif pc.ble 28 then (bif pc.ble 27 then (bif pc.beq 27 then ve_pu (ve_ishl 28) else ve_no) else (bif pc.beq 28 then ve_pu (ve_iadd 29) else ve_no)) else (bif pc.ble 29 then (bif pc.beq 29 then ve_cl 59 55 3 32 else ve_no) else (bif pc.beq 32 then ve_pu (ve_is 34 5 6) else ve_no)))) else (bif pc.ble 51 then (bif pc.ble 36 then (bif pc.ble 34 then (bif pc.beq 34 then ve_pu (ve_il 36 5) else ve_no) else (bif pc.beq 36 then ve_pu (ve_push 38 (.int (2147483647))) else ve_no)) else (bif pc.ble 38 then (bif pc.beq 38 then ve_pu (ve_br2 (fun x y => decide (¬ x = y)) 51 41) else ve_no) else (bif pc.beq 51 then ve_pu (ve_il 53 5) else ve_no))) else (bif pc.ble 54 then (bif pc.ble 53 then (bif pc.beq 53 then ve_pu (ve_al 54 0) else ve_no) else (bif pc.beq 54 then ve_gf 57 1 else ve_no)) else (bif pc.ble 57 then (bif pc.beq 57 then ve_pu (ve_ishr 58) else ve_no) else (bif pc.beq 58 then ve_rt 1 .int else ve_no)))))
set_option maxRecDepth 20000 in
def vt_55 : Nat → ve_M := fun pc => bif pc.ble 8 then (bif pc.ble 2 then (bif pc.ble 0 then (bif pc.beq 0 then ve_pu (ve_il 1 0) else ve_no) else (bif pc.ble 1 then (bif pc.beq 1 then ve_pu (ve_il 2 1) else ve_no) else (bif pc.beq 2 then ve_pu (ve_il 3 2) else ve_no))) else (bif pc.ble 6 then (bif pc.ble 3 then (bif pc.beq 3 then ve_cl 59 15 2 6 else ve_no) else (bif pc.beq 6 then ve_pu (ve_iadd 7) else ve_no)) else (bif pc.ble 7 then (bif pc.beq 7 then ve_pu (ve_is 8 3 4) else ve_no) else (bif pc.beq 8 then ve_pu (ve_push 9 (.int (0))) else ve_no)))) else (bif pc.ble 13 then (bif pc.ble 9 then (bif pc.beq 9 then ve_pu (ve_il 10 3) else ve_no) else (bif pc.ble 10 then (bif pc.beq 10 then ve_pu (ve_br2 (fun x y => decide (¬ x < y)) 21 13) else ve_no) else (bif pc.beq 13 then ve_pu (ve_il 14 3) else ve_no))) else (bif pc.ble 16 then (bif pc.ble 14 then (bif pc.beq 14 then ve_pu (ve_push 16 (.int (2147483639))) else ve_no) else (bif pc.beq 16 then ve_pu (ve_br2 (fun x y => decide (y < x)) 21 19) else ve_no)) else (bif pc.ble 19 then (bif pc.beq 19 then ve_pu (ve_il 20 3) else ve_no) else (bif pc.beq 20 then ve_rt 1 .int else ve_no))))
set_option maxRecDepth 20000 in
def vt_56 : Nat → ve_M := fun pc => bif pc.ble 19 then (bif pc.ble 3 then (bif pc.ble 1 then (bif pc.ble 0 then (bif pc.beq 0 then ve_pu (ve_il 1 1) else ve_no) else (bif pc.beq 1 then ve_pu (ve_al 2 0) else ve_no)) else (bif pc.ble 2 then (bif pc.beq 2 then ve_len 3 53 else ve_no) else (bif pc.beq 3 then ve_pu (ve_br2 (fun x y => decide (¬ x = y)) 14 6) else ve_no))) else (bif pc.ble 15 then (bif pc.ble 14 then (bif pc.beq 14 then ve_pu (ve_il 15 1) else ve_no) else (bif pc.beq 15 then ve_na 17 53 (.int 0) else ve_no)) else (bif pc.ble 17 then (bif pc.beq 17 then ve_pu (ve_as 18 2 3) else ve_no) else (bif pc.ble 18 then (bif pc.beq 18 then ve_pu (ve_al 19 0) else ve_no) else (bif pc.beq 19 then ve_pu (ve_push 20 (.int (0))) else ve_no))))) else (bif pc.ble 23 then (bif pc.ble 21 then (bif pc.ble 20 then (bif pc.beq 20 then ve_pu (ve_al 21 2) else ve_no) else (bif pc.beq 21 then ve_pu (ve_push 22 (.int (0))) else ve_no)) else (bif pc.ble 22 then (bif pc.beq 22 then ve_pu (ve_al 23 0) else ve_no) else (bif pc.beq 23 then ve_len 24 53 else ve_no))) else (bif pc.ble 25 then (bif pc.ble 24 then (bif pc.beq 24 then ve_pu (ve_il 25 1) else ve_no) else (bif pc.beq 25 then ve_cl 59 52 2 28 else ve_no)) else (bif pc.ble 28 then (bif pc.beq 28 then ve_cpy 31 53 .byte else ve_no) else (bif pc.ble 31 then (bif pc.beq 31 then ve_pu (ve_al 32 2) else ve_no) else (bif pc.beq 32 then ve_rt 3 (.array .byte) else ve_no)))))
set_option maxRecDepth 20000 in
def vt_57 : Nat → ve_M := fun pc => bif pc.ble 45 then (bif pc.ble 22 then (bif pc.ble 9 then (bif pc.ble 4 then (bif pc.ble 0 then (bif pc.beq 0 then ve_pu (ve_push 3 (.long (7773))) else ve_no) else (bif pc.ble 3 then (bif pc.beq 3 then ve_pu (ve_ls 4 1 4) else ve_no) else (bif pc.beq 4 then ve_pu (ve_push 5 (.int (0))) else ve_no))) else (bif pc.ble 6 then (bif pc.ble 5 then (bif pc.beq 5 then ve_pu (ve_is 6 3 4) else ve_no) else (bif pc.beq 6 then ve_pu (ve_il 7 3) else ve_no)) else (bif pc.ble 7 then (bif pc.beq 7 then ve_pu (ve_push 9 (.int (6))) else ve_no) else (bif pc.beq 9 then ve_pu (ve_br2 (fun x y => decide (¬ x < y)) 31 12) else ve_no)))) else (bif pc.ble 16 then (bif pc.ble 12 then (bif pc.beq 12 then ve_pu (ve_ll 13 1) else ve_no) else (bif pc.ble 13 then (bif pc.beq 13 then ve_pu (ve_push 16 (.long (31))) else ve_no) else (bif pc.beq 16 then ve_pu (ve_lmul 17) else ve_no))) else (bif pc.ble 18 then (bif pc.ble 17 then (bif pc.beq 17 then ve_pu (ve_al 18 0) else ve_no) else (bif pc.beq 18 then ve_pu (ve_il 19 3) else ve_no)) else (bif pc.ble 19 then (bif pc.beq 19 then ve_cw 59 2 22 [(2, 58)] else ve_no) else (bif pc.beq 22 then ve_pu (ve_i2l 23) else ve_no))))) else (bif pc.ble 33 then (bif pc.ble 25 then (bif pc.ble 23 then (bif pc.beq 23 then ve_pu (ve_ladd 24) else ve_no) else (bif pc.ble 24 then (bif pc.beq 24 then ve_pu (ve_ls 25 1 4) else ve_no) else (bif pc.beq 25 then ve_pu (ve_ii 28 3 4 (1)) else ve_no))) else (bif pc.ble 31 then (bif pc.ble 28 then (bif pc.beq 28 then ve_pu (ve_jmp 6) else ve_no) else (bif pc.beq 31 then ve_pu (ve_push 32 (.int (0))) else ve_no)) else (bif pc.ble 32 then (bif pc.beq 32 then ve_pu (ve_is 33 3 4) else ve_no) else (bif pc.beq 33 then ve_pu (ve_il 34 3) else ve_no)))) else (bif pc.ble 39 then (bif pc.ble 35 then (bif pc.ble 34 then (bif pc.beq 34 then ve_pu (ve_push 35 (.int (2))) else ve_no) else (bif pc.beq 35 then ve_pu (ve_br2 (fun x y => decide (¬ x < y)) 56 38) else ve_no)) else (bif pc.ble 38 then (bif pc.beq 38 then ve_pu (ve_al 39 0) else ve_no) else (bif pc.beq 39 then ve_pu (ve_ll 40 1) else ve_no))) else (bif pc.ble 41 then (bif pc.ble 40 then (bif pc.beq 40 then ve_pu (ve_al 41 0) else ve_no) else (bif pc.beq 41 then ve_gf 44 0 else ve_no)) else (bif pc.ble 44 then (bif pc.beq 44 then ve_pu (ve_il 45 3) else ve_no) else (bif pc.beq 45 then ve_ald 46 54 else ve_no)))))) else (bif pc.ble 71 then (bif pc.ble 58 then (bif pc.ble 50 then (bif pc.ble 46 then (bif pc.beq 46 then ve_cw 59 3 49 [(2, 62)] else ve_no) else (bif pc.ble 49 then (bif pc.beq 49 then ve_pu (ve_ls 50 1 4) else ve_no) else (bif pc.beq 50 then ve_pu (ve_ii 53 3 4 (1)) else ve_no))) else (bif pc.ble 56 then (bif pc.ble 53 then (bif pc.beq 53 then ve_pu (ve_jmp 33) else ve_no) else (bif pc.beq 56 then ve_pu (ve_push 57 (.int (0))) else ve_no)) else (bif pc.ble 57 then (bif pc.beq 57 then ve_pu (ve_is 58 3 4) else ve_no) else (bif pc.beq 58 then ve_pu (ve_il 59 3) else ve_no)))) else (bif pc.ble 65 then (bif pc.ble 61 then (bif pc.ble 59 then (bif pc.beq 59 then ve_pu (ve_push 61 (.int (10))) else ve_no) else (bif pc.beq 61 then ve_pu (ve_br2 (fun x y => decide (¬ x < y)) 82 64) else ve_no)) else (bif pc.ble 64 then (bif pc.beq 64 then ve_pu (ve_al 65 0) else ve_no) else (bif pc.beq 65 then ve_pu (ve_ll 66 1) else ve_no))) else (bif pc.ble 67 then (bif pc.ble 66 then (bif pc.beq 66 then ve_pu (ve_al 67 0) else ve_no) else (bif pc.beq 67 then ve_gf 70 1 else ve_no)) else (bif pc.ble 70 then (bif pc.beq 70 then ve_pu (ve_il 71 3) else ve_no) else (bif pc.beq 71 then ve_ald 72 55 else ve_no))))) else (bif pc.ble 86 then (bif pc.ble 76 then (bif pc.ble 72 then (bif pc.beq 72 then ve_cw 59 3 75 [(2, 73)] else ve_no) else (bif pc.ble 75 then (bif pc.beq 75 then ve_pu (ve_ls 76 1 4) else ve_no) else (bif pc.beq 76 then ve_pu (ve_ii 79 3 4 (1)) else ve_no))) else (bif pc.ble 82 then (bif pc.ble 79 then (bif pc.beq 79 then ve_pu (ve_jmp 58) else ve_no) else (bif pc.beq 82 then ve_pu (ve_ll 83 1) else ve_no)) else (bif pc.ble 83 then (bif pc.beq 83 then ve_pu (ve_push 86 (.long (31))) else ve_no) else (bif pc.beq 86 then ve_pu (ve_lmul 87) else ve_no)))) else (bif pc.ble 94 then (bif pc.ble 88 then (bif pc.ble 87 then (bif pc.beq 87 then ve_pu (ve_al 88 0) else ve_no) else (bif pc.beq 88 then ve_cw 59 1 91 [(2, 83)] else ve_no)) else (bif pc.ble 91 then (bif pc.beq 91 then ve_pu (ve_br1 (fun x => decide (x = 0)) 98 94) else ve_no) else (bif pc.beq 94 then ve_pu (ve_push 95 (.int (1))) else ve_no))) else (bif pc.ble 99 then (bif pc.ble 95 then (bif pc.beq 95 then ve_pu (ve_jmp 99) else ve_no) else (bif pc.beq 99 then ve_pu (ve_i2l 100) else ve_no)) else (bif pc.ble 100 then (bif pc.beq 100 then ve_pu (ve_ladd 101) else ve_no) else (bif pc.beq 101 then ve_rt 2 .long else ve_no))))))
set_option maxRecDepth 20000 in
def vt_58 : Nat → ve_M := fun pc => bif pc.ble 62 then (bif pc.ble 46 then (bif pc.ble 37 then (bif pc.ble 1 then (bif pc.ble 0 then (bif pc.beq 0 then ve_pu (ve_il 1 1) else ve_no) else (bif pc.beq 1 then ve_pu (ve_tsw (0) (4) [36, 56, 61, 66, 71] 76) else ve_no)) else (bif pc.ble 36 then (bif pc.beq 36 then ve_pu (ve_al 37 0) else ve_no) else (bif pc.beq 37 then ve_gf 40 0 else ve_no))) else (bif pc.ble 41 then (bif pc.ble 40 then (bif pc.beq 40 then ve_pu (ve_push 41 (.int (0))) else ve_no) else (bif pc.beq 41 then ve_ald 42 54 else ve_no)) else (bif pc.ble 42 then (bif pc.beq 42 then ve_gf 45 1 else ve_no) else (bif pc.ble 45 then (bif pc.beq 45 then ve_pu (ve_al 46 0) else ve_no) else (bif pc.beq 46 then ve_gf 49 0 else ve_no))))) else (bif pc.ble 55 then (bif pc.ble 50 then (bif pc.ble 49 then (bif pc.beq 49 then ve_pu (ve_push 50 (.int (1))) else ve_no) else (bif pc.beq 50 then ve_ald 51 54 else ve_no)) else (bif pc.ble 51 then (bif pc.beq 51 then ve_gf 54 1 else ve_no) else (bif pc.ble 54 then (bif pc.beq 54 then ve_pu (ve_iadd 55) else ve_no) else (bif pc.beq 55 then ve_rt 1 .int else ve_no)))) else (bif pc.ble 57 then (bif pc.ble 56 then (bif pc.beq 56 then ve_pu (ve_al 57 0) else ve_no) else (bif pc.beq 57 then ve_gf 60 6 else ve_no)) else (bif pc.ble 60 then (bif pc.beq 60 then ve_rt 1 .int else ve_no) else (bif pc.ble 61 then (bif pc.beq 61 then ve_pu (ve_al 62 0) else ve_no) else (bif pc.beq 62 then ve_cw 59 1 65 [(2, 59)] else ve_no)))))) else (bif pc.ble 77 then (bif pc.ble 70 then (bif pc.ble 66 then (bif pc.ble 65 then (bif pc.beq 65 then ve_rt 1 .int else ve_no) else (bif pc.beq 66 then ve_pu (ve_al 67 0) else ve_no)) else (bif pc.ble 67 then (bif pc.beq 67 then ve_gf 70 7 else ve_no) else (bif pc.beq 70 then ve_rt 1 .int else ve_no))) else (bif pc.ble 72 then (bif pc.ble 71 then (bif pc.beq 71 then ve_pu (ve_al 72 0) else ve_no) else (bif pc.beq 72 then ve_gf 75 8 else ve_no)) else (bif pc.ble 75 then (bif pc.beq 75 then ve_rt 1 .int else ve_no) else (bif pc.ble 76 then (bif pc.beq 76 then ve_pu (ve_al 77 0) else ve_no) else (bif pc.beq 77 then ve_gf 80 0 else ve_no))))) else (bif pc.ble 86 then (bif pc.ble 81 then (bif pc.ble 80 then (bif pc.beq 80 then ve_pu (ve_push 81 (.int (0))) else ve_no) else (bif pc.beq 81 then ve_ald 82 54 else ve_no)) else (bif pc.ble 82 then (bif pc.beq 82 then ve_cw 59 1 85 [(3, 60)] else ve_no) else (bif pc.ble 85 then (bif pc.beq 85 then ve_pu (ve_al 86 0) else ve_no) else (bif pc.beq 86 then ve_gf 89 0 else ve_no)))) else (bif pc.ble 90 then (bif pc.ble 89 then (bif pc.beq 89 then ve_pu (ve_push 90 (.int (1))) else ve_no) else (bif pc.beq 90 then ve_ald 91 54 else ve_no)) else (bif pc.ble 91 then (bif pc.beq 91 then ve_cw 59 1 94 [(3, 60)] else ve_no) else (bif pc.ble 94 then (bif pc.beq 94 then ve_pu (ve_iadd 95) else ve_no) else (bif pc.beq 95 then ve_rt 1 .int else ve_no))))))
set_option maxRecDepth 20000 in
def vt_59 : Nat → ve_M := fun pc => bif pc.ble 10 then (bif pc.ble 3 then (bif pc.ble 1 then (bif pc.ble 0 then (bif pc.beq 0 then ve_pu (ve_push 1 (.int (0))) else ve_no) else (bif pc.beq 1 then ve_pu (ve_is 2 1 3) else ve_no)) else (bif pc.ble 2 then (bif pc.beq 2 then ve_pu (ve_push 3 (.int (0))) else ve_no) else (bif pc.beq 3 then ve_pu (ve_is 4 2 3) else ve_no))) else (bif pc.ble 5 then (bif pc.ble 4 then (bif pc.beq 4 then ve_pu (ve_il 5 2) else ve_no) else (bif pc.beq 5 then ve_pu (ve_push 7 (.int (10))) else ve_no)) else (bif pc.ble 7 then (bif pc.beq 7 then ve_pu (ve_br2 (fun x y => decide (¬ x < y)) 31 10) else ve_no) else (bif pc.beq 10 then ve_pu (ve_al 11 0) else ve_no)))) else (bif pc.ble 16 then (bif pc.ble 14 then (bif pc.ble 11 then (bif pc.beq 11 then ve_gf 14 1 else ve_no) else (bif pc.beq 14 then ve_pu (ve_il 15 2) else ve_no)) else (bif pc.ble 15 then (bif pc.beq 15 then ve_ald 16 55 else ve_no) else (bif pc.beq 16 then ve_gf 19 1 else ve_no))) else (bif pc.ble 25 then (bif pc.ble 19 then (bif pc.beq 19 then ve_pu (ve_br1 (fun x => decide (x = 0)) 25 22) else ve_no) else (bif pc.beq 25 then ve_pu (ve_ii 28 2 3 (1)) else ve_no)) else (bif pc.ble 28 then (bif pc.beq 28 then ve_pu (ve_jmp 4) else ve_no) else (bif pc.ble 31 then (bif pc.beq 31 then ve_pu (ve_il 32 1) else ve_no) else (bif pc.beq 32 then ve_rt 1 .int else ve_no)))))
set_option maxRecDepth 20000 in
def vt_60 : Nat → ve_M := fun pc => bif pc.ble 1 then (bif pc.ble 0 then (bif pc.beq 0 then ve_pu (ve_al 1 0) else ve_no) else (bif pc.beq 1 then ve_pu (ve_push 2 (.int (-1))) else ve_no)) else (bif pc.ble 2 then (bif pc.beq 2 then ve_cw 59 2 5 [(3, 61)] else ve_no) else (bif pc.beq 5 then ve_rt 1 .int else ve_no))
set_option maxRecDepth 20000 in
def vt_61 : Nat → ve_M := fun pc => bif pc.ble 4 then (bif pc.ble 1 then (bif pc.ble 0 then (bif pc.beq 0 then ve_pu (ve_push 1 (.int (0))) else ve_no) else (bif pc.beq 1 then ve_pu (ve_is 2 2 4) else ve_no)) else (bif pc.ble 2 then (bif pc.beq 2 then ve_pu (ve_push 3 (.int (0))) else ve_no) else (bif pc.ble 3 then (bif pc.beq 3 then ve_pu (ve_is 4 3 4) else ve_no) else (bif pc.beq 4 then ve_pu (ve_il 5 3) else ve_no)))) else (bif pc.ble 6 then (bif pc.ble 5 then (bif pc.beq 5 then ve_pu (ve_al 6 0) else ve_no) else (bif pc.beq 6 then ve_gf 9 1 else ve_no)) else (bif pc.ble 9 then (bif pc.beq 9 then ve_pu (ve_br2 (fun x y => decide (¬ x < y)) 40 12) else ve_no) else (bif pc.ble 40 then (bif pc.beq 40 then ve_pu (ve_il 41 2) else ve_no) else (bif pc.beq 41 then ve_rt 1 .int else ve_no))))
set_option maxRecDepth 20000 in
def vt_62 : Nat → ve_M := fun pc => bif pc.ble 61 then (bif pc.ble 27 then (bif pc.ble 13 then (bif pc.ble 5 then (bif pc.ble 1 then (bif pc.ble 0 then (bif pc.beq 0 then ve_pu (ve_al 1 0) else ve_no) else (bif pc.beq 1 then ve_gf 4 5 else ve_no)) else (bif pc.ble 4 then (bif pc.beq 4 then ve_pu (ve_push 5 (.int (0))) else ve_no) else (bif pc.beq 5 then ve_cw 59 2 8 [(36, 63)] else ve_no))) else (bif pc.ble 9 then (bif pc.ble 8 then (bif pc.beq 8 then ve_pu (ve_al 9 0) else ve_no) else (bif pc.beq 9 then ve_pu (ve_al 10 3) else ve_no)) else (bif pc.ble 10 then (bif pc.beq 10 then ve_cw 59 2 13 [(2, 65)] else ve_no) else (bif pc.beq 13 then ve_pu (ve_al 14 0) else ve_no)))) else (bif pc.ble 20 then (bif pc.ble 15 then (bif pc.ble 14 then (bif pc.beq 14 then ve_pu (ve_ll 15 1) else ve_no) else (bif pc.beq 15 then ve_cw 59 2 18 [(2, 66)] else ve_no)) else (bif pc.ble 18 then (bif pc.beq 18 then ve_pu (ve_ls 20 4 8) else ve_no) else (bif pc.beq 20 then ve_pu (ve_push 21 (.int (0))) else ve_no))) else (bif pc.ble 23 then (bif pc.ble 21 then (bif pc.beq 21 then ve_pu (ve_is 23 6 8) else ve_no) else (bif pc.beq 23 then ve_pu (ve_il 25 6) else ve_no)) else (bif pc.ble 25 then (bif pc.beq 25 then ve_pu (ve_push 27 (.int (10))) else ve_no) else (bif pc.beq 27 then ve_pu (ve_br2 (fun x y => decide (¬ x < y)) 119 30) else ve_no))))) else (bif pc.ble 44 then (bif pc.ble 36 then (bif pc.ble 31 then (bif pc.ble 30 then (bif pc.beq 30 then ve_pu (ve_al 31 0) else ve_no) else (bif pc.beq 31 then ve_gf 34 1 else ve_no)) else (bif pc.ble 34 then (bif pc.beq 34 then ve_pu (ve_il 36 6) else ve_no) else (bif pc.beq 36 then ve_ald 37 55 else ve_no))) else (bif pc.ble 39 then (bif pc.ble 37 then (bif pc.beq 37 then ve_pu (ve_as 39 7 8) else ve_no) else (bif pc.beq 39 then ve_pu (ve_ll 41 4) else ve_no)) else (bif pc.ble 41 then (bif pc.beq 41 then ve_pu (ve_push 44 (.long (31))) else ve_no) else (bif pc.beq 44 then ve_pu (ve_lmul 45) else ve_no)))) else (bif pc.ble 51 then (bif pc.ble 46 then (bif pc.ble 45 then (bif pc.beq 45 then ve_pu (ve_al 46 3) else ve_no) else (bif pc.beq 46 then ve_pu (ve_al 48 7) else ve_no)) else (bif pc.ble 48 then (bif pc.beq 48 then ve_cl 59 67 2 51 else ve_no) else (bif pc.beq 51 then ve_pu (ve_br1 (fun x => decide (x = 0)) 58 54) else ve_no))) else (bif pc.ble 55 then (bif pc.ble 54 then (bif pc.beq 54 then ve_pu (ve_push 55 (.int (1))) else ve_no) else (bif pc.beq 55 then ve_pu (ve_jmp 59) else ve_no)) else (bif pc.ble 59 then (bif pc.beq 59 then ve_pu (ve_i2l 60) else ve_no) else (bif pc.ble 60 then (bif pc.beq 60 then ve_pu (ve_ladd 61) else ve_no) else (bif pc.beq 61 then ve_pu (ve_ls 63 4 8) else ve_no))))))) else (bif pc.ble 89 then (bif pc.ble 76 then (bif pc.ble 69 then (bif pc.ble 65 then (bif pc.ble 63 then (bif pc.beq 63 then ve_pu (ve_ll 65 4) else ve_no) else (bif pc.beq 65 then ve_pu (ve_push 68 (.long (31))) else ve_no)) else (bif pc.ble 68 then (bif pc.beq 68 then ve_pu (ve_lmul 69) else ve_no) else (bif pc.beq 69 then ve_pu (ve_al 70 3) else ve_no))) else (bif pc.ble 72 then (bif pc.ble 70 then (bif pc.beq 70 then ve_pu (ve_al 72 7) else ve_no) else (bif pc.beq 72 then ve_cl 59 70 2 75 else ve_no)) else (bif pc.ble 75 then (bif pc.beq 75 then ve_pu (ve_i2l 76) else ve_no) else (bif pc.beq 76 then ve_pu (ve_ladd 77) else ve_no)))) else (bif pc.ble 84 then (bif pc.ble 79 then (bif pc.ble 77 then (bif pc.beq 77 then ve_pu (ve_ls 79 4 8) else ve_no) else (bif pc.beq 79 then ve_pu (ve_ll 81 4) else ve_no)) else (bif pc.ble 81 then (bif pc.beq 81 then ve_pu (ve_push 84 (.long (31))) else ve_no) else (bif pc.beq 84 then ve_pu (ve_lmul 85) else ve_no))) else (bif pc.ble 86 then (bif pc.ble 85 then (bif pc.beq 85 then ve_pu (ve_al 86 3) else ve_no) else (bif pc.beq 86 then ve_pu (ve_al 88 7) else ve_no)) else (bif pc.ble 88 then (bif pc.beq 88 then ve_pu (ve_push 89 (.int (-1))) else ve_no) else (bif pc.beq 89 then ve_cl 59 72 3 92 else ve_no))))) else (bif pc.ble 103 then (bif pc.ble 96 then (bif pc.ble 93 then (bif pc.ble 92 then (bif pc.beq 92 then ve_pu (ve_i2l 93) else ve_no) else (bif pc.beq 93 then ve_pu (ve_ladd 94) else ve_no)) else (bif pc.ble 94 then (bif pc.beq 94 then ve_pu (ve_ls 96 4 8) else ve_no) else (bif pc.beq 96 then ve_pu (ve_ll 98 4) else ve_no))) else (bif pc.ble 101 then (bif pc.ble 98 then (bif pc.beq 98 then ve_pu (ve_push 101 (.long (31))) else ve_no) else (bif pc.beq 101 then ve_pu (ve_lmul 102) else ve_no)) else (bif pc.ble 102 then (bif pc.beq 102 then ve_pu (ve_al 103 3) else ve_no) else (bif pc.beq 103 then ve_pu (ve_al 105 7) else ve_no)))) else (bif pc.ble 110 then (bif pc.ble 106 then (bif pc.ble 105 then (bif pc.beq 105 then ve_pu (ve_push 106 (.int (1))) else ve_no) else (bif pc.beq 106 then ve_cl 59 72 3 109 else ve_no)) else (bif pc.ble 109 then (bif pc.beq 109 then ve_pu (ve_i2l 110) else ve_no) else (bif pc.beq 110 then ve_pu (ve_ladd 111) else ve_no))) else (bif pc.ble 113 then (bif pc.ble 111 then (bif pc.beq 111 then ve_pu (ve_ls 113 4 8) else ve_no) else (bif pc.beq 113 then ve_pu (ve_ii 116 6 8 (1)) else ve_no)) else (bif pc.ble 116 then (bif pc.beq 116 then ve_pu (ve_jmp 23) else ve_no) else (bif pc.ble 119 then (bif pc.beq 119 then ve_pu (ve_ll 121 4) else ve_no) else (bif pc.beq 121 then ve_rt 2 .long else ve_no)))))))
set_option maxRecDepth 20000 in
def vt_63 : Nat → ve_M := fun pc => bif pc.ble 1 then (bif pc.ble 0 then (bif pc.beq 0 then ve_pu (ve_al 1 0) else ve_no) else (bif pc.beq 1 then ve_pu (ve_il 2 1) else ve_no)) else (bif pc.ble 2 then (bif pc.beq 2 then ve_cw 59 2 5 [(36, 64)] else ve_no) else (bif pc.beq 5 then ve_rt 0 .int else ve_no))
set_option maxRecDepth 20000 in
def vt_64 : Nat → ve_M := fun pc => bif pc.ble 63 then (bif pc.ble 15 then (bif pc.ble 1 then (bif pc.ble 0 then (bif pc.beq 0 then ve_pu (ve_il 1 1) else ve_no) else (bif pc.beq 1 then ve_pu (ve_br1 (fun x => decide (¬ x < 0)) 13 4) else ve_no)) else (bif pc.ble 13 then (bif pc.beq 13 then ve_pu (ve_al 14 0) else ve_no) else (bif pc.ble 14 then (bif pc.beq 14 then ve_pu (ve_il 15 1) else ve_no) else (bif pc.beq 15 then ve_cw 59 2 18 [(36, 33)] else ve_no)))) else (bif pc.ble 19 then (bif pc.ble 18 then (bif pc.beq 18 then ve_pu (ve_al 19 0) else ve_no) else (bif pc.beq 19 then ve_gf 22 3 else ve_no)) else (bif pc.ble 22 then (bif pc.beq 22 then ve_pu (ve_il 23 1) else ve_no) else (bif pc.ble 23 then (bif pc.beq 23 then ve_pu (ve_br2 (fun x y => decide (¬ x < y)) 63 26) else ve_no) else (bif pc.beq 63 then ve_pu (ve_al 64 0) else ve_no))))) else (bif pc.ble 72 then (bif pc.ble 67 then (bif pc.ble 64 then (bif pc.beq 64 then ve_gf 67 3 else ve_no) else (bif pc.beq 67 then ve_pu (ve_il 68 1) else ve_no)) else (bif pc.ble 68 then (bif pc.beq 68 then ve_pu (ve_br2 (fun x y => decide (¬ y < x)) 76 71) else ve_no) else (bif pc.ble 71 then (bif pc.beq 71 then ve_pu (ve_al 72 0) else ve_no) else (bif pc.beq 72 then ve_pu (ve_push 73 (.int (1))) else ve_no)))) else (bif pc.ble 76 then (bif pc.ble 73 then (bif pc.beq 73 then ve_pf 76 2 [36] .boolean else ve_no) else (bif pc.beq 76 then ve_pu (ve_al 77 0) else ve_no)) else (bif pc.ble 77 then (bif pc.beq 77 then ve_pu (ve_il 78 1) else ve_no) else (bif pc.ble 78 then (bif pc.beq 78 then ve_pf 81 3 [36] .int else ve_no) else (bif pc.beq 81 then ve_rt 0 .int else ve_no)))))
set_option maxRecDepth 20000 in
def vt_65 : Nat → ve_M := fun pc => bif pc.ble 2 then (bif pc.ble 0 then (bif pc.beq 0 then ve_pu (ve_push 1 (.int (0))) else ve_no) else (bif pc.ble 1 then (bif pc.beq 1 then ve_pu (ve_is 2 2 3) else ve_no) else (bif pc.beq 2 then ve_pu (ve_il 3 2) else ve_no))) else (bif pc.ble 4 then (bif pc.ble 3 then (bif pc.beq 3 then ve_pu (ve_al 4 1) else ve_no) else (bif pc.beq 4 then ve_gf 7 1 else ve_no)) else (bif pc.ble 7 then (bif pc.beq 7 then ve_pu (ve_br2 (fun x y => decide (¬ x < y)) 39 10) else ve_no) else (bif pc.beq 39 then ve_rt 0 .int else ve_no)))
set_option maxRecDepth 20000 in
def vt_66 : Nat → ve_M := fun pc => bif pc.ble 18 then (bif pc.ble 5 then (bif pc.ble 1 then (bif pc.ble 0 then (bif pc.beq 0 then ve_pu (ve_ll 1 1) else ve_no) else (bif pc.beq 1 then ve_pu (ve_ls 2 3 6) else ve_no)) else (bif pc.ble 2 then (bif pc.beq 2 then ve_pu (ve_push 3 (.int (0))) else ve_no) else (bif pc.ble 3 then (bif pc.beq 3 then ve_pu (ve_is 5 5 6) else ve_no) else (bif pc.beq 5 then ve_pu (ve_il 7 5) else ve_no)))) else (bif pc.ble 11 then (bif pc.ble 7 then (bif pc.beq 7 then ve_pu (ve_al 8 0) else ve_no) else (bif pc.ble 8 then (bif pc.beq 8 then ve_gf 11 5 else ve_no) else (bif pc.beq 11 then ve_cw 59 1 14 [(36, 47)] else ve_no))) else (bif pc.ble 14 then (bif pc.beq 14 then ve_pu (ve_br2 (fun x y => decide (¬ x < y)) 40 17) else ve_no) else (bif pc.ble 17 then (bif pc.beq 17 then ve_pu (ve_ll 18 3) else ve_no) else (bif pc.beq 18 then ve_pu (ve_push 21 (.long (31))) else ve_no))))) else (bif pc.ble 31 then (bif pc.ble 23 then (bif pc.ble 21 then (bif pc.beq 21 then ve_pu (ve_lmul 22) else ve_no) else (bif pc.ble 22 then (bif pc.beq 22 then ve_pu (ve_al 23 0) else ve_no) else (bif pc.beq 23 then ve_gf 26 5 else ve_no))) else (bif pc.ble 26 then (bif pc.beq 26 then ve_pu (ve_il 28 5) else ve_no) else (bif pc.ble 28 then (bif pc.beq 28 then ve_cw 59 2 31 [(36, 81)] else ve_no) else (bif pc.beq 31 then ve_pu (ve_i2l 32) else ve_no)))) else (bif pc.ble 34 then (bif pc.ble 32 then (bif pc.beq 32 then ve_pu (ve_ladd 33) else ve_no) else (bif pc.ble 33 then (bif pc.beq 33 then ve_pu (ve_ls 34 3 6) else ve_no) else (bif pc.beq 34 then ve_pu (ve_ii 37 5 6 (1)) else ve_no))) else (bif pc.ble 37 then (bif pc.beq 37 then ve_pu (ve_jmp 5) else ve_no) else (bif pc.ble 40 then (bif pc.beq 40 then ve_pu (ve_ll 41 3) else ve_no) else (bif pc.beq 41 then ve_rt 2 .long else ve_no)))))
set_option maxRecDepth 20000 in
def vt_67 : Nat → ve_M := fun pc => bif pc.ble 8 then (bif pc.ble 1 then (bif pc.ble 0 then (bif pc.beq 0 then ve_pu (ve_al 1 0) else ve_no) else (bif pc.beq 1 then ve_pu (ve_al 2 1) else ve_no)) else (bif pc.ble 2 then (bif pc.beq 2 then ve_cl 59 68 2 5 else ve_no) else (bif pc.ble 5 then (bif pc.beq 5 then ve_pu (ve_br1 (fun x => decide (x = 0)) 20 8) else ve_no) else (bif pc.beq 8 then ve_pu (ve_al 9 0) else ve_no)))) else (bif pc.ble 13 then (bif pc.ble 9 then (bif pc.beq 9 then ve_pu (ve_al 10 1) else ve_no) else (bif pc.ble 10 then (bif pc.beq 10 then ve_cl 59 69 2 13 else ve_no) else (bif pc.beq 13 then ve_pu (ve_br1 (fun x => decide (x = 0)) 20 16) else ve_no))) else (bif pc.ble 16 then (bif pc.beq 16 then ve_pu (ve_push 17 (.int (1))) else ve_no) else (bif pc.ble 17 then (bif pc.beq 17 then ve_pu (ve_jmp 21) else ve_no) else (bif pc.beq 21 then ve_rt 1 .boolean else ve_no))))
set_option maxRecDepth 20000 in
def vt_68 : Nat → ve_M := fun pc => bif pc.ble 4 then (bif pc.ble 0 then (bif pc.beq 0 then ve_pu (ve_al 1 0) else ve_no) else (bif pc.ble 1 then (bif pc.beq 1 then ve_gf 4 1 else ve_no) else (bif pc.beq 4 then ve_pu (ve_push 5 (.int (2))) else ve_no))) else (bif pc.ble 16 then (bif pc.ble 5 then (bif pc.beq 5 then ve_pu (ve_br2 (fun x y => decide (x < y)) 16 8) else ve_no) else (bif pc.beq 16 then ve_pu (ve_push 17 (.int (1))) else ve_no)) else (bif pc.ble 17 then (bif pc.beq 17 then ve_pu (ve_jmp 21) else ve_no) else (bif pc.beq 21 then ve_rt 1 .boolean else ve_no)))
set_option maxRecDepth 20000 in
def vt_69 : Nat → ve_M := fun pc => bif pc.ble 3 then (bif pc.ble 1 then (bif pc.ble 0 then (bif pc.beq 0 then ve_pu (ve_push 1 (.int (1))) else ve_no) else (bif pc.beq 1 then ve_pu (ve_is 2 2 3) else ve_no)) else (bif pc.ble 2 then (bif pc.beq 2 then ve_pu (ve_il 3 2) else ve_no) else (bif pc.beq 3 then ve_pu (ve_al 4 0) else ve_no))) else (bif pc.ble 7 then (bif pc.ble 4 then (bif pc.beq 4 then ve_gf 7 1 else ve_no) else (bif pc.beq 7 then ve_pu (ve_br2 (fun x y => decide (¬ x < y)) 38 10) else ve_no)) else (bif pc.ble 38 then (bif pc.beq 38 then ve_pu (ve_push 39 (.int (1))) else ve_no) else (bif pc.beq 39 then ve_rt 1 .boolean else ve_no)))
set_option maxRecDepth 20000 in
def vt_70 : Nat → ve_M := fun pc => bif pc.ble 13 then (bif pc.ble 2 then (bif pc.ble 0 then (bif pc.beq 0 then ve_pu (ve_al 1 0) else ve_no) else (bif pc.ble 1 then (bif pc.beq 1 then ve_pu (ve_al 2 1) else ve_no) else (bif pc.beq 2 then ve_cl 59 71 2 5 else ve_no))) else (bif pc.ble 11 then (bif pc.ble 5 then (bif pc.beq 5 then ve_pu (ve_br1 (fun x => decide (¬ x = 0)) 11 8) else ve_no) else (bif pc.beq 11 then ve_pu (ve_push 12 (.int (0))) else ve_no)) else (bif pc.ble 12 then (bif pc.beq 12 then ve_pu (ve_is 13 2 4) else ve_no) else (bif pc.beq 13 then ve_pu (ve_push 14 (.int (0))) else ve_no)))) else (bif pc.ble 16 then (bif pc.ble 14 then (bif pc.beq 14 then ve_pu (ve_is 15 3 4) else ve_no) else (bif pc.ble 15 then (bif pc.beq 15 then ve_pu (ve_il 16 3) else ve_no) else (bif pc.beq 16 then ve_pu (ve_al 17 0) else ve_no))) else (bif pc.ble 20 then (bif pc.ble 17 then (bif pc.beq 17 then ve_gf 20 1 else ve_no) else (bif pc.beq 20 then ve_pu (ve_br2 (fun x y => decide (¬ x < y)) 41 23) else ve_no)) else (bif pc.ble 41 then (bif pc.beq 41 then ve_pu (ve_il 42 2) else ve_no) else (bif pc.beq 42 then ve_rt 1 .int else ve_no))))
set_option maxRecDepth 20000 in
def vt_71 : Nat → ve_M := fun pc => bif pc.ble 7 then (bif pc.ble 1 then (bif pc.ble 0 then (bif pc.beq 0 then ve_pu (ve_al 1 1) else ve_no) else (bif pc.beq 1 then ve_gf 4 1 else ve_no)) else (bif pc.ble 4 then (bif pc.beq 4 then ve_pu (ve_br1 (fun x => decide (¬ x = 0)) 14 7) else ve_no) else (bif pc.beq 7 then ve_pu (ve_al 8 0) else ve_no))) else (bif pc.ble 11 then (bif pc.ble 8 then (bif pc.beq 8 then ve_cw 59 1 11 [(3, 60)] else ve_no) else (bif pc.beq 11 then ve_pu (ve_br1 (fun x => decide (¬ x = 0)) 18 14) else ve_no)) else (bif pc.ble 14 then (bif pc.beq 14 then ve_pu (ve_push 15 (.int (1))) else ve_no) else (bif pc.ble 15 then (bif pc.beq 15 then ve_pu (ve_jmp 19) else ve_no) else (bif pc.beq 19 then ve_rt 1 .boolean else ve_no))))
set_option maxRecDepth 20000 in
def vt_72 : Nat → ve_M := fun pc => bif pc.ble 1 then (bif pc.ble 0 then (bif pc.beq 0 then ve_pu (ve_al 1 0) else ve_no) else (bif pc.beq 1 then ve_gf 4 1 else ve_no)) else (bif pc.ble 4 then (bif pc.beq 4 then ve_pu (ve_br1 (fun x => decide (x = 0)) 15 7) else ve_no) else (bif pc.ble 15 then (bif pc.beq 15 then ve_pu (ve_push 17 (.int (-9))) else ve_no) else (bif pc.beq 17 then ve_rt 1 .int else ve_no)))
set_option maxRecDepth 20000 in
def vt_73 : Nat → ve_M := fun pc => bif pc.ble 17 then (bif pc.ble 8 then (bif pc.ble 1 then (bif pc.ble 0 then (bif pc.beq 0 then ve_pu (ve_al 1 0) else ve_no) else (bif pc.beq 1 then ve_gf 4 5 else ve_no)) else (bif pc.ble 4 then (bif pc.beq 4 then ve_pu (ve_push 5 (.int (0))) else ve_no) else (bif pc.ble 5 then (bif pc.beq 5 then ve_cw 59 2 8 [(36, 63)] else ve_no) else (bif pc.beq 8 then ve_pu (ve_al 9 3) else ve_no)))) else (bif pc.ble 10 then (bif pc.ble 9 then (bif pc.beq 9 then ve_pu (ve_al 10 0) else ve_no) else (bif pc.beq 10 then ve_gf 13 5 else ve_no)) else (bif pc.ble 13 then (bif pc.beq 13 then ve_pu (ve_push 14 (.int (0))) else ve_no) else (bif pc.ble 14 then (bif pc.beq 14 then ve_cw 59 3 17 [(32, 74)] else ve_no) else (bif pc.beq 17 then ve_pu (ve_al 18 0) else ve_no))))) else (bif pc.ble 26 then (bif pc.ble 19 then (bif pc.ble 18 then (bif pc.beq 18 then ve_pu (ve_ll 19 1) else ve_no) else (bif pc.beq 19 then ve_cw 59 2 22 [(2, 66)] else ve_no)) else (bif pc.ble 22 then (bif pc.beq 22 then ve_pu (ve_push 25 (.long (31))) else ve_no) else (bif pc.ble 25 then (bif pc.beq 25 then ve_pu (ve_lmul 26) else ve_no) else (bif pc.beq 26 then ve_pu (ve_al 27 3) else ve_no)))) else (bif pc.ble 37 then (bif pc.ble 27 then (bif pc.beq 27 then ve_gf 30 1 else ve_no) else (bif pc.ble 30 then (bif pc.beq 30 then ve_pu (ve_br1 (fun x => decide (x = 0)) 37 33) else ve_no) else (bif pc.beq 37 then ve_pu (ve_push 38 (.int (0))) else ve_no))) else (bif pc.ble 38 then (bif pc.beq 38 then ve_pu (ve_i2l 39) else ve_no) else (bif pc.ble 39 then (bif pc.beq 39 then ve_pu (ve_ladd 40) else ve_no) else (bif pc.beq 40 then ve_rt 2 .long else ve_no)))))
set_option maxRecDepth 20000 in
def vt_74 : Nat → ve_M := fun pc => bif pc.ble 11 then (bif pc.ble 3 then (bif pc.ble 0 then (bif pc.beq 0 then ve_pu (ve_il 1 2) else ve_no) else (bif pc.ble 1 then (bif pc.beq 1 then ve_pu (ve_push 3 (.int (48))) else ve_no) else (bif pc.beq 3 then ve_pu (ve_br2 (fun x y => decide (¬ x < y)) 24 6) else ve_no))) else (bif pc.ble 7 then (bif pc.ble 6 then (bif pc.beq 6 then ve_pu (ve_al 7 0) else ve_no) else (bif pc.beq 7 then ve_gf 10 2 else ve_no)) else (bif pc.ble 10 then (bif pc.beq 10 then ve_pu (ve_al 11 1) else ve_no) else (bif pc.beq 11 then ve_pu (ve_il 12 2) else ve_no)))) else (bif pc.ble 17 then (bif pc.ble 13 then (bif pc.ble 12 then (bif pc.beq 12 then ve_pu (ve_push 13 (.int (1))) else ve_no) else (bif pc.beq 13 then ve_pu (ve_iadd 14) else ve_no)) else (bif pc.ble 14 then (bif pc.beq 14 then ve_cw 59 3 17 [(32, 74), (26, 75)] else ve_no) else (bif pc.beq 17 then ve_pu (ve_al 18 1) else ve_no))) else (bif pc.ble 20 then (bif pc.ble 18 then (bif pc.beq 18 then ve_pu (ve_push 20 (.int (126))) else ve_no) else (bif pc.beq 20 then ve_cw 59 2 23 [(36, 31)] else ve_no)) else (bif pc.ble 23 then (bif pc.beq 23 then ve_pu (ve_pop 24) else ve_no) else (bif pc.beq 24 then ve_rt 0 .int else ve_no))))
set_option maxRecDepth 20000 in
def vt_75 : Nat → ve_M := fun pc => bif pc.ble 16 then (bif pc.ble 7 then (bif pc.ble 1 then (bif pc.ble 0 then (bif pc.beq 0 then ve_pu (ve_al 1 0) else ve_no) else (bif pc.beq 1 then ve_gf 4 2 else ve_no)) else (bif pc.ble 4 then (bif pc.beq 4 then ve_pu (ve_br1 (fun x => decide (x < 0)) 33 7) else ve_no) else (bif pc.beq 7 then ve_pu (ve_al 8 0) else ve_no))) else (bif pc.ble 11 then (bif pc.ble 8 then (bif pc.beq 8 then ve_gf 11 2 else ve_no) else (bif pc.beq 11 then ve_pu (ve_push 13 (.ref 22)) else ve_no)) else (bif pc.ble 13 then (bif pc.beq 13 then ve_cw 59 1 16 [(28, 38)] else ve_no) else (bif pc.beq 16 then ve_pu (ve_br2 (fun x y => decide (¬ x < y)) 33 19) else ve_no)))) else (bif pc.ble 23 then (bif pc.ble 20 then (bif pc.ble 19 then (bif pc.beq 19 then ve_pu (ve_al 20 1) else ve_no) else (bif pc.beq 20 then ve_pu (ve_push 22 (.ref 22)) else ve_no)) else (bif pc.ble 22 then (bif pc.beq 22 then ve_pu (ve_al 23 0) else ve_no) else (bif pc.beq 23 then ve_gf 26 2 else ve_no))) else (bif pc.ble 29 then (bif pc.ble 26 then (bif pc.beq 26 then ve_cw 59 2 29 [(28, 76)] else ve_no) else (bif pc.beq 29 then ve_cw 59 2 32 [(36, 31)] else ve_no)) else (bif pc.ble 32 then (bif pc.beq 32 then ve_pu (ve_pop 33) else ve_no) else (bif pc.beq 33 then ve_rt 0 .int else ve_no))))
set_option maxRecDepth 20000 in
def vt_76 : Nat → ve_M := fun pc => bif pc.ble 7 then (bif pc.ble 1 then (bif pc.ble 0 then (bif pc.beq 0 then ve_pu (ve_al 1 0) else ve_no) else (bif pc.beq 1 then ve_cw 59 1 4 [(28, 77)] else ve_no)) else (bif pc.ble 4 then (bif pc.beq 4 then ve_pu (ve_br1 (fun x => decide (x = 0)) 16 7) else ve_no) else (bif pc.beq 7 then ve_pu (ve_al 8 0) else ve_no))) else (bif pc.ble 11 then (bif pc.ble 8 then (bif pc.beq 8 then ve_gf 11 0 else ve_no) else (bif pc.beq 11 then ve_pu (ve_il 12 1) else ve_no)) else (bif pc.ble 12 then (bif pc.beq 12 then ve_cl 59 78 2 15 else ve_no) else (bif pc.beq 15 then ve_rt 1 .char else ve_no)))
set_option maxRecDepth 20000 in
def vt_77 : Nat → ve_M := fun pc => bif pc.ble 7 then (bif pc.ble 3 then (bif pc.ble 0 then (bif pc.beq 0 then ve_gs 3 3 1 else ve_no) else (bif pc.beq 3 then ve_pu (ve_br1 (fun x => decide (x = 0)) 17 6) else ve_no)) else (bif pc.ble 6 then (bif pc.beq 6 then ve_pu (ve_al 7 0) else ve_no) else (bif pc.beq 7 then ve_gf 10 1 else ve_no))) else (bif pc.ble 13 then (bif pc.ble 10 then (bif pc.beq 10 then ve_pu (ve_br1 (fun x => decide (¬ x = 0)) 17 13) else ve_no) else (bif pc.beq 13 then ve_pu (ve_push 14 (.int (1))) else ve_no)) else (bif pc.ble 14 then (bif pc.beq 14 then ve_pu (ve_jmp 18) else ve_no) else (bif pc.beq 18 then ve_rt 1 .boolean else ve_no)))
set_option maxRecDepth 20000 in
def vt_78 : Nat → ve_M := fun pc => bif pc.ble 6 then (bif pc.ble 1 then (bif pc.ble 0 then (bif pc.beq 0 then ve_pu (ve_il 1 1) else ve_no) else (bif pc.beq 1 then ve_pu (ve_al 2 0) else ve_no)) else (bif pc.ble 2 then (bif pc.beq 2 then ve_len 3 53 else ve_no) else (bif pc.ble 3 then (bif pc.beq 3 then ve_cl 59 79 2 6 else ve_no) else (bif pc.beq 6 then ve_pu (ve_al 7 0) else ve_no)))) else (bif pc.ble 9 then (bif pc.ble 7 then (bif pc.beq 7 then ve_pu (ve_il 8 1) else ve_no) else (bif pc.ble 8 then (bif pc.beq 8 then ve_ald 9 53 else ve_no) else (bif pc.beq 9 then ve_pu (ve_push 12 (.int (255))) else ve_no))) else (bif pc.ble 12 then (bif pc.beq 12 then ve_pu (ve_iand 13) else ve_no) else (bif pc.ble 13 then (bif pc.beq 13 then ve_pu (ve_i2c 14) else ve_no) else (bif pc.beq 14 then ve_rt 1 .char else ve_no))))
set_option maxRecDepth 20000 in
def vt_79 : Nat → ve_M := fun pc => bif pc.ble 2 then (bif pc.ble 0 then (bif pc.beq 0 then ve_pu (ve_il 1 0) else ve_no) else (bif pc.ble 1 then (bif pc.beq 1 then ve_pu (ve_il 2 1) else ve_no) else (bif pc.beq 2 then ve_gs 5 2 0 else ve_no))) else (bif pc.ble 5 then (bif pc.beq 5 then ve_cl 59 80 3 8 else ve_no) else (bif pc.ble 8 then (bif pc.beq 8 then ve_pu (ve_pop 9) else ve_no) else (bif pc.beq 9 then ve_rt 0 .int else ve_no)))
set_option maxRecDepth 20000 in
def vt_80 : Nat → ve_M := fun pc => bif pc.ble 4 then (bif pc.ble 0 then (bif pc.beq 0 then ve_pu (ve_il 1 0) else ve_no) else (bif pc.ble 1 then (bif pc.beq 1 then ve_pu (ve_br1 (fun x => decide (x < 0)) 9 4) else ve_no) else (bif pc.beq 4 then ve_pu (ve_il 5 0) else ve_no))) else (bif pc.ble 6 then (bif pc.ble 5 then (bif pc.beq 5 then ve_pu (ve_il 6 1) else ve_no) else (bif pc.beq 6 then ve_pu (ve_br2 (fun x y => decide (x < y)) 16 9) else ve_no)) else (bif pc.ble 16 then (bif pc.beq 16 then ve_pu (ve_il 17 0) else ve_no) else (bif pc.beq 17 then ve_rt 1 .int else ve_no)))
set_option maxRecDepth 20000 in
def vt_81 : Nat → ve_M := fun pc => bif pc.ble 1 then (bif pc.ble 0 then (bif pc.beq 0 then ve_pu (ve_al 1 0) else ve_no) else (bif pc.beq 1 then ve_pu (ve_il 2 1) else ve_no)) else (bif pc.ble 2 then (bif pc.beq 2 then ve_cw 59 2 5 [(36, 82)] else ve_no) else (bif pc.beq 5 then ve_rt 1 .char else ve_no))
set_option maxRecDepth 20000 in
def vt_82 : Nat → ve_M := fun pc => bif pc.ble 18 then (bif pc.ble 9 then (bif pc.ble 4 then (bif pc.ble 0 then (bif pc.beq 0 then ve_pu (ve_al 1 0) else ve_no) else (bif pc.ble 1 then (bif pc.beq 1 then ve_gf 4 1 else ve_no) else (bif pc.beq 4 then ve_pu (ve_is 5 2 5) else ve_no))) else (bif pc.ble 5 then (bif pc.beq 5 then ve_pu (ve_al 6 0) else ve_no) else (bif pc.ble 6 then (bif pc.beq 6 then ve_gf 9 0 else ve_no) else (bif pc.beq 9 then ve_pu (ve_as 10 3 5) else ve_no)))) else (bif pc.ble 14 then (bif pc.ble 10 then (bif pc.beq 10 then ve_pu (ve_al 11 0) else ve_no) else (bif pc.ble 11 then (bif pc.beq 11 then ve_gf 14 3 else ve_no) else (bif pc.beq 14 then ve_pu (ve_al 15 3) else ve_no))) else (bif pc.ble 16 then (bif pc.ble 15 then (bif pc.beq 15 then ve_len 16 53 else ve_no) else (bif pc.beq 16 then ve_pu (ve_il 17 2) else ve_no)) else (bif pc.ble 17 then (bif pc.beq 17 then ve_pu (ve_ishr 18) else ve_no) else (bif pc.beq 18 then ve_cl 59 52 2 21 else ve_no))))) else (bif pc.ble 30 then (bif pc.ble 24 then (bif pc.ble 21 then (bif pc.beq 21 then ve_pu (ve_is 23 4 5) else ve_no) else (bif pc.ble 23 then (bif pc.beq 23 then ve_pu (ve_il 24 1) else ve_no) else (bif pc.beq 24 then ve_pu (ve_il 26 4) else ve_no))) else (bif pc.ble 26 then (bif pc.beq 26 then ve_cl 59 79 2 29 else ve_no) else (bif pc.ble 29 then (bif pc.beq 29 then ve_pu (ve_il 30 2) else ve_no) else (bif pc.beq 30 then ve_pu (ve_br1 (fun x => decide (¬ x = 0)) 42 33) else ve_no)))) else (bif pc.ble 35 then (bif pc.ble 33 then (bif pc.beq 33 then ve_pu (ve_al 34 3) else ve_no) else (bif pc.ble 34 then (bif pc.beq 34 then ve_pu (ve_il 35 1) else ve_no) else (bif pc.beq 35 then ve_ald 36 53 else ve_no))) else (bif pc.ble 39 then (bif pc.ble 36 then (bif pc.beq 36 then ve_pu (ve_push 39 (.int (255))) else ve_no) else (bif pc.beq 39 then ve_pu (ve_iand 40) else ve_no)) else (bif pc.ble 40 then (bif pc.beq 40 then ve_pu (ve_i2c 41) else ve_no) else (bif pc.beq 41 then ve_rt 1 .char else ve_no)))))
set_option maxRecDepth 20000 in
def vt_83 : Nat → ve_M := fun pc => bif pc.ble 17 then (bif pc.ble 8 then (bif pc.ble 2 then (bif pc.ble 0 then (bif pc.beq 0 then ve_pu (ve_push 1 (.int (0))) else ve_no) else (bif pc.ble 1 then (bif pc.beq 1 then ve_pu (ve_is 2 1 3) else ve_no) else (bif pc.beq 2 then ve_pu (ve_il 3 1) else ve_no))) else (bif pc.ble 3 then (bif pc.beq 3 then ve_pu (ve_push 5 (.int (10))) else ve_no) else (bif pc.ble 5 then (bif pc.beq 5 then ve_pu (ve_br2 (fun x y => decide (¬ x < y)) 48 8) else ve_no) else (bif pc.beq 8 then ve_pu (ve_push 9 (.int (0))) else ve_no)))) else (bif pc.ble 11 then (bif pc.ble 9 then (bif pc.beq 9 then ve_pu (ve_is 10 2 3) else ve_no) else (bif pc.ble 10 then (bif pc.beq 10 then ve_pu (ve_il 11 2) else ve_no) else (bif pc.beq 11 then ve_pu (ve_push 12 (.int (2))) else ve_no))) else (bif pc.ble 15 then (bif pc.ble 12 then (bif pc.beq 12 then ve_pu (ve_br2 (fun x y => decide (¬ x < y)) 42 15) else ve_no) else (bif pc.beq 15 then ve_pu (ve_al 16 0) else ve_no)) else (bif pc.ble 16 then (bif pc.beq 16 then ve_pu (ve_al 17 0) else ve_no) else (bif pc.beq 17 then ve_gf 20 0 else ve_no))))) else (bif pc.ble 28 then (bif pc.ble 22 then (bif pc.ble 20 then (bif pc.beq 20 then ve_pu (ve_il 21 2) else ve_no) else (bif pc.ble 21 then (bif pc.beq 21 then ve_ald 22 54 else ve_no) else (bif pc.beq 22 then ve_pu (ve_al 23 0) else ve_no))) else (bif pc.ble 26 then (bif pc.ble 23 then (bif pc.beq 23 then ve_gf 26 1 else ve_no) else (bif pc.beq 26 then ve_pu (ve_il 27 1) else ve_no)) else (bif pc.ble 27 then (bif pc.beq 27 then ve_ald 28 55 else ve_no) else (bif pc.beq 28 then ve_cw 59 3 31 [(2, 84)] else ve_no)))) else (bif pc.ble 39 then (bif pc.ble 31 then (bif pc.beq 31 then ve_pu (ve_br1 (fun x => decide (¬ x = 0)) 36 34) else ve_no) else (bif pc.ble 36 then (bif pc.beq 36 then ve_pu (ve_ii 39 2 3 (1)) else ve_no) else (bif pc.beq 39 then ve_pu (ve_jmp 10) else ve_no))) else (bif pc.ble 45 then (bif pc.ble 42 then (bif pc.beq 42 then ve_pu (ve_ii 45 1 3 (1)) else ve_no) else (bif pc.beq 45 then ve_pu (ve_jmp 2) else ve_no)) else (bif pc.ble 48 then (bif pc.beq 48 then ve_pu (ve_push 49 (.int (1))) else ve_no) else (bif pc.beq 49 then ve_rt 1 .boolean else ve_no)))))
set_option maxRecDepth 20000 in
def vt_84 : Nat → ve_M := fun pc => bif pc.ble 34 then (bif pc.ble 16 then (bif pc.ble 7 then (bif pc.ble 3 then (bif pc.ble 0 then (bif pc.beq 0 then ve_nw 3 32 [.int 0, .int 0, .null] else ve_no) else (bif pc.beq 3 then ve_pu (ve_dup 4) else ve_no)) else (bif pc.ble 4 then (bif pc.beq 4 then ve_nw 7 32 [.int 0, .int 0, .null] else ve_no) else (bif pc.beq 7 then ve_pu (ve_dup 8) else ve_no))) else (bif pc.ble 9 then (bif pc.ble 8 then (bif pc.beq 8 then ve_pu (ve_al 9 2) else ve_no) else (bif pc.beq 9 then ve_cw 59 2 12 [(32, 21)] else ve_no)) else (bif pc.ble 12 then (bif pc.beq 12 then ve_cw 59 2 15 [(32, 21)] else ve_no) else (bif pc.ble 15 then (bif pc.beq 15 then ve_pu (ve_as 16 3 4) else ve_no) else (bif pc.beq 16 then ve_pu (ve_al 17 0) else ve_no))))) else (bif pc.ble 25 then (bif pc.ble 18 then (bif pc.ble 17 then (bif pc.beq 17 then ve_pu (ve_al 18 1) else ve_no) else (bif pc.beq 18 then ve_pu (ve_al 19 2) else ve_no)) else (bif pc.ble 19 then (bif pc.beq 19 then ve_cw 59 3 22 [(2, 85)] else ve_no) else (bif pc.ble 22 then (bif pc.beq 22 then ve_pu (ve_br1 (fun x => decide (x = 0)) 70 25) else ve_no) else (bif pc.beq 25 then ve_pu (ve_al 26 1) else ve_no)))) else (bif pc.ble 27 then (bif pc.ble 26 then (bif pc.beq 26 then ve_pu (ve_al 27 2) else ve_no) else (bif pc.beq 27 then ve_pu (ve_al 28 3) else ve_no)) else (bif pc.ble 28 then (bif pc.beq 28 then ve_cl 59 87 3 31 else ve_no) else (bif pc.ble 31 then (bif pc.beq 31 then ve_pu (ve_br1 (fun x => decide (x = 0)) 70 34) else ve_no) else (bif pc.beq 34 then ve_pu (ve_al 35 1) else ve_no)))))) else (bif pc.ble 52 then (bif pc.ble 43 then (bif pc.ble 36 then (bif pc.ble 35 then (bif pc.beq 35 then ve_pu (ve_al 36 2) else ve_no) else (bif pc.beq 36 then ve_cl 59 68 2 39 else ve_no)) else (bif pc.ble 39 then (bif pc.beq 39 then ve_pu (ve_br1 (fun x => decide (x = 0)) 51 42) else ve_no) else (bif pc.ble 42 then (bif pc.beq 42 then ve_pu (ve_al 43 0) else ve_no) else (bif pc.beq 43 then ve_pu (ve_al 44 1) else ve_no)))) else (bif pc.ble 45 then (bif pc.ble 44 then (bif pc.beq 44 then ve_pu (ve_al 45 2) else ve_no) else (bif pc.beq 45 then ve_cw 59 3 48 [(2, 88)] else ve_no)) else (bif pc.ble 48 then (bif pc.beq 48 then ve_pu (ve_br1 (fun x => decide (x = 0)) 70 51) else ve_no) else (bif pc.ble 51 then (bif pc.beq 51 then ve_pu (ve_al 52 0) else ve_no) else (bif pc.beq 52 then ve_pu (ve_al 53 1) else ve_no))))) else (bif pc.ble 59 then (bif pc.ble 54 then (bif pc.ble 53 then (bif pc.beq 53 then ve_pu (ve_al 54 2) else ve_no) else (bif pc.beq 54 then ve_pu (ve_al 55 0) else ve_no)) else (bif pc.ble 55 then (bif pc.beq 55 then ve_gf 58 1 else ve_no) else (bif pc.ble 58 then (bif pc.beq 58 then ve_pu (ve_push 59 (.int (0))) else ve_no) else (bif pc.beq 59 then ve_ald 60 55 else ve_no)))) else (bif pc.ble 63 then (bif pc.ble 60 then (bif pc.beq 60 then ve_cw 59 4 63 [(2, 93)] else ve_no) else (bif pc.beq 63 then ve_pu (ve_br1 (fun x => decide (x = 0)) 70 66) else ve_no)) else (bif pc.ble 66 then (bif pc.beq 66 then ve_pu (ve_push 67 (.int (1))) else ve_no) else (bif pc.ble 67 then (bif pc.beq 67 then ve_pu (ve_jmp 71) else ve_no) else (bif pc.beq 71 then ve_rt 1 .boolean else ve_no))))))
set_option maxRecDepth 20000 in
def vt_85 : Nat → ve_M := fun pc => bif pc.ble 16 then (bif pc.ble 6 then (bif pc.ble 1 then (bif pc.ble 0 then (bif pc.beq 0 then ve_pu (ve_al 1 0) else ve_no) else (bif pc.beq 1 then ve_gf 4 2 else ve_no)) else (bif pc.ble 4 then (bif pc.beq 4 then ve_pu (ve_al 5 1) else ve_no) else (bif pc.ble 5 then (bif pc.beq 5 then ve_pu (ve_al 6 2) else ve_no) else (bif pc.beq 6 then ve_gf 9 1 else ve_no)))) else (bif pc.ble 13 then (bif pc.ble 9 then (bif pc.beq 9 then ve_cw 59 3 12 [(3, 86)] else ve_no) else (bif pc.ble 12 then (bif pc.beq 12 then ve_pu (ve_push 13 (.int (0))) else ve_no) else (bif pc.beq 13 then ve_pu (ve_is 14 3 6) else ve_no))) else (bif pc.ble 14 then (bif pc.beq 14 then ve_pu (ve_il 15 3) else ve_no) else (bif pc.ble 15 then (bif pc.beq 15 then ve_pu (ve_al 16 0) else ve_no) else (bif pc.beq 16 then ve_gf 19 2 else ve_no))))) else (bif pc.ble 62 then (bif pc.ble 22 then (bif pc.ble 19 then (bif pc.beq 19 then ve_gf 22 1 else ve_no) else (bif pc.beq 22 then ve_pu (ve_br2 (fun x y => decide (¬ x < y)) 60 25) else ve_no)) else (bif pc.ble 60 then (bif pc.beq 60 then ve_pu (ve_push 61 (.int (0))) else ve_no) else (bif pc.ble 61 then (bif pc.beq 61 then ve_pu (ve_is 62 3 6) else ve_no) else (bif pc.beq 62 then ve_pu (ve_il 63 3) else ve_no)))) else (bif pc.ble 67 then (bif pc.ble 63 then (bif pc.beq 63 then ve_pu (ve_al 64 0) else ve_no) else (bif pc.ble 64 then (bif pc.beq 64 then ve_gf 67 2 else ve_no) else (bif pc.beq 67 then ve_gf 70 1 else ve_no))) else (bif pc.ble 70 then (bif pc.beq 70 then ve_pu (ve_br2 (fun x y => decide (¬ x < y)) 160 73) else ve_no) else (bif pc.ble 160 then (bif pc.beq 160 then ve_pu (ve_push 161 (.int (1))) else ve_no) else (bif pc.beq 161 then ve_rt 1 .boolean else ve_no)))))
set_option maxRecDepth 20000 in
def vt_86 : Nat → ve_M := fun pc => bif pc.ble 6 then (bif pc.ble 1 then (bif pc.ble 0 then (bif pc.beq 0 then ve_pu (ve_al 1 0) else ve_no) else (bif pc.beq 1 then ve_pu (ve_push 2 (.int (0))) else ve_no)) else (bif pc.ble 2 then (bif pc.beq 2 then ve_pf 5 1 [3] .int else ve_no) else (bif pc.ble 5 then (bif pc.beq 5 then ve_pu (ve_push 6 (.int (0))) else ve_no) else (bif pc.beq 6 then ve_pu (ve_is 7 3 5) else ve_no)))) else (bif pc.ble 8 then (bif pc.ble 7 then (bif pc.beq 7 then ve_pu (ve_il 8 3) else ve_no) else (bif pc.beq 8 then ve_pu (ve_al 9 1) else ve_no)) else (bif pc.ble 9 then (bif pc.beq 9 then ve_gf 12 1 else ve_no) else (bif pc.ble 12 then (bif pc.beq 12 then ve_pu (ve_br2 (fun x y => decide (¬ x < y)) 44 15) else ve_no) else (bif pc.beq 44 then ve_rt 0 .int else ve_no))))
set_option maxRecDepth 20000 in
def vt_87 : Nat → ve_M := fun pc => bif pc.ble 3 then (bif pc.ble 1 then (bif pc.ble 0 then (bif pc.beq 0 then ve_pu (ve_push 1 (.int (0))) else ve_no) else (bif pc.beq 1 then ve_pu (ve_is 2 3 7) else ve_no)) else (bif pc.ble 2 then (bif pc.beq 2 then ve_pu (ve_il 3 3) else ve_no) else (bif pc.beq 3 then ve_pu (ve_al 4 0) else ve_no))) else (bif pc.ble 7 then (bif pc.ble 4 then (bif pc.beq 4 then ve_gf 7 1 else ve_no) else (bif pc.beq 7 then ve_pu (ve_br2 (fun x y => decide (¬ x < y)) 70 10) else ve_no)) else (bif pc.ble 70 then (bif pc.beq 70 then ve_pu (ve_push 71 (.int (1))) else ve_no) else (bif pc.beq 71 then ve_rt 1 .boolean else ve_no)))
set_option maxRecDepth 20000 in
def vt_88 : Nat → ve_M := fun pc => bif pc.ble 35 then (bif pc.ble 16 then (bif pc.ble 5 then (bif pc.ble 1 then (bif pc.ble 0 then (bif pc.beq 0 then ve_pu (ve_al 1 0) else ve_no) else (bif pc.beq 1 then ve_gf 4 2 else ve_no)) else (bif pc.ble 4 then (bif pc.beq 4 then ve_pu (ve_al 5 1) else ve_no) else (bif pc.beq 5 then ve_cw 59 2 8 [(3, 89)] else ve_no))) else (bif pc.ble 9 then (bif pc.ble 8 then (bif pc.beq 8 then ve_pu (ve_al 9 0) else ve_no) else (bif pc.beq 9 then ve_gf 12 2 else ve_no)) else (bif pc.ble 12 then (bif pc.beq 12 then ve_pu (ve_al 13 2) else ve_no) else (bif pc.ble 13 then (bif pc.beq 13 then ve_cw 59 2 16 [(3, 90)] else ve_no) else (bif pc.beq 16 then ve_pu (ve_al 17 0) else ve_no))))) else (bif pc.ble 24 then (bif pc.ble 20 then (bif pc.ble 17 then (bif pc.beq 17 then ve_gf 20 2 else ve_no) else (bif pc.beq 20 then ve_pu (ve_al 21 2) else ve_no)) else (bif pc.ble 21 then (bif pc.beq 21 then ve_cl 59 69 2 24 else ve_no) else (bif pc.beq 24 then ve_pu (ve_br1 (fun x => decide (x = 0)) 38 27) else ve_no))) else (bif pc.ble 28 then (bif pc.ble 27 then (bif pc.beq 27 then ve_pu (ve_al 28 0) else ve_no) else (bif pc.beq 28 then ve_gf 31 2 else ve_no)) else (bif pc.ble 31 then (bif pc.beq 31 then ve_pu (ve_al 32 1) else ve_no) else (bif pc.ble 32 then (bif pc.beq 32 then ve_cw 59 2 35 [(3, 91)] else ve_no) else (bif pc.beq 35 then ve_pu (ve_br1 (fun x => decide (¬ x = 0)) 40 38) else ve_no)))))) else (bif pc.ble 56 then (bif pc.ble 45 then (bif pc.ble 41 then (bif pc.ble 40 then (bif pc.beq 40 then ve_pu (ve_al 41 0) else ve_no) else (bif pc.beq 41 then ve_gf 44 3 else ve_no)) else (bif pc.ble 44 then (bif pc.beq 44 then ve_pu (ve_al 45 0) else ve_no) else (bif pc.beq 45 then ve_gf 48 2 else ve_no))) else (bif pc.ble 51 then (bif pc.ble 48 then (bif pc.beq 48 then ve_cw 59 2 51 [(3, 89)] else ve_no) else (bif pc.beq 51 then ve_pu (ve_al 52 0) else ve_no)) else (bif pc.ble 52 then (bif pc.beq 52 then ve_gf 55 3 else ve_no) else (bif pc.ble 55 then (bif pc.beq 55 then ve_pu (ve_al 56 2) else ve_no) else (bif pc.beq 56 then ve_cw 59 2 59 [(3, 90)] else ve_no))))) else (bif pc.ble 64 then (bif pc.ble 60 then (bif pc.ble 59 then (bif pc.beq 59 then ve_pu (ve_al 60 0) else ve_no) else (bif pc.beq 60 then ve_gf 63 3 else ve_no)) else (bif pc.ble 63 then (bif pc.beq 63 then ve_pu (ve_al 64 0) else ve_no) else (bif pc.beq 64 then ve_gf 67 2 else ve_no))) else (bif pc.ble 70 then (bif pc.ble 67 then (bif pc.beq 67 then ve_cw 59 2 70 [(3, 92)] else ve_no) else (bif pc.beq 70 then ve_pu (ve_br1 (fun x => decide (¬ x = 0)) 77 73) else ve_no)) else (bif pc.ble 73 then (bif pc.beq 73 then ve_pu (ve_push 74 (.int (1))) else ve_no) else (bif pc.ble 74 then (bif pc.beq 74 then ve_pu (ve_jmp 78) else ve_no) else (bif pc.beq 78 then ve_rt 1 .boolean else ve_no))))))
set_option maxRecDepth 20000 in
def vt_89 : Nat → ve_M := fun pc => bif pc.ble 1 then (bif pc.ble 0 then (bif pc.beq 0 then ve_pu (ve_al 1 0) else ve_no) else (bif pc.beq 1 then ve_pu (ve_al 2 1) else ve_no)) else (bif pc.ble 2 then (bif pc.beq 2 then ve_pu (ve_push 3 (.int (1))) else ve_no) else (bif pc.ble 3 then (bif pc.beq 3 then ve_cw 59 3 6 [(3, 86)] else ve_no) else (bif pc.beq 6 then ve_rt 0 .int else ve_no)))
set_option maxRecDepth 20000 in
def vt_90 : Nat → ve_M := fun pc => bif pc.ble 2 then (bif pc.ble 0 then (bif pc.beq 0 then ve_pu (ve_push 1 (.int (1))) else ve_no) else (bif pc.ble 1 then (bif pc.beq 1 then ve_pu (ve_is 2 2 5) else ve_no) else (bif pc.beq 2 then ve_pu (ve_il 3 2) else ve_no))) else (bif pc.ble 4 then (bif pc.ble 3 then (bif pc.beq 3 then ve_pu (ve_al 4 0) else ve_no) else (bif pc.beq 4 then ve_gf 7 1 else ve_no)) else (bif pc.ble 7 then (bif pc.beq 7 then ve_pu (ve_br2 (fun x y => decide (¬ x < y)) 63 10) else ve_no) else (bif pc.beq 63 then ve_rt 0 .int else ve_no)))
set_option maxRecDepth 20000 in
def vt_91 : Nat → ve_M := fun pc => bif pc.ble 13 then (bif pc.ble 4 then (bif pc.ble 0 then (bif pc.beq 0 then ve_pu (ve_al 1 0) else ve_no) else (bif pc.ble 1 then (bif pc.beq 1 then ve_gf 4 1 else ve_no) else (bif pc.beq 4 then ve_pu (ve_al 5 1) else ve_no))) else (bif pc.ble 5 then (bif pc.beq 5 then ve_gf 8 1 else ve_no) else (bif pc.ble 8 then (bif pc.beq 8 then ve_pu (ve_br2 (fun x y => decide (x = y)) 13 11) else ve_no) else (bif pc.beq 13 then ve_pu (ve_push 14 (.int (0))) else ve_no)))) else (bif pc.ble 16 then (bif pc.ble 14 then (bif pc.beq 14 then ve_pu (ve_is 15 2 3) else ve_no) else (bif pc.ble 15 then (bif pc.beq 15 then ve_pu (ve_il 16 2) else ve_no) else (bif pc.beq 16 then ve_pu (ve_al 17 0) else ve_no))) else (bif pc.ble 20 then (bif pc.ble 17 then (bif pc.beq 17 then ve_gf 20 1 else ve_no) else (bif pc.beq 20 then ve_pu (ve_br2 (fun x y => decide (¬ x < y)) 52 23) else ve_no)) else (bif pc.ble 52 then (bif pc.beq 52 then ve_pu (ve_push 53 (.int (1))) else ve_no) else (bif pc.beq 53 then ve_rt 1 .boolean else ve_no))))
set_option maxRecDepth 20000 in
def vt_92 : Nat → ve_M := fun pc => bif pc.ble 4 then (bif pc.ble 1 then (bif pc.ble 0 then (bif pc.beq 0 then ve_pu (ve_push 1 (.int (0))) else ve_no) else (bif pc.beq 1 then ve_pu (ve_is 2 2 4) else ve_no)) else (bif pc.ble 2 then (bif pc.beq 2 then ve_pu (ve_push 3 (.int (0))) else ve_no) else (bif pc.ble 3 then (bif pc.beq 3 then ve_pu (ve_is 4 3 4) else ve_no) else (bif pc.beq 4 then ve_pu (ve_il 5 3) else ve_no)))) else (bif pc.ble 6 then (bif pc.ble 5 then (bif pc.beq 5 then ve_pu (ve_al 6 0) else ve_no) else (bif pc.beq 6 then ve_gf 9 1 else ve_no)) else (bif pc.ble 9 then (bif pc.beq 9 then ve_pu (ve_br2 (fun x y => decide (¬ x < y)) 34 12) else ve_no) else (bif pc.ble 34 then (bif pc.beq 34 then ve_pu (ve_il 35 2) else ve_no) else (bif pc.beq 35 then ve_rt 1 .int else ve_no))))
set_option maxRecDepth 20000 in
def vt_93 : Nat → ve_M := fun pc => bif pc.ble 39 then (bif pc.ble 19 then (bif pc.ble 8 then (bif pc.ble 1 then (bif pc.ble 0 then (bif pc.beq 0 then ve_pu (ve_al 1 1) else ve_no) else (bif pc.beq 1 then ve_pu (ve_al 2 2) else ve_no)) else (bif pc.ble 2 then (bif pc.beq 2 then ve_cl 59 71 2 5 else ve_no) else (bif pc.ble 5 then (bif pc.beq 5 then ve_pu (ve_br1 (fun x => decide (x = 0)) 16 8) else ve_no) else (bif pc.beq 8 then ve_pu (ve_al 9 1) else ve_no)))) else (bif pc.ble 10 then (bif pc.ble 9 then (bif pc.beq 9 then ve_pu (ve_al 10 3) else ve_no) else (bif pc.beq 10 then ve_cl 59 71 2 13 else ve_no)) else (bif pc.ble 13 then (bif pc.beq 13 then ve_pu (ve_br1 (fun x => decide (¬ x = 0)) 18 16) else ve_no) else (bif pc.ble 18 then (bif pc.beq 18 then ve_pu (ve_al 19 0) else ve_no) else (bif pc.beq 19 then ve_gf 22 2 else ve_no))))) else (bif pc.ble 30 then (bif pc.ble 23 then (bif pc.ble 22 then (bif pc.beq 22 then ve_pu (ve_al 23 1) else ve_no) else (bif pc.beq 23 then ve_cw 59 2 26 [(3, 89)] else ve_no)) else (bif pc.ble 26 then (bif pc.beq 26 then ve_pu (ve_al 27 0) else ve_no) else (bif pc.ble 27 then (bif pc.beq 27 then ve_gf 30 2 else ve_no) else (bif pc.beq 30 then ve_nw 33 33 [.int 0, .int 0, .null, .null] else ve_no)))) else (bif pc.ble 34 then (bif pc.ble 33 then (bif pc.beq 33 then ve_pu (ve_dup 34) else ve_no) else (bif pc.beq 34 then ve_pu (ve_al 35 2) else ve_no)) else (bif pc.ble 35 then (bif pc.beq 35 then ve_pu (ve_al 36 3) else ve_no) else (bif pc.ble 36 then (bif pc.beq 36 then ve_cw 59 3 39 [(33, 94)] else ve_no) else (bif pc.beq 39 then ve_cw 59 2 42 [(3, 90)] else ve_no)))))) else (bif pc.ble 59 then (bif pc.ble 50 then (bif pc.ble 43 then (bif pc.ble 42 then (bif pc.beq 42 then ve_pu (ve_al 43 0) else ve_no) else (bif pc.beq 43 then ve_gf 46 3 else ve_no)) else (bif pc.ble 46 then (bif pc.beq 46 then ve_pu (ve_al 47 1) else ve_no) else (bif pc.ble 47 then (bif pc.beq 47 then ve_cw 59 2 50 [(3, 89)] else ve_no) else (bif pc.beq 50 then ve_pu (ve_al 51 0) else ve_no)))) else (bif pc.ble 54 then (bif pc.ble 51 then (bif pc.beq 51 then ve_gf 54 3 else ve_no) else (bif pc.beq 54 then ve_pu (ve_al 55 3) else ve_no)) else (bif pc.ble 55 then (bif pc.beq 55 then ve_cw 59 2 58 [(3, 90)] else ve_no) else (bif pc.ble 58 then (bif pc.beq 58 then ve_pu (ve_al 59 0) else ve_no) else (bif pc.beq 59 then ve_gf 62 3 else ve_no))))) else (bif pc.ble 70 then (bif pc.ble 63 then (bif pc.ble 62 then (bif pc.beq 62 then ve_pu (ve_al 63 2) else ve_no) else (bif pc.beq 63 then ve_cw 59 2 66 [(3, 90)] else ve_no)) else (bif pc.ble 66 then (bif pc.beq 66 then ve_pu (ve_al 67 0) else ve_no) else (bif pc.ble 67 then (bif pc.beq 67 then ve_gf 70 2 else ve_no) else (bif pc.beq 70 then ve_pu (ve_al 71 0) else ve_no)))) else (bif pc.ble 77 then (bif pc.ble 71 then (bif pc.beq 71 then ve_gf 74 3 else ve_no) else (bif pc.ble 74 then (bif pc.beq 74 then ve_cw 59 2 77 [(3, 92)] else ve_no) else (bif pc.beq 77 then ve_pu (ve_br1 (fun x => decide (¬ x = 0)) 84 80) else ve_no))) else (bif pc.ble 80 then (bif pc.beq 80 then ve_pu (ve_push 81 (.int (1))) else ve_no) else (bif pc.ble 81 then (bif pc.beq 81 then ve_pu (ve_jmp 85) else ve_no) else (bif pc.beq 85 then ve_rt 1 .boolean else ve_no))))))
set_option maxRecDepth 20000 in
def vt_94 : Nat → ve_M := fun pc => bif pc.ble 13 then (bif pc.ble 6 then (bif pc.ble 1 then (bif pc.ble 0 then (bif pc.beq 0 then ve_pu (ve_al 1 0) else ve_no) else (bif pc.beq 1 then ve_pu (ve_al 2 1) else ve_no)) else (bif pc.ble 2 then (bif pc.beq 2 then ve_gf 5 0 else ve_no) else (bif pc.ble 5 then (bif pc.beq 5 then ve_pu (ve_al 6 2) else ve_no) else (bif pc.beq 6 then ve_gf 9 0 else ve_no)))) else (bif pc.ble 10 then (bif pc.ble 9 then (bif pc.beq 9 then ve_pu (ve_iadd 10) else ve_no) else (bif pc.beq 10 then ve_pu (ve_push 11 (.int (3))) else ve_no)) else (bif pc.ble 11 then (bif pc.beq 11 then ve_pu (ve_iadd 12) else ve_no) else (bif pc.ble 12 then (bif pc.beq 12 then ve_pu (ve_al 13 1) else ve_no) else (bif pc.beq 13 then ve_gf 16 1 else ve_no))))) else (bif pc.ble 35 then (bif pc.ble 30 then (bif pc.ble 16 then (bif pc.beq 16 then ve_pu (ve_br1 (fun x => decide (x = 0)) 30 19) else ve_no) else (bif pc.beq 30 then ve_pu (ve_push 31 (.int (0))) else ve_no)) else (bif pc.ble 31 then (bif pc.beq 31 then ve_cw 59 3 34 [(33, 4)] else ve_no) else (bif pc.ble 34 then (bif pc.beq 34 then ve_pu (ve_al 35 0) else ve_no) else (bif pc.beq 35 then ve_pu (ve_al 36 1) else ve_no)))) else (bif pc.ble 39 then (bif pc.ble 36 then (bif pc.beq 36 then ve_pf 39 2 [33] (.object "Orderbench$Shape") else ve_no) else (bif pc.beq 39 then ve_pu (ve_al 40 0) else ve_no)) else (bif pc.ble 40 then (bif pc.beq 40 then ve_pu (ve_al 41 2) else ve_no) else (bif pc.ble 41 then (bif pc.beq 41 then ve_pf 44 3 [33] (.object "Orderbench$Shape") else ve_no) else (bif pc.beq 44 then ve_rt 0 .int else ve_no)))))
set_option maxRecDepth 20000 in
def vt_95 : Nat → ve_M := fun pc => bif pc.ble 80 then (bif pc.ble 37 then (bif pc.ble 17 then (bif pc.ble 8 then (bif pc.ble 1 then (bif pc.ble 0 then (bif pc.beq 0 then ve_pu (ve_al 1 0) else ve_no) else (bif pc.beq 1 then ve_pu (ve_push 2 (.int (0))) else ve_no)) else (bif pc.ble 2 then (bif pc.beq 2 then ve_pf 5 0 [6] .int else ve_no) else (bif pc.ble 5 then (bif pc.beq 5 then ve_pu (ve_push 8 (.long (7773))) else ve_no) else (bif pc.beq 8 then ve_pu (ve_ls 9 1 5) else ve_no)))) else (bif pc.ble 11 then (bif pc.ble 9 then (bif pc.beq 9 then ve_pu (ve_push 10 (.int (0))) else ve_no) else (bif pc.ble 10 then (bif pc.beq 10 then ve_pu (ve_is 11 3 5) else ve_no) else (bif pc.beq 11 then ve_pu (ve_il 12 3) else ve_no))) else (bif pc.ble 12 then (bif pc.beq 12 then ve_pu (ve_push 14 (.int (6))) else ve_no) else (bif pc.ble 14 then (bif pc.beq 14 then ve_pu (ve_br2 (fun x y => decide (¬ x < y)) 34 17) else ve_no) else (bif pc.beq 17 then ve_pu (ve_ll 18 1) else ve_no))))) else (bif pc.ble 27 then (bif pc.ble 20 then (bif pc.ble 18 then (bif pc.beq 18 then ve_pu (ve_al 19 0) else ve_no) else (bif pc.ble 19 then (bif pc.beq 19 then ve_pu (ve_il 20 3) else ve_no) else (bif pc.beq 20 then ve_cw 59 2 23 [(6, 96)] else ve_no))) else (bif pc.ble 23 then (bif pc.beq 23 then ve_pu (ve_i2l 24) else ve_no) else (bif pc.ble 24 then (bif pc.beq 24 then ve_cl 59 106 2 27 else ve_no) else (bif pc.beq 27 then ve_pu (ve_ls 28 1 5) else ve_no)))) else (bif pc.ble 34 then (bif pc.ble 28 then (bif pc.beq 28 then ve_pu (ve_ii 31 3 5 (1)) else ve_no) else (bif pc.ble 31 then (bif pc.beq 31 then ve_pu (ve_jmp 11) else ve_no) else (bif pc.beq 34 then ve_pu (ve_push 35 (.int (0))) else ve_no))) else (bif pc.ble 35 then (bif pc.beq 35 then ve_pu (ve_is 36 3 5) else ve_no) else (bif pc.ble 36 then (bif pc.beq 36 then ve_pu (ve_il 37 3) else ve_no) else (bif pc.beq 37 then ve_pu (ve_push 38 (.int (2))) else ve_no)))))) else (bif pc.ble 58 then (bif pc.ble 47 then (bif pc.ble 42 then (bif pc.ble 38 then (bif pc.beq 38 then ve_pu (ve_br2 (fun x y => decide (¬ x < y)) 124 41) else ve_no) else (bif pc.ble 41 then (bif pc.beq 41 then ve_pu (ve_ll 42 1) else ve_no) else (bif pc.beq 42 then ve_pu (ve_al 43 0) else ve_no))) else (bif pc.ble 43 then (bif pc.beq 43 then ve_pu (ve_il 44 3) else ve_no) else (bif pc.ble 44 then (bif pc.beq 44 then ve_cw 59 2 47 [(6, 107)] else ve_no) else (bif pc.beq 47 then ve_cl 59 108 2 50 else ve_no)))) else (bif pc.ble 52 then (bif pc.ble 50 then (bif pc.beq 50 then ve_pu (ve_ls 51 1 5) else ve_no) else (bif pc.ble 51 then (bif pc.beq 51 then ve_pu (ve_push 52 (.int (0))) else ve_no) else (bif pc.beq 52 then ve_pu (ve_is 54 4 5) else ve_no))) else (bif pc.ble 54 then (bif pc.beq 54 then ve_pu (ve_il 56 4) else ve_no) else (bif pc.ble 56 then (bif pc.beq 56 then ve_pu (ve_push 58 (.int (10))) else ve_no) else (bif pc.beq 58 then ve_pu (ve_br2 (fun x y => decide (¬ x < y)) 118 61) else ve_no))))) else (bif pc.ble 69 then (bif pc.ble 63 then (bif pc.ble 61 then (bif pc.beq 61 then ve_pu (ve_ll 62 1) else ve_no) else (bif pc.ble 62 then (bif pc.beq 62 then ve_pu (ve_al 63 0) else ve_no) else (bif pc.beq 63 then ve_pu (ve_il 64 3) else ve_no))) else (bif pc.ble 64 then (bif pc.beq 64 then ve_pu (ve_il 66 4) else ve_no) else (bif pc.ble 66 then (bif pc.beq 66 then ve_cw 59 3 69 [(6, 109)] else ve_no) else (bif pc.beq 69 then ve_cl 59 99 1 72 else ve_no)))) else (bif pc.ble 76 then (bif pc.ble 72 then (bif pc.beq 72 then ve_pu (ve_i2l 73) else ve_no) else (bif pc.ble 73 then (bif pc.beq 73 then ve_cl 59 106 2 76 else ve_no) else (bif pc.beq 76 then ve_pu (ve_al 77 0) else ve_no))) else (bif pc.ble 77 then (bif pc.beq 77 then ve_pu (ve_il 78 3) else ve_no) else (bif pc.ble 78 then (bif pc.beq 78 then ve_pu (ve_il 80 4) else ve_no) else (bif pc.beq 80 then ve_cw 59 3 83 [(6, 112)] else ve_no))))))) else (bif pc.ble 126 then (bif pc.ble 101 then (bif pc.ble 91 then (bif pc.ble 87 then (bif pc.ble 83 then (bif pc.beq 83 then ve_pu (ve_i2l 84) else ve_no) else (bif pc.ble 84 then (bif pc.beq 84 then ve_cl 59 106 2 87 else ve_no) else (bif pc.beq 87 then ve_pu (ve_al 88 0) else ve_no))) else (bif pc.ble 88 then (bif pc.beq 88 then ve_pu (ve_il 89 3) else ve_no) else (bif pc.ble 89 then (bif pc.beq 89 then ve_pu (ve_il 91 4) else ve_no) else (bif pc.beq 91 then ve_pu (ve_push 92 (.int (-1))) else ve_no)))) else (bif pc.ble 96 then (bif pc.ble 92 then (bif pc.beq 92 then ve_cw 59 4 95 [(6, 114)] else ve_no) else (bif pc.ble 95 then (bif pc.beq 95 then ve_pu (ve_i2l 96) else ve_no) else (bif pc.beq 96 then ve_cl 59 106 2 99 else ve_no))) else (bif pc.ble 99 then (bif pc.beq 99 then ve_pu (ve_al 100 0) else ve_no) else (bif pc.ble 100 then (bif pc.beq 100 then ve_pu (ve_il 101 3) else ve_no) else (bif pc.beq 101 then ve_pu (ve_il 103 4) else ve_no))))) else (bif pc.ble 112 then (bif pc.ble 107 then (bif pc.ble 103 then (bif pc.beq 103 then ve_pu (ve_push 104 (.int (1))) else ve_no) else (bif pc.ble 104 then (bif pc.beq 104 then ve_cw 59 4 107 [(6, 114)] else ve_no) else (bif pc.beq 107 then ve_pu (ve_i2l 108) else ve_no))) else (bif pc.ble 108 then (bif pc.beq 108 then ve_cl 59 106 2 111 else ve_no) else (bif pc.ble 111 then (bif pc.beq 111 then ve_pu (ve_ls 112 1 5) else ve_no) else (bif pc.beq 112 then ve_pu (ve_ii 115 4 5 (1)) else ve_no)))) else (bif pc.ble 121 then (bif pc.ble 115 then (bif pc.beq 115 then ve_pu (ve_jmp 54) else ve_no) else (bif pc.ble 118 then (bif pc.beq 118 then ve_pu (ve_ii 121 3 5 (1)) else ve_no) else (bif pc.beq 121 then ve_pu (ve_jmp 36) else ve_no))) else (bif pc.ble 124 then (bif pc.beq 124 then ve_pu (ve_push 125 (.int (0))) else ve_no) else (bif pc.ble 125 then (bif pc.beq 125 then ve_pu (ve_is 126 3 5) else ve_no) else (bif pc.beq 126 then ve_pu (ve_il 127 3) else ve_no)))))) else (bif pc.ble 149 then (bif pc.ble 137 then (bif pc.ble 132 then (bif pc.ble 127 then (bif pc.beq 127 then ve_pu (ve_push 129 (.int (10))) else ve_no) else (bif pc.ble 129 then (bif pc.beq 129 then ve_pu (ve_br2 (fun x y => decide (¬ x < y)) 168 132) else ve_no) else (bif pc.beq 132 then ve_pu (ve_ll 133 1) else ve_no))) else (bif pc.ble 133 then (bif pc.beq 133 then ve_pu (ve_al 134 0) else ve_no) else (bif pc.ble 134 then (bif pc.beq 134 then ve_gf 137 2 else ve_no) else (bif pc.beq 137 then ve_pu (ve_il 138 3) else ve_no)))) else (bif pc.ble 142 then (bif pc.ble 138 then (bif pc.beq 138 then ve_ald 139 56 else ve_no) else (bif pc.ble 139 then (bif pc.beq 139 then ve_cw 59 1 142 [(11, 30)] else ve_no) else (bif pc.beq 142 then ve_cl 59 108 2 145 else ve_no))) else (bif pc.ble 145 then (bif pc.beq 145 then ve_pu (ve_al 146 0) else ve_no) else (bif pc.ble 146 then (bif pc.beq 146 then ve_gf 149 2 else ve_no) else (bif pc.beq 149 then ve_pu (ve_il 150 3) else ve_no))))) else (bif pc.ble 161 then (bif pc.ble 154 then (bif pc.ble 150 then (bif pc.beq 150 then ve_ald 151 56 else ve_no) else (bif pc.ble 151 then (bif pc.beq 151 then ve_cw 59 1 154 [(11, 97)] else ve_no) else (bif pc.beq 154 then ve_cl 59 99 1 157 else ve_no))) else (bif pc.ble 157 then (bif pc.beq 157 then ve_pu (ve_i2l 158) else ve_no) else (bif pc.ble 158 then (bif pc.beq 158 then ve_cl 59 106 2 161 else ve_no) else (bif pc.beq 161 then ve_pu (ve_ls 162 1 5) else ve_no)))) else (bif pc.ble 168 then (bif pc.ble 162 then (bif pc.beq 162 then ve_pu (ve_ii 165 3 5 (1)) else ve_no) else (bif pc.ble 165 then (bif pc.beq 165 then ve_pu (ve_jmp 126) else ve_no) else (bif pc.beq 168 then ve_pu (ve_ll 169 1) else ve_no))) else (bif pc.ble 169 then (bif pc.beq 169 then ve_pu (ve_push 170 (.long 1)) else ve_no) else (bif pc.ble 170 then (bif pc.beq 170 then ve_cl 59 106 2 173 else ve_no) else (bif pc.beq 173 then ve_rt 2 .long else ve_no)))))))
set_option maxRecDepth 20000 in
def vt_96 : Nat → ve_M := fun pc => bif pc.ble 57 then (bif pc.ble 25 then (bif pc.ble 9 then (bif pc.ble 3 then (bif pc.ble 1 then (bif pc.ble 0 then (bif pc.beq 0 then ve_pu (ve_push 1 (.int (0))) else ve_no) else (bif pc.beq 1 then ve_pu (ve_is 2 2 7) else ve_no)) else (bif pc.ble 2 then (bif pc.beq 2 then ve_pu (ve_al 3 0) else ve_no) else (bif pc.beq 3 then ve_gf 6 2 else ve_no))) else (bif pc.ble 7 then (bif pc.ble 6 then (bif pc.beq 6 then ve_pu (ve_as 7 3 7) else ve_no) else (bif pc.beq 7 then ve_pu (ve_al 8 3) else ve_no)) else (bif pc.ble 8 then (bif pc.beq 8 then ve_len 9 56 else ve_no) else (bif pc.beq 9 then ve_pu (ve_is 11 4 7) else ve_no)))) else (bif pc.ble 16 then (bif pc.ble 12 then (bif pc.ble 11 then (bif pc.beq 11 then ve_pu (ve_push 12 (.int (0))) else ve_no) else (bif pc.beq 12 then ve_pu (ve_is 14 5 7) else ve_no)) else (bif pc.ble 14 then (bif pc.beq 14 then ve_pu (ve_il 16 5) else ve_no) else (bif pc.beq 16 then ve_pu (ve_il 18 4) else ve_no))) else (bif pc.ble 21 then (bif pc.ble 18 then (bif pc.beq 18 then ve_pu (ve_br2 (fun x y => decide (¬ x < y)) 44 21) else ve_no) else (bif pc.beq 21 then ve_pu (ve_al 22 3) else ve_no)) else (bif pc.ble 22 then (bif pc.beq 22 then ve_pu (ve_il 24 5) else ve_no) else (bif pc.ble 24 then (bif pc.beq 24 then ve_ald 25 56 else ve_no) else (bif pc.beq 25 then ve_pu (ve_as 27 6 7) else ve_no)))))) else (bif pc.ble 44 then (bif pc.ble 33 then (bif pc.ble 28 then (bif pc.ble 27 then (bif pc.beq 27 then ve_pu (ve_il 28 2) else ve_no) else (bif pc.beq 28 then ve_pu (ve_al 30 6) else ve_no)) else (bif pc.ble 30 then (bif pc.beq 30 then ve_cw 59 1 33 [(11, 97)] else ve_no) else (bif pc.beq 33 then ve_cl 59 99 1 36 else ve_no))) else (bif pc.ble 37 then (bif pc.ble 36 then (bif pc.beq 36 then ve_pu (ve_iadd 37) else ve_no) else (bif pc.beq 37 then ve_pu (ve_is 38 2 7) else ve_no)) else (bif pc.ble 38 then (bif pc.beq 38 then ve_pu (ve_ii 41 5 7 (1)) else ve_no) else (bif pc.ble 41 then (bif pc.beq 41 then ve_pu (ve_jmp 14) else ve_no) else (bif pc.beq 44 then ve_pu (ve_push 46 (.int (6))) else ve_no))))) else (bif pc.ble 50 then (bif pc.ble 48 then (bif pc.ble 46 then (bif pc.beq 46 then ve_na 48 51 (.int 0) else ve_no) else (bif pc.beq 48 then ve_pu (ve_dup 49) else ve_no)) else (bif pc.ble 49 then (bif pc.beq 49 then ve_pu (ve_push 50 (.int (0))) else ve_no) else (bif pc.beq 50 then ve_pu (ve_al 51 0) else ve_no))) else (bif pc.ble 52 then (bif pc.ble 51 then (bif pc.beq 51 then ve_pu (ve_push 52 (.int (0))) else ve_no) else (bif pc.beq 52 then ve_cw 59 2 55 [(6, 100)] else ve_no)) else (bif pc.ble 55 then (bif pc.beq 55 then ve_pu (ve_al 56 0) else ve_no) else (bif pc.ble 56 then (bif pc.beq 56 then ve_pu (ve_push 57 (.int (1))) else ve_no) else (bif pc.beq 57 then ve_cw 59 2 60 [(6, 100)] else ve_no))))))) else (bif pc.ble 81 then (bif pc.ble 70 then (bif pc.ble 63 then (bif pc.ble 61 then (bif pc.ble 60 then (bif pc.beq 60 then ve_pu (ve_iadd 61) else ve_no) else (bif pc.beq 61 then ve_ast 62 51 .int else ve_no)) else (bif pc.ble 62 then (bif pc.beq 62 then ve_pu (ve_dup 63) else ve_no) else (bif pc.beq 63 then ve_pu (ve_push 64 (.int (1))) else ve_no))) else (bif pc.ble 65 then (bif pc.ble 64 then (bif pc.beq 64 then ve_pu (ve_al 65 0) else ve_no) else (bif pc.beq 65 then ve_gf 68 3 else ve_no)) else (bif pc.ble 68 then (bif pc.beq 68 then ve_ast 69 51 .int else ve_no) else (bif pc.ble 69 then (bif pc.beq 69 then ve_pu (ve_dup 70) else ve_no) else (bif pc.beq 70 then ve_pu (ve_push 71 (.int (2))) else ve_no))))) else (bif pc.ble 74 then (bif pc.ble 72 then (bif pc.ble 71 then (bif pc.beq 71 then ve_pu (ve_il 72 2) else ve_no) else (bif pc.beq 72 then ve_ast 73 51 .int else ve_no)) else (bif pc.ble 73 then (bif pc.beq 73 then ve_pu (ve_dup 74) else ve_no) else (bif pc.beq 74 then ve_pu (ve_push 75 (.int (3))) else ve_no))) else (bif pc.ble 76 then (bif pc.ble 75 then (bif pc.beq 75 then ve_pu (ve_al 76 0) else ve_no) else (bif pc.beq 76 then ve_gf 79 4 else ve_no)) else (bif pc.ble 79 then (bif pc.beq 79 then ve_ast 80 51 .int else ve_no) else (bif pc.ble 80 then (bif pc.beq 80 then ve_pu (ve_dup 81) else ve_no) else (bif pc.beq 81 then ve_pu (ve_push 82 (.int (4))) else ve_no)))))) else (bif pc.ble 94 then (bif pc.ble 87 then (bif pc.ble 83 then (bif pc.ble 82 then (bif pc.beq 82 then ve_pu (ve_al 83 0) else ve_no) else (bif pc.beq 83 then ve_gf 86 5 else ve_no)) else (bif pc.ble 86 then (bif pc.beq 86 then ve_ast 87 51 .int else ve_no) else (bif pc.beq 87 then ve_pu (ve_dup 88) else ve_no))) else (bif pc.ble 89 then (bif pc.ble 88 then (bif pc.beq 88 then ve_pu (ve_push 89 (.int (5))) else ve_no) else (bif pc.beq 89 then ve_pu (ve_al 90 0) else ve_no)) else (bif pc.ble 90 then (bif pc.beq 90 then ve_pu (ve_push 91 (.int (0))) else ve_no) else (bif pc.ble 91 then (bif pc.beq 91 then ve_cw 59 2 94 [(6, 105)] else ve_no) else (bif pc.beq 94 then ve_pu (ve_al 95 0) else ve_no))))) else (bif pc.ble 100 then (bif pc.ble 96 then (bif pc.ble 95 then (bif pc.beq 95 then ve_pu (ve_push 96 (.int (1))) else ve_no) else (bif pc.beq 96 then ve_cw 59 2 99 [(6, 105)] else ve_no)) else (bif pc.ble 99 then (bif pc.beq 99 then ve_pu (ve_iadd 100) else ve_no) else (bif pc.beq 100 then ve_ast 101 51 .int else ve_no))) else (bif pc.ble 102 then (bif pc.ble 101 then (bif pc.beq 101 then ve_pu (ve_as 102 3 7) else ve_no) else (bif pc.beq 102 then ve_pu (ve_al 103 3) else ve_no)) else (bif pc.ble 103 then (bif pc.beq 103 then ve_pu (ve_il 104 1) else ve_no) else (bif pc.ble 104 then (bif pc.beq 104 then ve_ald 105 51 else ve_no) else (bif pc.beq 105 then ve_rt 1 .int else ve_no)))))))
set_option maxRecDepth 20000 in
def vt_97 : Nat → ve_M := fun pc => bif pc.ble 11 then (bif pc.ble 4 then (bif pc.ble 0 then (bif pc.beq 0 then ve_pu (ve_al 1 0) else ve_no) else (bif pc.ble 1 then (bif pc.beq 1 then ve_cw 59 1 4 [(11, 98)] else ve_no) else (bif pc.beq 4 then ve_pu (ve_br1 (fun x => decide (¬ x = 0)) 41 7) else ve_no))) else (bif pc.ble 7 then (bif pc.beq 7 then ve_pu (ve_al 8 0) else ve_no) else (bif pc.ble 8 then (bif pc.beq 8 then ve_gf 11 1 else ve_no) else (bif pc.beq 11 then ve_pu (ve_nn 14 45) else ve_no)))) else (bif pc.ble 18 then (bif pc.ble 14 then (bif pc.beq 14 then ve_pu (ve_al 15 0) else ve_no) else (bif pc.ble 15 then (bif pc.beq 15 then ve_gf 18 1 else ve_no) else (bif pc.beq 18 then ve_cw 59 1 21 [(11, 97)] else ve_no))) else (bif pc.ble 21 then (bif pc.beq 21 then ve_pu (ve_br1 (fun x => decide (x = 0)) 45 24) else ve_no) else (bif pc.ble 45 then (bif pc.beq 45 then ve_pu (ve_push 46 (.int (0))) else ve_no) else (bif pc.beq 46 then ve_rt 1 .boolean else ve_no))))
set_option maxRecDepth 20000 in
def vt_98 : Nat → ve_M := fun pc => bif pc.ble 9 then (bif pc.ble 1 then (bif pc.ble 0 then (bif pc.beq 0 then ve_pu (ve_al 1 0) else ve_no) else (bif pc.beq 1 then ve_gf 4 0 else ve_no)) else (bif pc.ble 4 then (bif pc.beq 4 then ve_pu (ve_push 6 (.int (91))) else ve_no) else (bif pc.ble 6 then (bif pc.beq 6 then ve_pu (ve_br2 (fun x y => decide (x = y)) 18 9) else ve_no) else (bif pc.beq 9 then ve_pu (ve_al 10 0) else ve_no)))) else (bif pc.ble 13 then (bif pc.ble 10 then (bif pc.beq 10 then ve_gf 13 0 else ve_no) else (bif pc.beq 13 then ve_pu (ve_push 15 (.int (93))) else ve_no)) else (bif pc.ble 15 then (bif pc.beq 15 then ve_pu (ve_br2 (fun x y => decide (¬ x = y)) 22 18) else ve_no) else (bif pc.ble 22 then (bif pc.beq 22 then ve_pu (ve_push 23 (.int (0))) else ve_no) else (bif pc.beq 23 then ve_rt 1 .boolean else ve_no))))
set_option maxRecDepth 20000 in
def vt_99 : Nat → ve_M := fun pc => bif pc.ble 4 then (bif pc.ble 0 then (bif pc.beq 0 then ve_pu (ve_il 1 0) else ve_no) else (bif pc.ble 1 then (bif pc.beq 1 then ve_pu (ve_br1 (fun x => decide (x = 0)) 8 4) else ve_no) else (bif pc.beq 4 then ve_pu (ve_push 5 (.int (1))) else ve_no))) else (bif pc.ble 5 then (bif pc.beq 5 then ve_pu (ve_jmp 9) else ve_no) else (bif pc.ble 8 then (bif pc.beq 8 then ve_pu (ve_push 9 (.int (0))) else ve_no) else (bif pc.beq 9 then ve_rt 1 .int else ve_no)))
set_option maxRecDepth 20000 in
def vt_100 : Nat → ve_M := fun pc => bif pc.ble 4 then (bif pc.ble 0 then (bif pc.beq 0 then ve_pu (ve_al 1 0) else ve_no) else (bif pc.ble 1 then (bif pc.beq 1 then ve_gf 4 1 else ve_no) else (bif pc.beq 4 then ve_pu (ve_il 5 1) else ve_no))) else (bif pc.ble 8 then (bif pc.ble 5 then (bif pc.beq 5 then ve_cw 59 2 8 [(47, 101)] else ve_no) else (bif pc.beq 8 then ve_cc 11 [47] else ve_no)) else (bif pc.ble 11 then (bif pc.beq 11 then ve_cw 59 1 14 [(47, 104)] else ve_no) else (bif pc.beq 14 then ve_rt 1 .int else ve_no)))
set_option maxRecDepth 20000 in
def vt_101 : Nat → ve_M := fun pc => bif pc.ble 5 then (bif pc.ble 1 then (bif pc.ble 0 then (bif pc.beq 0 then ve_pu (ve_il 1 1) else ve_no) else (bif pc.beq 1 then ve_pu (ve_al 2 0) else ve_no)) else (bif pc.ble 2 then (bif pc.beq 2 then ve_gf 5 2 else ve_no) else (bif pc.beq 5 then ve_cl 59 102 2 8 else ve_no))) else (bif pc.ble 9 then (bif pc.ble 8 then (bif pc.beq 8 then ve_pu (ve_pop 9) else ve_no) else (bif pc.beq 9 then ve_pu (ve_al 10 0) else ve_no)) else (bif pc.ble 10 then (bif pc.beq 10 then ve_pu (ve_il 11 1) else ve_no) else (bif pc.ble 11 then (bif pc.beq 11 then ve_cw 59 2 14 [(47, 103)] else ve_no) else (bif pc.beq 14 then ve_rt 3 (.object "java/lang/Object") else ve_no))))
set_option maxRecDepth 20000 in
def vt_102 : Nat → ve_M := fun pc => bif pc.ble 1 then (bif pc.ble 0 then (bif pc.beq 0 then ve_pu (ve_il 1 0) else ve_no) else (bif pc.beq 1 then ve_pu (ve_il 2 1) else ve_no)) else (bif pc.ble 2 then (bif pc.beq 2 then ve_pu (ve_push 3 .null) else ve_no) else (bif pc.ble 3 then (bif pc.beq 3 then ve_cl 59 80 3 6 else ve_no) else (bif pc.beq 6 then ve_rt 1 .int else ve_no)))
set_option maxRecDepth 20000 in
def vt_103 : Nat → ve_M := fun pc => bif pc.ble 1 then (bif pc.ble 0 then (bif pc.beq 0 then ve_pu (ve_al 1 0) else ve_no) else (bif pc.beq 1 then ve_gf 4 1 else ve_no)) else (bif pc.ble 4 then (bif pc.beq 4 then ve_pu (ve_il 5 1) else ve_no) else (bif pc.ble 5 then (bif pc.beq 5 then ve_ald 6 57 else ve_no) else (bif pc.beq 6 then ve_rt 3 (.object "java/lang/Object") else ve_no)))
set_option maxRecDepth 20000 in
def vt_104 : Nat → ve_M := fun pc => bif pc.ble 0 then (bif pc.beq 0 then ve_pu (ve_al 1 0) else ve_no) else (bif pc.ble 1 then (bif pc.beq 1 then ve_gf 4 2 else ve_no) else (bif pc.beq 4 then ve_rt 1 .int else ve_no))
set_option maxRecDepth 20000 in
def vt_105 : Nat → ve_M := fun pc => bif pc.ble 4 then (bif pc.ble 1 then (bif pc.ble 0 then (bif pc.beq 0 then ve_pu (ve_push 1 (.int (0))) else ve_no) else (bif pc.beq 1 then ve_pu (ve_is 2 2 4) else ve_no)) else (bif pc.ble 2 then (bif pc.beq 2 then ve_pu (ve_push 3 (.int (0))) else ve_no) else (bif pc.ble 3 then (bif pc.beq 3 then ve_pu (ve_is 4 3 4) else ve_no) else (bif pc.beq 4 then ve_pu (ve_il 5 3) else ve_no)))) else (bif pc.ble 7 then (bif pc.ble 5 then (bif pc.beq 5 then ve_pu (ve_al 6 0) else ve_no) else (bif pc.ble 6 then (bif pc.beq 6 then ve_pu (ve_il 7 1) else ve_no) else (bif pc.beq 7 then ve_cw 59 2 10 [(6, 100)] else ve_no))) else (bif pc.ble 10 then (bif pc.beq 10 then ve_pu (ve_br2 (fun x y => decide (¬ x < y)) 48 13) else ve_no) else (bif pc.ble 48 then (bif pc.beq 48 then ve_pu (ve_il 49 2) else ve_no) else (bif pc.beq 49 then ve_rt 1 .int else ve_no))))
set_option maxRecDepth 20000 in
def vt_106 : Nat → ve_M := fun pc => bif pc.ble 4 then (bif pc.ble 0 then (bif pc.beq 0 then ve_pu (ve_ll 1 0) else ve_no) else (bif pc.ble 1 then (bif pc.beq 1 then ve_pu (ve_push 4 (.long (31))) else ve_no) else (bif pc.beq 4 then ve_pu (ve_lmul 5) else ve_no))) else (bif pc.ble 5 then (bif pc.beq 5 then ve_pu (ve_ll 6 2) else ve_no) else (bif pc.ble 6 then (bif pc.beq 6 then ve_pu (ve_ladd 7) else ve_no) else (bif pc.beq 7 then ve_rt 2 .long else ve_no)))
set_option maxRecDepth 20000 in
def vt_107 : Nat → ve_M := fun pc => bif pc.ble 5 then (bif pc.ble 2 then (bif pc.ble 0 then (bif pc.beq 0 then ve_pu (ve_push 2 (.ref 42)) else ve_no) else (bif pc.beq 2 then ve_pu (ve_as 3 2 4) else ve_no)) else (bif pc.ble 3 then (bif pc.beq 3 then ve_pu (ve_push 4 (.int (0))) else ve_no) else (bif pc.ble 4 then (bif pc.beq 4 then ve_pu (ve_is 5 3 4) else ve_no) else (bif pc.beq 5 then ve_pu (ve_il 6 3) else ve_no)))) else (bif pc.ble 8 then (bif pc.ble 6 then (bif pc.beq 6 then ve_pu (ve_al 7 0) else ve_no) else (bif pc.ble 7 then (bif pc.beq 7 then ve_pu (ve_il 8 1) else ve_no) else (bif pc.beq 8 then ve_cw 59 2 11 [(6, 100)] else ve_no))) else (bif pc.ble 11 then (bif pc.beq 11 then ve_pu (ve_br2 (fun x y => decide (¬ x < y)) 73 14) else ve_no) else (bif pc.ble 73 then (bif pc.beq 73 then ve_pu (ve_al 74 2) else ve_no) else (bif pc.beq 74 then ve_rt 3 (.object "java/lang/String") else ve_no))))
set_option maxRecDepth 20000 in
def vt_108 : Nat → ve_M := fun pc => bif pc.ble 14 then (bif pc.ble 3 then (bif pc.ble 1 then (bif pc.ble 0 then (bif pc.beq 0 then ve_pu (ve_ll 1 0) else ve_no) else (bif pc.beq 1 then ve_pu (ve_ls 2 3 6) else ve_no)) else (bif pc.ble 2 then (bif pc.beq 2 then ve_pu (ve_push 3 (.int (0))) else ve_no) else (bif pc.beq 3 then ve_pu (ve_is 5 5 6) else ve_no))) else (bif pc.ble 7 then (bif pc.ble 5 then (bif pc.beq 5 then ve_pu (ve_il 7 5) else ve_no) else (bif pc.beq 7 then ve_pu (ve_al 8 2) else ve_no)) else (bif pc.ble 8 then (bif pc.beq 8 then ve_cw 59 1 11 [(28, 38)] else ve_no) else (bif pc.ble 11 then (bif pc.beq 11 then ve_pu (ve_br2 (fun x y => decide (¬ x < y)) 32 14) else ve_no) else (bif pc.beq 14 then ve_pu (ve_ll 15 3) else ve_no))))) else (bif pc.ble 22 then (bif pc.ble 16 then (bif pc.ble 15 then (bif pc.beq 15 then ve_pu (ve_al 16 2) else ve_no) else (bif pc.beq 16 then ve_pu (ve_il 18 5) else ve_no)) else (bif pc.ble 18 then (bif pc.beq 18 then ve_cw 59 2 21 [(28, 76)] else ve_no) else (bif pc.ble 21 then (bif pc.beq 21 then ve_pu (ve_i2l 22) else ve_no) else (bif pc.beq 22 then ve_cl 59 106 2 25 else ve_no)))) else (bif pc.ble 26 then (bif pc.ble 25 then (bif pc.beq 25 then ve_pu (ve_ls 26 3 6) else ve_no) else (bif pc.beq 26 then ve_pu (ve_ii 29 5 6 (1)) else ve_no)) else (bif pc.ble 29 then (bif pc.beq 29 then ve_pu (ve_jmp 5) else ve_no) else (bif pc.ble 32 then (bif pc.beq 32 then ve_pu (ve_ll 33 3) else ve_no) else (bif pc.beq 33 then ve_rt 2 .long else ve_no)))))
set_option maxRecDepth 20000 in
def vt_109 : Nat → ve_M := fun pc => bif pc.ble 12 then (bif pc.ble 2 then (bif pc.ble 0 then (bif pc.beq 0 then ve_pu (ve_al 1 0) else ve_no) else (bif pc.ble 1 then (bif pc.beq 1 then ve_pu (ve_il 2 2) else ve_no) else (bif pc.beq 2 then ve_pu (ve_il 3 1) else ve_no))) else (bif pc.ble 6 then (bif pc.ble 3 then (bif pc.beq 3 then ve_cw 59 3 6 [(6, 110)] else ve_no) else (bif pc.beq 6 then ve_pu (ve_br1 (fun x => decide (¬ x = 0)) 11 9) else ve_no)) else (bif pc.ble 11 then (bif pc.beq 11 then ve_pu (ve_push 12 (.int (1))) else ve_no) else (bif pc.beq 12 then ve_pu (ve_is 13 3 4) else ve_no)))) else (bif pc.ble 15 then (bif pc.ble 13 then (bif pc.beq 13 then ve_pu (ve_il 14 3) else ve_no) else (bif pc.ble 14 then (bif pc.beq 14 then ve_pu (ve_al 15 0) else ve_no) else (bif pc.beq 15 then ve_pu (ve_il 16 1) else ve_no))) else (bif pc.ble 19 then (bif pc.ble 16 then (bif pc.beq 16 then ve_cw 59 2 19 [(6, 100)] else ve_no) else (bif pc.beq 19 then ve_pu (ve_br2 (fun x y => decide (¬ x < y)) 80 22) else ve_no)) else (bif pc.ble 80 then (bif pc.beq 80 then ve_pu (ve_push 81 (.int (1))) else ve_no) else (bif pc.beq 81 then ve_rt 1 .boolean else ve_no))))
set_option maxRecDepth 20000 in
def vt_110 : Nat → ve_M := fun pc => bif pc.ble 9 then (bif pc.ble 4 then (bif pc.ble 0 then (bif pc.beq 0 then ve_pu (ve_al 1 0) else ve_no) else (bif pc.ble 1 then (bif pc.beq 1 then ve_gf 4 2 else ve_no) else (bif pc.beq 4 then ve_pu (ve_il 5 1) else ve_no))) else (bif pc.ble 5 then (bif pc.beq 5 then ve_ald 6 56 else ve_no) else (bif pc.ble 6 then (bif pc.beq 6 then ve_cw 59 1 9 [(11, 97)] else ve_no) else (bif pc.beq 9 then ve_pu (ve_br1 (fun x => decide (¬ x = 0)) 29 12) else ve_no)))) else (bif pc.ble 14 then (bif pc.ble 12 then (bif pc.beq 12 then ve_pu (ve_al 13 0) else ve_no) else (bif pc.ble 13 then (bif pc.beq 13 then ve_pu (ve_il 14 2) else ve_no) else (bif pc.beq 14 then ve_cw 59 2 17 [(6, 111)] else ve_no))) else (bif pc.ble 29 then (bif pc.ble 17 then (bif pc.beq 17 then ve_pu (ve_br1 (fun x => decide (x = 0)) 29 20) else ve_no) else (bif pc.beq 29 then ve_pu (ve_push 30 (.int (1))) else ve_no)) else (bif pc.ble 30 then (bif pc.beq 30 then ve_pu (ve_jmp 34) else ve_no) else (bif pc.beq 34 then ve_rt 1 .boolean else ve_no))))
set_option maxRecDepth 20000 in
def vt_111 : Nat → ve_M := fun pc => bif pc.ble 2 then (bif pc.ble 0 then (bif pc.beq 0 then ve_pu (ve_al 1 0) else ve_no) else (bif pc.ble 1 then (bif pc.beq 1 then ve_pu (ve_il 2 1) else ve_no) else (bif pc.beq 2 then ve_cw 59 2 5 [(6, 105)] else ve_no))) else (bif pc.ble 5 then (bif pc.beq 5 then ve_pu (ve_br1 (fun x => decide (¬ 0 < x)) 12 8) else ve_no) else (bif pc.ble 12 then (bif pc.beq 12 then ve_pu (ve_push 13 (.int (0))) else ve_no) else (bif pc.beq 13 then ve_rt 1 .boolean else ve_no)))
set_option maxRecDepth 20000 in
def vt_112 : Nat → ve_M := fun pc => bif pc.ble 14 then (bif pc.ble 3 then (bif pc.ble 1 then (bif pc.ble 0 then (bif pc.beq 0 then ve_pu (ve_al 1 0) else ve_no) else (bif pc.beq 1 then ve_pu (ve_il 2 1) else ve_no)) else (bif pc.ble 2 then (bif pc.beq 2 then ve_pu (ve_il 3 2) else ve_no) else (bif pc.beq 3 then ve_cw 59 3 6 [(6, 113)] else ve_no))) else (bif pc.ble 12 then (bif pc.ble 6 then (bif pc.beq 6 then ve_pu (ve_br1 (fun x => decide (¬ x = 0)) 12 9) else ve_no) else (bif pc.beq 12 then ve_pu (ve_push 13 (.int (0))) else ve_no)) else (bif pc.ble 13 then (bif pc.beq 13 then ve_pu (ve_is 14 3 7) else ve_no) else (bif pc.beq 14 then ve_pu (ve_push 15 (.int (0))) else ve_no)))) else (bif pc.ble 20 then (bif pc.ble 17 then (bif pc.ble 15 then (bif pc.beq 15 then ve_pu (ve_is 17 4 7) else ve_no) else (bif pc.beq 17 then ve_pu (ve_il 19 4) else ve_no)) else (bif pc.ble 19 then (bif pc.beq 19 then ve_pu (ve_al 20 0) else ve_no) else (bif pc.beq 20 then ve_pu (ve_il 21 1) else ve_no))) else (bif pc.ble 24 then (bif pc.ble 21 then (bif pc.beq 21 then ve_cw 59 2 24 [(6, 100)] else ve_no) else (bif pc.beq 24 then ve_pu (ve_br2 (fun x y => decide (¬ x < y)) 120 27) else ve_no)) else (bif pc.ble 120 then (bif pc.beq 120 then ve_pu (ve_il 121 3) else ve_no) else (bif pc.beq 121 then ve_rt 1 .int else ve_no))))
set_option maxRecDepth 20000 in
def vt_113 : Nat → ve_M := fun pc => bif pc.ble 9 then (bif pc.ble 4 then (bif pc.ble 0 then (bif pc.beq 0 then ve_pu (ve_al 1 0) else ve_no) else (bif pc.ble 1 then (bif pc.beq 1 then ve_gf 4 2 else ve_no) else (bif pc.beq 4 then ve_pu (ve_il 5 2) else ve_no))) else (bif pc.ble 5 then (bif pc.beq 5 then ve_ald 6 56 else ve_no) else (bif pc.ble 6 then (bif pc.beq 6 then ve_cw 59 1 9 [(11, 97)] else ve_no) else (bif pc.beq 9 then ve_pu (ve_br1 (fun x => decide (¬ x = 0)) 20 12) else ve_no)))) else (bif pc.ble 14 then (bif pc.ble 12 then (bif pc.beq 12 then ve_pu (ve_al 13 0) else ve_no) else (bif pc.ble 13 then (bif pc.beq 13 then ve_pu (ve_il 14 1) else ve_no) else (bif pc.beq 14 then ve_cw 59 2 17 [(6, 111)] else ve_no))) else (bif pc.ble 20 then (bif pc.ble 17 then (bif pc.beq 17 then ve_pu (ve_br1 (fun x => decide (¬ x = 0)) 24 20) else ve_no) else (bif pc.beq 20 then ve_pu (ve_push 21 (.int (1))) else ve_no)) else (bif pc.ble 21 then (bif pc.beq 21 then ve_pu (ve_jmp 25) else ve_no) else (bif pc.beq 25 then ve_rt 1 .boolean else ve_no))))
set_option maxRecDepth 20000 in
def vt_114 : Nat → ve_M := fun pc => bif pc.ble 2 then (bif pc.ble 0 then (bif pc.beq 0 then ve_pu (ve_al 1 0) else ve_no) else (bif pc.ble 1 then (bif pc.beq 1 then ve_pu (ve_il 2 1) else ve_no) else (bif pc.beq 2 then ve_cw 59 2 5 [(6, 100)] else ve_no))) else (bif pc.ble 5 then (bif pc.beq 5 then ve_pu (ve_br1 (fun x => decide (x = 0)) 17 8) else ve_no) else (bif pc.ble 17 then (bif pc.beq 17 then ve_pu (ve_push 19 (.int (-9))) else ve_no) else (bif pc.beq 19 then ve_rt 1 .int else ve_no)))
def vs_L : List ve_D := [(⟨"OrderbenchLaw", "law", "([I)Z"⟩, code, 7, (some .boolean), vt_0, []),
  (⟨"Orderbench", "<init>", "()V"⟩, prog_1_method_1_code, 3, none, vt_1, []),
  (⟨"Orderbench$Row", "<init>", "()V"⟩, prog_4_method_1_code, 1, none, vt_2, []),
  (⟨"Orderbench$Base", "<init>", "(I)V"⟩, prog_2_method_1_code, 2, none, vt_3, []),
  (⟨"Orderbench$Shape", "<init>", "(IZ)V"⟩, prog_5_method_1_code, 3, none, vt_4, []),
  (⟨"java/lang/StringBuilder", "<init>", "()V"⟩, prog_29_method_1_code, 1, none, vt_5, []),
  (⟨"java/lang/AbstractStringBuilder", "<init>", "(I)V"⟩, prog_13_method_2_code, 2, none, vt_6, []),
  (⟨"OrderbenchModel", "<init>", "()V"⟩, prog_10_method_1_code, 2, none, vt_7, []),
  (⟨"java/util/ArrayList", "<init>", "()V"⟩, prog_39_method_2_code, 1, none, vt_8, []),
  (⟨"java/util/AbstractList", "<init>", "()V"⟩, prog_38_method_1_code, 1, none, vt_9, []),
  (⟨"java/util/AbstractCollection", "<init>", "()V"⟩, prog_37_method_1_code, 1, none, vt_10, []),
  (⟨"java/util/ArrayList", "add", "(Ljava/lang/Object;)Z"⟩, prog_39_method_25_code, 2, (some .boolean), vt_11, []),
  (⟨"java/util/ArrayList", "add", "(Ljava/lang/Object;[Ljava/lang/Object;I)V"⟩, prog_39_method_24_code, 4, none, vt_12, []),
  (⟨"java/util/ArrayList", "grow", "()[Ljava/lang/Object;"⟩, prog_39_method_7_code, 1, (some (.array (.object "java/lang/Object"))), vt_13, []),
  (⟨"java/util/ArrayList", "grow", "(I)[Ljava/lang/Object;"⟩, prog_39_method_6_code, 4, (some (.array (.object "java/lang/Object"))), vt_14, []),
  (⟨"java/lang/Math", "max", "(II)I"⟩, prog_25_method_65_code, 2, (some .int), vt_15, []),
  (⟨"OrderbenchModel$Shape", "<init>", "(CLOrderbenchModel$Shape;LOrderbenchModel$Shape;)V"⟩, prog_11_method_1_code, 4, none, vt_16, []),
  (⟨"OrderbenchLaw$Out", "<init>", "()V"⟩, prog_9_method_1_code, 1, none, vt_17, []),
  (⟨"OrderbenchLaw", "turn", "(LOrderbench;IILOrderbenchLaw$Out;)I"⟩, method_12_code, 5, (some .int), vt_18, [(0, 11, 14, 19), (0, 11, 18, 23)]),
  (⟨"Orderbench", "turn", "(II)I"⟩, prog_1_method_12_code, 4, (some .int), vt_19, []),
  (⟨"Orderbench", "orderAt", "(I)LOrderbench$Shape;"⟩, prog_1_method_40_code, 2, (some (.object "Orderbench$Shape")), vt_20, []),
  (⟨"Orderbench$Turned", "<init>", "(LOrderbench$Shape;)V"⟩, prog_7_method_1_code, 2, none, vt_21, []),
  (⟨"Orderbench", "needSize", "(LOrderbench$Shape;)V"⟩, prog_1_method_45_code, 1, none, vt_22, []),
  (⟨"Orderbench", "makeOrder", "(ILOrderbench$Shape;)I"⟩, prog_1_method_52_code, 3, (some .int), vt_23, []),
  (⟨"OrderbenchModel", "turn", "(II)I"⟩, prog_10_method_30_code, 3, (some .int), vt_24, []),
  (⟨"OrderbenchModel", "isNoOrder", "(I)Z"⟩, prog_10_method_8_code, 1, (some .boolean), vt_25, []),
  (⟨"OrderbenchModel", "isIn", "(III)Z"⟩, prog_10_method_5_code, 3, (some .boolean), vt_26, []),
  (⟨"OrderbenchModel", "fails", "(ZZ)Z"⟩, prog_10_method_4_code, 3, (some .boolean), vt_27, []),
  (⟨"OrderbenchModel", "fails", "(ZZZ)Z"⟩, prog_10_method_3_code, 4, (some .boolean), vt_28, []),
  (⟨"OrderbenchModel", "become", "(ILOrderbenchModel$Shape;)I"⟩, prog_10_method_29_code, 3, (some .int), vt_29, []),
  (⟨"OrderbenchModel$Shape", "text", "()Ljava/lang/String;"⟩, prog_11_method_2_code, 1, (some (.object "java/lang/String")), vt_30, []),
  (⟨"java/lang/StringBuilder", "append", "(C)Ljava/lang/StringBuilder;"⟩, prog_29_method_14_code, 2, (some (.object "java/lang/StringBuilder")), vt_31, []),
  (⟨"java/lang/AbstractStringBuilder", "append", "(C)Ljava/lang/AbstractStringBuilder;"⟩, prog_13_method_31_code, 2, (some (.object "java/lang/AbstractStringBuilder")), vt_32, []),
  (⟨"java/lang/AbstractStringBuilder", "ensureCapacityInternal", "(I)V"⟩, prog_13_method_9_code, 3, none, vt_33, []),
  (⟨"java/lang/AbstractStringBuilder", "isLatin1", "()Z"⟩, prog_13_method_68_code, 1, (some .boolean), vt_34, []),
  (⟨"java/lang/StringLatin1", "canEncode", "(C)Z"⟩, prog_31_method_3_code, 1, (some .boolean), vt_35, []),
  (⟨"java/lang/StringBuilder", "append", "(Ljava/lang/String;)Ljava/lang/StringBuilder;"⟩, prog_29_method_7_code, 2, (some (.object "java/lang/StringBuilder")), vt_36, []),
  (⟨"java/lang/AbstractStringBuilder", "append", "(Ljava/lang/String;)Ljava/lang/AbstractStringBuilder;"⟩, prog_13_method_22_code, 3, (some (.object "java/lang/AbstractStringBuilder")), vt_37, []),
  (⟨"java/lang/String", "length", "()I"⟩, prog_28_method_54_code, 1, (some .int), vt_38, []),
  (⟨"java/lang/String", "coder", "()B"⟩, prog_28_method_152_code, 1, (some .byte), vt_39, []),
  (⟨"java/lang/AbstractStringBuilder", "putStringAt", "(ILjava/lang/String;)V"⟩, prog_13_method_73_code, 3, none, vt_40, []),
  (⟨"java/lang/AbstractStringBuilder", "inflateIfNeededFor", "(Ljava/lang/String;)V"⟩, prog_13_method_71_code, 2, none, vt_41, []),
  (⟨"java/lang/String", "getBytes", "([BIB)V"⟩, prog_28_method_147_code, 4, none, vt_42, []),
  (⟨"java/lang/StringBuilder", "toString", "()Ljava/lang/String;"⟩, prog_29_method_42_code, 1, (some (.object "java/lang/String")), vt_43, []),
  (⟨"java/lang/String", "<init>", "(Ljava/lang/StringBuilder;)V"⟩, prog_28_method_53_code, 2, none, vt_44, []),
  (⟨"java/lang/String", "<init>", "(Ljava/lang/AbstractStringBuilder;Ljava/lang/Void;)V"⟩, prog_28_method_150_code, 5, none, vt_45, []),
  (⟨"java/lang/AbstractStringBuilder", "getValue", "()[B"⟩, prog_13_method_64_code, 1, (some (.array .byte)), vt_46, []),
  (⟨"java/lang/StringBuilder", "length", "()I"⟩, prog_29_method_93_code, 1, (some .int), vt_47, []),
  (⟨"java/lang/AbstractStringBuilder", "length", "()I"⟩, prog_13_method_6_code, 1, (some .int), vt_48, []),
  (⟨"java/util/Arrays", "copyOfRange", "([BII)[B"⟩, prog_41_method_132_code, 3, (some (.array .byte)), vt_49, []),
  (⟨"java/util/Arrays", "copyOfRangeByte", "([BII)[B"⟩, prog_41_method_133_code, 5, (some (.array .byte)), vt_50, []),
  (⟨"java/util/Arrays", "checkLength", "(II)V"⟩, prog_41_method_131_code, 2, none, vt_51, []),
  (⟨"java/lang/Math", "min", "(II)I"⟩, prog_25_method_69_code, 2, (some .int), vt_52, []),
  (⟨"OrderbenchModel", "sizeOf", "(I)I"⟩, prog_10_method_27_code, 2, (some .int), vt_53, []),
  (⟨"java/lang/AbstractStringBuilder", "newCapacity", "(I)I"⟩, prog_13_method_10_code, 6, (some .int), vt_54, []),
  (⟨"jdk/internal/util/ArraysSupport", "newLength", "(III)I"⟩, prog_48_method_27_code, 4, (some .int), vt_55, []),
  (⟨"java/util/Arrays", "copyOf", "([BI)[B"⟩, prog_41_method_121_code, 3, (some (.array .byte)), vt_56, []),
  (⟨"Orderbench", "digest", "()J"⟩, prog_1_method_38_code, 4, (some .long), vt_57, []),
  (⟨"Orderbench", "houseNumber", "(I)I"⟩, prog_1_method_69_code, 2, (some .int), vt_58, []),
  (⟨"Orderbench", "howManySafe", "()I"⟩, prog_1_method_70_code, 3, (some .int), vt_59, []),
  (⟨"Orderbench$Row", "empties", "()I"⟩, prog_4_method_9_code, 1, (some .int), vt_60, []),
  (⟨"Orderbench$Row", "howOften", "(I)I"⟩, prog_4_method_10_code, 4, (some .int), vt_61, []),
  (⟨"Orderbench", "digestBench", "(JLOrderbench$Row;)J"⟩, prog_1_method_72_code, 8, (some .long), vt_62, []),
  (⟨"java/lang/StringBuilder", "setLength", "(I)V"⟩, prog_29_method_89_code, 2, none, vt_63, []),
  (⟨"java/lang/AbstractStringBuilder", "setLength", "(I)V"⟩, prog_13_method_13_code, 2, none, vt_64, []),
  (⟨"Orderbench", "writeRow", "(LOrderbench$Row;)V"⟩, prog_1_method_50_code, 3, none, vt_65, []),
  (⟨"Orderbench", "digestSigns", "(J)J"⟩, prog_1_method_71_code, 6, (some .long), vt_66, []),
  (⟨"Orderbench", "liesSorted", "(LOrderbench$Row;LOrderbench$Shape;)Z"⟩, prog_1_method_59_code, 2, (some .boolean), vt_67, []),
  (⟨"Orderbench", "takes", "(LOrderbench$Row;LOrderbench$Shape;)Z"⟩, prog_1_method_55_code, 2, (some .boolean), vt_68, []),
  (⟨"Orderbench", "isAscending", "(LOrderbench$Row;LOrderbench$Shape;)Z"⟩, prog_1_method_60_code, 3, (some .boolean), vt_69, []),
  (⟨"Orderbench", "classesOf", "(LOrderbench$Row;LOrderbench$Shape;)I"⟩, prog_1_method_63_code, 4, (some .int), vt_70, []),
  (⟨"Orderbench", "takesEach", "(LOrderbench$Row;LOrderbench$Shape;)Z"⟩, prog_1_method_54_code, 2, (some .boolean), vt_71, []),
  (⟨"Orderbench", "alikeToFarthest", "(LOrderbench$Row;LOrderbench$Shape;I)I"⟩, prog_1_method_65_code, 5, (some .int), vt_72, []),
  (⟨"Orderbench", "digestOrder", "(JLOrderbench$Shape;)J"⟩, prog_1_method_73_code, 4, (some .long), vt_73, []),
  (⟨"Orderbench$Turned", "write", "(Ljava/lang/StringBuilder;I)V"⟩, prog_7_method_3_code, 3, none, vt_74, []),
  (⟨"Orderbench$Base", "write", "(Ljava/lang/StringBuilder;I)V"⟩, prog_2_method_3_code, 3, none, vt_75, []),
  (⟨"java/lang/String", "charAt", "(I)C"⟩, prog_28_method_56_code, 2, (some .char), vt_76, []),
  (⟨"java/lang/String", "isLatin1", "()Z"⟩, prog_28_method_154_code, 1, (some .boolean), vt_77, []),
  (⟨"java/lang/StringLatin1", "charAt", "([BI)C"⟩, prog_31_method_2_code, 2, (some .char), vt_78, []),
  (⟨"java/lang/String", "checkIndex", "(II)V"⟩, prog_28_method_155_code, 2, none, vt_79, []),
  (⟨"jdk/internal/util/Preconditions", "checkIndex", "(IILjava/util/function/BiFunction;)I"⟩, prog_49_method_11_code, 3, (some .int), vt_80, []),
  (⟨"java/lang/StringBuilder", "charAt", "(I)C"⟩, prog_29_method_88_code, 2, (some .char), vt_81, []),
  (⟨"java/lang/AbstractStringBuilder", "charAt", "(I)C"⟩, prog_13_method_14_code, 5, (some .char), vt_82, []),
  (⟨"Orderbench", "isSound", "()Z"⟩, prog_1_method_37_code, 3, (some .boolean), vt_83, []),
  (⟨"Orderbench", "isSoundOn", "(LOrderbench$Row;LOrderbench$Shape;)Z"⟩, prog_1_method_68_code, 4, (some .boolean), vt_84, []),
  (⟨"Orderbench", "ranksAll", "(LOrderbench$Row;LOrderbench$Shape;)Z"⟩, prog_1_method_57_code, 6, (some .boolean), vt_85, []),
  (⟨"Orderbench$Row", "becomeTaken", "(LOrderbench$Row;Z)V"⟩, prog_4_method_8_code, 5, none, vt_86, []),
  (⟨"Orderbench", "tellTheSame", "(LOrderbench$Row;LOrderbench$Shape;LOrderbench$Shape;)Z"⟩, prog_1_method_56_code, 7, (some .boolean), vt_87, []),
  (⟨"Orderbench", "sortsWell", "(LOrderbench$Row;LOrderbench$Shape;)Z"⟩, prog_1_method_67_code, 3, (some .boolean), vt_88, []),
  (⟨"Orderbench$Row", "become", "(LOrderbench$Row;)V"⟩, prog_4_method_7_code, 2, none, vt_89, []),
  (⟨"Orderbench$Row", "arrange", "(LOrderbench$Shape;)V"⟩, prog_4_method_13_code, 5, none, vt_90, []),
  (⟨"Orderbench$Row", "holdsAllOf", "(LOrderbench$Row;)Z"⟩, prog_4_method_12_code, 3, (some .boolean), vt_91, []),
  (⟨"Orderbench$Row", "unlike", "(LOrderbench$Row;)I"⟩, prog_4_method_11_code, 4, (some .int), vt_92, []),
  (⟨"Orderbench", "sortsAsTwice", "(LOrderbench$Row;LOrderbench$Shape;LOrderbench$Shape;)Z"⟩, prog_1_method_66_code, 4, (some .boolean), vt_93, []),
  (⟨"Orderbench$Together", "<init>", "(LOrderbench$Shape;LOrderbench$Shape;)V"⟩, prog_6_method_1_code, 3, none, vt_94, []),
  (⟨"OrderbenchModel", "digest", "()J"⟩, prog_10_method_70_code, 5, (some .long), vt_95, []),
  (⟨"OrderbenchModel", "houseOf", "(I)I"⟩, prog_10_method_64_code, 7, (some .int), vt_96, []),
  (⟨"OrderbenchModel$Shape", "isSafe", "()Z"⟩, prog_11_method_4_code, 1, (some .boolean), vt_97, []),
  (⟨"OrderbenchModel$Shape", "isEnds", "()Z"⟩, prog_11_method_3_code, 1, (some .boolean), vt_98, []),
  (⟨"OrderbenchModel", "bit", "(Z)I"⟩, prog_10_method_6_code, 1, (some .int), vt_99, []),
  (⟨"OrderbenchModel", "many", "(I)I"⟩, prog_10_method_12_code, 2, (some .int), vt_100, []),
  (⟨"java/util/ArrayList", "get", "(I)Ljava/lang/Object;"⟩, prog_39_method_20_code, 2, (some (.object "java/lang/Object")), vt_101, []),
  (⟨"java/util/Objects", "checkIndex", "(II)I"⟩, prog_45_method_17_code, 2, (some .int), vt_102, []),
  (⟨"java/util/ArrayList", "elementData", "(I)Ljava/lang/Object;"⟩, prog_39_method_18_code, 2, (some (.object "java/lang/Object")), vt_103, []),
  (⟨"java/util/ArrayList", "size", "()I"⟩, prog_39_method_8_code, 1, (some .int), vt_104, []),
  (⟨"OrderbenchModel", "nothingsOn", "(I)I"⟩, prog_10_method_23_code, 4, (some .int), vt_105, []),
  (⟨"OrderbenchModel", "add", "(JJ)J"⟩, prog_10_method_68_code, 4, (some .long), vt_106, []),
  (⟨"OrderbenchModel", "textOf", "(I)Ljava/lang/String;"⟩, prog_10_method_44_code, 4, (some (.object "java/lang/String")), vt_107, []),
  (⟨"OrderbenchModel", "add", "(JLjava/lang/String;)J"⟩, prog_10_method_69_code, 6, (some .long), vt_108, []),
  (⟨"OrderbenchModel", "isSortedBy", "(II)Z"⟩, prog_10_method_52_code, 4, (some .boolean), vt_109, []),
  (⟨"OrderbenchModel", "takesBench", "(II)Z"⟩, prog_10_method_24_code, 3, (some .boolean), vt_110, []),
  (⟨"OrderbenchModel", "hasNothing", "(I)Z"⟩, prog_10_method_22_code, 2, (some .boolean), vt_111, []),
  (⟨"OrderbenchModel", "classesOf", "(II)I"⟩, prog_10_method_55_code, 7, (some .int), vt_112, []),
  (⟨"OrderbenchModel", "takesEach", "(II)Z"⟩, prog_10_method_54_code, 3, (some .boolean), vt_113, []),
  (⟨"OrderbenchModel", "endOf", "(III)I"⟩, prog_10_method_57_code, 10, (some .int), vt_114, [])]
def vs_M (i : Nat) : ve_D := vs_L.getD i (⟨"OrderbenchLaw", "law", "([I)Z"⟩, code, 7, (some .boolean), vt_0, [])
end
