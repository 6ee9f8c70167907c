theorem ve_pc {p : Program} {l : Launch} {e : Env} {R : Room} {s : State} {m : MethodId} {args : Array Value} {below : List Frame} {meth : Method} {c : Code} {H : Heap} {locs : List Loc} {cells slots : Nat} {Q : State → Prop} {a b : Nat} {ls : Array Slot} {st : List Value} (h : a = b)
    (k : W p l e R s m args below meth c H locs cells slots Q (F0 m a ls st)) : W p l e R s m args below meth c H locs cells slots Q (F0 m b ls st) := h ▸ k
def ve_ii (nx i nL : Nat) (n : Int) : ve_P := fun lv st => match ve_get lv i with
  | some (.int x) => bif i.blt nL then some (nx, (i, .int (x + Int32.ofInt n)) :: lv.filter (ve_k1 i), st) else none
  | _ => none
theorem ve_iinc_ok {cc : ByteArray} {nL pc i : Nat} {n : Int} (hd : decode cc pc = .ok (.iinc i n, 3)) : ve_PO cc nL pc (ve_ii (pc + 3) i nL n) := by
  intro p l e R s m args below meth c H locs cells slots Q ls hx hb η lv st pc' lv' st' h hl kk
  unfold ve_ii at h
  split at h
  · next x hg =>
    obtain ⟨h1, h2⟩ := ve_bif h
    cases h2
    obtain ⟨k, hk⟩ := List.mem_iff_getElem?.mp (ve_get_mem hg)
    exact lv_iinc (k := k) (x := x) hx hb hd hl (by rw [List.getElem?_map, hk]; rfl) rfl (ve_blt h1) (by rw [show (fun q : Nat × Value => !(q.1 == i) && !(q.1 + 1 == i && q.2.category == 2)) = ve_k1 i from rfl, ve_filter η _ (ve_k1_q η i)]; rfl) kk
  · cases h
def ve_iadd (nx : Nat) : ve_P := fun lv st => match st with
  | .int y :: .int x :: r => some (nx, lv, .int (x + y) :: r)
  | _ => none
theorem ve_iadd_ok {cc : ByteArray} {nL pc : Nat} (hd : decode cc pc = .ok (.iadd, 1)) : ve_PO cc nL pc (ve_iadd (pc + 1)) := by
  intro p l e R s m args below meth c H locs cells slots Q ls hx hb η lv st pc' lv' st' h hl kk
  unfold ve_iadd at h
  split at h
  · cases h; exact lv_iadd hx hb hd (kk _ hl)
  · cases h
def ve_isub (nx : Nat) : ve_P := fun lv st => match st with
  | .int y :: .int x :: r => some (nx, lv, .int (x - y) :: r)
  | _ => none
theorem ve_isub_ok {cc : ByteArray} {nL pc : Nat} (hd : decode cc pc = .ok (.isub, 1)) : ve_PO cc nL pc (ve_isub (pc + 1)) := by
  intro p l e R s m args below meth c H locs cells slots Q ls hx hb η lv st pc' lv' st' h hl kk
  unfold ve_isub at h
  split at h
  · cases h; exact lv_isub hx hb hd (kk _ hl)
  · cases h
def ve_imul (nx : Nat) : ve_P := fun lv st => match st with
  | .int y :: .int x :: r => some (nx, lv, .int (x * y) :: r)
  | _ => none
theorem ve_imul_ok {cc : ByteArray} {nL pc : Nat} (hd : decode cc pc = .ok (.imul, 1)) : ve_PO cc nL pc (ve_imul (pc + 1)) := by
  intro p l e R s m args below meth c H locs cells slots Q ls hx hb η lv st pc' lv' st' h hl kk
  unfold ve_imul at h
  split at h
  · cases h; exact lv_imul hx hb hd (kk _ hl)
  · cases h
def ve_iand (nx : Nat) : ve_P := fun lv st => match st with
  | .int y :: .int x :: r => some (nx, lv, .int (x &&& y) :: r)
  | _ => none
theorem ve_iand_ok {cc : ByteArray} {nL pc : Nat} (hd : decode cc pc = .ok (.iand, 1)) : ve_PO cc nL pc (ve_iand (pc + 1)) := by
  intro p l e R s m args below meth c H locs cells slots Q ls hx hb η lv st pc' lv' st' h hl kk
  unfold ve_iand at h
  split at h
  · cases h; exact lv_iand hx hb hd (kk _ hl)
  · cases h
def ve_ior (nx : Nat) : ve_P := fun lv st => match st with
  | .int y :: .int x :: r => some (nx, lv, .int (x ||| y) :: r)
  | _ => none
theorem ve_ior_ok {cc : ByteArray} {nL pc : Nat} (hd : decode cc pc = .ok (.ior, 1)) : ve_PO cc nL pc (ve_ior (pc + 1)) := by
  intro p l e R s m args below meth c H locs cells slots Q ls hx hb η lv st pc' lv' st' h hl kk
  unfold ve_ior at h
  split at h
  · cases h; exact lv_ior hx hb hd (kk _ hl)
  · cases h
def ve_ishl (nx : Nat) : ve_P := fun lv st => match st with
  | .int y :: .int x :: r => some (nx, lv, .int (x <<< (y &&& 31)) :: r)
  | _ => none
theorem ve_ishl_ok {cc : ByteArray} {nL pc : Nat} (hd : decode cc pc = .ok (.ishl, 1)) : ve_PO cc nL pc (ve_ishl (pc + 1)) := by
  intro p l e R s m args below meth c H locs cells slots Q ls hx hb η lv st pc' lv' st' h hl kk
  unfold ve_ishl at h
  split at h
  · cases h; exact lv_ishl hx hb hd (kk _ hl)
  · cases h
def ve_ishr (nx : Nat) : ve_P := fun lv st => match st with
  | .int y :: .int x :: r => some (nx, lv, .int (x >>> (y &&& 31)) :: r)
  | _ => none
theorem ve_ishr_ok {cc : ByteArray} {nL pc : Nat} (hd : decode cc pc = .ok (.ishr, 1)) : ve_PO cc nL pc (ve_ishr (pc + 1)) := by
  intro p l e R s m args below meth c H locs cells slots Q ls hx hb η lv st pc' lv' st' h hl kk
  unfold ve_ishr at h
  split at h
  · cases h; exact lv_ishr hx hb hd (kk _ hl)
  · cases h
def ve_ladd (nx : Nat) : ve_P := fun lv st => match st with
  | .long y :: .long x :: r => some (nx, lv, .long (x + y) :: r)
  | _ => none
theorem ve_ladd_ok {cc : ByteArray} {nL pc : Nat} (hd : decode cc pc = .ok (.ladd, 1)) : ve_PO cc nL pc (ve_ladd (pc + 1)) := by
  intro p l e R s m args below meth c H locs cells slots Q ls hx hb η lv st pc' lv' st' h hl kk
  unfold ve_ladd at h
  split at h
  · cases h; exact lv_ladd hx hb hd (kk _ hl)
  · cases h
def ve_lmul (nx : Nat) : ve_P := fun lv st => match st with
  | .long y :: .long x :: r => some (nx, lv, .long (x * y) :: r)
  | _ => none
theorem ve_lmul_ok {cc : ByteArray} {nL pc : Nat} (hd : decode cc pc = .ok (.lmul, 1)) : ve_PO cc nL pc (ve_lmul (pc + 1)) := by
  intro p l e R s m args below meth c H locs cells slots Q ls hx hb η lv st pc' lv' st' h hl kk
  unfold ve_lmul at h
  split at h
  · cases h; exact lv_lmul hx hb hd (kk _ hl)
  · cases h
def ve_lsub (nx : Nat) : ve_P := fun lv st => match st with
  | .long y :: .long x :: r => some (nx, lv, .long (x - y) :: r)
  | _ => none
theorem ve_lsub_ok {cc : ByteArray} {nL pc : Nat} (hd : decode cc pc = .ok (.lsub, 1)) : ve_PO cc nL pc (ve_lsub (pc + 1)) := by
  intro p l e R s m args below meth c H locs cells slots Q ls hx hb η lv st pc' lv' st' h hl kk
  unfold ve_lsub at h
  split at h
  · cases h; exact lv_lsub hx hb hd (kk _ hl)
  · cases h
def ve_i2l (nx : Nat) : ve_P := fun lv st => match st with
  | .int x :: r => some (nx, lv, .long (x.toInt64) :: r)
  | _ => none
theorem ve_i2l_ok {cc : ByteArray} {nL pc : Nat} (hd : decode cc pc = .ok (.i2l, 1)) : ve_PO cc nL pc (ve_i2l (pc + 1)) := by
  intro p l e R s m args below meth c H locs cells slots Q ls hx hb η lv st pc' lv' st' h hl kk
  unfold ve_i2l at h
  split at h
  · cases h; exact lv_i2l hx hb hd rfl (kk _ hl)
  · cases h
def ve_i2b (nx : Nat) : ve_P := fun lv st => match st with
  | .int x :: r => some (nx, lv, .int (x.toInt8.toInt32) :: r)
  | _ => none
theorem ve_i2b_ok {cc : ByteArray} {nL pc : Nat} (hd : decode cc pc = .ok (.i2b, 1)) : ve_PO cc nL pc (ve_i2b (pc + 1)) := by
  intro p l e R s m args below meth c H locs cells slots Q ls hx hb η lv st pc' lv' st' h hl kk
  unfold ve_i2b at h
  split at h
  · cases h; exact lv_i2b hx hb hd rfl (kk _ hl)
  · cases h
def ve_i2c (nx : Nat) : ve_P := fun lv st => match st with
  | .int x :: r => some (nx, lv, .int ((x.toUInt32 % 65536).toInt32) :: r)
  | _ => none
theorem ve_i2c_ok {cc : ByteArray} {nL pc : Nat} (hd : decode cc pc = .ok (.i2c, 1)) : ve_PO cc nL pc (ve_i2c (pc + 1)) := by
  intro p l e R s m args below meth c H locs cells slots Q ls hx hb η lv st pc' lv' st' h hl kk
  unfold ve_i2c at h
  split at h
  · cases h; exact lv_i2c hx hb hd rfl (kk _ hl)
  · cases h
def ve_ineg (nx : Nat) : ve_P := fun lv st => match st with
  | .int x :: r => some (nx, lv, .int (-x) :: r)
  | _ => none
theorem ve_ineg_ok {cc : ByteArray} {nL pc : Nat} (hd : decode cc pc = .ok (.ineg, 1)) : ve_PO cc nL pc (ve_ineg (pc + 1)) := by
  intro p l e R s m args below meth c H locs cells slots Q ls hx hb η lv st pc' lv' st' h hl kk
  unfold ve_ineg at h
  split at h
  · cases h; exact lv_ineg hx hb hd (kk _ hl)
  · cases h
theorem ve_vc {η : Nat → Nat} {v : Value} {k : Nat} (h : v.category.beq k = true) : (ve_v η v).category = k := by
  rw [ve_v_cat]; exact Nat.eq_of_beq_eq_true h
def ve_dup (nx : Nat) : ve_P := fun lv st => match st with
  | x :: r => bif x.category.beq 1 then some (nx, lv, x :: x :: r) else none
  | _ => none
theorem ve_dup_ok {cc : ByteArray} {nL pc : Nat} (hd : decode cc pc = .ok (.dup, 1)) : ve_PO cc nL pc (ve_dup (pc + 1)) := by
  intro p l e R s m args below meth c H locs cells slots Q ls hx hb η lv st pc' lv' st' h hl kk
  unfold ve_dup at h
  split at h
  · obtain ⟨h1, h2⟩ := ve_bif h
    cases h2; exact lv_dup hx hb hd (ve_vc h1) (kk _ hl)
  · cases h
def ve_pop (nx : Nat) : ve_P := fun lv st => match st with
  | x :: r => bif x.category.beq 1 then some (nx, lv, r) else none
  | _ => none
theorem ve_pop_ok {cc : ByteArray} {nL pc : Nat} (hd : decode cc pc = .ok (.pop, 1)) : ve_PO cc nL pc (ve_pop (pc + 1)) := by
  intro p l e R s m args below meth c H locs cells slots Q ls hx hb η lv st pc' lv' st' h hl kk
  unfold ve_pop at h
  split at h
  · obtain ⟨h1, h2⟩ := ve_bif h
    cases h2; exact lv_pop hx hb hd (ve_vc h1) (kk _ hl)
  · cases h
def ve_dx (nx : Nat) : ve_P := fun lv st => match st with
  | x :: y :: r => bif x.category.beq 1 && y.category.beq 1 then some (nx, lv, x :: y :: x :: r) else none
  | _ => none
theorem ve_dup_x1_ok {cc : ByteArray} {nL pc : Nat} (hd : decode cc pc = .ok (.dup_x1, 1)) : ve_PO cc nL pc (ve_dx (pc + 1)) := by
  intro p l e R s m args below meth c H locs cells slots Q ls hx hb η lv st pc' lv' st' h hl kk
  unfold ve_dx at h
  split at h
  · obtain ⟨h1, h2⟩ := ve_bif h
    rw [Bool.and_eq_true] at h1
    cases h2; exact lv_dup_x1 hx hb hd (ve_vc h1.1) (ve_vc h1.2) (kk _ hl)
  · cases h
def ve_jmp (tgt : Nat) : ve_P := fun lv st => some (tgt, lv, st)
theorem ve_goto_ok {cc : ByteArray} {nL pc tgt : Nat} {off : Int} (hd : decode cc pc = .ok (.goto off, 3)) (ht : (pc : Int) + off = (tgt : Int)) : ve_PO cc nL pc (ve_jmp tgt) := by
  intro p l e R s m args below meth c H locs cells slots Q ls hx hb η lv st pc' lv' st' h hl kk
  cases h
  exact lv_goto hx hb hd ht (kk _ hl)
def ve_br1 (f : Int32 → Bool) (tgt nx : Nat) : ve_P := fun lv st => match st with
  | .int x :: r => some (bif f x then tgt else nx, lv, r)
  | _ => none
def ve_br2 (f : Int32 → Int32 → Bool) (tgt nx : Nat) : ve_P := fun lv st => match st with
  | .int y :: .int x :: r => some (bif f x y then tgt else nx, lv, r)
  | _ => none
theorem ve_if_eq_ok {cc : ByteArray} {nL pc tgt : Nat} {off : Int} (hd : decode cc pc = .ok (.ifCond .eq off, 3)) (ht : (pc : Int) + off = (tgt : Int)) : ve_PO cc nL pc (ve_br1 (fun x => decide (x = 0)) tgt (pc + 3)) := by
  intro p l e R s m args below meth c H locs cells slots Q ls hx hb η lv st pc' lv' st' h hl kk
  unfold ve_br1 at h
  split at h
  · next x r =>
    cases h
    refine lv_if_eq hx hb hd ht (fun h1 => ?_) (fun h1 => ?_)
    · refine ve_pc ?_ (kk _ hl)
      first | simp [h1] | simp_all
    · refine ve_pc ?_ (kk _ hl)
      first | simp [h1] | simp_all
  · cases h
theorem ve_icmp_eq_ok {cc : ByteArray} {nL pc tgt : Nat} {off : Int} (hd : decode cc pc = .ok (.if_icmp .eq off, 3)) (ht : (pc : Int) + off = (tgt : Int)) : ve_PO cc nL pc (ve_br2 (fun x y => decide (x = y)) tgt (pc + 3)) := by
  intro p l e R s m args below meth c H locs cells slots Q ls hx hb η lv st pc' lv' st' h hl kk
  unfold ve_br2 at h
  split at h
  · next y x r =>
    cases h
    refine lv_icmp_eq hx hb hd ht (fun h1 => ?_) (fun h1 => ?_)
    · refine ve_pc ?_ (kk _ hl)
      first | simp [h1] | simp_all
    · refine ve_pc ?_ (kk _ hl)
      first | simp [h1] | simp_all
  · cases h
theorem ve_if_ne_ok {cc : ByteArray} {nL pc tgt : Nat} {off : Int} (hd : decode cc pc = .ok (.ifCond .ne off, 3)) (ht : (pc : Int) + off = (tgt : Int)) : ve_PO cc nL pc (ve_br1 (fun x => decide (¬ x = 0)) tgt (pc + 3)) := by
  intro p l e R s m args below meth c H locs cells slots Q ls hx hb η lv st pc' lv' st' h hl kk
  unfold ve_br1 at h
  split at h
  · next x r =>
    cases h
    refine lv_if_ne hx hb hd ht (fun h1 => ?_) (fun h1 => ?_)
    · refine ve_pc ?_ (kk _ hl)
      first | simp [h1] | simp_all
    · refine ve_pc ?_ (kk _ hl)
      first | simp [h1] | simp_all
  · cases h
theorem ve_icmp_ne_ok {cc : ByteArray} {nL pc tgt : Nat} {off : Int} (hd : decode cc pc = .ok (.if_icmp .ne off, 3)) (ht : (pc : Int) + off = (tgt : Int)) : ve_PO cc nL pc (ve_br2 (fun x y => decide (¬ x = y)) tgt (pc + 3)) := by
  intro p l e R s m args below meth c H locs cells slots Q ls hx hb η lv st pc' lv' st' h hl kk
  unfold ve_br2 at h
  split at h
  · next y x r =>
    cases h
    refine lv_icmp_ne hx hb hd ht (fun h1 => ?_) (fun h1 => ?_)
    · refine ve_pc ?_ (kk _ hl)
      first | simp [h1] | simp_all
    · refine ve_pc ?_ (kk _ hl)
      first | simp [h1] | simp_all
  · cases h
theorem ve_if_lt_ok {cc : ByteArray} {nL pc tgt : Nat} {off : Int} (hd : decode cc pc = .ok (.ifCond .lt off, 3)) (ht : (pc : Int) + off = (tgt : Int)) : ve_PO cc nL pc (ve_br1 (fun x => decide (x < 0)) tgt (pc + 3)) := by
  intro p l e R s m args below meth c H locs cells slots Q ls hx hb η lv st pc' lv' st' h hl kk
  unfold ve_br1 at h
  split at h
  · next x r =>
    cases h
    refine lv_if_lt hx hb hd ht (fun h1 => ?_) (fun h1 => ?_)
    · refine ve_pc ?_ (kk _ hl)
      first | simp [h1] | simp_all
    · refine ve_pc ?_ (kk _ hl)
      first | simp [h1] | simp_all
  · cases h
theorem ve_icmp_lt_ok {cc : ByteArray} {nL pc tgt : Nat} {off : Int} (hd : decode cc pc = .ok (.if_icmp .lt off, 3)) (ht : (pc : Int) + off = (tgt : Int)) : ve_PO cc nL pc (ve_br2 (fun x y => decide (x < y)) tgt (pc + 3)) := by
  intro p l e R s m args below meth c H locs cells slots Q ls hx hb η lv st pc' lv' st' h hl kk
  unfold ve_br2 at h
  split at h
  · next y x r =>
    cases h
    refine lv_icmp_lt hx hb hd ht (fun h1 => ?_) (fun h1 => ?_)
    · refine ve_pc ?_ (kk _ hl)
      first | simp [h1] | simp_all
    · refine ve_pc ?_ (kk _ hl)
      first | simp [h1] | simp_all
  · cases h
theorem ve_if_ge_ok {cc : ByteArray} {nL pc tgt : Nat} {off : Int} (hd : decode cc pc = .ok (.ifCond .ge off, 3)) (ht : (pc : Int) + off = (tgt : Int)) : ve_PO cc nL pc (ve_br1 (fun x => decide (¬ x < 0)) tgt (pc + 3)) := by
  intro p l e R s m args below meth c H locs cells slots Q ls hx hb η lv st pc' lv' st' h hl kk
  unfold ve_br1 at h
  split at h
  · next x r =>
    cases h
    refine lv_if_ge hx hb hd ht (fun h1 => ?_) (fun h1 => ?_)
    · refine ve_pc ?_ (kk _ hl)
      first | simp [h1] | simp_all
    · refine ve_pc ?_ (kk _ hl)
      first | simp [h1] | simp_all
  · cases h
theorem ve_icmp_ge_ok {cc : ByteArray} {nL pc tgt : Nat} {off : Int} (hd : decode cc pc = .ok (.if_icmp .ge off, 3)) (ht : (pc : Int) + off = (tgt : Int)) : ve_PO cc nL pc (ve_br2 (fun x y => decide (¬ x < y)) tgt (pc + 3)) := by
  intro p l e R s m args below meth c H locs cells slots Q ls hx hb η lv st pc' lv' st' h hl kk
  unfold ve_br2 at h
  split at h
  · next y x r =>
    cases h
    refine lv_icmp_ge hx hb hd ht (fun h1 => ?_) (fun h1 => ?_)
    · refine ve_pc ?_ (kk _ hl)
      first | simp [h1] | simp_all
    · refine ve_pc ?_ (kk _ hl)
      first | simp [h1] | simp_all
  · cases h
theorem ve_if_gt_ok {cc : ByteArray} {nL pc tgt : Nat} {off : Int} (hd : decode cc pc = .ok (.ifCond .gt off, 3)) (ht : (pc : Int) + off = (tgt : Int)) : ve_PO cc nL pc (ve_br1 (fun x => decide (0 < x)) tgt (pc + 3)) := by
  intro p l e R s m args below meth c H locs cells slots Q ls hx hb η lv st pc' lv' st' h hl kk
  unfold ve_br1 at h
  split at h
  · next x r =>
    cases h
    refine lv_if_gt hx hb hd ht (fun h1 => ?_) (fun h1 => ?_)
    · refine ve_pc ?_ (kk _ hl)
      first | simp [h1] | simp_all
    · refine ve_pc ?_ (kk _ hl)
      first | simp [h1] | simp_all
  · cases h
theorem ve_icmp_gt_ok {cc : ByteArray} {nL pc tgt : Nat} {off : Int} (hd : decode cc pc = .ok (.if_icmp .gt off, 3)) (ht : (pc : Int) + off = (tgt : Int)) : ve_PO cc nL pc (ve_br2 (fun x y => decide (y < x)) tgt (pc + 3)) := by
  intro p l e R s m args below meth c H locs cells slots Q ls hx hb η lv st pc' lv' st' h hl kk
  unfold ve_br2 at h
  split at h
  · next y x r =>
    cases h
    refine lv_icmp_gt hx hb hd ht (fun h1 => ?_) (fun h1 => ?_)
    · refine ve_pc ?_ (kk _ hl)
      first | simp [h1] | simp_all
    · refine ve_pc ?_ (kk _ hl)
      first | simp [h1] | simp_all
  · cases h
theorem ve_if_le_ok {cc : ByteArray} {nL pc tgt : Nat} {off : Int} (hd : decode cc pc = .ok (.ifCond .le off, 3)) (ht : (pc : Int) + off = (tgt : Int)) : ve_PO cc nL pc (ve_br1 (fun x => decide (¬ 0 < x)) tgt (pc + 3)) := by
  intro p l e R s m args below meth c H locs cells slots Q ls hx hb η lv st pc' lv' st' h hl kk
  unfold ve_br1 at h
  split at h
  · next x r =>
    cases h
    refine lv_if_le hx hb hd ht (fun h1 => ?_) (fun h1 => ?_)
    · refine ve_pc ?_ (kk _ hl)
      first | simp [h1] | simp_all
    · refine ve_pc ?_ (kk _ hl)
      first | simp [h1] | simp_all
  · cases h
theorem ve_icmp_le_ok {cc : ByteArray} {nL pc tgt : Nat} {off : Int} (hd : decode cc pc = .ok (.if_icmp .le off, 3)) (ht : (pc : Int) + off = (tgt : Int)) : ve_PO cc nL pc (ve_br2 (fun x y => decide (¬ y < x)) tgt (pc + 3)) := by
  intro p l e R s m args below meth c H locs cells slots Q ls hx hb η lv st pc' lv' st' h hl kk
  unfold ve_br2 at h
  split at h
  · next y x r =>
    cases h
    refine lv_icmp_le hx hb hd ht (fun h1 => ?_) (fun h1 => ?_)
    · refine ve_pc ?_ (kk _ hl)
      first | simp [h1] | simp_all
    · refine ve_pc ?_ (kk _ hl)
      first | simp [h1] | simp_all
  · cases h
