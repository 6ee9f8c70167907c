def ve_lcmp (nx : Nat) : ve_P := fun lv st => match st with
  | .long y :: .long x :: r => some (nx, lv, .int (lg_cmp x y) :: r)
  | _ => none
theorem ve_lcmp_ok {cc : ByteArray} {nL pc : Nat} (hd : decode cc pc = .ok (.lcmp, 1)) : ve_PO cc nL pc (ve_lcmp (pc + 1)) := by
  intro p l e R s m args below meth c H locs cells slots Q ls hx hb η lv st pc' lv' st' h hl kk
  unfold ve_lcmp at h
  split at h
  · cases h; exact W.lcmp hx hb hd (kk _ hl)
  · cases h
