section VOQ
variable {A0 : State} {l : Launch} {g : Nat} {HI : ve_I → Prop} {CB : Nat → ve_B → Prop} {own : String} {cc : ByteArray} {nL : Nat} {ret : Option FieldType} {nm : String} {pc : Nat}
-- what leaves world and room alone, but asks the context
def ve_CO (A0 : State) (g : Nat) (own : String) (cc : ByteArray) (nL : Nat) (ret : Option FieldType) (nm : String) (pc : Nat) (f : ve_P) : Prop :=
  ∀ (d : Nat) (l : Launch) (p : Program) (e : Env) (R : Room) (s : State) (m : MethodId) (args : Array Value) (below : List Frame) (meth : Method) (c : Code), ve_X A0 own cc nL ret nm (d + 1) p e R s m args below meth c → ∀ η : Nat → Nat, ve_In η → ve_Gl g η →
  ∀ (H : Heap) (locs : List Loc) (cells slots : Nat) (ls : Array Slot) (Q : State → Prop) (lv : ve_L) (st : List Value) (pc' : Nat) (lv' : ve_L) (st' : List Value), f lv st = some (pc', lv', st') → lv_has ls nL (lv.map (ve_q η)) →
    (∀ ls' : Array Slot, lv_has ls' nL (lv'.map (ve_q η)) → W p l e R s m args below meth c H locs cells slots Q (F0 m pc' ls' (st'.map (ve_v η)))) →
    W p l e R s m args below meth c H locs cells slots Q (F0 m pc ls (st.map (ve_v η)))
theorem ve_cu_ok {f : ve_P} (hf : ve_CO A0 g own cc nL ret nm pc f) : ve_OK A0 l g HI CB own cc nL ret nm pc (ve_pu f) := by
  intro d cb _ hi lv st h N cl sl hHI res hr
  unfold ve_pu at hr
  dsimp only at hr
  split at hr
  · next pc' lv' st' hp =>
    cases hr
    refine ⟨⟨hHI, Nat.le_refl _, Nat.le_refl _, ve_Km.rf, rfl⟩, ?_⟩
    intro p e R s m args below meth c hX η hη hg P H0 H locs ls Q hI hl _ _ kk
    exact hf d l p e R s m args below meth c hX η hη hg H locs cl sl ls Q lv st pc' lv' st' hp hl (fun ls' h9 => kk H locs ls' hI h9)
  · cases hr
-- null tests, equality of references, pop2, switches
def ve_nn (tgt nx : Nat) : ve_P := fun lv st => match st with
  | .ref _ :: r => some (tgt, lv, r)
  | .null :: r => some (nx, lv, r)
  | _ => none
theorem ve_ifnonnull_ok {off : Int} {tgt : Nat} (hd : decode cc pc = .ok (.ifnonnull off, 3)) (ht : (pc : Int) + off = (tgt : Int)) : ve_PO cc nL pc (ve_nn tgt (pc + 3)) := by
  intro p l e R s m args below meth c H locs cells slots Q ls hx hb η lv st pc' lv' st' h hl kk
  unfold ve_nn at h
  split at h
  · cases h; exact lv_ifnonnull hx hb hd ht (kk _ hl)
  · cases h; exact lv_ifnonnullN hx hb hd (kk _ hl)
  · cases h
theorem ve_ifnull_ok {off : Int} {tgt : Nat} (hd : decode cc pc = .ok (.ifnull off, 3)) (ht : (pc : Int) + off = (tgt : Int)) : ve_PO cc nL pc (ve_nn (pc + 3) tgt) := by
  intro p l e R s m args below meth c H locs cells slots Q ls hx hb η lv st pc' lv' st' h hl kk
  unfold ve_nn at h
  split at h
  · cases h; exact lv_ifnull hx hb hd (kk _ hl)
  · cases h; exact lv_ifnullN hx hb hd ht (kk _ hl)
  · cases h
def ve_p2 (nx : Nat) : ve_P := fun lv st => match st with
  | .long _ :: r => some (nx, lv, r)
  | _ => none
theorem ve_pop2_ok (hd : decode cc pc = .ok (.pop2, 1)) : ve_PO cc nL pc (ve_p2 (pc + 1)) := by
  intro p l e R s m args below meth c H locs cells slots Q ls hx hb η lv st pc' lv' st' h hl kk
  unfold ve_p2 at h
  split at h
  · cases h; exact lv_pop2_2 hx hb hd rfl (kk _ hl)
  · cases h
def ve_ac (tgt nx : Nat) : ve_P := fun lv st => match st with
  | .ref y :: .ref x :: r => some (bif x.beq y then tgt else nx, lv, r)
  | _ => none
theorem ve_acmp_eq_ok {off : Int} {tgt : Nat} (hd : decode cc pc = .ok (.if_acmp .eq off, 3)) (ht : (pc : Int) + off = (tgt : Int)) : ve_CO A0 g own cc nL ret nm pc (ve_ac tgt (pc + 3)) := by
  intro d l p e R s m args below meth c hX η hη hg H locs cells slots ls Q lv st pc' lv' st' h hl kk
  unfold ve_ac at h
  split at h
  · next y x r =>
    cases h
    refine lv_acmp_eq (rx := some (η x)) (ry := some (η y)) hX.1 hX.2.1 hd ht (fun e => ?_) (fun e => ?_)
    · have e2 := hη _ _ (Option.some.inj e)
      subst e2
      exact ve_pc (by rw [Nat.beq_refl]; rfl) (kk _ hl)
    · have e2 : ¬ x = y := fun e9 => e (by rw [e9])
      exact ve_pc (by rw [ve_bf e2]; rfl) (kk _ hl)
  · cases h
theorem ve_acmp_ne_ok {off : Int} {tgt : Nat} (hd : decode cc pc = .ok (.if_acmp .ne off, 3)) (ht : (pc : Int) + off = (tgt : Int)) : ve_CO A0 g own cc nL ret nm pc (ve_ac (pc + 3) tgt) := by
  intro d l p e R s m args below meth c hX η hη hg H locs cells slots ls Q lv st pc' lv' st' h hl kk
  unfold ve_ac at h
  split at h
  · next y x r =>
    cases h
    refine lv_acmp_ne (rx := some (η x)) (ry := some (η y)) hX.1 hX.2.1 hd ht (fun e => ?_) (fun e => ?_)
    · have e2 : ¬ x = y := fun e9 => e (by rw [e9])
      exact ve_pc (by rw [ve_bf e2]; rfl) (kk _ hl)
    · have e2 := hη _ _ (Option.some.inj e)
      subst e2
      exact ve_pc (by rw [Nat.beq_refl]; rfl) (kk _ hl)
  · cases h
def ve_tsw (lo hi : Int) (tgts : List Nat) (dft : Nat) : ve_P := fun lv st => match st with
  | .int x :: r => bif decide (x.toInt < lo) || decide (hi < x.toInt) then some (dft, lv, r) else match tgts[(x.toInt - lo).toNat]? with
    | some t => some (t, lv, r)
    | none => none
  | _ => none
theorem ve_tsw_ok {dflt lo hi : Int} {offs : Array Int} {len : Nat} {tgts : List Nat} {dft : Nat} (hd : decode cc pc = .ok (.tableswitch dflt lo hi offs, len)) (hdf : (pc : Int) + dflt = (dft : Int)) (ht : offs.toList.map (fun o => (pc : Int) + o) = tgts.map (fun t : Nat => (t : Int))) : ve_PO cc nL pc (ve_tsw lo hi tgts dft) := by
  intro p l e R s m args below meth c H locs cells slots Q ls hx hb η lv st pc' lv' st' h hl kk
  unfold ve_tsw at h
  split at h
  · next x r =>
    cases hq : (decide (x.toInt < lo) || decide (hi < x.toInt)) with
    | true =>
      rw [hq] at h
      cases h
      refine lv_tableOut hx hb hd ?_ hdf (kk _ hl)
      simpa using hq
    | false =>
      rw [hq] at h
      simp only [Bool.or_eq_false_iff, decide_eq_false_iff_not] at hq
      simp only [cond_false] at h
      split at h
      · next t ht2 =>
        cases h
        have e1 : (tgts.map (fun t : Nat => (t : Int)))[(x.toInt - lo).toNat]? = some ((pc' : Nat) : Int) := by rw [List.getElem?_map, ht2]; rfl
        rw [← ht, List.getElem?_map] at e1
        cases ho : offs.toList[(x.toInt - lo).toNat]? with
        | none => rw [ho] at e1; cases e1
        | some o =>
          rw [ho] at e1
          have e2 : (pc : Int) + o = (pc' : Int) := Option.some.inj e1
          exact lv_tableIn hx hb hd hq.1 hq.2 (by simpa using ho) e2 (kk _ hl)
      · cases h
  · cases h
-- constants of the pool
theorem ve_ldc2_ok {idx : Nat} {v : Int64} (hd : decode cc pc = .ok (.ldc2_w idx, 3)) (hw : (Cond.constantLong own idx v).before #[] A0 = true) : ve_CO A0 g own cc nL ret nm pc (ve_push (pc + 3) (.long v)) := by
  intro d l p e R s m args below meth c hX η hη hg H locs cells slots ls Q lv st pc' lv' st' h hl kk
  cases h
  exact W.ldc2 hX.1 hX.2.1 hX.2.2.2.1 (ve_wd hX.2.2.2.2.1 rfl hw) rfl hd (kk _ hl)
theorem ve_ldcS_ok {idx a : Nat} {tx : String} (hd : decode cc pc = .ok (.ldc idx, 2)) (hw : vk_R own idx tx a A0) (ha : a < g) : ve_CO A0 g own cc nL ret nm pc (ve_push (pc + 2) (.ref a)) := by
  intro d l p e R s m args below meth c hX η hη hg H locs cells slots ls Q lv st pc' lv' st' h hl kk
  cases h
  have e1 : η a = a := hg a ha
  refine va_ldcS hX.1 hX.2.1 hX.2.2.2.1 (vk_R.warm hX.2.2.2.2.1 hw) hd ?_
  have k2 := kk _ hl
  simp only [List.map_cons, ve_v, e1] at k2
  exact k2
-- Object()
def ve_oi (nx : Nat) : ve_P := fun lv st => match st with
  | .ref _ :: r => bif ((r.map fun v : Value => v.category).sum).ble 8 then some (nx, lv, r) else none
  | _ => none
theorem ve_cats (η : Nat → Nat) (r : List Value) : ((r.map (ve_v η)).map fun v => v.category).sum = (r.map fun v => v.category).sum := by
  rw [List.map_map]
  congr 1
  apply List.map_congr_left
  intro v _
  exact ve_v_cat η v
theorem ve_oi_ok {idx : Nat} (hd : decode cc pc = .ok (.invokespecial idx, 3)) (h1 : (Cond.methodLink own idx Lib.objectInit).before #[] A0 = true) (h2 : (Cond.instanceMethod Lib.objectInit).before #[] A0 = true) (h3 : (Cond.code Lib.objectInit ⟨#[0xb1]⟩ 1 none).before #[] A0 = true) : ve_CO A0 g own cc nL ret nm pc (ve_oi (pc + 3)) := by
  intro d l p e R s m args below meth c hX η hη hg H locs cells slots ls Q lv st pc' lv' st' h hl kk
  unfold ve_oi at h
  split at h
  · next a r =>
    obtain ⟨hq, h⟩ := ve_bif h
    cases h
    have hq := Nat.le_of_ble_eq_true hq
    obtain ⟨hx, hb, hml, hown, hW, hr, hlk, hnm, hf, hlo⟩ := hX
    refine W.objInit hx hb hown (ve_wd hW rfl h1) (ve_wd hW rfl h2) (ve_wd hW rfl h3) rfl (by rw [hml]; exact hl.1) rfl hd (by omega) ?_ (kk _ hl)
    show 2 * 0 + ((st'.map (ve_v η)).map fun v => v.category).sum + 12 ≤ R.locals
    rw [ve_cats]
    omega
  · cases h
end VOQ
section VOQ2
variable {A0 : State} {g : Nat} {own : String} {cc : ByteArray} {nL : Nat} {ret : Option FieldType} {nm : String} {pc : Nat}
theorem ve_ldcI_ok {idx : Nat} {v : Int32} (hd : decode cc pc = .ok (.ldc idx, 2)) (hw : (Cond.constant own idx v).before #[] A0 = true) : ve_CO A0 g own cc nL ret nm pc (ve_push (pc + 2) (.int v)) := by
  intro d l p e R s m args below meth c hX η hη hg H locs cells slots ls Q lv st pc' lv' st' h hl kk
  cases h
  exact W.ldc hX.1 hX.2.1 hX.2.2.2.1 (ve_wd hX.2.2.2.2.1 rfl hw) rfl hd (kk _ hl)
end VOQ2
