noncomputable def ve_run (md : Nat → ve_D) (F : Nat) (d : Nat) : ve_B :=
  Nat.rec (fun _ _ _ _ _ => none) (fun d ih mi args hi h N => bif (lg_sl args).length.ble (md mi).2.2.1 then (match ve_lp (md mi).2.2.2.2.1 d ih F 0 (hi, lv_args 0 args, [], h, N, 0, 0) with
    | some (v, hi', _, _, h', _, cl', sl') => some (hi', v, h', cl', sl')
    | none => none) else none) d
theorem ve_args_q (η : Nat → Nat) : ∀ (i : Nat) (vs : List Value), lv_args i (vs.map (ve_v η)) = (lv_args i vs).map (ve_q η)
  | _, [] => rfl
  | i, v :: vs => by
    simp only [List.map_cons, lv_args, ve_v_cat]
    rw [ve_args_q η _ vs]
    rfl
theorem ve_sl_len (η : Nat → Nat) : ∀ vs : List Value, (lg_sl (vs.map (ve_v η))).length = (lg_sl vs).length
  | [] => rfl
  | v :: vs => by
    have ih := ve_sl_len η vs
    simp only [lg_sl, List.map_cons, List.flatMap_cons, ve_v_cat, List.length_append] at ih ⊢
    rw [ih]
    split <;> rfl
theorem ve_bif2 {α : Type} {b : Bool} {x : Option α} {y : α} (h : (bif b then x else none) = some y) : b = true ∧ x = some y := by
  cases b with
  | true => exact ⟨rfl, h⟩
  | false => cases h
set_option maxHeartbeats 1000000 in
theorem ve_run_ok {A0 : State} {l : Launch} {g : Nat} {HI : ve_I → Prop} {md : Nat → ve_D} {F : Nat} (hpl : ∀ mi, plainName (md mi).1.cls = true)
    (ht : ∀ mi pc, ve_OK A0 l g HI (ve_CB A0 l g HI md) (md mi).1.cls (md mi).2.1 (md mi).2.2.1 (md mi).2.2.2.1 (md mi).1.name pc ((md mi).2.2.2.2.1 pc)) : ∀ d, ve_CB A0 l g HI md d (ve_run md F d) := by
  intro d
  induction d with
  | zero => intro mi args hi h N hi' ret h' mc ms _ hr; cases hr
  | succ d ih =>
    intro mi args hi h N hi' ret h' mc ms hHI hr
    change (bif (lg_sl args).length.ble (md mi).2.2.1 then (match ve_lp (md mi).2.2.2.2.1 d (ve_run md F d) F 0 (hi, lv_args 0 args, [], h, N, 0, 0) with
      | some (v, hi', _, _, h', _, cl', sl') => some (hi', v, h', cl', sl')
      | none => none) else none) = _ at hr
    obtain ⟨hlen, hr⟩ := ve_bif2 hr
    have hlen := Nat.le_of_ble_eq_true hlen
    split at hr
    · next v hi1 lv1 st1 h1 N1 cl1 sl1 he =>
      cases hr
      obtain ⟨a1, a2, a3, a4, a5, a6⟩ := ve_lp_ok (ht mi) ih F 0 hi (lv_args 0 args) [] h N 0 0 _ _ lv1 st1 _ N1 _ _ hHI he
      refine ⟨a1, a4, d + 1, Nat.le_refl _, ?_⟩
      intro η hη hg
      refine ve_ofW (hpl mi) ?_
      intro p e s m args' below meth c s₁ B hml hv
      obtain ⟨rfl, hW, hFr, hRl⟩ := hv
      have hl := lv_entry (args.map (ve_v η)) (n := (md mi).2.2.1) (by rw [ve_sl_len]; exact hlen)
      rw [ve_args_q] at hl
      rw [lg_entry_eq]
      generalize (lg_sl (args.map (ve_v η)) ++ List.replicate ((md mi).2.2.1 - (lg_sl (args.map (ve_v η))).length) Slot.unset).toArray = ls at hl ⊢
      have hX : ve_X A0 (md mi).1.cls (md mi).2.1 (md mi).2.2.1 (md mi).2.2.2.1 (md mi).1.name (d + 1) p e (headSpec [ve_w (md mi)] { frames := d + 1, cells := mc, slots := ms, locals := 64 * (d + 1) }).room s m (args.map (ve_v η)).toArray below meth c :=
        ⟨B.exec, B.bytes, hml, findClass_of_methodNamed B.named, hW, B.returns, B.notSynchronized, (name_of_methodNamed B.named B.method).1, Nat.le_refl _, Nat.le_refl _⟩
      have hI : ve_Iv η (fun q => ∃ i, (ve_hg h i).isSome = true ∧ η i = q) s.heap h N 0 0 s.heap :=
        ⟨hRl, hFr, fun i hi => Or.inl ⟨i, hi, rfl⟩, fun q _ _ => rfl, rfl, rfl⟩
      refine a6 p e _ s m _ below meth c hX η hη hg _ s.heap s.heap [] ls _ hI hl (Nat.le_refl _) (Nat.le_refl _) ?_
      intro t _ hIt
      obtain ⟨c1, c2, c3, c4, c5, c6⟩ := hIt
      exact ⟨rfl, c1, c5, c6, fun q hq hk => c4 q hq (fun ⟨i, hi, e⟩ => hk i hi e)⟩
    · cases hr
