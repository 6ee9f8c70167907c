/-- a method's contract from its body's walk, with handlers or without -/
theorem ve_ofWF {l : Launch} {D : ve_D} {rm : Room} {Pc : Array Value → State → Prop} {Qc : Array Value → State → Outcome → State → Prop} {mc ms : Nat} {free : Addr → Prop}
    (hy : plainFor D.1 = true)
    (body : ∀ p e s m args below meth c s₁, BodyLoose p l D.1 (headSpec [ve_w D] rm) D.2.1 D.2.2.1 D.2.2.2.1 e s m args below meth c s₁ → c.maxLocals = D.2.2.1 → Pc args s →
      W p l e (headSpec [ve_w D] rm).room s m args below meth c s.heap [] 0 0 (MQ below Qc args s mc ms free) (entryFrame m args D.2.2.1)) : Met l D.1 [ve_w D] rm Pc Qc mc ms free := by
  refine MetFree.of_bodySF (code := D.2.1) (maxLocals := D.2.2.1) (ret := D.2.2.2.1) hy ?_ ?_
  · intro args s m h hn
    have h9 := atoms_spec (ws := [ve_w D]) h (ve_w D) List.mem_cons_self
    unfold ve_w at h9
    split at h9
    · obtain ⟨meth, c, h1, h2, h3, h4, h5, h6, -, -⟩ := Cond.code_spec hn h9
      exact ⟨meth, c, h1, h2, h3, h4, h5, h6⟩
    · obtain ⟨m9, meth, c, hn9, h1, h2, h3, h4, -, h5, h6, -⟩ := Cond.codeWith_spec h9
      cases hn.symm.trans hn9
      exact ⟨meth, c, h1, h2, h3, h4, h5, h6⟩
  · intro p e s m args below meth c s₁ B hml hP _
    have hh0 : s₁.heap = s.heap := by rw [B.state]; rfl
    obtain ⟨t, a1, o, b1, b2, b3⟩ := body p e s m args below meth c s₁ B hml hP s₁ hh0 (Stand.of_body B)
    exact ⟨t, o, a1, b1, b2, ⟨b3.1, b3.2⟩⟩
set_option maxHeartbeats 1000000 in
theorem ve_runF_ok {A0 : State} {l : Launch} {g : Nat} {HI : ve_I → Prop} {md : Nat → ve_D} {F : Nat} (hpl : ∀ mi, plainFor (md mi).1 = true)
    (ht : ∀ mi pc, ve_OK A0 l g HI (ve_CB A0 l g HI md) (md mi).1.cls (md mi).2.1 (md mi).2.2.1 (md mi).2.2.2.1 (md mi).1.name pc ((md mi).2.2.2.2.1 pc)) : ∀ d, ve_CB A0 l g HI md d (ve_run md F d) := by
  intro d
  induction d with
  | zero => intro mi args hi h N hi' ret h' mc ms _ hr; cases hr
  | succ d ih =>
    intro mi args hi h N hi' ret h' mc ms hHI hr
    change (bif (lg_sl args).length.ble (md mi).2.2.1 then (match ve_lp (md mi).2.2.2.2.1 d (ve_run md F d) F 0 (hi, lv_args 0 args, [], h, N, 0, 0) with
      | some (v, hi', _, _, h', _, cl', sl') => some (hi', v, h', cl', sl')
      | none => none) else none) = _ at hr
    obtain ⟨hlen, hr⟩ := ve_bif2 hr
    have hlen := Nat.le_of_ble_eq_true hlen
    split at hr
    · next v hi1 lv1 st1 h1 N1 cl1 sl1 he =>
      cases hr
      obtain ⟨a1, a2, a3, a4, a5, a6⟩ := ve_lp_ok (ht mi) ih F 0 hi (lv_args 0 args) [] h N 0 0 _ _ lv1 st1 _ N1 _ _ hHI he
      refine ⟨a1, a4, d + 1, Nat.le_refl _, ?_⟩
      intro η hη hg
      refine ve_ofWF (hpl mi) ?_
      intro p e s m args' below meth c s₁ B hml hv
      obtain ⟨rfl, hW, hFr, hRl⟩ := hv
      have hl := lv_entry (args.map (ve_v η)) (n := (md mi).2.2.1) (by rw [ve_sl_len]; exact hlen)
      rw [ve_args_q] at hl
      rw [lg_entry_eq]
      generalize (lg_sl (args.map (ve_v η)) ++ List.replicate ((md mi).2.2.1 - (lg_sl (args.map (ve_v η))).length) Slot.unset).toArray = ls at hl ⊢
      have hX : ve_X A0 (md mi).1.cls (md mi).2.1 (md mi).2.2.1 (md mi).2.2.2.1 (md mi).1.name (d + 1) p e (headSpec [ve_w (md mi)] { frames := d + 1, cells := mc, slots := ms, locals := 64 * (d + 1) }).room s m (args.map (ve_v η)).toArray below meth c :=
        ⟨B.exec, B.bytes, hml, findClass_of_methodNamed B.named, hW, B.returns, B.notSynchronized, (name_of_methodNamed B.named B.method).1, Nat.le_refl _, Nat.le_refl _⟩
      have hI : ve_Iv η (fun q => ∃ i, (ve_hg h i).isSome = true ∧ η i = q) s.heap h N 0 0 s.heap :=
        ⟨hRl, hFr, fun i hi => Or.inl ⟨i, hi, rfl⟩, fun q _ _ => rfl, rfl, rfl⟩
      refine a6 p e _ s m _ below meth c hX η hη hg _ s.heap s.heap [] ls _ hI hl (Nat.le_refl _) (Nat.le_refl _) ?_
      intro t _ hIt
      obtain ⟨c1, c2, c3, c4, c5, c6⟩ := hIt
      exact ⟨rfl, c1, c5, c6, fun q hq hk => c4 q hq (fun ⟨i, hi, e⟩ => hk i hi e)⟩
    · cases hr
