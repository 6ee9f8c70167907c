-- a stretch of a method's run, from one known state to another
abbrev ve_Z : Type := Nat × ve_L × List Value × ve_H × Nat × Nat × Nat
noncomputable def ve_ex (tb : Nat → ve_M) (d : Nat) (cb : ve_B) (n : Nat) : Nat → ve_F → Option (Nat × ve_F) :=
  Nat.rec (fun pc z => some (pc, z)) (fun _ ih pc z => match tb pc d cb z with
    | some (.inl (pc', z')) => ih pc' z'
    | _ => none) n
def ve_Go (A0 : State) (l : Launch) (g : Nat) (D : ve_D) (d : Nat) (a b : ve_Z) : Prop := match a, b with
  | (pc, lv, st, h, N, cl, sl), (pc', lv', st', h', N', cl', sl') => (cl ≤ cl' ∧ sl ≤ sl' ∧ ve_Km h N h' ∧ N + cl' = N' + cl) ∧
    ∀ (p : Program) (e : Env) (R : Room) (s : State) (m : MethodId) (args : Array Value) (below : List Frame) (meth : Method) (c : Code),
      ve_X A0 D.1.cls D.2.1 D.2.2.1 D.2.2.2.1 D.1.name (d + 1) p e R s m args below meth c → ∀ η : Nat → Nat, ve_In η → ve_Gl g η → ∀ (P : Nat → Prop) (H0 : Heap),
      ∀ (H : Heap) (locs : List Loc) (ls : Array Slot) (Q : State → Prop), ve_Iv η P H0 h N cl sl H → lv_has ls D.2.2.1 (lv.map (ve_q η)) → cl' ≤ R.cells → sl' ≤ R.slots →
        (∀ (H' : Heap) (locs' : List Loc) (ls' : Array Slot), ve_Iv η P H0 h' N' cl' sl' H' → lv_has ls' D.2.2.1 (lv'.map (ve_q η)) → W p l e R s m args below meth c H' locs' cl' sl' Q (F0 m pc' ls' (st'.map (ve_v η)))) →
        W p l e R s m args below meth c H locs cl sl Q (F0 m pc ls (st.map (ve_v η)))
theorem ve_Go.tr {A0 : State} {l : Launch} {g : Nat} {D : ve_D} {d : Nat} {a b c : ve_Z} (x : ve_Go A0 l g D d a b) (y : ve_Go A0 l g D d b c) : ve_Go A0 l g D d a c := by
  obtain ⟨pc, lv, st, h, N, cl, sl⟩ := a
  obtain ⟨pc1, lv1, st1, h1, N1, cl1, sl1⟩ := b
  obtain ⟨pc2, lv2, st2, h2, N2, cl2, sl2⟩ := c
  obtain ⟨⟨a1, a2, a3, a4⟩, a5⟩ := x
  obtain ⟨⟨b1, b2, b3, b4⟩, b5⟩ := y
  refine ⟨⟨by omega, by omega, a3.tr (by omega) b3, by omega⟩, ?_⟩
  intro p e R s m args below meth c hX η hη hg P H0 H locs ls Q hI hl hc hs kk
  exact a5 p e R s m args below meth c hX η hη hg P H0 H locs ls Q hI hl (by omega) (by omega) fun H' locs' ls' hI' hl' => b5 p e R s m args below meth c hX η hη hg P H0 H' locs' ls' Q hI' hl' hc hs kk
theorem ve_ex_ok {A0 : State} {l : Launch} {g : Nat} {HI : ve_I → Prop} {CB : Nat → ve_B → Prop} {D : ve_D} {tb : Nat → ve_M} (ht : ∀ pc, ve_OK A0 l g HI CB D.1.cls D.2.1 D.2.2.1 D.2.2.2.1 D.1.name pc (tb pc)) {d : Nat} {cb : ve_B} (hcb : CB d cb) :
    ∀ (n pc : Nat) (hi : ve_I) (lv : ve_L) (st : List Value) (h : ve_H) (N cl sl pc' : Nat) (hi' : ve_I) (lv' : ve_L) (st' : List Value) (h' : ve_H) (N' cl' sl' : Nat), HI hi → ve_ex tb d cb n pc (hi, lv, st, h, N, cl, sl) = some (pc', hi', lv', st', h', N', cl', sl') →
      ve_Go A0 l g D d (pc, lv, st, h, N, cl, sl) (pc', lv', st', h', N', cl', sl') := by
  intro n
  induction n with
  | zero =>
    intro pc hi lv st h N cl sl pc' hi' lv' st' h' N' cl' sl' _ hr
    cases hr
    refine ⟨⟨Nat.le_refl _, Nat.le_refl _, ve_Km.rf, rfl⟩, ?_⟩
    intro p e R s m args below meth c hX η hη hg P H0 H locs ls Q hI hl hc hs kk
    exact kk H locs ls hI hl
  | succ n ih =>
    intro pc hi lv st h N cl sl pc' hi' lv' st' h' N' cl' sl' hHI hr
    have hk := ht pc d cb hcb hi lv st h N cl sl hHI
    change (match tb pc d cb (hi, lv, st, h, N, cl, sl) with
      | some (.inl (pc', z')) => ve_ex tb d cb n pc' z'
      | _ => none) = _ at hr
    split at hr
    · next pc1 z1 he =>
      obtain ⟨hi1, lv1, st1, h1, N1, cl1, sl1⟩ := z1
      obtain ⟨⟨a1, a2, a3, a4, a5⟩, a6⟩ := hk _ he
      exact ve_Go.tr (b := (pc1, lv1, st1, h1, N1, cl1, sl1)) ⟨⟨a2, a3, a4, a5⟩, a6⟩ (ih pc1 hi1 lv1 st1 h1 N1 cl1 sl1 pc' hi' lv' st' h' N' cl' sl' a1 hr)
    · cases hr
theorem ve_Iv.weak {η : Nat → Nat} {P : Nat → Prop} {H0 H : Heap} {h h' : ve_H} {N cl sl : Nat} (X : ve_Iv η P H0 h N cl sl H) (hw : ∀ i c, ve_hg h' i = some c → ve_hg h i = some c) : ve_Iv η P H0 h' N cl sl H := by
  obtain ⟨a1, a2, a3, a4⟩ := X
  refine ⟨fun i c hc => a1 i c (hw i c hc), a2, fun i hi => ?_, a4⟩
  obtain ⟨c, hc⟩ := Option.isSome_iff_exists.mp hi
  exact a3 i (by rw [hw i c hc]; rfl)
noncomputable def ve_xk (md : Nat → ve_D) (mi d n : Nat) (hi : ve_I) (a b : ve_Z) : Bool := match ve_ex (md mi).2.2.2.2.1 d (ve_run md 20000 d) n a.1 (hi, a.2) with
  | some (pc', _, lv', st', h', N', cl', sl') => (pc'.beq b.1 && (decide (lv' = b.2.1) && decide (st' = b.2.2.1))) && ((N'.beq b.2.2.2.2.1 && (cl'.beq b.2.2.2.2.2.1 && sl'.beq b.2.2.2.2.2.2)) && b.2.2.2.1.all (fun q => decide (ve_hg h' q.1 = some q.2)))
  | none => false
theorem ve_xk_ok {A0 : State} {l : Launch} {g : Nat} {md : Nat → ve_D} (hok : ∀ F d, ve_CB A0 l g (ve_HI A0 l g md) md d (ve_run md F d)) {mi d n : Nat} {hi : ve_I} {a b : ve_Z}
    (ht : ∀ pc, ve_OK A0 l g (ve_HI A0 l g md) (ve_CB A0 l g (ve_HI A0 l g md) md) (md mi).1.cls (md mi).2.1 (md mi).2.2.1 (md mi).2.2.2.1 (md mi).1.name pc ((md mi).2.2.2.2.1 pc)) (hHI : ve_HI A0 l g md hi) (h : ve_xk md mi d n hi a b = true) : ve_Go A0 l g (md mi) d a b := by
  obtain ⟨pc, lv, st, h0, N, cl, sl⟩ := a
  obtain ⟨pc2, lv2, st2, h2, N2, cl2, sl2⟩ := b
  unfold ve_xk at h
  split at h
  · next pc1 hi1 lv1 st1 h1 N1 cl1 sl1 he =>
    simp only [Bool.and_eq_true] at h
    obtain ⟨⟨q1, q2, q3⟩, ⟨q4, q5, q6⟩, q7⟩ := h
    have r1 := Nat.eq_of_beq_eq_true q1
    have r2 : lv1 = lv2 := of_decide_eq_true q2
    have r3 : st1 = st2 := of_decide_eq_true q3
    have r4 := Nat.eq_of_beq_eq_true q4
    have r5 := Nat.eq_of_beq_eq_true q5
    have r6 := Nat.eq_of_beq_eq_true q6
    clear q1 q2 q3 q4 q5 q6
    try dsimp only at r1
    subst r1; subst r2; subst r3; subst r4; subst r5; subst r6
    have hw : ∀ i c, ve_hg h2 i = some c → ve_hg h1 i = some c := fun i c hc => of_decide_eq_true (List.all_eq_true.mp q7 (i, c) (ve_hg_mem hc))
    obtain ⟨⟨a1, a2, a3, a4⟩, a5⟩ := ve_ex_ok ht (hok 20000 d) n pc hi lv st h0 N cl sl pc1 hi1 lv1 st1 h1 N1 cl1 sl1 hHI he
    refine ⟨⟨a1, a2, fun i hi => ?_, a4⟩, ?_⟩
    · obtain ⟨c, hc⟩ := Option.isSome_iff_exists.mp hi
      exact a3 i (by rw [hw i c hc]; rfl)
    · intro p e R s m args below meth c hX η hη hg P H0 H locs ls Q hI hl hc hs kk
      exact a5 p e R s m args below meth c hX η hη hg P H0 H locs ls Q hI hl hc hs fun H' locs' ls' hI' hl' => kk H' locs' ls' (hI'.weak hw) hl'
  · cases h
/-- a method's contract out of a stretch from its entry, and its last steps -/
theorem ve_met {A0 : State} {l : Launch} {g : Nat} {md : Nat → ve_D} (hok : ∀ F d, ve_CB A0 l g (ve_HI A0 l g md) md d (ve_run md F d)) (hpl : ∀ mi, plainFor (md mi).1 = true) {mi d n : Nat} {args : List Value} {h : ve_H} {N : Nat} {b : ve_Z} {v : Option Value}
    (ht : ∀ pc, ve_OK A0 l g (ve_HI A0 l g md) (ve_CB A0 l g (ve_HI A0 l g md) md) (md mi).1.cls (md mi).2.1 (md mi).2.2.1 (md mi).2.2.2.1 (md mi).1.name pc ((md mi).2.2.2.2.1 pc))
    (hlen : (lg_sl args).length ≤ (md mi).2.2.1) (hgo : ve_Go A0 l g (md mi) d (0, lv_args 0 args, [], h, N, 0, 0) b)
    (hend : (ve_lp (md mi).2.2.2.2.1 d (ve_run md 20000 d) n b.1 ([], b.2)).any (fun r => decide (r.1 = v) && (r.2.2.2.2.2.2.1.beq b.2.2.2.2.2.1 && r.2.2.2.2.2.2.2.beq b.2.2.2.2.2.2)) = true) :
    ∀ η : Nat → Nat, ve_In η → ve_Gl g η → Met l (md mi).1 [ve_w (md mi)] { frames := d + 1, cells := b.2.2.2.2.2.1, slots := b.2.2.2.2.2.2, locals := 64 * (d + 1) }
      (fun a U => a = (args.map (ve_v η)).toArray ∧ A0.WarmedH U.vm ∧ ve_Fr η N U.heap ∧ ve_Rl η h U.heap)
      (fun _ st o t => o = .returned (v.map (ve_v η)) ∧ t.heap.size = st.heap.size + b.2.2.2.2.2.1 ∧ ve_sum t.heap = ve_sum st.heap + b.2.2.2.2.2.2) b.2.2.2.2.2.1 b.2.2.2.2.2.2 (fun _ => True) := by
  obtain ⟨pc2, lv2, st2, h2, N2, cl2, sl2⟩ := b
  dsimp only at hend ⊢
  intro η hη hg
  cases he : ve_lp (md mi).2.2.2.2.1 d (ve_run md 20000 d) n pc2 ([], lv2, st2, h2, N2, cl2, sl2) with
  | none => rw [he] at hend; cases hend
  | some r =>
    obtain ⟨v3, hi3, lv3, st3, h3, N3, cl3, sl3⟩ := r
    rw [he] at hend
    simp only [Option.any_some, Bool.and_eq_true] at hend
    obtain ⟨e1, e2, e3⟩ := hend
    have r1 := of_decide_eq_true e1
    have r2 := Nat.eq_of_beq_eq_true e2
    have r3 := Nat.eq_of_beq_eq_true e3
    clear e1 e2 e3
    subst r1; subst r2; subst r3
    obtain ⟨-, b2, b3, b4, b5, b6⟩ := ve_lp_ok ht (hok 20000 d) n pc2 [] lv2 st2 h2 N2 cl3 sl3 _ hi3 lv3 st3 h3 N3 cl3 sl3 ve_hi_nil he
    obtain ⟨⟨a1, a2, a3, a4⟩, a5⟩ := hgo
    refine ve_ofWF (hpl mi) ?_
    intro p e s m args' below meth c s₁ B hml hv
    obtain ⟨rfl, hW, hFr, hRl⟩ := hv
    have hl := lv_entry (args.map (ve_v η)) (n := (md mi).2.2.1) (by rw [ve_sl_len]; exact hlen)
    rw [ve_args_q] at hl
    rw [lg_entry_eq]
    generalize (lg_sl (args.map (ve_v η)) ++ List.replicate ((md mi).2.2.1 - (lg_sl (args.map (ve_v η))).length) Slot.unset).toArray = ls at hl ⊢
    have hX : ve_X A0 (md mi).1.cls (md mi).2.1 (md mi).2.2.1 (md mi).2.2.2.1 (md mi).1.name (d + 1) p e (headSpec [ve_w (md mi)] { frames := d + 1, cells := cl3, slots := sl3, locals := 64 * (d + 1) }).room s m (args.map (ve_v η)).toArray below meth c :=
      ⟨B.exec, B.bytes, hml, findClass_of_methodNamed B.named, hW, B.returns, B.notSynchronized, (name_of_methodNamed B.named B.method).1, Nat.le_refl _, Nat.le_refl _⟩
    have hI : ve_Iv η (fun q => ∃ i, (ve_hg h i).isSome = true ∧ η i = q) s.heap h N 0 0 s.heap :=
      ⟨hRl, hFr, fun i hi => Or.inl ⟨i, hi, rfl⟩, fun q _ _ => rfl, rfl, rfl⟩
    refine a5 p e _ s m _ below meth c hX η hη hg _ s.heap s.heap [] ls _ hI hl (Nat.le_refl _) (Nat.le_refl _) ?_
    intro H' locs' ls' hI' hl'
    refine b6 p e _ s m _ below meth c hX η hη hg _ s.heap H' locs' ls' _ hI' hl' (Nat.le_refl _) (Nat.le_refl _) ?_
    intro t _ hIt
    exact ⟨rfl, hIt.2.2.2.2.1, hIt.2.2.2.2.2⟩
