-- a summary: (method, arguments, how many numbers, world, answer, world behind, new cells, new slots, depth)
abbrev ve_S : Type := Nat × List Value × Nat × ve_H × Option Value × ve_H × Nat × Nat × Nat
abbrev ve_I : Type := List (Option (ve_S × List Nat))
abbrev ve_F : Type := ve_I × ve_L × List Value × ve_H × Nat × Nat × Nat
abbrev ve_B : Type := Nat → List Value → ve_I → ve_H → Nat → Option (ve_I × Option Value × ve_H × Nat × Nat)
abbrev ve_R : Type := (Nat × ve_F) ⊕ (Option Value × ve_F)
abbrev ve_M : Type := Nat → ve_B → ve_F → Option ve_R
-- a method: name, code, locals, return type, its instructions
abbrev ve_D : Type := MethodName × ByteArray × Nat × Option FieldType × (Nat → ve_M) × List (Nat × Nat × Nat × Nat)
def ve_w (D : ve_D) : Cond := match D.2.2.2.2.2 with
  | [] => .code D.1 D.2.1 D.2.2.1 D.2.2.2.1
  | q :: r => .codeWith D.1 D.2.1 D.2.2.1 D.2.2.2.1 (q :: r)
/-- a method's contract from its body's walk, with handlers or without -/
theorem ve_ofW {l : Launch} {D : ve_D} {rm : Room} {Pc : Array Value → State → Prop} {Qc : Array Value → State → Outcome → State → Prop} {mc ms : Nat} {free : Addr → Prop}
    (hy : plainName D.1.cls = true)
    (body : ∀ p e s m args below meth c s₁, BodyLoose p l D.1 (headSpec [ve_w D] rm) D.2.1 D.2.2.1 D.2.2.2.1 e s m args below meth c s₁ → c.maxLocals = D.2.2.1 → Pc args s →
      W p l e (headSpec [ve_w D] rm).room s m args below meth c s.heap [] 0 0 (MQ below Qc args s mc ms free) (entryFrame m args D.2.2.1)) : Met l D.1 [ve_w D] rm Pc Qc mc ms free := by
  refine MetFree.of_bodyS (code := D.2.1) (maxLocals := D.2.2.1) (ret := D.2.2.2.1) hy ?_ ?_
  · intro args s m h hn
    have h9 := atoms_spec (ws := [ve_w D]) h (ve_w D) List.mem_cons_self
    unfold ve_w at h9
    split at h9
    · obtain ⟨meth, c, h1, h2, h3, h4, h5, h6, -, -⟩ := Cond.code_spec hn h9
      exact ⟨meth, c, h1, h2, h3, h4, h5, h6⟩
    · obtain ⟨m9, meth, c, hn9, h1, h2, h3, h4, -, h5, h6, -⟩ := Cond.codeWith_spec h9
      cases hn.symm.trans hn9
      exact ⟨meth, c, h1, h2, h3, h4, h5, h6⟩
  · intro p e s m args below meth c s₁ B hml hP _
    have hh0 : s₁.heap = s.heap := by rw [B.state]; rfl
    obtain ⟨t, a1, o, b1, b2, b3⟩ := body p e s m args below meth c s₁ B hml hP s₁ hh0 (Stand.of_body B)
    exact ⟨t, o, a1, b1, b2, ⟨b3.1, b3.2⟩⟩
def ve_X (A0 : State) (own : String) (cc : ByteArray) (nL : Nat) (ret : Option FieldType) (nm : String) (d : Nat) (p : Program) (e : Env) (R : Room) (s : State) (m : MethodId) (args : Array Value) (below : List Frame) (meth : Method) (c : Code) : Prop :=
  p.tables.exec = Jvm.exec ∧ c.code = cc ∧ c.maxLocals = nL ∧ s.vm.findClass own = some m.cls ∧ A0.WarmedH s.vm ∧ meth.sig.returnType = ret ∧ meth.locks = false ∧ meth.name = nm ∧ d ≤ R.frames ∧ 64 * d ≤ R.locals
/-- numbers below g are addresses of the start's own cells -/
def ve_Gl (g : Nat) (η : Nat → Nat) : Prop := ∀ i : Nat, i < g → η i = i
def ve_Km (h : ve_H) (N : Nat) (h' : ve_H) : Prop := ∀ i : Nat, (ve_hg h' i).isSome = true → (ve_hg h i).isSome = true ∨ N ≤ i
theorem ve_Km.rf {h : ve_H} {N : Nat} : ve_Km h N h := fun _ h => Or.inl h
theorem ve_Km.tr {h h' h'' : ve_H} {N N' : Nat} (a : ve_Km h N h') (hN : N ≤ N') (b : ve_Km h' N' h'') : ve_Km h N h'' := fun i hi => by
  rcases b i hi with h1 | h1
  · exact a i h1
  · exact Or.inr (by omega)
def ve_OK (A0 : State) (l : Launch) (g : Nat) (HI : ve_I → Prop) (CB : Nat → ve_B → Prop) (own : String) (cc : ByteArray) (nL : Nat) (ret : Option FieldType) (nm : String) (pc : Nat) (f : ve_M) : Prop :=
  ∀ (d : Nat) (cb : ve_B), CB d cb → ∀ (hi : ve_I) (lv : ve_L) (st : List Value) (h : ve_H) (N cl sl : Nat), HI hi → ∀ res : ve_R, f d cb (hi, lv, st, h, N, cl, sl) = some res →
    match res with
    | .inl (pc', hi', lv', st', h', N', cl', sl') => (HI hi' ∧ cl ≤ cl' ∧ sl ≤ sl' ∧ ve_Km h N h' ∧ N + cl' = N' + cl) ∧
      ∀ (p : Program) (e : Env) (R : Room) (s : State) (m : MethodId) (args : Array Value) (below : List Frame) (meth : Method) (c : Code),
      ve_X A0 own cc nL ret nm (d + 1) p e R s m args below meth c → ∀ η : Nat → Nat, ve_In η → ve_Gl g η → ∀ (P : Nat → Prop) (H0 : Heap),
      ∀ (H : Heap) (locs : List Loc) (ls : Array Slot) (Q : State → Prop), ve_Iv η P H0 h N cl sl H → lv_has ls nL (lv.map (ve_q η)) → cl' ≤ R.cells → sl' ≤ R.slots →
        (∀ (H' : Heap) (locs' : List Loc) (ls' : Array Slot), ve_Iv η P H0 h' N' cl' sl' H' → lv_has ls' nL (lv'.map (ve_q η)) → W p l e R s m args below meth c H' locs' cl' sl' Q (F0 m pc' ls' (st'.map (ve_v η)))) →
        W p l e R s m args below meth c H locs cl sl Q (F0 m pc ls (st.map (ve_v η)))
    | .inr (v, z) => z = (hi, lv, st, h, N, cl, sl) ∧
      ∀ (p : Program) (e : Env) (R : Room) (s : State) (m : MethodId) (args : Array Value) (below : List Frame) (meth : Method) (c : Code),
      ve_X A0 own cc nL ret nm (d + 1) p e R s m args below meth c → ∀ η : Nat → Nat,
      ∀ (H : Heap) (locs : List Loc) (ls : Array Slot) (Qc : Array Value → State → Outcome → State → Prop), (∀ t : State, t.heap = H → s.WarmedH t.vm → Qc args s (.returned (v.map (ve_v η))) t) →
        W p l e R s m args below meth c H locs cl sl (MQ below Qc args s cl sl (fun _ => True)) (F0 m pc ls (st.map (ve_v η)))
/-- an instruction that leaves the world alone -/
def ve_pu (f : ve_P) : ve_M := fun _ _ z => match f z.2.1 z.2.2.1 with
  | some (pc', lv', st') => some (.inl (pc', z.1, lv', st', z.2.2.2))
  | none => none
theorem ve_pu_ok {A0 : State} {l : Launch} {g : Nat} {HI : ve_I → Prop} {CB : Nat → ve_B → Prop} {own : String} {cc : ByteArray} {nL : Nat} {ret : Option FieldType} {nm : String} {pc : Nat} {f : ve_P} (hf : ve_PO cc nL pc f) : ve_OK A0 l g HI CB own cc nL ret nm pc (ve_pu f) := by
  intro d cb _ hi lv st h N cl sl hHI res hr
  unfold ve_pu at hr
  dsimp only at hr
  split at hr
  · next pc' lv' st' hp =>
    cases hr
    refine ⟨⟨hHI, Nat.le_refl _, Nat.le_refl _, ve_Km.rf, rfl⟩, ?_⟩
    intro p e R s m args below meth c hX η _ _ P H0 H locs ls Q hI hl _ _ kk
    exact hf p l e R s m args below meth c H locs cl sl Q ls hX.1 hX.2.1 η lv st pc' lv' st' hp hl (fun ls' h9 => kk H locs ls' hI h9)
  · cases hr
/-- no instruction here -/
def ve_no : ve_M := fun _ _ _ => none
theorem ve_no_ok {A0 : State} {l : Launch} {g : Nat} {HI : ve_I → Prop} {CB : Nat → ve_B → Prop} {own : String} {cc : ByteArray} {nL : Nat} {ret : Option FieldType} {nm : String} {pc : Nat} : ve_OK A0 l g HI CB own cc nL ret nm pc ve_no := by
  intro d cb _ hi lv st h N cl sl hHI res hr
  cases hr
theorem ve_leaf {A0 : State} {l : Launch} {g : Nat} {HI : ve_I → Prop} {CB : Nat → ve_B → Prop} {own : String} {cc : ByteArray} {nL : Nat} {ret : Option FieldType} {nm : String} {k : Nat} {f : ve_M} (hf : ve_OK A0 l g HI CB own cc nL ret nm k f) (pc : Nat) : ve_OK A0 l g HI CB own cc nL ret nm pc (bif pc.beq k then f else ve_no) := by
  cases hb : pc.beq k with
  | true => have e := Nat.eq_of_beq_eq_true hb; subst e; exact hf
  | false => exact ve_no_ok
theorem ve_node {A0 : State} {l : Launch} {g : Nat} {HI : ve_I → Prop} {CB : Nat → ve_B → Prop} {own : String} {cc : ByteArray} {nL : Nat} {ret : Option FieldType} {nm : String} {pc : Nat} {b : Bool} {f f' : ve_M} (h1 : ve_OK A0 l g HI CB own cc nL ret nm pc f) (h2 : ve_OK A0 l g HI CB own cc nL ret nm pc f') : ve_OK A0 l g HI CB own cc nL ret nm pc (bif b then f else f') := by
  cases b <;> assumption
/-- what a call does to a world -/
def ve_MO (A0 : State) (l : Launch) (g : Nat) (md : Nat → ve_D) (d mi : Nat) (args : List Value) (h : ve_H) (N : Nat) (ret : Option Value) (h' : ve_H) (mc ms : Nat) : Prop :=
  ve_Km h N h' ∧ ∃ dp : Nat, dp ≤ d ∧ ∀ η : Nat → Nat, ve_In η → ve_Gl g η →
    Met l (md mi).1 [ve_w (md mi)] { frames := dp, cells := mc, slots := ms, locals := 64 * dp }
      (fun a U => a = (args.map (ve_v η)).toArray ∧ A0.WarmedH U.vm ∧ ve_Fr η N U.heap ∧ ve_Rl η h U.heap)
      (fun _ st o t => o = .returned (ret.map (ve_v η)) ∧ ve_Rl η h' t.heap ∧ t.heap.size = st.heap.size + mc ∧ ve_sum t.heap = ve_sum st.heap + ms ∧ ∀ q : Nat, q < st.heap.size → (∀ i : Nat, (ve_hg h i).isSome = true → η i ≠ q) → t.heap[q]? = st.heap[q]?) mc ms (fun _ => True)
def ve_CB (A0 : State) (l : Launch) (g : Nat) (HI : ve_I → Prop) (md : Nat → ve_D) (d : Nat) (cb : ve_B) : Prop :=
  ∀ (mi : Nat) (args : List Value) (hi : ve_I) (h : ve_H) (N : Nat) (hi' : ve_I) (ret : Option Value) (h' : ve_H) (mc ms : Nat), HI hi → cb mi args hi h N = some (hi', ret, h', mc, ms) → HI hi' ∧ ve_MO A0 l g md d mi args h N ret h' mc ms
-- a method's run
noncomputable def ve_lp (tb : Nat → ve_M) (d : Nat) (cb : ve_B) (n : Nat) : Nat → ve_F → Option (Option Value × ve_F) :=
  Nat.rec (fun _ _ => none) (fun _ ih pc z => match tb pc d cb z with
    | some (.inl (pc', z')) => ih pc' z'
    | some (.inr r) => some r
    | none => none) n
theorem ve_lp_ok {A0 : State} {l : Launch} {g : Nat} {HI : ve_I → Prop} {CB : Nat → ve_B → Prop} {own : String} {cc : ByteArray} {nL : Nat} {ret : Option FieldType} {nm : String} {tb : Nat → ve_M} (ht : ∀ pc, ve_OK A0 l g HI CB own cc nL ret nm pc (tb pc)) {d : Nat} {cb : ve_B} (hcb : CB d cb) :
    ∀ (n pc : Nat) (hi : ve_I) (lv : ve_L) (st : List Value) (h : ve_H) (N cl sl : Nat) (v : Option Value) (hi' : ve_I) (lv' : ve_L) (st' : List Value) (h' : ve_H) (N' cl' sl' : Nat), HI hi → ve_lp tb d cb n pc (hi, lv, st, h, N, cl, sl) = some (v, hi', lv', st', h', N', cl', sl') →
      HI hi' ∧ cl ≤ cl' ∧ sl ≤ sl' ∧ ve_Km h N h' ∧ N + cl' = N' + cl ∧
      ∀ (p : Program) (e : Env) (R : Room) (s : State) (m : MethodId) (args : Array Value) (below : List Frame) (meth : Method) (c : Code), ve_X A0 own cc nL ret nm (d + 1) p e R s m args below meth c → ∀ η : Nat → Nat, ve_In η → ve_Gl g η → ∀ (P : Nat → Prop) (H0 : Heap),
      ∀ (H : Heap) (locs : List Loc) (ls : Array Slot) (Qc : Array Value → State → Outcome → State → Prop), ve_Iv η P H0 h N cl sl H → lv_has ls nL (lv.map (ve_q η)) → cl' ≤ R.cells → sl' ≤ R.slots →
        (∀ t : State, s.WarmedH t.vm → ve_Iv η P H0 h' N' cl' sl' t.heap → Qc args s (.returned (v.map (ve_v η))) t) →
        W p l e R s m args below meth c H locs cl sl (MQ below Qc args s cl' sl' (fun _ => True)) (F0 m pc ls (st.map (ve_v η))) := by
  intro n
  induction n with
  | zero => intro pc hi lv st h N cl sl v hi' lv' st' h' N' cl' sl' _ hr; cases hr
  | succ n ih =>
    intro pc hi lv st h N cl sl v hi' lv' st' h' N' cl' sl' hHI hr
    have hk := ht pc d cb hcb hi lv st h N cl sl hHI
    change (match tb pc d cb (hi, lv, st, h, N, cl, sl) with
      | some (.inl (pc', z')) => ve_lp tb d cb n pc' z'
      | some (.inr r) => some r
      | none => none) = _ at hr
    split at hr
    · next pc1 z1 he =>
      obtain ⟨hi1, lv1, st1, h1, N1, cl1, sl1⟩ := z1
      obtain ⟨⟨a1, a2, a3, a4, a5⟩, a6⟩ := hk _ he
      obtain ⟨b1, b2, b3, b4, b5, b6⟩ := ih pc1 hi1 lv1 st1 h1 N1 cl1 sl1 v hi' lv' st' h' N' cl' sl' a1 hr
      refine ⟨b1, by omega, by omega, a4.tr (by omega) b4, by omega, ?_⟩
      intro p e R s m args below meth c hX η hη hg P H0 H locs ls Qc hI hl hc hs hq
      exact a6 p e R s m args below meth c hX η hη hg P H0 H locs ls _ hI hl (by omega) (by omega) (fun H' locs' ls' hI' hl' => b6 p e R s m args below meth c hX η hη hg P H0 H' locs' ls' Qc hI' hl' hc hs hq)
    · next r he =>
      cases hr
      obtain ⟨a1, a2⟩ := hk _ he
      cases a1
      refine ⟨hHI, Nat.le_refl _, Nat.le_refl _, ve_Km.rf, rfl, ?_⟩
      intro p e R s m args below meth c hX η hη hg P H0 H locs ls Qc hI hl hc hs hq
      exact a2 p e R s m args below meth c hX η H locs ls Qc (fun t h1 h2 => hq t h2 (by rw [h1]; exact hI))
    · cases hr
