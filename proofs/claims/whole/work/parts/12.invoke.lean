section VXS9
variable {p : Program} {l : Launch} {e : Env} {R : Room} {s : State} {m : MethodId} {args : Array Value} {below : List Frame} {meth : Method} {c : Code} {T : State} {H : Heap} {locs : List Loc} {cells slots : Nat}
abbrev ve_CSW (R : Room) (s : State) (args : Array Value) (own : String) (index : Nat) (y : MethodName) (bytes : ByteArray) (maxL : Nat) (ret : Option FieldType) (hh : List (Nat × Nat × Nat × Nat)) (ws : List Cond) (rm : Room) (mc ms n : Nat) : Prop :=
  (rm.cells = mc ∧ rm.slots = ms ∧ rm.frames + 1 ≤ R.frames ∧ 8 + (maxL + 11) + rm.locals ≤ R.locals ∧ (∀ w ∈ ws, ∀ (a' : Array Value) (U : State), s.WarmedH U.vm → w.before a' U = true) ∧ Cond.codeWith y bytes maxL ret hh ∈ ws) ∧
  (Cond.codeWith y bytes maxL ret hh).before args s = true ∧ (Cond.initialized y.cls).before args s = true ∧ (y.cls ≠ "java/lang/invoke/MethodHandle" ∧ y.cls ≠ "java/lang/invoke/VarHandle") ∧
  (∀ sig, parseMethodDescriptor y.desc = some sig → n = sig.parameters.length) ∧ (Cond.methodLink own index y).before args s = true ∧ (Cond.static y).before args s = true
theorem ve_callSW (X : Stand p l e R s m args below meth c T locs cells slots) (hexec : p.tables.exec = Jvm.exec) {own : String} {index : Nat} {y : MethodName} {bytes : ByteArray} {maxL : Nat} {ret : Option FieldType} {hh : List (Nat × Nat × Nat × Nat)}
    (hown : s.vm.findClass own = some m.cls) (hlink : (Cond.methodLink own index y).before args s = true) (hstat : (Cond.static y).before args s = true) (hinit : (Cond.initialized y.cls).before args s = true)
    (hcode : (Cond.codeWith y bytes maxL ret hh).before args s = true) (hy : y.cls ≠ "java/lang/invoke/MethodHandle" ∧ y.cls ≠ "java/lang/invoke/VarHandle")
    {W9 : Nat} {Pre : Pt → Array Value → Prop} {Post : Pt → Array Value → Option Value → Pt → Prop} (hK : Back l R p e below s args y 3 W9 Pre Post)
    {g : JFrame} (hg : g.method = m) (hsize : g.locals.size = c.maxLocals) {argsL rest : List Value} (hlen : ∀ sig, parseMethodDescriptor y.desc = some sig → argsL.length = sig.parameters.length)
    (hstack : g.stack = argsL.reverse ++ rest) (hW : 2 * g.monitorRoom + (rest.map fun v => v.category).sum ≤ W9) (hdg : decode c.code g.pc = .ok (.invokestatic index, 3))
    (hpre : ∀ vm₁, s.WarmedH vm₁ → Pre ⟨T.setVm vm₁, locs, cells, slots⟩ argsL.toArray) :
    ∃ (v : Option Value) (vm₁ : Vm) (B : Pt), s.WarmedH vm₁ ∧ Stand p l e R s m args below meth c B.U B.locs B.cells B.slots ∧ Post ⟨T.setVm vm₁, locs, cells, slots⟩ argsL.toArray v B ∧
      ∀ target, Steps p.tables e below (B.U.setTop { g with pc := g.pc + 3, stack := v.toList ++ rest }) target → Steps p.tables e below (T.setTop g) target := by
  obtain ⟨mk, methM, cM, hnamed, hmethM, -, -, -, -, -, -, hsigM⟩ := Cond.codeWith_spec hcode
  have hstatic : methM.isStatic = true := Cond.static_spec hnamed hmethM hstat
  obtain ⟨kP, hkP, -⟩ := className_of_methodNamed hnamed
  have hinitP : kP.init = .initialized := Cond.initialized_spec (findClass_of_methodNamed hnamed) hkP hinit
  obtain ⟨vm₁, X₁, hstep₁⟩ := X.invokestatic hexec hown hlink hnamed hmethM hstatic hkP hinitP hy (g := g) hg (argsL := argsL) (rest := rest) (hlen _ hsigM) hstack hdg
  obtain ⟨v, B, X', hpost, hsteps⟩ := hK m meth c ⟨T.setVm vm₁, locs, cells, slots⟩ { g with stack := rest } (.invokestatic index) mk argsL.toArray X₁ hg hsize hdg hW (X₁.named hnamed) (hpre vm₁ X₁.warmed)
  exact ⟨v, vm₁, B, X₁.warmed, X', hpost, fun target h => hstep₁ _ fun acts => by rw [doInvoke_state]; exact hsteps.trans h⟩
theorem ve_runSW {y : MethodName} {bytes cc : ByteArray} {maxL nL mc ms n index : Nat} {ret : Option FieldType} {hh : List (Nat × Nat × Nat × Nat)} {ws : List Cond} {rm : Room} {Pc : Array Value → State → Prop} {Qc : Array Value → State → Outcome → State → Prop} {free : Addr → Prop} {Ts : List Cond} {own : String} {As rest : List Value} {g : JFrame}
    (S : CallFix p m c cc nL s args Ts own) (hM : Met l y ws rm Pc Qc mc ms free) (cw : ve_CSW R s args own index y bytes maxL ret hh ws rm mc ms n) (hp : PreS s H Pc As)
    (hg : g.method = m) (hn : As.length = n) (hsize : g.locals.size = nL) (hstack : g.stack = As.reverse ++ rest) (hW : 2 * g.monitorRoom + (rest.map fun v => v.category).sum ≤ 8) (hdg : decode cc g.pc = .ok (.invokestatic index, 3)) (hf : cells + mc ≤ R.cells ∧ slots + ms ≤ R.slots) :
    va_Run p l e R s m args below meth c H locs cells slots mc ms g rest (Qc As.toArray) (free) := by
  obtain ⟨⟨hrc, hrs, hfr, hlo, hws, hcw⟩, hcode, hini, hy, hlen, hl, hstt⟩ := cw
  have hK : Back l R p e below s args y 3 8 (PreOf R mc ms Pc) (PostOf Qc mc ms free) := va_backW (hh := hh) (bytes := bytes) (maxL := maxL) (ret := ret) hM hp.1 hrc hrs hfr hlo hws hcw (fun a' U hW => word_at hW (Or.inl (by first | rfl | simp [Cond.onTables, Cond.keeps, Cond.steady])) hini)
  obtain ⟨hx, hb, hml, ho, -⟩ := S
  intro T hT X
  obtain ⟨v, vm₁, ⟨U', l2, c2, s2⟩, hW₁, X', ⟨g', mk, t, L, e1, e2, hq, h1, hL, h2, h3⟩, st⟩ := ve_callSW X hx (hh := hh) (bytes := bytes) (maxL := maxL) (ret := ret) ho hl hstt hini hcode hy hK hg (hsize.trans hml.symm) (argsL := As) (rest := rest) (fun sig h => hn.trans (hlen sig h)) hstack hW (by rw [hb]; exact hdg)
    (fun vm₁ hW₁ => ⟨hf.1, hf.2, hp.2 (T.setVm vm₁) hT hW₁⟩)
  dsimp only [Pt.U, Pt.locs, Pt.cells, Pt.slots] at X' e1 e2 h1 h2 h3 st
  subst h1; subst h2; subst h3
  exact ⟨v, (T.setVm vm₁).calling g' mk As.toArray, t, U', L, hT, X', hL, e1, e2, hq, st⟩
end VXS9
section VOC
variable {A0 : State} {l : Launch} {g : Nat} {md : Nat → ve_D} {own : String} {cc : ByteArray} {nL : Nat} {ret : Option FieldType} {nm : String} {pc : Nat}
/-- after the call -/
theorem ve_fin {p : Program} {e : Env} {R : Room} {s : State} {m : MethodId} {args : Array Value} {below : List Frame} {meth : Method} {c : Code} {H : Heap} {locs : List Loc} {cl sl mc ms : Nat} {Q : State → Prop} {ls : Array Slot} {st0 : List Value} {pcx : Nat}
    {η : Nat → Nat} {P : Nat → Prop} {H0 : Heap} {h h' : ve_H} {N : Nat} {rt : Option Value} {r : List Value} (hKm : ve_Km h N h') (hI : ve_Iv η P H0 h N cl sl H)
    (hr : CallRun p l e R s m args below meth c H locs cl sl mc ms (F0 m pcx ls st0) (r.map (ve_v η)) (fun st o t => o = .returned (rt.map (ve_v η)) ∧ ve_Rl η h' t.heap ∧ t.heap.size = st.heap.size + mc ∧ ve_sum t.heap = ve_sum st.heap + ms ∧ ∀ q : Nat, q < st.heap.size → (∀ i : Nat, (ve_hg h i).isSome = true → η i ≠ q) → t.heap[q]? = st.heap[q]?) (fun _ => True))
    (kk : ∀ (H' : Heap) (locs' : List Loc), ve_Iv η P H0 h' (N + mc) (cl + mc) (sl + ms) H' → W p l e R s m args below meth c H' locs' (cl + mc) (sl + ms) Q (F0 m (pcx + 3) ls ((rt.toList ++ r).map (ve_v η)))) :
    W p l e R s m args below meth c H locs cl sl Q (F0 m pcx ls st0) := by
  intro T hT X
  obtain ⟨v, st₀, t, T', L, h0, X', hL, e1, ⟨hv, c2, c3, c4, c5⟩, hgo⟩ := hr T hT X
  have hv2 : v = rt.map (ve_v η) := by cases hv; rfl
  obtain ⟨a1, a2, a3, a4, a5, a6⟩ := hI
  have hI' : ve_Iv η P H0 h' (N + mc) (cl + mc) (sl + ms) t.heap := by
    refine ⟨c2, ?_, ?_, ?_, ?_, ?_⟩
    · intro o
      rw [show N + mc + o = N + (mc + o) by omega, a2, c3, h0]; omega
    · intro i hi
      rcases hKm i hi with h9 | h9
      · exact a3 i h9
      · right
        have := a2 (i - N)
        rw [show N + (i - N) = i by omega] at this
        omega
    · intro q hq hP
      rw [c5 q (by rw [h0]; omega) (fun i hi e2 => ?_), h0]
      · exact a4 q hq hP
      · rcases a3 i hi with h9 | h9
        · exact hP (e2 ▸ h9)
        · omega
    · rw [c3, h0, a5]; omega
    · rw [c4, h0, a6]; omega
  obtain ⟨t2, b1, b2⟩ := kk t.heap (locs ++ L) hI' T' e1 X'
  refine ⟨t2, hgo t2 ?_, b2⟩
  have e3 : (rt.toList ++ r).map (ve_v η) = v.toList ++ r.map (ve_v η) := by
    rw [hv2]; cases rt <;> rfl
  rw [e3] at b1
  exact b1
/-- what a row of a call gives, at this place, for that method -/
def ve_CR (A0 : State) (l : Launch) (md : Nat → ve_D) (own : String) (cc : ByteArray) (nL : Nat) (ret : Option FieldType) (nm : String) (pc mi na : Nat) (rc : Option Nat) : Prop :=
  ∀ (d : Nat) (p : Program) (e : Env) (R : Room) (s : State) (m : MethodId) (args : Array Value) (below : List Frame) (meth : Method) (c : Code), ve_X A0 own cc nL ret nm (d + 1) p e R s m args below meth c → ∀ (η : Nat → Nat) (H : Heap) (locs : List Loc) (cl sl mc ms dp : Nat) (ls : Array Slot) (As r : List Value) (Pc : Array Value → State → Prop) (Qc : Array Value → State → Outcome → State → Prop),
      As.length = na → ls.size = nL → dp ≤ d → ((r.map fun v => v.category).sum ≤ 8) → cl + mc ≤ R.cells → sl + ms ≤ R.slots → (∀ k, rc = some k → ∃ (b : Nat) (y : List Value) (z : Array Value), As = .ref b :: y ∧ H[η b]? = some { cls := k, slots := z, vm := .none }) →
      Met l (md mi).1 [ve_w (md mi)] { frames := dp, cells := mc, slots := ms, locals := 64 * dp } Pc Qc mc ms (fun _ => True) → FrameBlind Pc → (∀ U : State, U.heap = H → s.WarmedH U.vm → Pc (As.map (ve_v η)).toArray U) →
      CallRun p l e R s m args below meth c H locs cl sl mc ms (F0 m pc ls ((As.reverse ++ r).map (ve_v η))) (r.map (ve_v η)) (Qc (As.map (ve_v η)).toArray) (fun _ => True)
-- a call of one method
def ve_cl (g mi na nx : Nat) : ve_M := fun d cb z => match z with
  | (hi, lv, st, h, N, cl, sl) => bif na.ble st.length && (((st.drop na).map fun v : Value => v.category).sum).ble 8 then (match ve_ca g d cb mi (st.take na).reverse hi h N with
    | some (hi', rt, h', mc, ms) => some (.inl (nx, hi', lv, rt.toList ++ st.drop na, h', N + mc, cl + mc, sl + ms))
    | none => none) else none
theorem ve_cl_ok {mi na : Nat} (hna : ve_CR A0 l md own cc nL ret nm pc mi na none) : ve_OK A0 l g (ve_HI A0 l g md) (ve_CB A0 l g (ve_HI A0 l g md) md) own cc nL ret nm pc (ve_cl g mi na (pc + 3)) := by
  intro d cb hcb hi lv st h N cl sl hHI res hr
  unfold ve_cl at hr
  obtain ⟨hq, hr⟩ := ve_bif2 hr
  rw [Bool.and_eq_true] at hq
  have q1 := Nat.le_of_ble_eq_true hq.1
  have q2 := Nat.le_of_ble_eq_true hq.2
  split at hr
  · next hi' rt h' mc ms hc =>
    cases hr
    obtain ⟨hHI', hKm, dp, hdp, hM⟩ := ve_ca_ok hcb hHI hc
    refine ⟨⟨hHI', Nat.le_add_right _ _, Nat.le_add_right _ _, hKm, by omega⟩, ?_⟩
    intro p e R s m args below meth c hX η hη hg P H0 H locs ls Q hI hl hcl hsl kk
    have hst : st.map (ve_v η) = (((st.take na).reverse).reverse ++ st.drop na).map (ve_v η) := by
      rw [List.reverse_reverse, List.take_append_drop]
    rw [hst]
    refine ve_fin hKm hI (hna d p e R s m args below meth c hX η H locs cl sl mc ms dp ls (st.take na).reverse (st.drop na) _ _ (by simp; omega) hl.1 hdp q2 hcl hsl (fun _ h9 => by cases h9) (hM η hη hg) (fun a U g mk q => q) ?_) (fun H' locs' hI' => kk H' locs' ls hI' hl)
    intro U hU hWU
    exact ⟨rfl, hX.2.2.2.2.1.trans hWU, by rw [hU]; exact hI.2.1, by rw [hU]; exact hI.1⟩
  · cases hr
-- a call that its receiver's class chooses
def ve_ch (na : Nat) (rc : List (Nat × Nat)) (st : List Value) (h : ve_H) : Option (Nat × Nat) := match (st.take na).reverse with
  | .ref b :: _ => match ve_hg h b with
    | some c => rc.find? (fun q => c.1.beq q.1)
    | none => none
  | _ => none
def ve_cw (g na nx : Nat) (rc : List (Nat × Nat)) : ve_M := fun d cb z => match z with
  | (hi, lv, st, h, N, cl, sl) => match ve_ch na rc st h with
    | some q => ve_cl g q.2 na nx d cb (hi, lv, st, h, N, cl, sl)
    | none => none
theorem ve_cw_ok {na : Nat} {rc : List (Nat × Nat)} (hlt : rc.all (fun q => q.1.blt 1000) = true) (hna : ∀ q ∈ rc, ve_CR A0 l md own cc nL ret nm pc q.2 na (some q.1)) : ve_OK A0 l g (ve_HI A0 l g md) (ve_CB A0 l g (ve_HI A0 l g md) md) own cc nL ret nm pc (ve_cw g na (pc + 3) rc) := by
  intro d cb hcb hi lv st h N cl sl hHI res hr
  unfold ve_cw at hr
  dsimp only at hr
  split at hr
  · next q hch =>
    unfold ve_cl at hr
    obtain ⟨hq, hr⟩ := ve_bif2 hr
    rw [Bool.and_eq_true] at hq
    have q1 := Nat.le_of_ble_eq_true hq.1
    have q2 := Nat.le_of_ble_eq_true hq.2
    unfold ve_ch at hch
    split at hch
    · next b y hb =>
      split at hch
      · next c9 hc9 =>
        have hmem := List.mem_of_find?_eq_some hch
        have hcls : c9.1 = q.1 := by
          have := List.find?_some hch
          exact Nat.eq_of_beq_eq_true this
        have hl9 := List.all_eq_true.mp hlt q hmem
        split at hr
        · next hi' rt h' mc ms hc =>
          cases hr
          obtain ⟨hHI', hKm, dp, hdp, hM⟩ := ve_ca_ok hcb hHI hc
          refine ⟨⟨hHI', Nat.le_add_right _ _, Nat.le_add_right _ _, hKm, by omega⟩, ?_⟩
          intro p e R s m args below meth c hX η hη hg P H0 H locs ls Q hI hl hcl hsl kk
          have hst : st.map (ve_v η) = (((st.take na).reverse).reverse ++ st.drop na).map (ve_v η) := by
            rw [List.reverse_reverse, List.take_append_drop]
          rw [hst]
          refine ve_fin hKm hI (hna q hmem d p e R s m args below meth c hX η H locs cl sl mc ms dp ls (st.take na).reverse (st.drop na) _ _ (by simp; omega) hl.1 hdp q2 hcl hsl (fun k h9 => ?_) (hM η hη hg) (fun a U g mk q => q) ?_) (fun H' locs' hI' => kk H' locs' ls hI' hl)
          · cases h9
            have e9 := hI.1 b c9 hc9
            rw [ve_c_obj (by rw [hcls]; exact hl9), hcls] at e9
            exact ⟨b, y, _, hb, e9⟩
          · intro U hU hWU
            exact ⟨rfl, hX.2.2.2.2.1.trans hWU, by rw [hU]; exact hI.2.1, by rw [hU]; exact hI.1⟩
        · cases hr
      · cases hch
    · cases hch
  · cases hr
theorem ve_pay {s : State} {args : Array Value} {y : MethodName} {b : ByteArray} {n : Nat} {rt : Option FieldType} (hc : (Cond.code y b n rt).before args s = true) : ∀ w ∈ [Cond.code y b n rt], ∀ (a' : Array Value) (U : State), s.WarmedH U.vm → w.before a' U = true := by
  intro w hw a' U hU
  have e : w = Cond.code y b n rt := by simpa using hw
  subst e
  exact word_at hU (Or.inl (by first | rfl | simp [Cond.onTables, Cond.keeps, Cond.steady])) hc
theorem ve_len_of {desc : String} {n : Nat} (h : (parseMethodDescriptor desc).map (fun d => d.parameters.length) = some n) : ∀ sig, parseMethodDescriptor desc = some sig → n = sig.parameters.length := fun sig h9 => by
  rw [h9] at h
  exact (Option.some.inj h).symm
theorem ve_rv (η : Nat → Nat) (As r : List Value) : (As.reverse ++ r).map (ve_v η) = (As.map (ve_v η)).reverse ++ r.map (ve_v η) := by simp
theorem ve_w_code {D : ve_D} (h : D.2.2.2.2.2 = []) : ve_w D = .code D.1 D.2.1 D.2.2.1 D.2.2.2.1 := by unfold ve_w; rw [h]
theorem ve_w_with {D : ve_D} {q : Nat × Nat × Nat × Nat} {r : List (Nat × Nat × Nat × Nat)} (h : D.2.2.2.2.2 = q :: r) : ve_w D = .codeWith D.1 D.2.1 D.2.2.1 D.2.2.2.1 (q :: r) := by unfold ve_w; rw [h]
-- static
theorem ve_rowS {idx mi na : Nat} (hd : decode cc pc = .ok (.invokestatic idx, 3)) (hm : (md mi).2.2.1 ≤ 45) (h1 : (Cond.methodLink own idx (md mi).1).before #[] A0 = true) (h2 : (Cond.static (md mi).1).before #[] A0 = true) (h3 : (Cond.initialized (md mi).1.cls).before #[] A0 = true)
    (h4 : (Cond.code (md mi).1 (md mi).2.1 (md mi).2.2.1 (md mi).2.2.2.1).before #[] A0 = true) (hh : (md mi).2.2.2.2.2 = []) (hn : (md mi).1.cls ≠ "java/lang/invoke/MethodHandle" ∧ (md mi).1.cls ≠ "java/lang/invoke/VarHandle") (hp : (parseMethodDescriptor (md mi).1.desc).map (fun d => d.parameters.length) = some na) :
    ve_CR A0 l md own cc nL ret nm pc mi na none := by
  intro d p e R s m args below meth c hX η H locs cl sl mc ms dp ls As r Pc Qc hna hls hdp hcat hcl hsl _ hM hfb hpc
  obtain ⟨hx, hb, hml, hown, hW, hret, hlk, hnm, hfr, hlo⟩ := hX
  have hc := ve_wd (args := args) hW rfl h4
  rw [ve_w_code hh] at hM
  refine W.runS (Ts := []) (n := na) ⟨hx, hb, hml, hown, fun w h => nomatch h⟩ hM ⟨⟨rfl, rfl, by show dp + 1 ≤ _; omega, by show 8 + (_ + 11) + 64 * dp ≤ _; omega, ve_pay hc, List.mem_cons_self, hc, ve_wd hW rfl h3, hn, ve_len_of hp, ve_wd hW rfl h1⟩, ve_wd hW rfl h2⟩ ⟨hfb, hpc⟩ rfl (by simpa using hna) hls (ve_rv η As r) ?_ hd ⟨hcl, hsl⟩
  show 2 * 0 + _ ≤ 8
  rw [ve_cats]; omega
-- constructors
theorem ve_rowI {idx mi na : Nat} (hd : decode cc pc = .ok (.invokespecial idx, 3)) (hm : (md mi).2.2.1 ≤ 45) (h1 : (Cond.methodLink own idx (md mi).1).before #[] A0 = true) (h2 : (Cond.instanceMethod (md mi).1).before #[] A0 = true) (h3 : (Cond.initialized (md mi).1.cls).before #[] A0 = true)
    (h4 : (Cond.code (md mi).1 (md mi).2.1 (md mi).2.2.1 (md mi).2.2.2.1).before #[] A0 = true) (hh : (md mi).2.2.2.2.2 = []) (hn : (md mi).1.cls ≠ "java/lang/invoke/MethodHandle" ∧ (md mi).1.cls ≠ "java/lang/invoke/VarHandle") (hp : (parseMethodDescriptor (md mi).1.desc).map (fun d => d.parameters.length) = some na) (hi : (md mi).1.name = "<init>") (hv : (md mi).2.2.2.1 = none) :
    ∀ k, ve_CR A0 l md own cc nL ret nm pc mi (na + 1) (some k) := by
  intro k0 d p e R s m args below meth c hX η H locs cl sl mc ms dp ls As r Pc Qc hna hls hdp hcat hcl hsl hrc hM hfb hpc
  obtain ⟨hx, hb, hml, hown, hW, hret, hlk, hnm, hfr, hlo⟩ := hX
  have hc := ve_wd (args := args) hW rfl h4
  rw [ve_w_code hh] at hM
  obtain ⟨b, y, z, rfl, hbz⟩ := hrc k0 rfl
  rw [hv] at hc hM
  refine W.runI (Ts := []) (n := na) (b := η b) (As := y.map (ve_v η)) (bytes := (md mi).2.1) (maxL := (md mi).2.2.1) ⟨hx, hb, hml, hown, fun w h => nomatch h⟩ hM ⟨⟨rfl, rfl, by show dp + 1 ≤ _; omega, by show 8 + (_ + 11) + 64 * dp ≤ _; omega, ve_pay hc, List.mem_cons_self, hc, ve_wd hW rfl h3, hn, ve_len_of hp, ve_wd hW rfl h1⟩, hi, ve_wd hW rfl h2⟩ ⟨hfb, hpc⟩ rfl (by simpa using hna) hls (by rw [ve_rv]; simp [ve_v]) ?_ hd ⟨hcl, hsl⟩
  show 2 * 0 + _ ≤ 8
  rw [ve_cats]; omega
-- private constructors of nest mates
theorem ve_rowIN {idx mi na : Nat} {host : String} (hd : decode cc pc = .ok (.invokespecial idx, 3)) (hm : (md mi).2.2.1 ≤ 45) (h1 : (Cond.methodLinkNest own idx (md mi).1 host).before #[] A0 = true) (h2 : (Cond.instanceMethod (md mi).1).before #[] A0 = true) (h3 : (Cond.initialized (md mi).1.cls).before #[] A0 = true)
    (h4 : (Cond.code (md mi).1 (md mi).2.1 (md mi).2.2.1 (md mi).2.2.2.1).before #[] A0 = true) (hh : (md mi).2.2.2.2.2 = []) (hn : (md mi).1.cls ≠ "java/lang/invoke/MethodHandle" ∧ (md mi).1.cls ≠ "java/lang/invoke/VarHandle") (hp : (parseMethodDescriptor (md mi).1.desc).map (fun d => d.parameters.length) = some na) (hi : (md mi).1.name = "<init>") (hv : (md mi).2.2.2.1 = none) :
    ∀ k, ve_CR A0 l md own cc nL ret nm pc mi (na + 1) (some k) := by
  intro k0 d p e R s m args below meth c hX η H locs cl sl mc ms dp ls As r Pc Qc hna hls hdp hcat hcl hsl hrc hM hfb hpc
  obtain ⟨hx, hb, hml, hown, hW, hret, hlk, hnm, hfr, hlo⟩ := hX
  have hc := ve_wd (args := args) hW rfl h4
  rw [ve_w_code hh] at hM
  obtain ⟨b, y, z, rfl, hbz⟩ := hrc k0 rfl
  rw [hv] at hc hM
  refine va_Run.run (va_runIN (g := F0 m pc ls (((Value.ref b :: y).reverse ++ r).map (ve_v η))) (rest := r.map (ve_v η)) (Ts := []) (n := na) (b := η b) (As := y.map (ve_v η)) (bytes := (md mi).2.1) (maxL := (md mi).2.2.1) (host := host) ⟨hx, hb, hml, hown, fun w h => nomatch h⟩ hM ⟨⟨⟨rfl, rfl, by show dp + 1 ≤ _; omega, by show 8 + (_ + 11) + 64 * dp ≤ _; omega, ve_pay hc, List.mem_cons_self⟩, hc, ve_wd hW rfl h3, hn, ve_len_of hp, va_Nw.use rfl (va_Nw.warmM hW h1)⟩, hi, ve_wd hW rfl h2⟩ ⟨hfb, hpc⟩ rfl (by simpa using hna) hls (by rw [ve_rv]; simp [ve_v]) ?_ hd ⟨hcl, hsl⟩)
  show 2 * 0 + _ ≤ 8
  rw [ve_cats]; omega
-- a superclass' method by invokespecial
theorem ve_rowSU {idx mi na k : Nat} {C : String} (hd : decode cc pc = .ok (.invokespecial idx, 3)) (hm : (md mi).2.2.1 ≤ 45) (h1 : (Cond.methodLink own idx (md mi).1).before #[] A0 = true) (h2 : (Cond.instanceMethod (md mi).1).before #[] A0 = true) (h3 : (Cond.initialized (md mi).1.cls).before #[] A0 = true)
    (h4 : (Cond.code (md mi).1 (md mi).2.1 (md mi).2.2.1 (md mi).2.2.2.1).before #[] A0 = true) (hh : (md mi).2.2.2.2.2 = []) (h5 : (Cond.sameMethod (md mi).1.cls (md mi).1.cls (md mi).1.name (md mi).1.desc).before #[] A0 = true) (h6 : (Cond.superclass own (md mi).1.cls).before #[] A0 = true) (hi : (md mi).1.name ≠ "<init>")
    (hC : A0.vm.findClass C = some k) (hk : (A0.vm.classes[k]?).any (fun x => decide (x.kind = .ordinary)) = true) (hp : (parseMethodDescriptor (md mi).1.desc).map (fun d => d.parameters.length) = some na) :
    ve_CR A0 l md own cc nL ret nm pc mi (na + 1) (some k) := by
  intro d p e R s m args below meth c hX η H locs cl sl mc ms dp ls As r Pc Qc hna hls hdp hcat hcl hsl hrc hM hfb hpc
  obtain ⟨hx, hb, hml, hown, hW, hret, hlk, hnm, hfr, hlo⟩ := hX
  have hc := ve_wd (args := args) hW rfl h4
  rw [ve_w_code hh] at hM
  obtain ⟨b, y, z, rfl, hbz⟩ := hrc k rfl
  have hat : ClassAt s C k := by
    refine ⟨ve_fc hW hC, ?_⟩
    cases hk0 : A0.vm.classes[k]? with
    | none => rw [hk0] at hk; cases hk
    | some k0 =>
      rw [hk0] at hk
      obtain ⟨k', e1, e2⟩ := ve_kl hW hk0
      exact ⟨k', e1, by rw [e2]; exact of_decide_eq_true hk⟩
  refine va_Run.run (va_runSU (g := F0 m pc ls (((Value.ref b :: y).reverse ++ r).map (ve_v η))) (rest := r.map (ve_v η)) (Ts := []) (n := na) (b := η b) (As := y.map (ve_v η)) (bytes := (md mi).2.1) (maxL := (md mi).2.2.1) hat ⟨hx, hb, hml, hown, fun w h => nomatch h⟩ hM ⟨⟨rfl, rfl, by show dp + 1 ≤ _; omega, by show 8 + (_ + 11) + 64 * dp ≤ _; omega, ve_pay hc, List.mem_cons_self⟩, ve_wd hW rfl h1, ve_wd hW rfl h5, ve_wd hW rfl h6, ve_wd hW rfl h2, ve_wd hW rfl h3, hc, hi, ve_len_of hp⟩ ⟨hfb, ⟨_, hbz, rfl, ve_fc hW hC⟩, hpc⟩ rfl (by simpa using hna) hls (by rw [ve_rv]; simp [ve_v]) ?_ hd ⟨hcl, hsl⟩)
  show 2 * 0 + _ ≤ 8
  rw [ve_cats]; omega
-- virtual
def ve_de (A0 : State) (x : MethodName) : Bool := match A0.methodNamed? x with
  | some r0 => match A0.vm.method? r0 with
    | some r => !r.isStatic && decide (parseMethodDescriptor x.desc = some r.sig)
    | none => false
  | none => false
theorem ve_de_of {s : State} (hW : A0.WarmedH s.vm) {x : MethodName} (h : ve_de A0 x = true) : va_Decl s x := by
  unfold ve_de at h
  split at h
  · next r0 hr0 =>
    split at h
    · next r hr =>
      rw [Bool.and_eq_true] at h
      refine ⟨r0, r, ?_, ?_, by simpa using h.1, of_decide_eq_true h.2⟩
      · have := State.methodNamed?_setVm hW.alike x
        rw [hr0] at this
        exact this
      · rw [hW.alike.method?]; exact hr
    · cases h
  · cases h
theorem ve_rowU {idx mi na k : Nat} {C owner : String} {x : MethodName} (hd : decode cc pc = .ok (.invokevirtual idx, 3)) (hm : (md mi).2.2.1 ≤ 45) (h1 : (Cond.methodLink own idx x).before #[] A0 = true) (h2 : (Cond.instanceMethod (md mi).1).before #[] A0 = true) (h3 : (Cond.initialized (md mi).1.cls).before #[] A0 = true)
    (h4 : (Cond.code (md mi).1 (md mi).2.1 (md mi).2.2.1 (md mi).2.2.2.1).before #[] A0 = true) (hh : (md mi).2.2.2.2.2 = []) (h5 : (Cond.sameMethod x.cls owner x.name x.desc).before #[] A0 = true) (h6 : (Cond.selects C x (md mi).1).before #[] A0 = true) (h7 : ve_de A0 ⟨owner, x.name, x.desc⟩ = true)
    (hn : owner ≠ "java/lang/invoke/MethodHandle" ∧ owner ≠ "java/lang/invoke/VarHandle") (hC : A0.vm.findClass C = some k) (hp : (parseMethodDescriptor x.desc).map (fun d => d.parameters.length) = some na) :
    ve_CR A0 l md own cc nL ret nm pc mi (na + 1) (some k) := by
  intro d p e R s m args below meth c hX η H locs cl sl mc ms dp ls As r Pc Qc hna hls hdp hcat hcl hsl hrc hM hfb hpc
  obtain ⟨hx, hb, hml, hown, hW, hret, hlk, hnm, hfr, hlo⟩ := hX
  have hc := ve_wd (args := args) hW rfl h4
  rw [ve_w_code hh] at hM
  obtain ⟨b, y, z, rfl, hbz⟩ := hrc k rfl
  refine va_Run.run (va_runU (g := F0 m pc ls (((Value.ref b :: y).reverse ++ r).map (ve_v η))) (rest := r.map (ve_v η)) (Ts := []) (n := na) (b := η b) (As := y.map (ve_v η)) (C := C) (owner := owner) (x := x) (bytes := (md mi).2.1) (maxL := (md mi).2.2.1) ⟨hx, hb, hml, hown, fun w h => nomatch h⟩ hM ⟨⟨rfl, rfl, by show dp + 1 ≤ _; omega, by show 8 + (_ + 11) + 64 * dp ≤ _; omega, ve_pay hc, List.mem_cons_self⟩, hc, ve_wd hW rfl h3, hn, ve_len_of hp, ve_wd hW rfl h1, ve_wd hW rfl h5, ve_de_of hW h7, ve_wd hW rfl h6, ve_wd hW rfl h2⟩ ⟨hfb, ⟨_, hbz, rfl, ve_fc hW hC⟩, hpc⟩ rfl (by simpa using hna) hls (by rw [ve_rv]; simp [ve_v]) ?_ hd ⟨hcl, hsl⟩)
  show 2 * 0 + _ ≤ 8
  rw [ve_cats]; omega
-- static, the callee with handlers
theorem ve_rowSW {idx mi na : Nat} {q0 : Nat × Nat × Nat × Nat} {r0 : List (Nat × Nat × Nat × Nat)} (hd : decode cc pc = .ok (.invokestatic idx, 3)) (hm : (md mi).2.2.1 ≤ 45) (h1 : (Cond.methodLink own idx (md mi).1).before #[] A0 = true) (h2 : (Cond.static (md mi).1).before #[] A0 = true) (h3 : (Cond.initialized (md mi).1.cls).before #[] A0 = true)
    (hh : (md mi).2.2.2.2.2 = q0 :: r0) (h4 : (Cond.codeWith (md mi).1 (md mi).2.1 (md mi).2.2.1 (md mi).2.2.2.1 (q0 :: r0)).before #[] A0 = true) (hn : (md mi).1.cls ≠ "java/lang/invoke/MethodHandle" ∧ (md mi).1.cls ≠ "java/lang/invoke/VarHandle") (hp : (parseMethodDescriptor (md mi).1.desc).map (fun d => d.parameters.length) = some na) :
    ve_CR A0 l md own cc nL ret nm pc mi na none := by
  intro d p e R s m args below meth c hX η H locs cl sl mc ms dp ls As r Pc Qc hna hls hdp hcat hcl hsl _ hM hfb hpc
  obtain ⟨hx, hb, hml, hown, hW, hret, hlk, hnm, hfr, hlo⟩ := hX
  have hc := ve_wd (args := args) hW rfl h4
  rw [ve_w_with hh] at hM
  refine va_Run.run (ve_runSW (g := F0 m pc ls ((As.reverse ++ r).map (ve_v η))) (rest := r.map (ve_v η)) (Ts := []) (n := na) (As := As.map (ve_v η)) (hh := q0 :: r0) (bytes := (md mi).2.1) (maxL := (md mi).2.2.1) (ret := (md mi).2.2.2.1) ⟨hx, hb, hml, hown, fun w h => nomatch h⟩ hM ⟨⟨rfl, rfl, by show dp + 1 ≤ _; omega, by show 8 + (_ + 11) + 64 * dp ≤ _; omega, fun w hw a' U hU => ?_, List.mem_cons_self⟩, hc, ve_wd hW rfl h3, hn, ve_len_of hp, ve_wd hW rfl h1, ve_wd hW rfl h2⟩ ⟨hfb, hpc⟩ rfl (by simpa using hna) hls (ve_rv η As r) ?_ hd ⟨hcl, hsl⟩)
  · have e9 : w = Cond.codeWith (md mi).1 (md mi).2.1 (md mi).2.2.1 (md mi).2.2.2.1 (q0 :: r0) := by simpa using hw
    subst e9
    exact word_at hU (Or.inl (by first | rfl | simp [Cond.onTables, Cond.keeps, Cond.steady])) hc
  · show 2 * 0 + _ ≤ 8
    rw [ve_cats]; omega
end VOC
