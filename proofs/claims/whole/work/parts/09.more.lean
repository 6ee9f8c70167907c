section VOI
variable {A0 : State} {l : Launch} {g : Nat} {HI : ve_I → Prop} {CB : Nat → ve_B → Prop} {own : String} {cc : ByteArray} {nL : Nat} {ret : Option FieldType} {nm : String} {pc : Nat}
-- aastore
def ve_aas (nx cls : Nat) (vs : List Nat) : ve_M := fun _ _ z => match z with
  | (hi, lv, .ref v :: .int j :: .ref a :: r, h, q) => match ve_hg h a, ve_hg h v with
    | some c, some cv => bif c.1.beq cls && (vs.contains cv.1 && (decide (¬ j < 0) && j.toNatClampNeg.blt c.2.length)) then some (.inl (nx, hi, lv, r, ve_hs h a (c.1, c.2.set j.toNatClampNeg (.ref v)), q)) else none
    | _, _ => none
  | _ => none
def ve_aa (A0 : State) (cls : Nat) (vs : List Nat) : Bool := cls.blt 1000 && (A0.vm.classes[cls]?).any (fun k => match k.kind with
  | .array comp t => t.isReference && ((A0.vm.classes[comp]?).isSome && vs.all (fun x => x.blt 1000 && ((A0.vm.classes[x]?).isSome && A0.vm.assignable x comp)))
  | _ => false)
theorem ve_aast_ok {cls : Nat} {vs : List Nat} (hd : decode cc pc = .ok (.aastore, 1)) (ha : ve_aa A0 cls vs = true) : ve_OK A0 l g HI CB own cc nL ret nm pc (ve_aas (pc + 1) cls vs) := by
  intro d cb _ hi lv st h N cl sl hHI res hr
  unfold ve_aas at hr
  split at hr
  · next v j a r _ _ e =>
    cases e
    split at hr
    · next c cv hc hcv =>
      obtain ⟨hq, hr⟩ := ve_bif hr
      simp only [Bool.and_eq_true] at hq
      obtain ⟨q0, q1, q2, q3⟩ := hq
      have q2 := of_decide_eq_true q2
      have q3 := ve_blt q3
      have q0 := Nat.eq_of_beq_eq_true q0
      cases hr
      refine ⟨⟨hHI, Nat.le_refl _, Nat.le_refl _, ve_Km_set hc, rfl⟩, ?_⟩
      intro p e R s m args below meth c0 hX η hη hg P H0 H locs ls Q hI hl _ _ kk
      have hW := hX.2.2.2.2.1
      unfold ve_aa at ha
      rw [Bool.and_eq_true] at ha
      obtain ⟨hlt, ha⟩ := ha
      cases hk : A0.vm.classes[cls]? with
      | none => rw [hk] at ha; cases ha
      | some k =>
        rw [hk] at ha
        simp only [Option.any_some] at ha
        split at ha
        · next comp t hkd =>
          simp only [Bool.and_eq_true] at ha
          obtain ⟨t1, t2, t3⟩ := ha
          obtain ⟨kc, hkc⟩ := Option.isSome_iff_exists.mp t2
          have t4 := List.all_eq_true.mp t3 cv.1 (by simpa using q1)
          simp only [Bool.and_eq_true] at t4
          obtain ⟨u1, u2, u3⟩ := t4
          obtain ⟨kv, hkv⟩ := Option.isSome_iff_exists.mp u2
          obtain ⟨k', e1, e2⟩ := ve_kl hW hk
          obtain ⟨kc', e3, -⟩ := ve_kl hW hkc
          obtain ⟨kv', e5, -⟩ := ve_kl hW hkv
          have hc0 : ve_c η c = { cls := c.1, slots := (c.2.map (ve_v η)).toArray, vm := .none } := ve_c_obj (by rw [q0]; exact hlt)
          have hcv0 : ve_c η cv = { cls := cv.1, slots := (cv.2.map (ve_v η)).toArray, vm := .none } := ve_c_obj u1
          refine W.aast hX.1 hX.2.1 (hI.1 _ _ hc) (fun q h9 => by rw [hc0] at h9; cases h9) (ve_c_known η c) (k := k') (by rw [hc0]; dsimp only; rw [q0]; exact e1) (comp := comp) (t := t) (by rw [e2]; exact hkd) t1 e3 ⟨q2, by rw [ve_c_size]; exact q3⟩ (hI.1 _ _ hcv) (fun q h9 => by rw [hcv0] at h9; cases h9) (kv := kv') (by rw [hcv0]; exact e5) (by rw [hcv0, hW.alike.assignable]; exact u3) rfl rfl hd ?_
          intro H' g1 g2 g3
          rw [show (Value.ref (η v)) = ve_v η (.ref v) from rfl, ve_c_set] at g1
          exact kk H' _ ls (hI.set hη hc g1 g2 g3 (by simp)) hl
        · cases ha
    · cases hr
  · cases hr
-- getstatic
def ve_gs (nx a k : Nat) : ve_M := fun _ _ z => match z with
  | (hi, lv, st, h, q) => match ve_hg h a with
    | some c => match c.2[k]? with
      | some v => some (.inl (nx, hi, lv, v :: st, h, q))
      | none => none
    | none => none
theorem ve_gets_ok {idx a k : Nat} {ref name desc : String} (hd : decode cc pc = .ok (.getstatic idx, 3)) (hw : (Cond.fieldLink own idx ref name desc).before #[] A0 = true) (ha : a < g)
    (hf : (A0.fieldFound? ref name desc).any (fun q => q.2.2.2.slot.beq k && (q.2.2.2.isStatic && (decide (q.2.1.init = .initialized) && decide (q.2.1.statics = some a)))) = true) :
    ve_OK A0 l g HI CB own cc nL ret nm pc (ve_gs (pc + 3) a k) := by
  intro d cb _ hi lv st h N cl sl hHI res hr
  unfold ve_gs at hr
  split at hr
  next e =>
    cases e
    split at hr
    · next c hc =>
      split at hr
      · next v hv =>
        cases hr
        refine ⟨⟨hHI, Nat.le_refl _, Nat.le_refl _, ve_Km.rf, rfl⟩, ?_⟩
        intro p e R s m args below meth c0 hX η hη hg P H0 H locs ls Q hI hl _ _ kk
        obtain ⟨hx, hb, hml, hown, hW, -⟩ := hX
        obtain ⟨cf, i, k0, k1, fd, -, h1, h2, h3⟩ := ve_ff hW hf
        simp only [Bool.and_eq_true] at h1
        obtain ⟨w1, w2, w3, w4⟩ := h1
        have e1 : fd.slot = k := Nat.eq_of_beq_eq_true w1
        have e3 : k0.init = .initialized := of_decide_eq_true w3
        have e4 : k0.statics = some a := of_decide_eq_true w4
        have ea : η a = a := hg a ha
        have hcell := hI.1 _ _ hc
        rw [ea] at hcell
        exact W.gets hx hb hown (ve_wd hW rfl hw) h2 w2 (by rw [h3]; exact e3) (by rw [h3]; exact e4) hcell (ve_c_known η c) (v := ve_v η v) (by rw [e1]; exact ve_c_at hv) rfl hd (kk H locs ls hI hl)
      · cases hr
    · cases hr
-- checkcast of an object
def ve_cc (nx : Nat) (vs : List Nat) : ve_M := fun _ _ z => match z with
  | (hi, lv, .ref a :: r, h, q) => match ve_hg h a with
    | some c => bif vs.contains c.1 then some (.inl (nx, hi, lv, .ref a :: r, h, q)) else none
    | none => none
  | _ => none
theorem ve_cast_ok {idx t : Nat} {C : String} {vs : List Nat} (hd : decode cc pc = .ok (.checkcast idx, 3)) (hw : (Cond.classLink own idx C).before #[] A0 = true) (hC : A0.vm.findClass C = some t) (hv : vs.all (fun x => x.blt 1000 && A0.vm.assignable x t) = true) :
    ve_OK A0 l g HI CB own cc nL ret nm pc (ve_cc (pc + 3) vs) := by
  intro d cb _ hi lv st h N cl sl hHI res hr
  unfold ve_cc at hr
  split at hr
  · next e =>
    cases e
    split at hr
    · next c hc =>
      obtain ⟨hq, hr⟩ := ve_bif hr
      cases hr
      refine ⟨⟨hHI, Nat.le_refl _, Nat.le_refl _, ve_Km.rf, rfl⟩, ?_⟩
      intro p e R s m args below meth c0 hX η hη hg P H0 H locs ls Q hI hl _ _ kk
      obtain ⟨hx, hb, hml, hown, hW, -⟩ := hX
      have h1 := List.all_eq_true.mp hv c.1 (by simpa using hq)
      rw [Bool.and_eq_true] at h1
      have hc0 : ve_c η c = { cls := c.1, slots := (c.2.map (ve_v η)).toArray, vm := .none } := ve_c_obj h1.1
      have k2 := kk H locs ls hI hl
      intro T hT X
      obtain ⟨vm', X', st9⟩ := X.checkcastYes hx hown (ve_wd hW rfl hw) (a := η _) (by rw [hT]; exact hI.1 _ _ hc) (by rw [hc0]; rfl) (ve_fc hW hC) (by rw [hc0, hW.alike.assignable]; exact h1.2) (g := F0 m pc ls (.ref (η _) :: _)) rfl rfl (by rw [hb]; exact hd)
      obtain ⟨t9, a1, b1⟩ := k2 (T.setVm vm') hT X'
      exact ⟨t9, st9 t9 a1, b1⟩
    · cases hr
  · cases hr
-- returns
def ve_rt (kd : Nat) (ty : FieldType) : ve_M := fun _ _ z => match kd, z.2.2.1 with
  | 0, [] => some (.inr (none, z))
  | 1, [.int x] => bif decide (narrow ty (.int x) = .int x) then some (.inr (some (.int x), z)) else none
  | 2, [.long x] => some (.inr (some (.long x), z))
  | 3, [.ref x] => some (.inr (some (.ref x), z))
  | 3, [.null] => some (.inr (some .null, z))
  | _, _ => none
theorem ve_vret_ok {ty : FieldType} (hd : decode cc pc = .ok (.return_, 1)) (hr0 : ret = none) : ve_OK A0 l g HI CB own cc nL ret nm pc (ve_rt 0 ty) := by
  intro d cb _ hi lv st h N cl sl hHI res hr
  unfold ve_rt at hr
  split at hr <;> first | (cases hr; done) | skip
  all_goals first | contradiction | skip
  next _ _ e =>
    cases hr
    have e2 : st = [] := e
    subst e2
    refine ⟨rfl, ?_⟩
    intro p e R s m args below meth c0 hX η H locs ls Qc hq
    obtain ⟨hx, hb, hml, hown, hW, hret, hlk, -⟩ := hX
    exact W.vret (free := fun _ => True) hx hb (hret.trans hr0) hq (fun _ _ => trivial) hd hlk
theorem ve_iret_ok {ty : FieldType} (hd : decode cc pc = .ok (.ireturn, 1)) (hr0 : ret = some ty) : ve_OK A0 l g HI CB own cc nL ret nm pc (ve_rt 1 ty) := by
  intro d cb _ hi lv st h N cl sl hHI res hr
  unfold ve_rt at hr
  split at hr <;> first | (cases hr; done) | skip
  all_goals first | contradiction | skip
  next x _ e =>
    obtain ⟨hq1, hr⟩ := ve_bif hr
    have hq1 := of_decide_eq_true hq1
    cases hr
    have e2 : st = [.int x] := e
    subst e2
    refine ⟨rfl, ?_⟩
    intro p e R s m args below meth c0 hX η H locs ls Qc hq
    obtain ⟨hx, hb, hml, hown, hW, hret, hlk, -⟩ := hX
    exact W.zret (free := fun _ => True) hx hb (hret.trans hr0) hq1 hq (fun _ _ => trivial) hd hlk
theorem ve_lret_ok {ty : FieldType} (hd : decode cc pc = .ok (.lreturn, 1)) (hr0 : ret = some .long) : ve_OK A0 l g HI CB own cc nL ret nm pc (ve_rt 2 ty) := by
  intro d cb _ hi lv st h N cl sl hHI res hr
  unfold ve_rt at hr
  split at hr <;> first | (cases hr; done) | skip
  all_goals first | contradiction | skip
  next x _ e =>
    cases hr
    have e2 : st = [.long x] := e
    subst e2
    refine ⟨rfl, ?_⟩
    intro p e R s m args below meth c0 hX η H locs ls Qc hq
    obtain ⟨hx, hb, hml, hown, hW, hret, hlk, -⟩ := hX
    exact W.lret (free := fun _ => True) hx hb (hret.trans hr0) hq (fun _ _ => trivial) hd hlk
theorem ve_aret_ok {ty rt : FieldType} (hd : decode cc pc = .ok (.areturn, 1)) (hr0 : ret = some rt) (hrt : (∃ n, rt = .object n) ∨ ∃ t, rt = .array t) : ve_OK A0 l g HI CB own cc nL ret nm pc (ve_rt 3 ty) := by
  intro d cb _ hi lv st h N cl sl hHI res hr
  unfold ve_rt at hr
  split at hr <;> first | (cases hr; done) | skip
  all_goals first | contradiction | skip
  · next x _ e =>
    cases hr
    have e2 : st = [.ref x] := e
    subst e2
    refine ⟨rfl, ?_⟩
    intro p e R s m args below meth c0 hX η H locs ls Qc hq
    obtain ⟨hx, hb, hml, hown, hW, hret, hlk, -⟩ := hX
    exact W.aret (free := fun _ => True) hx hb (hret.trans hr0) hrt (Or.inr ⟨η x, rfl⟩) hq (fun _ _ => trivial) hd hlk
  · next _ _ e =>
    cases hr
    have e2 : st = [.null] := e
    subst e2
    refine ⟨rfl, ?_⟩
    intro p e R s m args below meth c0 hX η H locs ls Qc hq
    obtain ⟨hx, hb, hml, hown, hW, hret, hlk, -⟩ := hX
    exact W.aret (free := fun _ => True) hx hb (hret.trans hr0) hrt (Or.inl rfl) hq (fun _ _ => trivial) hd hlk
end VOI
