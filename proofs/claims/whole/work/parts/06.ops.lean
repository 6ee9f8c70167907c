theorem ve_wd {A0 s : State} {args : Array Value} {w : Cond} (hW : A0.WarmedH s.vm) (hg : goodWord w = true) (h : w.before #[] A0 = true) : w.before args s = true := word_at hW (good_of_word hg) h
theorem ve_wdF {A0 s : State} {args : Array Value} {a b n d o : String} {i : Nat} (hW : A0.WarmedH s.vm) (h : (Cond.fieldLinkNest a i b n d o).before #[] A0 = true) : (Cond.fieldLinkNest a i b n d o).before args s = true := va_Nw.use rfl (va_Nw.warmF hW h)
theorem ve_fc {A0 s : State} (hW : A0.WarmedH s.vm) {C : String} {r : Option ClassId} (h : A0.vm.findClass C = r) : s.vm.findClass C = r := by rw [hW.alike.findClass]; exact h
theorem ve_kl {A0 s : State} (hW : A0.WarmedH s.vm) {i : Nat} {k : Class} (h : A0.vm.classes[i]? = some k) : ∃ k', s.vm.classes[i]? = some k' ∧ k' = { k with resolved := k'.resolved, nestHost := k'.nestHost, nestHostError := k'.nestHostError } := hW.alike.2.2 i k h
theorem ve_ff {A0 s : State} (hW : A0.WarmedH s.vm) {ref name desc : String} {f : ClassId × Class × Nat × Field → Bool} (h : (A0.fieldFound? ref name desc).any f = true) :
    ∃ (cf i : Nat) (k k' : Class) (fd : Field), A0.fieldFound? ref name desc = some (cf, k, i, fd) ∧ f (cf, k, i, fd) = true ∧ s.fieldFound? ref name desc = some (cf, k', i, fd) ∧ k' = { k with resolved := k'.resolved, nestHost := k'.nestHost, nestHostError := k'.nestHostError } := by
  cases hf : A0.fieldFound? ref name desc with
  | none => rw [hf] at h; cases h
  | some q =>
    obtain ⟨cf, k, i, fd⟩ := q
    rw [hf] at h
    obtain ⟨k', h1, h2⟩ := State.fieldFound?_setVm hW.alike hf
    exact ⟨cf, i, k, k', fd, rfl, h, h1, h2⟩
theorem ve_st {A0 s : State} (hW : A0.WarmedH s.vm) {cls k : Nat} {ty : FieldType} {v : Value} (h : A0.slotType? cls .none k = some ty) (hf : fits ty v = true) : s.fitsSlot cls .none k v = true := by
  have e : (A0.setVm s.vm).fitsSlot cls .none k v = s.fitsSlot cls .none k v := rfl
  rw [← e, State.fitsSlot_setVm hW.alike]
  unfold State.fitsSlot
  rw [h]
  exact hf
theorem ve_fits {η : Nat → Nat} {ty : FieldType} {v : Value} (h : fits ty v = true) : fits ty (ve_v η v) = true := by cases v <;> cases ty <;> exact h
theorem ve_narrow {η : Nat → Nat} {ty : FieldType} {v : Value} (h : narrow ty v = v) : narrow ty (ve_v η v) = ve_v η v := by
  cases v <;> first | exact h | (cases ty <;> rfl)
theorem ve_array {A0 s : State} (hW : A0.WarmedH s.vm) {η : Nat → Nat} {c : ve_C} {ty : FieldType} (hlt : c.1.blt 1000 = true) (h : (A0.vm.classes[c.1]?).any (fun k => match k.kind with | .array _ t => decide (t = ty) | _ => false) = true) : s.isArrayOf (ve_c η c) ty := by
  refine ⟨fun k h9 => ?_, ?_⟩
  · rw [ve_c_obj hlt] at h9; cases h9
  · rw [ve_c_obj hlt]
    cases hk : A0.vm.classes[c.1]? with
    | none => rw [hk] at h; cases h
    | some k =>
      rw [hk] at h
      obtain ⟨k', h1, h2⟩ := ve_kl hW hk
      refine ⟨k', h1, ?_⟩
      have h3 : k'.kind = k.kind := by rw [h2]
      simp only [Option.any_some] at h
      split at h
      · next comp t hkd =>
        have := of_decide_eq_true h
        subst this
        exact ⟨comp, by rw [h3, hkd]⟩
      · cases h
section VOP
variable {A0 : State} {l : Launch} {g : Nat} {HI : ve_I → Prop} {CB : Nat → ve_B → Prop} {own : String} {cc : ByteArray} {nL : Nat} {ret : Option FieldType} {nm : String} {pc : Nat}
-- getfield
def ve_gf (nx k : Nat) : ve_M := fun _ _ z => match z with
  | (hi, lv, .ref a :: r, h, q) => match ve_hg h a with
    | some c => match c.2[k]? with
      | some v => some (.inl (nx, hi, lv, v :: r, h, q))
      | none => none
    | none => none
  | _ => none
theorem ve_getf_ok {idx k : Nat} {ref name desc : String} (hd : decode cc pc = .ok (.getfield idx, 3)) (hw : (Cond.fieldLink own idx ref name desc).before #[] A0 = true) (hf : (A0.fieldFound? ref name desc).any (fun q => q.2.2.2.slot.beq k && !q.2.2.2.isStatic) = true) :
    ve_OK A0 l g HI CB own cc nL ret nm pc (ve_gf (pc + 3) k) := by
  intro d cb _ hi lv st h N cl sl hHI res hr
  unfold ve_gf at hr
  try dsimp only at hr
  split at hr
  · next e =>
    cases e
    split at hr
    · next c hc =>
      split at hr
      · next v hv =>
        cases hr
        refine ⟨⟨hHI, Nat.le_refl _, Nat.le_refl _, ve_Km.rf, rfl⟩, ?_⟩
        intro p e R s m args below meth c0 hX η hη hg P H0 H locs ls Q hI hl _ _ kk
        obtain ⟨hx, hb, hml, hown, hW, -⟩ := hX
        obtain ⟨cf, i, k0, k1, fd, -, h1, h2, -⟩ := ve_ff hW hf
        rw [Bool.and_eq_true] at h1
        have e1 := Nat.eq_of_beq_eq_true h1.1
        have e2 : fd.isStatic = false := by simpa using h1.2
        refine W.getf hx hb hown (ve_wd hW rfl hw) h2 e2 (hI.1 _ _ hc) (ve_c_known η c) (v := ve_v η v) ?_ rfl rfl hd (kk H locs ls hI hl)
        dsimp only at e1
        rw [e1]
        exact ve_c_at hv
      · cases hr
    · cases hr
  · cases hr
theorem ve_getfN_ok {idx k : Nat} {ref name desc host : String} (hd : decode cc pc = .ok (.getfield idx, 3)) (hw : (Cond.fieldLinkNest own idx ref name desc host).before #[] A0 = true) (hf : (A0.fieldFound? ref name desc).any (fun q => q.2.2.2.slot.beq k && !q.2.2.2.isStatic) = true) :
    ve_OK A0 l g HI CB own cc nL ret nm pc (ve_gf (pc + 3) k) := by
  intro d cb _ hi lv st h N cl sl hHI res hr
  unfold ve_gf at hr
  try dsimp only at hr
  split at hr
  · next e =>
    cases e
    split at hr
    · next c hc =>
      split at hr
      · next v hv =>
        cases hr
        refine ⟨⟨hHI, Nat.le_refl _, Nat.le_refl _, ve_Km.rf, rfl⟩, ?_⟩
        intro p e R s m args below meth c0 hX η hη hg P H0 H locs ls Q hI hl _ _ kk
        obtain ⟨hx, hb, hml, hown, hW, -⟩ := hX
        obtain ⟨cf, i, k0, k1, fd, -, h1, h2, -⟩ := ve_ff hW hf
        rw [Bool.and_eq_true] at h1
        have e1 := Nat.eq_of_beq_eq_true h1.1
        have e2 : fd.isStatic = false := by simpa using h1.2
        refine va_Wgetf hx hb hown (ve_wdF hW hw) h2 e2 (hI.1 _ _ hc) (ve_c_known η c) (v := ve_v η v) ?_ rfl rfl hd (kk H locs ls hI hl)
        dsimp only at e1
        rw [e1]
        exact ve_c_at hv
      · cases hr
    · cases hr
  · cases hr
-- putfield
def ve_pf (nx k : Nat) (cs : List Nat) (ty : FieldType) : ve_M := fun _ _ z => match z with
  | (hi, lv, v :: .ref a :: r, h, q) => match ve_hg h a with
    | some c => bif cs.contains c.1 && (fits ty v && (decide (narrow ty v = v) && k.blt c.2.length)) then some (.inl (nx, hi, lv, r, ve_hs h a (c.1, c.2.set k v), q)) else none
    | none => none
  | _ => none
theorem ve_Km_set {h : ve_H} {N a : Nat} {c c' : ve_C} (hc : ve_hg h a = some c) : ve_Km h N (ve_hs h a c') := fun i hi => by
  rw [ve_hg_hs] at hi
  by_cases e : a = i
  · subst e; exact Or.inl (by rw [hc]; rfl)
  · rw [if_neg e] at hi; exact Or.inl hi
def ve_cs (A0 : State) (k : Nat) (cs : List Nat) (ty : FieldType) : Bool := cs.all (fun x => x.blt 1000 && decide (A0.slotType? x .none k = some ty))
theorem ve_cs_of {k : Nat} {cs : List Nat} {ty : FieldType} {x : Nat} (h : ve_cs A0 k cs ty = true) (hx : cs.contains x = true) : x.blt 1000 = true ∧ A0.slotType? x .none k = some ty := by
  have h1 := List.all_eq_true.mp h x (by simpa using hx)
  rw [Bool.and_eq_true] at h1
  exact ⟨h1.1, of_decide_eq_true h1.2⟩
theorem ve_putf_ok {idx k : Nat} {ref name desc : String} {cs : List Nat} {ty : FieldType} (hd : decode cc pc = .ok (.putfield idx, 3)) (hw : (Cond.fieldLink own idx ref name desc).before #[] A0 = true) (hf : (A0.fieldFound? ref name desc).any (fun q => q.2.2.2.slot.beq k && (!q.2.2.2.isStatic && (!hasFlag q.2.2.2.accessFlags Acc.final && decide (q.2.2.2.type = ty)))) = true) (hs : ve_cs A0 k cs ty = true) :
    ve_OK A0 l g HI CB own cc nL ret nm pc (ve_pf (pc + 3) k cs ty) := by
  intro d cb _ hi lv st h N cl sl hHI res hr
  unfold ve_pf at hr
  try dsimp only at hr
  split at hr
  · next e =>
    cases e
    split at hr
    · next c hc =>
      obtain ⟨hq, hr⟩ := ve_bif hr
      cases hr
      simp only [Bool.and_eq_true] at hq
      obtain ⟨q1, q2, q3, q4⟩ := hq
      have q3 := of_decide_eq_true q3
      have q4 := ve_blt q4
      obtain ⟨hlt, hst⟩ := ve_cs_of hs q1
      refine ⟨⟨hHI, Nat.le_refl _, Nat.le_refl _, ve_Km_set hc, rfl⟩, ?_⟩
      intro p e R s m args below meth c0 hX η hη hg P H0 H locs ls Q hI hl _ _ kk
      obtain ⟨hx, hb, hml, hown, hW, -⟩ := hX
      obtain ⟨cf, i, k0, k1, fd, -, h1, h2, -⟩ := ve_ff hW hf
      simp only [Bool.and_eq_true] at h1
      obtain ⟨w1, w2, w3, w4⟩ := h1
      have e1 : fd.slot = k := Nat.eq_of_beq_eq_true w1
      have e2 : fd.isStatic = false := by simpa using w2
      have e3 : hasFlag fd.accessFlags Acc.final = false := by simpa using w3
      have e4 : fd.type = ty := of_decide_eq_true w4
      have hcv : (ve_c η c).vm = .none := by rw [ve_c_obj hlt]
      have hcc : (ve_c η c).cls = c.1 := by rw [ve_c_obj hlt]
      refine W.putK hx hb (f := fd) ⟨hown, ve_wd hW rfl hw, ⟨cf, k1, i, h2⟩, e2⟩ (v := ve_v η _) ⟨e3, by rw [e4]; exact ve_narrow q3, by rw [hcc, e1]; exact ve_st hW hst (ve_fits q2)⟩ (hI.1 _ _ hc) hcv (by rw [ve_c_size, e1]; exact q4) rfl rfl hd ?_
      intro H' g1 g2 g3
      rw [e1, ve_c_set] at g1
      exact kk H' _ ls (hI.set hη hc g1 g2 g3 (by simp)) hl
    · cases hr
  · cases hr
theorem ve_putfN_ok {idx k : Nat} {ref name desc host : String} {cs : List Nat} {ty : FieldType} (hd : decode cc pc = .ok (.putfield idx, 3)) (hw : (Cond.fieldLinkNest own idx ref name desc host).before #[] A0 = true) (hf : (A0.fieldFound? ref name desc).any (fun q => q.2.2.2.slot.beq k && (!q.2.2.2.isStatic && (!hasFlag q.2.2.2.accessFlags Acc.final && decide (q.2.2.2.type = ty)))) = true) (hs : ve_cs A0 k cs ty = true) :
    ve_OK A0 l g HI CB own cc nL ret nm pc (ve_pf (pc + 3) k cs ty) := by
  intro d cb _ hi lv st h N cl sl hHI res hr
  unfold ve_pf at hr
  try dsimp only at hr
  split at hr
  · next e =>
    cases e
    split at hr
    · next c hc =>
      obtain ⟨hq, hr⟩ := ve_bif hr
      cases hr
      simp only [Bool.and_eq_true] at hq
      obtain ⟨q1, q2, q3, q4⟩ := hq
      have q3 := of_decide_eq_true q3
      have q4 := ve_blt q4
      obtain ⟨hlt, hst⟩ := ve_cs_of hs q1
      refine ⟨⟨hHI, Nat.le_refl _, Nat.le_refl _, ve_Km_set hc, rfl⟩, ?_⟩
      intro p e R s m args below meth c0 hX η hη hg P H0 H locs ls Q hI hl _ _ kk
      obtain ⟨hx, hb, hml, hown, hW, -⟩ := hX
      obtain ⟨cf, i, k0, k1, fd, -, h1, h2, -⟩ := ve_ff hW hf
      simp only [Bool.and_eq_true] at h1
      obtain ⟨w1, w2, w3, w4⟩ := h1
      have e1 : fd.slot = k := Nat.eq_of_beq_eq_true w1
      have e2 : fd.isStatic = false := by simpa using w2
      have e3 : hasFlag fd.accessFlags Acc.final = false := by simpa using w3
      have e4 : fd.type = ty := of_decide_eq_true w4
      have hcv : (ve_c η c).vm = .none := by rw [ve_c_obj hlt]
      have hcc : (ve_c η c).cls = c.1 := by rw [ve_c_obj hlt]
      refine va_WputK hx hb (f := fd) hown (ve_wdF hW hw) h2 e2 (v := ve_v η _) ⟨e3, by rw [e4]; exact ve_narrow q3, by rw [hcc, e1]; exact ve_st hW hst (ve_fits q2)⟩ (hI.1 _ _ hc) hcv (by rw [ve_c_size, e1]; exact q4) rfl rfl hd ?_
      intro H' g1 g2 g3
      rw [e1, ve_c_set] at g1
      exact kk H' _ ls (hI.set hη hc g1 g2 g3 (by simp)) hl
    · cases hr
  · cases hr
theorem ve_putfF_ok {idx k : Nat} {ref name desc : String} {cs : List Nat} {ty : FieldType} (hd : decode cc pc = .ok (.putfield idx, 3)) (hw : (Cond.fieldLink own idx ref name desc).before #[] A0 = true) (hin : nm = "<init>") (hf : (A0.fieldFound? ref name desc).any (fun q => q.2.2.2.slot.beq k && (!q.2.2.2.isStatic && (decide (A0.vm.findClass own = some q.1) && decide (q.2.2.2.type = ty)))) = true) (hs : ve_cs A0 k cs ty = true) :
    ve_OK A0 l g HI CB own cc nL ret nm pc (ve_pf (pc + 3) k cs ty) := by
  intro d cb _ hi lv st h N cl sl hHI res hr
  unfold ve_pf at hr
  try dsimp only at hr
  split at hr
  · next e =>
    cases e
    split at hr
    · next c hc =>
      obtain ⟨hq, hr⟩ := ve_bif hr
      cases hr
      simp only [Bool.and_eq_true] at hq
      obtain ⟨q1, q2, q3, q4⟩ := hq
      have q3 := of_decide_eq_true q3
      have q4 := ve_blt q4
      obtain ⟨hlt, hst⟩ := ve_cs_of hs q1
      refine ⟨⟨hHI, Nat.le_refl _, Nat.le_refl _, ve_Km_set hc, rfl⟩, ?_⟩
      intro p e R s m args below meth c0 hX η hη hg P H0 H locs ls Q hI hl _ _ kk
      obtain ⟨hx, hb, hml, hown, hW, -, -, hnm, -⟩ := hX
      obtain ⟨cf, i, k0, k1, fd, -, h1, h2, -⟩ := ve_ff hW hf
      simp only [Bool.and_eq_true] at h1
      obtain ⟨w1, w2, w3, w4⟩ := h1
      have e1 : fd.slot = k := Nat.eq_of_beq_eq_true w1
      have e2 : fd.isStatic = false := by simpa using w2
      have e3 : A0.vm.findClass own = some cf := of_decide_eq_true w3
      have e4 : fd.type = ty := of_decide_eq_true w4
      have e5 : m.cls = cf := Option.some.inj (hown.symm.trans (ve_fc hW e3))
      have hcv : (ve_c η c).vm = .none := by rw [ve_c_obj hlt]
      have hcc : (ve_c η c).cls = c.1 := by rw [ve_c_obj hlt]
      refine W.putFinK hx hb hown (ve_wd hW rfl hw) h2 e2 e5 (by rw [hnm]; exact hin) (v := ve_v η _) ⟨by rw [e4]; exact ve_narrow q3, by rw [hcc, e1]; exact ve_st hW hst (ve_fits q2)⟩ (hI.1 _ _ hc) hcv (by rw [ve_c_size, e1]; exact q4) rfl rfl hd ?_
      intro H' g1 g2 g3
      rw [e1, ve_c_set] at g1
      exact kk H' _ ls (hI.set hη hc g1 g2 g3 (by simp)) hl
    · cases hr
  · cases hr
end VOP
