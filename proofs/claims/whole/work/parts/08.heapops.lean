section VOH
variable {A0 : State} {l : Launch} {g : Nat} {HI : ve_I → Prop} {CB : Nat → ve_B → Prop} {own : String} {cc : ByteArray} {nL : Nat} {ret : Option FieldType} {nm : String} {pc : Nat}
def ve_nr : Value → Bool
  | .ref _ => false
  | _ => true
theorem ve_nr_v {η : Nat → Nat} {v : Value} (h : ve_nr v = true) : ve_v η v = v := by cases v <;> first | rfl | cases h
theorem ve_nr_l {η : Nat → Nat} {vs : List Value} (h : vs.all ve_nr = true) : vs.map (ve_v η) = vs := by
  conv => rhs; rw [← List.map_id vs]
  apply List.map_congr_left
  intro v hv
  exact ve_nr_v (List.all_eq_true.mp h v hv)
theorem ve_Km_push {h : ve_H} {N : Nat} {c : ve_C} : ve_Km h N ((N, c) :: h) := fun i hi => by
  unfold ve_hg at hi
  cases hb : N.beq i with
  | true => exact Or.inr (Nat.le_of_eq (Nat.eq_of_beq_eq_true hb))
  | false => rw [hb] at hi; exact Or.inl hi
-- new
def ve_nw (nx cls : Nat) (df : List Value) : ve_M := fun _ _ z => match z with
  | (hi, lv, st, h, N, cl, sl) => some (.inl (nx, hi, lv, .ref N :: st, (N, (cls, df)) :: h, N + 1, cl + 1, sl + df.length))
theorem ve_new_ok {idx cls : Nat} {C : String} {df : List Value} (hd : decode cc pc = .ok (.new idx, 3)) (h1 : (Cond.classLink own idx C).before #[] A0 = true) (h2 : (Cond.instantiable C df.length).before #[] A0 = true) (h3 : (Cond.initialized C).before #[] A0 = true)
    (hc : A0.vm.findClass C = some cls) (hlt : cls.blt 1000 = true) (hk : (A0.vm.classes[cls]?).any (fun k => decide (k.instanceTypes.map defaultValue = df.toArray)) = true) (hn : df.all ve_nr = true) :
    ve_OK A0 l g HI CB own cc nL ret nm pc (ve_nw (pc + 3) cls df) := by
  intro d cb _ hi lv st h N cl sl hHI res hr
  cases hr
  refine ⟨⟨hHI, Nat.le_succ _, Nat.le_add_right _ _, ve_Km_push, by omega⟩, ?_⟩
  intro p e R s m args below meth c0 hX η hη hg P H0 H locs ls Q hI hl hcl hsl kk
  obtain ⟨hx, hb, hml, hown, hW, -⟩ := hX
  have hN : η N = H.size := hI.2.1 0
  refine W.newcK hx hb hown (ve_wd hW rfl h1) (ve_wd hW rfl h2) (ve_wd hW rfl h3) rfl hd hcl hsl (ve_fc hW hc) rfl ?_
  intro H' kC g1 g2 g3 g4
  cases hk0 : A0.vm.classes[cls]? with
  | none => rw [hk0] at hk; cases hk
  | some k0 =>
    rw [hk0] at hk
    obtain ⟨k', e1, e2⟩ := ve_kl hW hk0
    have e3 : kC = k' := Option.some.inj (g1.symm.trans e1)
    have e4 : kC.instanceTypes = k0.instanceTypes := by rw [e3, e2]
    have e5 : k0.instanceTypes.map defaultValue = df.toArray := of_decide_eq_true hk
    have e6 : blank cls kC = ve_c η (cls, df) := by rw [ve_c_obj hlt]; unfold blank; rw [e4, e5, ve_nr_l hn]
    rw [e6] at g2
    have h9 := kk H' locs ls (hI.push hη g2 g3 g4) hl
    simp only [List.map_cons, ve_v, hN] at h9
    exact h9
-- arrays of numbers
def ve_na (nx cls : Nat) (dv : Value) : ve_M := fun _ _ z => match z with
  | (hi, lv, .int n :: r, h, N, cl, sl) => bif decide (¬ n < 0) && n.toNatClampNeg.ble 100000 then some (.inl (nx, hi, lv, .ref N :: r, (N, (cls, List.replicate n.toNatClampNeg dv)) :: h, N + 1, cl + 1, sl + n.toNatClampNeg)) else none
  | _ => none
theorem ve_newa_ok {cls : Nat} {ty : ArrayType} {dv : Value} (hd : decode cc pc = .ok (.newarray ty, 2)) (h1 : (Cond.arrayClass (newarray.typeOf ty)).before #[] A0 = true) (hc : A0.vm.findClass ("[" ++ (newarray.typeOf ty).toString) = some cls) (hlt : cls.blt 1000 = true)
    (hdv : defaultValue (newarray.typeOf ty) = dv) (hn : ve_nr dv = true) (hcb : componentBytes (newarray.typeOf ty) ≤ 8) :
    ve_OK A0 l g HI CB own cc nL ret nm pc (ve_na (pc + 2) cls dv) := by
  intro d cb _ hi lv st h N cl sl hHI res hr
  unfold ve_na at hr
  split at hr
  · next n r _ _ _ _ e =>
    cases e
    obtain ⟨hq, hr⟩ := ve_bif hr
    cases hr
    rw [Bool.and_eq_true] at hq
    have q1 := of_decide_eq_true hq.1
    have q2 := Nat.le_of_ble_eq_true hq.2
    refine ⟨⟨hHI, Nat.le_succ _, Nat.le_add_right _ _, ve_Km_push, by omega⟩, ?_⟩
    intro p e R s m args below meth c0 hX η hη hg P H0 H locs ls Q hI hl hcl hsl kk
    obtain ⟨hx, hb, hml, hown, hW, -⟩ := hX
    have hN : η N = H.size := hI.2.1 0
    refine W.newa hx hb (ve_wd hW rfl h1) rfl hd rfl q1 (Nat.le_trans (Nat.mul_le_mul q2 hcb) (by decide)) hcl hsl ?_
    intro cA kA comp g1 g2 g3
    have e1 : cA = cls := Option.some.inj (g1.symm.trans (ve_fc hW hc))
    subst e1
    have e2 : ({ cls := cA, slots := Array.replicate n.toNatClampNeg (defaultValue (newarray.typeOf ty)), vm := .none } : Cell) = ve_c η (cA, List.replicate n.toNatClampNeg dv) := by
      rw [ve_c_obj hlt, hdv]
      simp [List.map_replicate, ve_nr_v hn]
    rw [e2]
    have hP := hI.push hη (H' := H.push (ve_c η (cA, List.replicate n.toNatClampNeg dv))) (c := (cA, List.replicate n.toNatClampNeg dv)) (by rw [Array.getElem?_push_size]) (by simp) (fun q hq => by rw [Array.getElem?_push, if_neg (Nat.ne_of_lt hq)])
    simp only [List.length_replicate] at hP
    have h9 := kk _ locs ls hP hl
    simp only [List.map_cons, ve_v, hN] at h9 ⊢
    exact h9
  · cases hr
theorem ve_anew_ok {idx cls : Nat} {C : String} (hd : decode cc pc = .ok (.anewarray idx, 3)) (h1 : (Cond.classLink own idx C).before #[] A0 = true) (h2 : (Cond.arrayOver (.object C)).before #[] A0 = true) (hc : A0.vm.findClass ("[" ++ (FieldType.object C).toString) = some cls) (hlt : cls.blt 1000 = true) (hgw : goodWord (Cond.arrayOver (.object C)) = true) :
    ve_OK A0 l g HI CB own cc nL ret nm pc (ve_na (pc + 3) cls .null) := by
  intro d cb _ hi lv st h N cl sl hHI res hr
  unfold ve_na at hr
  split at hr
  · next n r _ _ _ _ e =>
    cases e
    obtain ⟨hq, hr⟩ := ve_bif hr
    cases hr
    rw [Bool.and_eq_true] at hq
    have q1 := of_decide_eq_true hq.1
    have q2 := Nat.le_of_ble_eq_true hq.2
    refine ⟨⟨hHI, Nat.le_succ _, Nat.le_add_right _ _, ve_Km_push, by omega⟩, ?_⟩
    intro p e R s m args below meth c0 hX η hη hg P H0 H locs ls Q hI hl hcl hsl kk
    obtain ⟨hx, hb, hml, hown, hW, -⟩ := hX
    have hN : η N = H.size := hI.2.1 0
    refine W.anew hx hb hown (ve_wd hW rfl h1) (ve_wd hW hgw h2) rfl hd rfl q1 (Nat.le_trans (Nat.mul_le_mul q2 (Nat.le_refl 4)) (by decide)) hcl hsl ?_
    intro cA kA comp g1 g2 g3 g4
    have e1 : cA = cls := Option.some.inj (g1.symm.trans (ve_fc hW hc))
    subst e1
    have e2 : ({ cls := cA, slots := Array.replicate n.toNatClampNeg .null, vm := .none } : Cell) = ve_c η (cA, List.replicate n.toNatClampNeg .null) := by
      rw [ve_c_obj hlt]
      simp [List.map_replicate, ve_v]
    rw [e2]
    have hP := hI.push hη (H' := H.push (ve_c η (cA, List.replicate n.toNatClampNeg .null))) (c := (cA, List.replicate n.toNatClampNeg .null)) (by rw [Array.getElem?_push_size]) (by simp) (fun q hq => by rw [Array.getElem?_push, if_neg (Nat.ne_of_lt hq)])
    simp only [List.length_replicate] at hP
    have h9 := kk _ locs ls hP hl
    simp only [List.map_cons, ve_v, hN] at h9 ⊢
    exact h9
  · cases hr
-- arrays: length, loads, stores
def ve_ar (A0 : State) (cls : Nat) (ty : FieldType) : Bool := cls.blt 1000 && (A0.vm.classes[cls]?).any (fun k => match k.kind with | .array _ t => decide (t = ty) | _ => false)
theorem ve_ar_of {s : State} {η : Nat → Nat} {c : ve_C} {cls : Nat} {ty : FieldType} (hW : A0.WarmedH s.vm) (h : ve_ar A0 cls ty = true) (hc : c.1.beq cls = true) : s.isArrayOf (ve_c η c) ty := by
  unfold ve_ar at h
  rw [Bool.and_eq_true] at h
  have e := Nat.eq_of_beq_eq_true hc
  exact ve_array hW (by rw [e]; exact h.1) (by rw [e]; exact h.2)
theorem ve_ar_lt {cls : Nat} {ty : FieldType} {c : ve_C} (h : ve_ar A0 cls ty = true) (hc : c.1.beq cls = true) : c.1.blt 1000 = true := by
  unfold ve_ar at h
  rw [Bool.and_eq_true] at h
  rw [Nat.eq_of_beq_eq_true hc]; exact h.1
def ve_len (nx cls : Nat) : ve_M := fun _ _ z => match z with
  | (hi, lv, .ref a :: r, h, q) => match ve_hg h a with
    | some c => bif c.1.beq cls then some (.inl (nx, hi, lv, .int (Int32.ofNat c.2.length) :: r, h, q)) else none
    | none => none
  | _ => none
theorem ve_len_ok {cls : Nat} {ty : FieldType} (hd : decode cc pc = .ok (.arraylength, 1)) (ha : ve_ar A0 cls ty = true) : ve_OK A0 l g HI CB own cc nL ret nm pc (ve_len (pc + 1) cls) := by
  intro d cb _ hi lv st h N cl sl hHI res hr
  unfold ve_len at hr
  split at hr
  · next e =>
    cases e
    split at hr
    · next c hc =>
      obtain ⟨hq, hr⟩ := ve_bif hr
      cases hr
      refine ⟨⟨hHI, Nat.le_refl _, Nat.le_refl _, ve_Km.rf, rfl⟩, ?_⟩
      intro p e R s m args below meth c0 hX η hη hg P H0 H locs ls Q hI hl _ _ kk
      refine W.alen hX.1 hX.2.1 (hI.1 _ _ hc) (ve_ar_of hX.2.2.2.2.1 ha hq) (n := Int32.ofNat c.2.length) (by rw [ve_c_size]) rfl rfl hd (kk H locs ls hI hl)
    · cases hr
  · cases hr
def ve_ald (nx cls : Nat) : ve_M := fun _ _ z => match z with
  | (hi, lv, .int j :: .ref a :: r, h, q) => match ve_hg h a with
    | some c => bif c.1.beq cls && decide (¬ j < 0) then (match c.2[j.toNatClampNeg]? with
      | some v => some (.inl (nx, hi, lv, v :: r, h, q))
      | none => none) else none
    | none => none
  | _ => none
theorem ve_in {η : Nat → Nat} {c : ve_C} {j : Int32} {v : Value} (h1 : ¬ j < 0) (h2 : c.2[j.toNatClampNeg]? = some v) : ¬ (j < 0 ∨ (ve_c η c).slots.size ≤ j.toNatClampNeg) := by
  rw [ve_c_size]
  intro h
  rcases h with h | h
  · exact h1 h
  · rw [List.getElem?_eq_none h] at h2; cases h2
theorem ve_ald_ok {cls : Nat} {ty : FieldType} (ha : ve_ar A0 cls ty = true)
    (hrow : ∀ (p : Program) (l : Launch) (e : Env) (R : Room) (s : State) (m : MethodId) (args : Array Value) (below : List Frame) (meth : Method) (c : Code) (H : Heap) (locs : List Loc) (cells slots : Nat) (Q : State → Prop) (ls : Array Slot) (a : Addr) (cell : Cell) (j : Int32) (v : Value) (rest : List Value),
      p.tables.exec = Jvm.exec → c.code = cc → H[a]? = some cell → s.isArrayOf cell ty → cell.vm ≠ .unknown → ¬ (j < 0 ∨ cell.slots.size ≤ j.toNatClampNeg) → cell.slots[j.toNatClampNeg]? = some v →
      W p l e R s m args below meth c H locs cells slots Q (F0 m (pc + 1) ls (v :: rest)) → W p l e R s m args below meth c H locs cells slots Q (F0 m pc ls (.int j :: .ref a :: rest))) :
    ve_OK A0 l g HI CB own cc nL ret nm pc (ve_ald (pc + 1) cls) := by
  intro d cb _ hi lv st h N cl sl hHI res hr
  unfold ve_ald at hr
  split at hr
  · next e =>
    cases e
    split at hr
    · next c hc =>
      obtain ⟨hq, hr⟩ := ve_bif2 hr
      rw [Bool.and_eq_true] at hq
      have q2 := of_decide_eq_true hq.2
      split at hr
      · next v hv =>
        cases hr
        refine ⟨⟨hHI, Nat.le_refl _, Nat.le_refl _, ve_Km.rf, rfl⟩, ?_⟩
        intro p e R s m args below meth c0 hX η hη hg P H0 H locs ls Q hI hl _ _ kk
        exact hrow p l e R s m args below meth c0 H locs _ _ Q ls _ _ _ (ve_v η v) _ hX.1 hX.2.1 (hI.1 _ _ hc) (ve_ar_of hX.2.2.2.2.1 ha hq.1) (ve_c_known η c) (ve_in q2 hv) (ve_c_at hv) (kk H locs ls hI hl)
      · cases hr
    · cases hr
  · cases hr
theorem ve_iald_ok {cls : Nat} (hd : decode cc pc = .ok (.iaload, 1)) (ha : ve_ar A0 cls .int = true) : ve_OK A0 l g HI CB own cc nL ret nm pc (ve_ald (pc + 1) cls) :=
  ve_ald_ok ha fun p l e R s m args below meth c H locs cells slots Q ls a cell j v rest hx hb h1 h2 h3 h4 h5 k => W.iald hx hb h1 h2 h3 h4 h5 rfl rfl hd k
theorem ve_bald_ok {cls : Nat} (hd : decode cc pc = .ok (.baload, 1)) (ha : ve_ar A0 cls .byte = true) : ve_OK A0 l g HI CB own cc nL ret nm pc (ve_ald (pc + 1) cls) :=
  ve_ald_ok ha fun p l e R s m args below meth c H locs cells slots Q ls a cell j v rest hx hb h1 h2 h3 h4 h5 k => W.bald hx hb h1 h2 h3 h4 h5 rfl rfl hd k
theorem ve_aald_ok {cls : Nat} {ty : FieldType} (hd : decode cc pc = .ok (.aaload, 1)) (ha : ve_ar A0 cls ty = true) (hty : ty.isReference = true) : ve_OK A0 l g HI CB own cc nL ret nm pc (ve_ald (pc + 1) cls) :=
  ve_ald_ok ha fun p l e R s m args below meth c H locs cells slots Q ls a cell j v rest hx hb h1 h2 h3 h4 h5 k => W.aald hx hb h1 h2 hty h3 h4 h5 rfl rfl hd k
def ve_ast (nx cls : Nat) (ty : FieldType) : ve_M := fun _ _ z => match z with
  | (hi, lv, .int x :: .int j :: .ref a :: r, h, q) => match ve_hg h a with
    | some c => bif c.1.beq cls && (decide (¬ j < 0) && j.toNatClampNeg.blt c.2.length) then some (.inl (nx, hi, lv, r, ve_hs h a (c.1, c.2.set j.toNatClampNeg (narrow ty (.int x))), q)) else none
    | none => none
  | _ => none
theorem ve_nar_i {ty : FieldType} {x : Int32} : ∃ y : Int32, narrow ty (.int x) = .int y := by cases ty <;> exact ⟨_, rfl⟩
theorem ve_iast_ok {cls : Nat} (hd : decode cc pc = .ok (.iastore, 1)) (ha : ve_ar A0 cls .int = true) : ve_OK A0 l g HI CB own cc nL ret nm pc (ve_ast (pc + 1) cls .int) := by
  intro d cb _ hi lv st h N cl sl hHI res hr
  unfold ve_ast at hr
  split at hr
  · next e =>
    cases e
    split at hr
    · next c hc =>
      obtain ⟨hq, hr⟩ := ve_bif hr
      simp only [Bool.and_eq_true] at hq
      have q2 := of_decide_eq_true hq.2.1
      have q3 := ve_blt hq.2.2
      cases hr
      refine ⟨⟨hHI, Nat.le_refl _, Nat.le_refl _, ve_Km_set hc, rfl⟩, ?_⟩
      intro p e R s m args below meth c0 hX η hη hg P H0 H locs ls Q hI hl _ _ kk
      refine W.iast hX.1 hX.2.1 (hI.1 _ _ hc) (ve_ar_of hX.2.2.2.2.1 ha hq.1) (ve_c_known η c) (by rw [ve_c_size]; intro h; rcases h with h | h; exact q2 h; omega) rfl rfl hd ?_
      intro H' g1 g2 g3
      rw [show (Value.int _) = ve_v η (.int _) from rfl, ve_c_set] at g1
      exact kk H' _ ls (hI.set hη hc g1 g2 g3 (by simp)) hl
    · cases hr
  · cases hr
theorem ve_bast_ok {cls : Nat} (hd : decode cc pc = .ok (.bastore, 1)) (ha : ve_ar A0 cls .byte = true) : ve_OK A0 l g HI CB own cc nL ret nm pc (ve_ast (pc + 1) cls .byte) := by
  intro d cb _ hi lv st h N cl sl hHI res hr
  unfold ve_ast at hr
  split at hr
  · next x j a r _ _ e =>
    cases e
    split at hr
    · next c hc =>
      obtain ⟨hq, hr⟩ := ve_bif hr
      simp only [Bool.and_eq_true] at hq
      have q2 := of_decide_eq_true hq.2.1
      have q3 := ve_blt hq.2.2
      cases hr
      refine ⟨⟨hHI, Nat.le_refl _, Nat.le_refl _, ve_Km_set hc, rfl⟩, ?_⟩
      intro p e R s m args below meth c0 hX η hη hg P H0 H locs ls Q hI hl _ _ kk
      refine W.bast hX.1 hX.2.1 (hI.1 _ _ hc) (ve_ar_of hX.2.2.2.2.1 ha hq.1) (ve_c_known η c) (by rw [ve_c_size]; intro h; rcases h with h | h; exact q2 h; omega) rfl rfl hd ?_
      intro H' g1 g2 g3
      obtain ⟨y, hy⟩ := ve_nar_i (ty := .byte) (x := x)
      rw [hy, show (Value.int y) = ve_v η (.int y) from rfl, ve_c_set, ← hy] at g1
      exact kk H' _ ls (hI.set hη hc g1 g2 g3 (by simp)) hl
    · cases hr
  · cases hr
end VOH
