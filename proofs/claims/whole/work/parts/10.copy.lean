section VOJ
variable {A0 : State} {l : Launch} {g : Nat} {HI : ve_I → Prop} {CB : Nat → ve_B → Prop} {own : String} {cc : ByteArray} {nL : Nat} {ret : Option FieldType} {nm : String} {pc : Nat}
def ve_sto : List Value → Nat → List Value → List Value
  | cd, _, [] => cd
  | cd, i, x :: xs => ve_sto (cd.set i x) (i + 1) xs
theorem ve_sto_len : ∀ (xs : List Value) (cd : List Value) (i : Nat), (ve_sto cd i xs).length = cd.length
  | [], cd, i => rfl
  | x :: xs, cd, i => by rw [ve_sto, ve_sto_len xs]; simp
theorem ve_pairs (η : Nat → Nat) (at_ : Nat) : ∀ (xs : List Value) (i : Nat) (c : ve_C), (ve_c η c).storePairs at_ ((xs.map (ve_v η)).zipIdx i) = ve_c η (c.1, ve_sto c.2 (at_ + i) xs)
  | [], i, c => rfl
  | x :: xs, i, c => by
    rw [List.map_cons, List.zipIdx_cons]
    show ((ve_c η c).setSlot (at_ + i) (ve_v η x)).storePairs at_ ((xs.map (ve_v η)).zipIdx (i + 1)) = _
    rw [ve_c_set, ve_pairs η at_ xs (i + 1)]
    rfl
theorem ve_stretch (η : Nat → Nat) (c : ve_C) (sp n : Nat) (h : sp + n ≤ c.2.length) : (ve_c η c).stretch sp n = ((c.2.drop sp).take n).map (ve_v η) := by
  unfold Cell.stretch
  apply List.ext_getElem?
  intro i
  by_cases hi : i < n
  · have h1 : sp + i < c.2.length := by omega
    have h2 : c.2[sp + i]? = some c.2[sp + i] := List.getElem?_eq_getElem h1
    rw [List.getElem?_map, List.getElem?_range hi, List.getElem?_map, List.getElem?_take_of_lt hi, List.getElem?_drop, h2]
    simp only [Option.map_some]
    rw [Array.getD_eq_getD_getElem?, ve_c_at h2]
    rfl
  · rw [List.getElem?_eq_none (by simp; omega), List.getElem?_eq_none (by simp; omega)]
def ve_cpy (nx cls : Nat) (ty : FieldType) : ve_M := fun _ _ z => match z with
  | (hi, lv, .int n :: .int dp :: .ref d :: .int sp :: .ref b :: r, h, q) => match ve_hg h b, ve_hg h d with
    | some cb, some cd => bif (cb.1.beq cls && cd.1.beq cls) && ((decide (¬ sp < 0) && (decide (¬ dp < 0) && decide (¬ n < 0))) && ((sp.toNatClampNeg + n.toNatClampNeg).ble cb.2.length && ((dp.toNatClampNeg + n.toNatClampNeg).ble cd.2.length && (((cb.2.drop sp.toNatClampNeg).take n.toNatClampNeg).all (fits ty) && ((r.map fun v : Value => v.category).sum).ble 8)))) then
        some (.inl (nx, hi, lv, r, ve_hs h d (cd.1, ve_sto cd.2 dp.toNatClampNeg ((cb.2.drop sp.toNatClampNeg).take n.toNatClampNeg)), q)) else none
    | _, _ => none
  | _ => none
theorem ve_nn32 {z : Int32} (hz : ¬ z < 0) : z.toInt = (z.toNatClampNeg : Int) := by
  have hz0 : (0 : Int) ≤ z.toInt := by
    have := Int32.not_lt.mp hz
    simpa using Int32.le_iff_toInt_le.mp this
  show z.toInt = ((z.toInt.toNat : Nat) : Int)
  omega
theorem ve_takes {U : State} {comp : ClassId} {ty : FieldType} {v : Value} (hp : refKind ty = false) (h : fits ty v = true) : U.takes comp v := by
  cases v <;> first | trivial | (cases ty <;> first | (simp [refKind] at hp; done) | (simp [fits] at h; done))
theorem ve_copy_ok {idx cls : Nat} {ty : FieldType} (hd : decode cc pc = .ok (.invokestatic idx, 3)) (h1 : (Cond.methodLink own idx arraycopyName).before #[] A0 = true) (h2 : (Cond.native arraycopyName).before #[] A0 = true) (h3 : (Cond.static arraycopyName).before #[] A0 = true) (h4 : (Cond.initialized "java/lang/System").before #[] A0 = true)
    (hgn : goodWord (Cond.native arraycopyName) = true) (ha : ve_ar A0 cls ty = true) (hp : refKind ty = false) : ve_OK A0 l g HI CB own cc nL ret nm pc (ve_cpy (pc + 3) cls ty) := by
  intro d cb _ hi lv st h N cl sl hHI res hr
  unfold ve_cpy at hr
  split at hr
  · next n dp dd sp bb r _ _ e =>
    cases e
    split at hr
    · next c0 c1 hc0 hc1 =>
      obtain ⟨hq, hr⟩ := ve_bif hr
      simp only [Bool.and_eq_true] at hq
      obtain ⟨⟨q1, q2⟩, ⟨q3, q4, q5⟩, q6, q7, q8, q9⟩ := hq
      have q3 := of_decide_eq_true q3
      have q4 := of_decide_eq_true q4
      have q5 := of_decide_eq_true q5
      have q6 := Nat.le_of_ble_eq_true q6
      have q7 := Nat.le_of_ble_eq_true q7
      have q9 := Nat.le_of_ble_eq_true q9
      cases hr
      refine ⟨⟨hHI, Nat.le_refl _, Nat.le_refl _, ve_Km_set hc1, rfl⟩, ?_⟩
      intro p e R s m args below meth cz hX η hη hg P H0 H locs ls Q hI hl _ _ kk
      obtain ⟨hx, hb, hml, hown, hW, hret, hlk, hnm, hfr, hlo⟩ := hX
      have z0 := ve_ar_of (η := η) hW ha q1
      have z1 := ve_ar_of (η := η) hW ha q2
      obtain ⟨y0, k0, hk0, cm0, hkk0⟩ := z0
      obtain ⟨y1, k1, hk1, cm1, hkk1⟩ := z1
      intro T hT X
      obtain ⟨vm', X', step⟩ := X.arraycopy hx hown (ve_wd hW rfl h1) (ve_wd hW hgn h2) (ve_wd hW rfl h3) (ve_wd hW rfl h4) (src := η bb) (dst := η dd) (cs := ve_c η c0) (cd := ve_c η c1) (srcPos := sp) (destPos := dp) (n := n) (by rw [hT]; exact hI.1 _ _ hc0) (by rw [hT]; exact hI.1 _ _ hc1)
        y0 y1 (ve_c_known η c0) (ve_c_known η c1) hk0 hk1 hkk0 hkk1 (by simp [hp]) q3 q4 q5
        (by rw [ve_nn32 q3, ve_nn32 q5, ve_c_size]; omega) (by rw [ve_nn32 q4, ve_nn32 q5, ve_c_size]; omega)
        (fun vm₁ _ i hi2 => by
          have g1 : sp.toNatClampNeg + i < c0.2.length := by omega
          have g2 : c0.2[sp.toNatClampNeg + i]? = some c0.2[sp.toNatClampNeg + i] := List.getElem?_eq_getElem g1
          have g3 : (ve_c η c0).slots.getD (sp.toNatClampNeg + i) .null = ve_v η c0.2[sp.toNatClampNeg + i] := by
            rw [Array.getD_eq_getD_getElem?, ve_c_at g2]; rfl
          have g4 : fits ty c0.2[sp.toNatClampNeg + i] = true := List.all_eq_true.mp q8 _ (by
            refine List.mem_of_getElem? (i := i) ?_
            rw [List.getElem?_take_of_lt hi2, List.getElem?_drop, g2])
          rw [g3]
          exact ⟨ve_fits g4, ve_takes hp (ve_fits g4)⟩)
        (g := F0 m pc ls ((.int n :: .int dp :: .ref dd :: .int sp :: .ref bb :: r).map (ve_v η))) rfl (by rw [hml]; exact hl.1) (rest := r.map (ve_v η)) rfl (by rw [hb]; exact hd) (by omega)
        (by show 2 * 0 + ((r.map (ve_v η)).map fun v => v.category).sum + _ ≤ _
            rw [ve_cats]
            have : nativeFrameWords "java/lang/System" "arraycopy" 5 = 7 := by decide +kernel
            omega)
      have e1 : copied (ve_c η c0) (ve_c η c1) sp dp n = ve_c η (c1.1, ve_sto c1.2 dp.toNatClampNeg ((c0.2.drop sp.toNatClampNeg).take n.toNatClampNeg)) := by
        show (ve_c η c1).storeRun dp.toNatClampNeg ((ve_c η c0).stretch sp.toNatClampNeg n.toNatClampNeg) = _
        rw [ve_stretch η c0 _ _ q6]
        exact ve_pairs η _ _ 0 c1
      rw [e1] at X' step
      have hl2 : η dd < H.size := (Array.getElem?_eq_some_iff.mp (hI.1 _ _ hc1)).1
      have k2 := fun L : List Loc => kk (H.setIfInBounds (η dd) (ve_c η (c1.1, ve_sto c1.2 dp.toNatClampNeg ((c0.2.drop sp.toNatClampNeg).take n.toNatClampNeg)))) L ls (hI.set hη hc1 (by simp [Array.getElem?_setIfInBounds, hl2]) (by simp) (fun q hq => by simp [Array.getElem?_setIfInBounds, Ne.symm hq]) (by simp [ve_sto_len])) hl
      obtain ⟨t, a1, b1⟩ := k2 _ ((T.setVm vm').setCell (η dd) (ve_c η (c1.1, ve_sto c1.2 dp.toNatClampNeg ((c0.2.drop sp.toNatClampNeg).take n.toNatClampNeg)))) (by rw [← hT]; rfl) X'
      exact ⟨t, step t a1, b1⟩
    · cases hr
  · cases hr
-- clone of an array
def ve_cln (nx cls : Nat) (ty : FieldType) : ve_M := fun _ _ z => match z with
  | (hi, lv, .ref a :: r, h, N, cl, sl) => match ve_hg h a with
    | some c => bif c.1.beq cls && (c.2.all (fits ty) && ((r.map fun v : Value => v.category).sum).ble 8) then some (.inl (nx, hi, lv, .ref N :: r, (N, c) :: h, N + 1, cl + 1, sl + c.2.length)) else none
    | none => none
  | _ => none
theorem ve_clone_ok {idx cls : Nat} {ad : String} {ty : FieldType} (hd : decode cc pc = .ok (.invokevirtual idx, 3)) (h1 : (Cond.methodLink own idx ⟨ad, "clone", "()Ljava/lang/Object;"⟩).before #[] A0 = true) (h2 : (Cond.sameMethod ad "java/lang/Object" "clone" "()Ljava/lang/Object;").before #[] A0 = true)
    (h3 : (Cond.native ⟨"java/lang/Object", "clone", "()Ljava/lang/Object;"⟩).before #[] A0 = true) (h4 : (Cond.instanceMethod ⟨"java/lang/Object", "clone", "()Ljava/lang/Object;"⟩).before #[] A0 = true)
    (h5 : (Cond.selects ad ⟨ad, "clone", "()Ljava/lang/Object;"⟩ ⟨"java/lang/Object", "clone", "()Ljava/lang/Object;"⟩).before #[] A0 = true) {t : Nat} (hC : A0.vm.findClass "java/lang/Cloneable" = some t) (hasg : A0.vm.assignable cls t = true)
    (hgn : goodWord (Cond.native ⟨"java/lang/Object", "clone", "()Ljava/lang/Object;"⟩) = true) (hnm : A0.vm.findClass ad = some cls) (ha : ve_ar A0 cls ty = true) (hst : ∀ k, A0.slotType? cls .none k = some ty) : ve_OK A0 l g HI CB own cc nL ret nm pc (ve_cln (pc + 3) cls ty) := by
  intro d cb _ hi lv st h N cl sl hHI res hr
  unfold ve_cln at hr
  split at hr
  · next a r _ _ _ _ e =>
    cases e
    split at hr
    · next c hc =>
      obtain ⟨hq, hr⟩ := ve_bif hr
      simp only [Bool.and_eq_true] at hq
      obtain ⟨q1, q2, q3⟩ := hq
      have q3 := Nat.le_of_ble_eq_true q3
      cases hr
      refine ⟨⟨hHI, Nat.le_succ _, Nat.le_add_right _ _, ve_Km_push, by omega⟩, ?_⟩
      intro p e R s m args below meth cz hX η hη hg P H0 H locs ls Q hI hl hcl hsl kk
      obtain ⟨hx, hb, hml, hown, hW, hret, hlk, hnm2, hfr, hlo⟩ := hX
      have hN : η N = H.size := hI.2.1 0
      have hlt := ve_ar_lt ha q1
      have ec : c.1 = cls := Nat.eq_of_beq_eq_true q1
      have hc0 : ve_c η c = { cls := c.1, slots := (c.2.map (ve_v η)).toArray, vm := .none } := ve_c_obj hlt
      obtain ⟨y0, k0, hk0, cm0, hkk0⟩ := ve_ar_of (η := η) hW ha q1
      intro T hT X
      obtain ⟨vm', X', st9⟩ := X.cloneArray hx hown (ve_wd hW rfl h1) (ve_wd hW rfl h2) (ve_wd hW hgn h3) (ve_wd hW rfl h4) (ve_wd hW rfl h5) (a := η a) (cell := ve_c η c) (by rw [hT]; exact hI.1 _ _ hc) y0 (ve_c_known η c) (by rw [hc0]; dsimp only; rw [ec]; exact ve_fc hW hnm) (ve_fc hW hC) (by rw [hc0]; dsimp only; rw [ec, hW.alike.assignable]; exact hasg)
        (fun i v hv => by
          rw [hc0] at hv ⊢
          dsimp only at hv ⊢
          have h9 : (c.2.map (ve_v η))[i]? = some v := by simpa using hv
          rw [List.getElem?_map] at h9
          cases h8 : c.2[i]? with
          | none => rw [h8] at h9; cases h9
          | some w =>
            rw [h8] at h9
            cases h9
            rw [ec]
            exact ve_st (hW.trans X.warmed) (hst i) (ve_fits (List.all_eq_true.mp q2 w (List.mem_of_getElem? h8))))
        (g := F0 m pc ls ((.ref a :: r).map (ve_v η))) rfl (by rw [hml]; exact hl.1) (rest := r.map (ve_v η)) rfl (by rw [hb]; exact hd) (by omega)
        (by show 2 * 0 + ((r.map (ve_v η)).map fun v => v.category).sum + 14 ≤ _
            rw [ve_cats]; omega) hcl (by rw [ve_c_size]; exact hsl) (hloader := Vm.clonesLoader_of_array hk0 hkk0)
      have e2 : ({ cls := (ve_c η c).cls, slots := (ve_c η c).slots } : Cell) = ve_c η c := by rw [hc0]
      rw [e2] at X' st9
      rw [ve_c_size] at X'
      have k2 := kk (H.push (ve_c η c)) locs ls (hI.push hη (by rw [Array.getElem?_push_size]) (by simp) (fun q hq => by rw [Array.getElem?_push, if_neg (Nat.ne_of_lt hq)])) hl
      simp only [List.map_cons, ve_v, hN] at k2
      obtain ⟨t9, a1, b1⟩ := k2 ((T.setVm vm').pushCell (ve_c η c)) (by rw [← hT]; rfl) X'
      refine ⟨t9, st9 t9 ?_, b1⟩
      rw [hT]
      exact a1
    · cases hr
  · cases hr
end VOJ
