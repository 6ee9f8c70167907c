section VOH2
variable {A0 : State} {l : Launch} {g : Nat} {HI : ve_I → Prop} {CB : Nat → ve_B → Prop} {own : String} {cc : ByteArray} {nL : Nat} {ret : Option FieldType} {nm : String} {pc : Nat}
theorem ve_anew2_ok {idx cls : Nat} {C : String} (hd : decode cc pc = .ok (.anewarray idx, 3)) (h1 : (Cond.classLink own idx C).before #[] A0 = true) (h2 : (Cond.arrayOver (.object C)).before #[] A0 = true) (hc : A0.vm.findClass ("[" ++ (FieldType.object C).toString) = some cls) (hlt : cls.blt 1000 = true) :
    ve_OK A0 l g HI CB own cc nL ret nm pc (ve_na (pc + 3) cls .null) := by
  intro d cb _ hi lv st h N cl sl hHI res hr
  unfold ve_na at hr
  split at hr
  · next n r _ _ _ _ e =>
    cases e
    obtain ⟨hq, hr⟩ := ve_bif hr
    cases hr
    rw [Bool.and_eq_true] at hq
    have q1 := of_decide_eq_true hq.1
    have q2 := Nat.le_of_ble_eq_true hq.2
    refine ⟨⟨hHI, Nat.le_succ _, Nat.le_add_right _ _, ve_Km_push, by omega⟩, ?_⟩
    intro p e R s m args below meth c0 hX η hη hg P H0 H locs ls Q hI hl hcl hsl kk
    obtain ⟨hx, hb, hml, hown, hW, -⟩ := hX
    have hN : η N = H.size := hI.2.1 0
    refine W.anew hx hb hown (ve_wd hW rfl h1) (va_AO.use (va_AO.moved hW.alike h2)) rfl hd rfl q1 (Nat.le_trans (Nat.mul_le_mul q2 (Nat.le_refl 4)) (by decide)) hcl hsl ?_
    intro cA kA comp g1 g2 g3 g4
    have e1 : cA = cls := Option.some.inj (g1.symm.trans (ve_fc hW hc))
    subst e1
    have e2 : ({ cls := cA, slots := Array.replicate n.toNatClampNeg .null, vm := .none } : Cell) = ve_c η (cA, List.replicate n.toNatClampNeg .null) := by
      rw [ve_c_obj hlt]
      simp [List.map_replicate, ve_v]
    rw [e2]
    have hP := hI.push hη (H' := H.push (ve_c η (cA, List.replicate n.toNatClampNeg .null))) (c := (cA, List.replicate n.toNatClampNeg .null)) (by rw [Array.getElem?_push_size]) (by simp) (fun q hq => by rw [Array.getElem?_push, if_neg (Nat.ne_of_lt hq)])
    simp only [List.length_replicate] at hP
    have h9 := kk _ locs ls hP hl
    simp only [List.map_cons, ve_v, hN] at h9 ⊢
    exact h9
  · cases hr
end VOH2
