theorem vs_ints : ∀ v ∈ vs_S.toList, ∃ w, v = Value.int w := by
  intro v hv
  unfold vs_S at hv
  rcases List.mem_append.mp hv with h | h
  · obtain ⟨w, -, rfl⟩ := List.mem_map.mp h
    exact ⟨w, rfl⟩
  · obtain ⟨w, -, rfl⟩ := List.mem_map.mp h
    exact ⟨w, rfl⟩
def vs_C0 : Cell := { cls := 51, slots := vs_S, vm := .none }
set_option maxRecDepth 100000 in
theorem vs_k51 : ∃ k, vs_A.vm.classes[51]? = some k ∧ k.kind = .array 50 .int := ⟨_, rfl, rfl⟩
theorem vs_slot51 (i : Nat) (w : Int32) : vs_A.fitsSlot 51 .none i (.int w) = true := by
  obtain ⟨k, h1, h2⟩ := vs_k51
  simp [State.fitsSlot, State.slotType?, h1, h2, fits]
theorem vs_fits0 : cellFits vs_A vs_C0 = true := by
  unfold cellFits
  refine List.all_eq_true.mpr fun i _ => ?_
  cases hv : vs_C0.slots[i]? with
  | none => rfl
  | some v =>
    obtain ⟨w, rfl⟩ := vs_ints v (Array.mem_toList_iff.mpr (Array.mem_of_getElem? hv))
    exact vs_slot51 i w
set_option maxRecDepth 100000 in
theorem vs_fits1 : vs_A.heap.toList.tail.all (cellFits vs_A) = true := by decide +kernel
set_option maxRecDepth 100000 in
theorem vs_split : vs_A.heap.toList = vs_C0 :: vs_A.heap.toList.tail := rfl
theorem vs_fits : heapFits vs_A = true := by
  unfold heapFits
  refine Array.all_eq_true_iff_forall_mem.mpr fun c hc => ?_
  have h := Array.mem_toList_iff.mpr hc
  rw [vs_split] at h
  rcases List.mem_cons.mp h with rfl | h
  · exact vs_fits0
  · exact List.all_eq_true.mp vs_fits1 c h
theorem vs_at0 : vs_A.heap[0]? = some vs_C0 := rfl
set_option maxRecDepth 100000 in
theorem vs_arr0 : vs_A.arrayAt? 0 = some vs_C0 := rfl
set_option maxRecDepth 100000 in
theorem vs_len0 : vs_C0.slots.size < 2 ^ 31 := by decide +kernel
set_option maxRecDepth 100000 in
theorem vs_rest1 : (Cond.isInt (Term.length (Term.arg 0))).before start1.args0 vs_A = true := by decide +kernel
theorem vs_rest2 : (Cond.all (Term.arg 0) (Cond.isInt (Term.elem (Term.arg 0) (Term.index 0)))).before start1.args0 vs_A = true :=
  Cond.all_isInt_of_fit (a := 0) (cell := vs_C0) (show heapFits' vs_A = true from vs_fits) (fun _ => rfl) vs_arr0 vs_len0
    ⟨fun _ h => (by cases h), (by
      obtain ⟨k, h1, h2⟩ := vs_k51
      exact ⟨k, h1, 50, h2⟩)⟩
theorem vs_rest : rest_1_c.before start1.args0 vs_A = true := by
  unfold rest_1_c
  rw [Cond.before_and, vs_rest1, vs_rest2]
  rfl
set_option maxRecDepth 100000 in
theorem vs_pre : (Cond.and given_1 narrow_1).before start1.args0 vs_A = true := by decide +kernel
set_option maxRecDepth 100000 in
theorem vs_named : vs_A.methodNamed? x = some ⟨0, 0⟩ := by decide +kernel
set_option maxRecDepth 100000 in
theorem vs_hears : vs_A.hears ⟨0, 0⟩ Lib.HandBits.below0 = true := by decide +kernel
set_option maxRecDepth 100000 in
theorem vs_ripe : vs_A.ripe ⟨0, 0⟩ start1.args0 Lib.HandBits.below0 = true := by decide +kernel
set_option maxRecDepth 100000 in
theorem vs_cripe : vs_A.classRipe ⟨0, 0⟩ = true := by decide +kernel
theorem vs_warm : vs_A.WarmedH vs_A.vm := State.WarmedH.refl vs_A
