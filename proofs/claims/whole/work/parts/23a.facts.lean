theorem ve_v_id (v : Value) : ve_v (fun i => i) v = v := by cases v <;> rfl
theorem ve_l_id (vs : List Value) : vs.map (ve_v (fun i => i)) = vs := by
  conv => rhs; rw [← List.map_id vs]
  apply List.map_congr_left
  intro v _
  exact ve_v_id v
theorem ve_sum_drop {H H' : Heap} (h1 : H.size ≤ H'.size) (h2 : ∀ (a : Nat) (c : Cell), H[a]? = some c → ∃ c' : Cell, H'[a]? = some c' ∧ c'.slots.size = c.slots.size) : ve_sum H' = ve_sum H + ((H'.toList.drop H.size).map (·.slots.size)).sum := by
  have e : (H'.toList.take H.size).map (fun c => c.slots.size) = H.toList.map (fun c => c.slots.size) := by
    apply List.ext_getElem?
    intro i
    by_cases hi : i < H.size
    · obtain ⟨c', h3, h4⟩ := h2 i H[i] (Array.getElem?_eq_getElem hi)
      rw [List.getElem?_map, List.getElem?_take_of_lt hi, List.getElem?_map, Array.getElem?_toList, Array.getElem?_toList, h3, Array.getElem?_eq_getElem hi]
      simp [h4]
    · rw [List.getElem?_eq_none (by simp; omega), List.getElem?_eq_none (by simp; omega)]
  unfold ve_sum
  conv => lhs; rw [← List.take_append_drop H.size H'.toList]
  rw [List.map_append, List.sum_append, e]
def vs_e : Env := launch0.env 0 2000000 20000000
set_option maxRecDepth 100000 in
theorem vs_heap : ∀ q ∈ ((0, (51, vs_X)) :: vs_G : ve_H), vs_A.heap[q.1]? = some (ve_c (fun i => i) q.2) := by
  refine List.forall_mem_cons.mpr ⟨?_, ?_⟩
  · show vs_A.heap[0]? = some (ve_c (fun i => i) (51, vs_X))
    rw [ve_c_obj rfl, ve_l_id]
    rfl
  · unfold vs_G
    refine List.forall_mem_cons.mpr ⟨rfl, ?_⟩
    refine List.forall_mem_cons.mpr ⟨rfl, ?_⟩
    refine List.forall_mem_cons.mpr ⟨rfl, ?_⟩
    refine List.forall_mem_cons.mpr ⟨rfl, ?_⟩
    refine List.forall_mem_cons.mpr ⟨rfl, ?_⟩
    refine List.forall_mem_cons.mpr ⟨rfl, ?_⟩
    refine List.forall_mem_cons.mpr ⟨rfl, ?_⟩
    refine List.forall_mem_cons.mpr ⟨rfl, ?_⟩
    refine List.forall_mem_cons.mpr ⟨rfl, ?_⟩
    refine List.forall_mem_cons.mpr ⟨rfl, ?_⟩
    exact List.forall_mem_nil _
set_option maxRecDepth 100000 in
theorem vs_room1 : vs_A.hasRoom vs_e.platform room_1 = true := by decide +kernel
set_option maxRecDepth 100000 in
theorem vs_room2 : vs_A.hasRoom vs_e.platform { frames := 46, cells := 672887, slots := 8054693, locals := 2944 } = true := by decide +kernel
set_option maxRecDepth 100000 in
theorem vs_args : argsFit vs_A.vm ⟨0, 0⟩ start1.args0 = true := by decide +kernel
