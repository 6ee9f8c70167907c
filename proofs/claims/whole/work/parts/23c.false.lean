set_option maxRecDepth 100000 in
/-- the claim is false: the run of the script vs_X ends, with 8054693 slots in new cells; the claim's frame allows as many as room_1 has, which are fewer -/
theorem vz_false : ¬ Claimed_1_1 := by
  intro hC
  have hC := hC launch0 rfl lists_1 trivial
  obtain ⟨n, o, b1, b2, b3, b4⟩ := hC start1.p0 vs_e (launch0.admits_env _ _ _) fairChoices_fair.cas fairChoices_fair.clock vs_A ⟨0, 0⟩ start1.args0 Lib.HandBits.below0 rfl vs_args vs_fits
    ((Spec.applies_iff rfl).mpr ⟨rfl, rfl, rfl, vs_named, vs_hears, vs_ripe, vs_room1, atoms_intro vs_words⟩) ⟨trivial, vs_rest, vs_pre⟩
  obtain ⟨n', o', c1, c2, c3, ⟨c4, c5, c6⟩, -⟩ := vg_met launch0 (fun i => i) (fun _ _ e => e) (fun _ _ => rfl) start1.p0 vs_e (launch0.admits_env _ _ _) fairChoices_fair.cas fairChoices_fair.clock vs_A ⟨0, 0⟩ start1.args0 Lib.HandBits.below0 rfl
    ((Spec.appliesLoose_iff rfl).mpr ⟨rfl, rfl, rfl, vs_named, vs_hears, vs_cripe, vs_room2, atoms_intro (fun w hw => by
      have e : w = Cond.code x code maxLocals ret := by simpa using hw
      subst e
      exact vs_words _ List.mem_cons_self)⟩)
    ⟨rfl, vs_warm, fun o => rfl, fun i c hc => vs_heap (i, c) (ve_hg_mem hc)⟩ trivial
  obtain ⟨rfl, rfl⟩ := the_end_unique b1 b3 c1 c3
  obtain ⟨-, -, -, hsame⟩ := b4
  obtain ⟨-, s1, s2, s3, s4, s5⟩ := hsame
  have h9 := ve_sum_drop (H := vs_A.heap) (H' := (stepsAlone start1.p0.tables vs_e n vs_A).heap) s1 (fun a c hc => by
    obtain ⟨c', d1, d2, d3, -⟩ := s5 a c hc
    exact ⟨c', d1, d3⟩)
  have h8 : ((((stepsAlone start1.p0.tables vs_e n vs_A).heap.toList.drop vs_A.heap.size).map (·.slots.size)).sum) ≤ room_1.slots := s4
  have h6 : room_1.slots < 8054693 := by decide +kernel
  have h7 : ve_sum (stepsAlone start1.p0.tables vs_e n vs_A).heap = ve_sum vs_A.heap + 8054693 := c6
  omega
theorem vz_refuted : ¬ (Claimed_1_1 ∧ Claimed_1_2) := fun h => vz_false h.1
