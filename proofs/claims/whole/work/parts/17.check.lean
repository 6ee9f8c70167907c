-- a summary is right if the run gives it
noncomputable def ve_ck (md : Nat → ve_D) (S : ve_S) (hi : ve_I) : Bool := match ve_run md 20000 S.2.2.2.2.2.2.2.2 S.1 S.2.1 hi S.2.2.2.1 S.2.2.1 with
  | some (_, rt, h', mc, ms) => (decide (rt = S.2.2.2.2.1) && (mc.beq S.2.2.2.2.2.2.1 && ms.beq S.2.2.2.2.2.2.2.1)) && S.2.2.2.2.2.1.all (fun q => decide (ve_hg h' q.1 = some q.2))
  | none => false
theorem ve_hi_nil {A0 : State} {l : Launch} {g : Nat} {md : Nat → ve_D} : ve_HI A0 l g md [] := fun _ _ h => nomatch h
theorem ve_hi_none {A0 : State} {l : Launch} {g : Nat} {md : Nat → ve_D} {hi : ve_I} (h : ve_HI A0 l g md hi) : ve_HI A0 l g md (none :: hi) := fun S ρ hm => by
  rcases List.mem_cons.mp hm with e | e
  · cases e
  · exact h S ρ e
theorem ve_hi_some {A0 : State} {l : Launch} {g : Nat} {md : Nat → ve_D} {hi : ve_I} {S : ve_S} {ρ : List Nat} (hS : ve_SO A0 l g md S) (h : ve_HI A0 l g md hi) : ve_HI A0 l g md (some (S, ρ) :: hi) := fun S' ρ' hm => by
  rcases List.mem_cons.mp hm with e | e
  · cases e; exact hS
  · exact h S' ρ' e
theorem ve_ck_ok {A0 : State} {l : Launch} {g : Nat} {md : Nat → ve_D} (hok : ∀ F d, ve_CB A0 l g (ve_HI A0 l g md) md d (ve_run md F d)) {S : ve_S} {hi : ve_I} (hHI : ve_HI A0 l g md hi) (h : ve_ck md S hi = true) : ve_SO A0 l g md S := by
  obtain ⟨mi, args, k, pre, ret, post, mc, ms, dp⟩ := S
  unfold ve_ck at h
  split at h
  · next hi' rt h' mc' ms' he =>
    simp only [Bool.and_eq_true] at h
    obtain ⟨⟨h1, h2, h3⟩, h4⟩ := h
    have h1 : rt = ret := of_decide_eq_true h1
    have h2 : mc' = mc := Nat.eq_of_beq_eq_true h2
    have h3 : ms' = ms := Nat.eq_of_beq_eq_true h3
    subst h1; subst h2; subst h3
    have h4' : ∀ i c, ve_hg post i = some c → ve_hg h' i = some c := fun i c hc => of_decide_eq_true (List.all_eq_true.mp h4 (i, c) (ve_hg_mem hc))
    obtain ⟨-, hKm, d', hd', hM⟩ := hok 20000 dp mi args hi pre k hi' rt h' mc' ms' hHI he
    refine ⟨fun i hi => ?_, d', hd', fun η hη hg => ve_Met_mono (hM η hη hg) (fun _ _ h => h) ?_⟩
    · obtain ⟨c, hc⟩ := Option.isSome_iff_exists.mp hi
      exact hKm i (by rw [h4' i c hc]; rfl)
    · rintro a st o t _ ⟨b1, b2, b3, b4, b5⟩
      exact ⟨b1, fun i c hc => b2 i c (h4' i c hc), b3, b4, b5⟩
  · cases h
