theorem ve_Met_mono {l : Launch} {y : MethodName} {ws : List Cond} {rm : Room} {Pc Pc' : Array Value → State → Prop} {Qc Qc' : Array Value → State → Outcome → State → Prop} {mc ms : Nat} {free : Addr → Prop} (h : Met l y ws rm Pc' Qc' mc ms free)
    (h1 : ∀ a U, Pc a U → Pc' a U) (h2 : ∀ a st o t, Pc a st → Qc' a st o t → Qc a st o t) : Met l y ws rm Pc Qc mc ms free := by
  intro p e a1 a2 a3 s m args below a4 a5 a6 a7
  obtain ⟨n, o, b1, b2, b3, b4, b5⟩ := h p e a1 a2 a3 s m args below a4 a5 (h1 _ _ a6) a7
  exact ⟨n, o, b1, b2, b3, h2 _ _ _ _ a6 b4, b5⟩
theorem ve_v_comp (η rn : Nat → Nat) (v : Value) : ve_v η (ve_v rn v) = ve_v (fun i => η (rn i)) v := by cases v <;> rfl
theorem ve_l_comp (η rn : Nat → Nat) (vs : List Value) : (vs.map (ve_v rn)).map (ve_v η) = vs.map (ve_v (fun i => η (rn i))) := by
  rw [List.map_map]; apply List.map_congr_left; intro v _; exact ve_v_comp η rn v
theorem ve_c_comp (η rn : Nat → Nat) (c : ve_C) : ve_c η (c.1, c.2.map (ve_v rn)) = ve_c (fun i => η (rn i)) c := by
  unfold ve_c; rw [ve_l_comp]
-- renaming: globals stay; the summary's own numbers by a list; its new ones behind the caller's
def ve_rn (g k : Nat) (ρ : List Nat) (N : Nat) (i : Nat) : Nat := bif i.blt g then i else bif i.blt k then ρ.getD (i - g) 0 else N + (i - k)
def ve_nd : List Nat → Bool
  | [] => true
  | x :: r => !r.contains x && ve_nd r
theorem ve_nd_of : ∀ {ρ : List Nat}, ve_nd ρ = true → ρ.Nodup
  | [], _ => List.nodup_nil
  | x :: r, h => by
    unfold ve_nd at h
    rw [Bool.and_eq_true] at h
    exact List.nodup_cons.mpr ⟨by simpa using h.1, ve_nd_of h.2⟩
theorem ve_nd_inj : ∀ {ρ : List Nat}, ρ.Nodup → ∀ (i j : Nat) (hi : i < ρ.length) (hj : j < ρ.length), ρ[i] = ρ[j] → i = j
  | [], _, i, j, hi, _, _ => absurd hi (Nat.not_lt_zero _)
  | x :: r, h, 0, 0, _, _, _ => rfl
  | x :: r, h, 0, j + 1, _, hj, e => absurd (by have e2 : x = r[j]'(by simpa using hj) := e
                                                rw [e2]; exact List.getElem_mem _) (List.nodup_cons.mp h).1
  | x :: r, h, i + 1, 0, hi, _, e => absurd (by have e2 : r[i]'(by simpa using hi) = x := e
                                                rw [← e2]; exact List.getElem_mem _) (List.nodup_cons.mp h).1
  | x :: r, h, i + 1, j + 1, hi, hj, e => by
    have := ve_nd_inj (List.nodup_cons.mp h).2 i j (by simpa using hi) (by simpa using hj) e
    omega
def ve_rk (g k : Nat) (ρ : List Nat) (N : Nat) : Bool := (g.ble k && g.ble N) && ((ρ.length.beq (k - g)) && (ρ.all (fun x => g.ble x && x.blt N) && ve_nd ρ))
theorem ve_rn_in {g k N : Nat} {ρ : List Nat} (h : ve_rk g k ρ N = true) : ve_In (ve_rn g k ρ N) := by
  unfold ve_rk at h
  simp only [Bool.and_eq_true] at h
  obtain ⟨⟨h1, h2⟩, h3, h4, h5⟩ := h
  have h1 := Nat.le_of_ble_eq_true h1
  have h2 := Nat.le_of_ble_eq_true h2
  have h3 := Nat.eq_of_beq_eq_true h3
  have h5 := ve_nd_of h5
  have hb : ∀ a b : Nat, a < b → a.blt b = true := fun a b h => Nat.ble_eq_true_of_le h
  have hf : ∀ a b : Nat, ¬ a < b → a.blt b = false := fun a b h => by
    cases h9 : a.blt b with
    | true => exact absurd (ve_blt h9) h
    | false => rfl
  have hr : ∀ i : Nat, ¬ i < g → i < k → ∃ hlt : i - g < ρ.length, ve_rn g k ρ N i = ρ[i - g] ∧ g ≤ ρ[i - g] ∧ ρ[i - g] < N := fun i a b => by
    have hlt : i - g < ρ.length := by omega
    have h6 := List.all_eq_true.mp h4 ρ[i - g] (List.getElem_mem hlt)
    rw [Bool.and_eq_true] at h6
    refine ⟨hlt, ?_, Nat.le_of_ble_eq_true h6.1, ve_blt h6.2⟩
    unfold ve_rn
    rw [hf _ _ a, hb _ _ b]
    simp [List.getD_eq_getElem?_getD, hlt]
  have hg : ∀ i : Nat, i < g → ve_rn g k ρ N i = i := fun i a => by unfold ve_rn; rw [hb _ _ a]; rfl
  have hn : ∀ i : Nat, k ≤ i → ve_rn g k ρ N i = N + (i - k) := fun i a => by unfold ve_rn; rw [hf _ _ (by omega), hf _ _ (by omega)]; rfl
  intro i j hij
  by_cases i1 : i < g
  · rw [hg i i1] at hij
    by_cases j1 : j < g
    · rw [hg j j1] at hij; exact hij
    · by_cases j2 : j < k
      · obtain ⟨_, e, e2, e3⟩ := hr j j1 j2; omega
      · have := hn j (by omega); omega
  · by_cases i2 : i < k
    · obtain ⟨il, e, e2, e3⟩ := hr i i1 i2
      by_cases j1 : j < g
      · rw [hg j j1] at hij; omega
      · by_cases j2 : j < k
        · obtain ⟨jl, f, f2, f3⟩ := hr j j1 j2
          rw [e, f] at hij
          have := ve_nd_inj h5 _ _ il jl hij
          omega
        · have := hn j (by omega); omega
    · have e := hn i (by omega)
      by_cases j1 : j < g
      · rw [hg j j1] at hij; omega
      · by_cases j2 : j < k
        · obtain ⟨_, f, f2, f3⟩ := hr j j1 j2; omega
        · have := hn j (by omega); omega
theorem ve_rn_g {g k N i : Nat} {ρ : List Nat} (h : i < g) : ve_rn g k ρ N i = i := by
  unfold ve_rn
  rw [show i.blt g = true from Nat.ble_eq_true_of_le h]; rfl
theorem ve_rn_new {g k N o : Nat} {ρ : List Nat} (h : g ≤ k) : ve_rn g k ρ N (k + o) = N + o := by
  unfold ve_rn
  have hf : ∀ a b : Nat, ¬ a < b → a.blt b = false := fun a b h => by
    cases h9 : a.blt b with
    | true => exact absurd (ve_blt h9) h
    | false => rfl
  rw [hf _ _ (by omega), hf _ _ (by omega)]
  simp
def ve_cv (rn : Nat → Nat) (c : ve_C) : ve_C := (c.1, c.2.map (ve_v rn))
def ve_app (rn : Nat → Nat) : ve_H → ve_H → ve_H
  | [], h => h
  | q :: r, h => ve_hs (ve_app rn r h) (rn q.1) (ve_cv rn q.2)
theorem ve_app_get {rn : Nat → Nat} (hrn : ve_In rn) : ∀ (post h : ve_H) (j : Nat) (c : ve_C), ve_hg (ve_app rn post h) j = some c → (∃ i d, ve_hg post i = some d ∧ rn i = j ∧ c = ve_cv rn d) ∨ (ve_hg h j = some c ∧ ∀ i, (ve_hg post i).isSome = true → rn i ≠ j)
  | [], h, j, c, hj => Or.inr ⟨hj, fun i hi => by cases hi⟩
  | q :: r, h, j, c, hj => by
    rw [ve_app, ve_hg_hs] at hj
    by_cases e : rn q.1 = j
    · rw [if_pos e] at hj
      cases hj
      exact Or.inl ⟨q.1, q.2, by unfold ve_hg; rw [Nat.beq_refl]; rfl, e, rfl⟩
    · rw [if_neg e] at hj
      rcases ve_app_get hrn r h j c hj with ⟨i, d, a, b, c2⟩ | ⟨a, b⟩
      · refine Or.inl ⟨i, d, ?_, b, c2⟩
        unfold ve_hg
        rw [ve_bf (fun e2 => e (by rw [e2]; exact b))]
        exact a
      · refine Or.inr ⟨a, fun i hi => ?_⟩
        unfold ve_hg at hi
        cases hb : q.1.beq i with
        | true => rw [← Nat.eq_of_beq_eq_true hb]; exact e
        | false => rw [hb] at hi; exact b i hi
theorem ve_hg_mem : ∀ {h : ve_H} {i : Nat} {c : ve_C}, ve_hg h i = some c → (i, c) ∈ h
  | [], _, _, h => by cases h
  | q :: r, i, c, h => by
    unfold ve_hg at h
    cases hb : q.1.beq i with
    | true =>
      rw [hb] at h
      have e1 := Nat.eq_of_beq_eq_true hb
      have e2 : q.2 = c := Option.some.inj h
      rw [← e1, ← e2]
      exact List.mem_cons_self
    | false =>
      rw [hb] at h
      exact List.mem_cons_of_mem _ (ve_hg_mem h)
def ve_SO (A0 : State) (l : Launch) (g : Nat) (md : Nat → ve_D) (S : ve_S) : Prop := ve_MO A0 l g md S.2.2.2.2.2.2.2.2 S.1 S.2.1 S.2.2.2.1 S.2.2.1 S.2.2.2.2.1 S.2.2.2.2.2.1 S.2.2.2.2.2.2.1 S.2.2.2.2.2.2.2.1
def ve_HI (A0 : State) (l : Launch) (g : Nat) (md : Nat → ve_D) (hi : ve_I) : Prop := ∀ (S : ve_S) (ρ : List Nat), some (S, ρ) ∈ hi → ve_SO A0 l g md S
-- a call: by the callee's run, or by a summary
def ve_ca (g d : Nat) (cb : ve_B) (mi : Nat) (args : List Value) (hi : ve_I) (h : ve_H) (N : Nat) : Option (ve_I × Option Value × ve_H × Nat × Nat) := match hi with
  | [] => cb mi args [] h N
  | none :: hi' => cb mi args hi' h N
  | some ((mi', args', k, pre, ret, post, mc, ms, dp), ρ) :: hi' =>
    bif (mi'.beq mi && dp.ble d) && (ve_rk g k ρ N && (decide (args = args'.map (ve_v (ve_rn g k ρ N))) && (pre.all (fun q => decide (ve_hg h (ve_rn g k ρ N q.1) = some (ve_cv (ve_rn g k ρ N) q.2))) && pre.all (fun q => (ve_hg post q.1).isSome)))) then
      some (hi', ret.map (ve_v (ve_rn g k ρ N)), ve_app (ve_rn g k ρ N) post h, mc, ms) else none
set_option maxHeartbeats 1000000 in
theorem ve_ca_ok {A0 : State} {l : Launch} {g : Nat} {md : Nat → ve_D} {d : Nat} {cb : ve_B} (hcb : ve_CB A0 l g (ve_HI A0 l g md) md d cb) {mi : Nat} {args : List Value} {hi : ve_I} {h : ve_H} {N : Nat} {hi' : ve_I} {ret : Option Value} {h' : ve_H} {mc ms : Nat}
    (hHI : ve_HI A0 l g md hi) (hr : ve_ca g d cb mi args hi h N = some (hi', ret, h', mc, ms)) : ve_HI A0 l g md hi' ∧ ve_MO A0 l g md d mi args h N ret h' mc ms := by
  unfold ve_ca at hr
  split at hr
  · exact hcb mi args [] h N hi' ret h' mc ms hHI hr
  · exact hcb mi args _ h N hi' ret h' mc ms (fun S ρ hm => hHI S ρ (List.mem_cons_of_mem _ hm)) hr
  · next mi' args' k pre ret0 post mc0 ms0 dp ρ hi0 =>
    obtain ⟨hq, hr⟩ := ve_bif hr
    have hS := hHI _ ρ List.mem_cons_self
    have hHI0 : ve_HI A0 l g md hi0 := fun S ρ hm => hHI S ρ (List.mem_cons_of_mem _ hm)
    cases hr
    simp only [Bool.and_eq_true] at hq
    obtain ⟨⟨q1, q2⟩, q3, q4, q5, q6⟩ := hq
    have q1 := Nat.eq_of_beq_eq_true q1
    have q2 := Nat.le_of_ble_eq_true q2
    have q4 := of_decide_eq_true q4
    subst q1
    have hin := ve_rn_in q3
    have hgk : g ≤ k := by
      unfold ve_rk at q3
      simp only [Bool.and_eq_true] at q3
      exact Nat.le_of_ble_eq_true q3.1.1
    have q5' : ∀ i c, ve_hg pre i = some c → ve_hg h (ve_rn g k ρ N i) = some (ve_cv (ve_rn g k ρ N) c) := fun i c hc => of_decide_eq_true (List.all_eq_true.mp q5 (i, c) (ve_hg_mem hc))
    have q6' : ∀ i, (ve_hg pre i).isSome = true → (ve_hg post i).isSome = true := fun i hi => by
      obtain ⟨c, hc⟩ := Option.isSome_iff_exists.mp hi
      exact List.all_eq_true.mp q6 (i, c) (ve_hg_mem hc)
    obtain ⟨hKm, dp', hdp, hM⟩ := hS
    refine ⟨hHI0, ?_, dp', Nat.le_trans hdp q2, ?_⟩
    · intro j hj
      obtain ⟨c, hc⟩ := Option.isSome_iff_exists.mp hj
      rcases ve_app_get hin post h j c hc with ⟨i, dd, a1, a2, -⟩ | ⟨a1, -⟩
      · rcases hKm i (by rw [a1]; rfl) with b | b
        · obtain ⟨c3, hc3⟩ := Option.isSome_iff_exists.mp b
          exact Or.inl (by rw [← a2, q5' i c3 hc3]; rfl)
        · right
          rw [← a2]
          have := ve_rn_new (N := N) (ρ := ρ) (o := i - k) hgk
          rw [show k + (i - k) = i by have : k ≤ i := b; omega] at this
          omega
      · exact Or.inl (by rw [a1]; rfl)
    · intro η hη hg
      have hη' : ve_In (fun i => η (ve_rn g k ρ N i)) := fun i j e => hin _ _ (hη _ _ e)
      have hg' : ve_Gl g (fun i => η (ve_rn g k ρ N i)) := fun i hi => by
        show η (ve_rn g k ρ N i) = i
        rw [ve_rn_g hi]; exact hg i hi
      refine ve_Met_mono (hM _ hη' hg') ?_ ?_
      · rintro a U ⟨rfl, b2, b3, b4⟩
        refine ⟨?_, b2, ?_, ?_⟩
        · show (args.map (ve_v η)).toArray = _
          rw [q4, ve_l_comp]
        · intro o
          show η (ve_rn g k ρ N (k + o)) = _
          rw [ve_rn_new hgk]; exact b3 o
        · intro i c hc
          have := b4 _ _ (q5' i c hc)
          rw [show ve_c η (ve_cv (ve_rn g k ρ N) c) = _ from ve_c_comp η _ c] at this
          exact this
      · rintro a st o t ⟨rfl, b2, b3, b4⟩ ⟨c1, c2, c3, c4, c5⟩
        refine ⟨?_, ?_, c3, c4, ?_⟩
        · rw [c1]
          cases ret0 with
          | none => rfl
          | some v => simp only [Option.map_some, ve_v_comp]
        · intro j c hc
          rcases ve_app_get hin post h j c hc with ⟨i, dd, a1, a2, a3⟩ | ⟨a1, a2⟩
          · subst a2; subst a3
            have := c2 i dd a1
            rw [← ve_c_comp] at this
            exact this
          · have h9 := b4 j c a1
            have hlt : η j < st.heap.size := (Array.getElem?_eq_some_iff.mp h9).1
            rw [c5 (η j) hlt (fun i hi e => a2 i (q6' i hi) (hη _ _ e))]
            exact h9
        · intro q hq hk
          refine c5 q hq (fun i hi => ?_)
          obtain ⟨c, hc⟩ := Option.isSome_iff_exists.mp hi
          exact hk _ (by rw [q5' i c hc]; rfl)
