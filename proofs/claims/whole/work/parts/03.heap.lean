-- worlds
def ve_hg : ve_H → Nat → Option ve_C
  | [], _ => none
  | q :: r, i => bif q.1.beq i then some q.2 else ve_hg r i
def ve_hs : ve_H → Nat → ve_C → ve_H
  | [], i, c => [(i, c)]
  | q :: r, i, c => bif q.1.beq i then (i, c) :: r else q :: ve_hs r i c
theorem ve_bf {i j : Nat} (h : ¬ i = j) : i.beq j = false := by
  cases hb : i.beq j with
  | true => exact absurd (Nat.eq_of_beq_eq_true hb) h
  | false => rfl
theorem ve_hg_hs : ∀ (h : ve_H) (i j : Nat) (c : ve_C), ve_hg (ve_hs h i c) j = if i = j then some c else ve_hg h j
  | [], i, j, c => by
    by_cases e : i = j
    · subst e; simp [ve_hs, ve_hg]
    · have : i.beq j = false := ve_bf e
      simp [ve_hs, ve_hg, e, this]
  | q :: r, i, j, c => by
    unfold ve_hs
    cases hb : q.1.beq i with
    | true =>
      have e0 : q.1 = i := Nat.eq_of_beq_eq_true hb
      by_cases e : i = j
      · subst e; simp [ve_hg]
      · have h1 : i.beq j = false := ve_bf e
        have h2 : q.1.beq j = false := by rw [e0]; exact h1
        simp [ve_hg, e, h1, h2]
    | false =>
      have hne : ¬ q.1 = i := fun h => by rw [h, Nat.beq_refl] at hb; cases hb
      have ih := ve_hg_hs r i j c
      simp only [cond_false, ve_hg]
      rw [ih]
      by_cases e : i = j
      · subst e
        simp [hb]
      · simp [e]
def ve_c (η : Nat → Nat) (c : ve_C) : Cell := bif c.1.blt 1000 then { cls := c.1, slots := (c.2.map (ve_v η)).toArray, vm := .none } else { cls := c.1 - 1000, slots := (c.2.map (ve_v η)).toArray, vm := .statics (c.1 - 1000) }
theorem ve_c_obj {η : Nat → Nat} {c : ve_C} (h : c.1.blt 1000 = true) : ve_c η c = { cls := c.1, slots := (c.2.map (ve_v η)).toArray, vm := .none } := by unfold ve_c; rw [h]; rfl
theorem ve_c_slots (η : Nat → Nat) (c : ve_C) : (ve_c η c).slots = (c.2.map (ve_v η)).toArray := by unfold ve_c; cases c.1.blt 1000 <;> rfl
theorem ve_c_known (η : Nat → Nat) (c : ve_C) : (ve_c η c).vm ≠ .unknown := by unfold ve_c; cases c.1.blt 1000 <;> exact fun h => by cases h
theorem ve_c_size (η : Nat → Nat) (c : ve_C) : (ve_c η c).slots.size = c.2.length := by rw [ve_c_slots]; simp
theorem ve_c_at {η : Nat → Nat} {c : ve_C} {k : Nat} {v : Value} (h : c.2[k]? = some v) : (ve_c η c).slots[k]? = some (ve_v η v) := by rw [ve_c_slots]; simp [h]
theorem ve_c_set {η : Nat → Nat} {c : ve_C} {k : Nat} {v : Value} : (ve_c η c).setSlot k (ve_v η v) = ve_c η (c.1, c.2.set k v) := by
  unfold ve_c Cell.setSlot
  cases c.1.blt 1000 <;> simp [List.map_set]
def ve_sum (H : Heap) : Nat := (H.toList.map fun c => c.slots.size).sum
theorem ve_sum_push {H H' : Heap} {x : Cell} (h1 : H'[H.size]? = some x) (h2 : H'.size = H.size + 1) (h3 : ∀ q, q < H.size → H'[q]? = H[q]?) : ve_sum H' = ve_sum H + x.slots.size := by
  have e : H'.toList = H.toList ++ [x] := by
    apply List.ext_getElem?
    intro i
    simp only [Array.getElem?_toList]
    by_cases hi : i < H.size
    · rw [h3 i hi, List.getElem?_append_left (by simpa using hi)]; simp
    · by_cases hi2 : i = H.size
      · subst hi2; rw [h1, List.getElem?_append_right (by simp)]; simp
      · rw [Array.getElem?_eq_none (by omega), List.getElem?_eq_none (by simp; omega)]
  unfold ve_sum
  rw [e]
  simp
theorem ve_sum_set {H H' : Heap} {a : Nat} {x y : Cell} (h0 : H[a]? = some x) (h1 : H'[a]? = some y) (hs : y.slots.size = x.slots.size) (h2 : H'.size = H.size) (h3 : ∀ q, q ≠ a → H'[q]? = H[q]?) : ve_sum H' = ve_sum H := by
  have e : H'.toList.map (fun c => c.slots.size) = H.toList.map (fun c => c.slots.size) := by
    apply List.ext_getElem?
    intro i
    simp only [List.getElem?_map, Array.getElem?_toList]
    by_cases hi : i = a
    · subst hi; rw [h0, h1]; simp [hs]
    · rw [h3 i hi]
  unfold ve_sum
  rw [e]
-- the state of a walk: known cells; new numbers lie one behind another; old cells apart from the known ones are as they were
def ve_Rl (η : Nat → Nat) (h : ve_H) (H : Heap) : Prop := ∀ (i : Nat) (c : ve_C), ve_hg h i = some c → H[η i]? = some (ve_c η c)
def ve_Fr (η : Nat → Nat) (N : Nat) (H : Heap) : Prop := ∀ o : Nat, η (N + o) = H.size + o
def ve_In (η : Nat → Nat) : Prop := ∀ i j : Nat, η i = η j → i = j
def ve_Iv (η : Nat → Nat) (P : Nat → Prop) (H0 : Heap) (h : ve_H) (N cl sl : Nat) (H : Heap) : Prop :=
  ve_Rl η h H ∧ ve_Fr η N H ∧ (∀ i : Nat, (ve_hg h i).isSome = true → P (η i) ∨ H0.size ≤ η i) ∧ (∀ q : Nat, q < H0.size → ¬ P q → H[q]? = H0[q]?) ∧ H.size = H0.size + cl ∧ ve_sum H = ve_sum H0 + sl
theorem ve_Iv.set {η : Nat → Nat} {P : Nat → Prop} {H0 H H' : Heap} {h : ve_H} {N cl sl i : Nat} {c c' : ve_C} (hη : ve_In η) (X : ve_Iv η P H0 h N cl sl H) (hi : ve_hg h i = some c)
    (h1 : H'[η i]? = some (ve_c η c')) (h2 : H'.size = H.size) (h3 : ∀ q, q ≠ η i → H'[q]? = H[q]?) (hl : c'.2.length = c.2.length) : ve_Iv η P H0 (ve_hs h i c') N cl sl H' := by
  obtain ⟨a1, a2, a3, a4, a5, a6⟩ := X
  refine ⟨?_, ?_, ?_, ?_, by rw [h2, a5], ?_⟩
  · intro j d hj
    rw [ve_hg_hs] at hj
    by_cases e : i = j
    · subst e
      rw [if_pos rfl] at hj
      cases hj
      exact h1
    · rw [if_neg e] at hj
      rw [h3 _ (fun e2 => e (hη _ _ e2).symm)]
      exact a1 j d hj
  · intro o; rw [a2 o, h2]
  · intro j hj
    rw [ve_hg_hs] at hj
    by_cases e : i = j
    · subst e
      exact a3 i (by rw [hi]; rfl)
    · rw [if_neg e] at hj
      exact a3 j hj
  · intro q hq hP
    rw [h3 q ?_]
    · exact a4 q hq hP
    · intro e
      rcases a3 i (by rw [hi]; rfl) with h9 | h9
      · exact hP (e ▸ h9)
      · omega
  · rw [ve_sum_set (a1 i c hi) h1 (by rw [ve_c_size, ve_c_size, hl]) h2 h3, a6]
theorem ve_Iv.push {η : Nat → Nat} {P : Nat → Prop} {H0 H H' : Heap} {h : ve_H} {N cl sl : Nat} {c : ve_C} (hη : ve_In η) (X : ve_Iv η P H0 h N cl sl H)
    (h1 : H'[H.size]? = some (ve_c η c)) (h2 : H'.size = H.size + 1) (h3 : ∀ q, q < H.size → H'[q]? = H[q]?) : ve_Iv η P H0 ((N, c) :: h) (N + 1) (cl + 1) (sl + c.2.length) H' := by
  obtain ⟨a1, a2, a3, a4, a5, a6⟩ := X
  have hN : η N = H.size := a2 0
  refine ⟨?_, ?_, ?_, ?_, by rw [h2, a5]; omega, ?_⟩
  · intro j d hj
    unfold ve_hg at hj
    cases hb : N.beq j with
    | true =>
      have e : N = j := Nat.eq_of_beq_eq_true hb
      subst e
      rw [hb] at hj
      cases hj
      rw [hN]; exact h1
    | false =>
      rw [hb] at hj
      have h9 := a1 j d hj
      rw [h3 _ (Array.getElem?_eq_some_iff.mp h9).1]
      exact h9
  · intro o
    rw [show N + 1 + o = N + (1 + o) by omega, a2, h2]; omega
  · intro j hj
    unfold ve_hg at hj
    cases hb : N.beq j with
    | true =>
      have e : N = j := Nat.eq_of_beq_eq_true hb
      subst e
      exact Or.inr (by omega)
    | false =>
      rw [hb] at hj
      exact a3 j hj
  · intro q hq hP
    rw [h3 q (by omega)]
    exact a4 q hq hP
  · rw [ve_sum_push h1 h2 h3, a6, ve_c_size]; omega
