/-! TAKING OFF all that are due, in any order -/
/-- none of U is clear when the others that are due are off -/
def stk (C : (Nat → Bool) → Nat → Bool) (keep due U : Nat → Bool) : Prop := (∀ i, U i = true → due i = true) ∧ ∀ k, U k = true → C (fun i => keep i || U i) k = false
def noStk (C : (Nat → Bool) → Nat → Bool) (keep due : Nat → Bool) : Prop := ∀ U, stk C keep due U → ∀ k, U k = false
/-- clear stays clear with fewer aboard -/
def mono (C : (Nat → Bool) → Nat → Bool) : Prop := ∀ (P P2 : Nat → Bool) (k : Nat), (∀ i, P2 i = true → P i = true) → C P k = true → C P2 k = true
/-- who is aboard while it goes on -/
def offI (C : (Nat → Bool) → Nat → Bool) (keep due S : Nat → Bool) : Prop := (∀ i, keep i = true → S i = true) ∧ (∀ i, S i = true → keep i = true ∨ due i = true) ∧ (∀ i, keep i = true → due i = false) ∧ ∀ U, stk C keep due U → ∀ i, U i = true → S i = true
theorem offI_0 {C : (Nat → Bool) → Nat → Bool} {P due : Nat → Bool} (hd : ∀ i, due i = true → P i = true) : offI C (fun i => P i && !due i) due P := by
  refine ⟨fun i h => ?_, fun i h => ?_, fun i h => ?_, fun U hU i h => hd i (hU.1 i h)⟩
  · exact (Bool.and_eq_true _ _ |>.mp h).1
  · cases hx : due i
    · left
      show (P i && !due i) = true
      rw [h, hx]
      rfl
    · exact Or.inr rfl
  · have := (Bool.and_eq_true _ _ |>.mp h).2
    cases hx : due i
    · rfl
    · rw [hx] at this
      exact absurd this (by decide)
theorem offI_s {C : (Nat → Bool) → Nat → Bool} {keep due S : Nat → Bool} (hC : mono C) (h : offI C keep due S) {k : Nat} (hk : due k = true) (hc : C S k = true) : offI C keep due (fun i => if i = k then false else S i) := by
  obtain ⟨h1, h2, h3, h4⟩ := h
  refine ⟨fun i hi => ?_, fun i hi => ?_, h3, fun U hU i hi => ?_⟩
  · by_cases e : i = k
    · rw [e] at hi
      rw [h3 k hi] at hk
      exact absurd hk (by decide)
    · show (if i = k then false else S i) = true
      rw [if_neg e]
      exact h1 i hi
  · by_cases e : i = k
    · exact Or.inr (by rw [e]; exact hk)
    · refine h2 i ?_
      have hi' : (if i = k then false else S i) = true := hi
      rw [if_neg e] at hi'
      exact hi'
  · by_cases e : i = k
    · rw [e] at hi
      have c1 := hU.2 k hi
      have c2 := hC S (fun i => keep i || U i) k (fun j hj => by
        rcases Bool.or_eq_true _ _ |>.mp hj with x | x
        · exact h1 j x
        · exact h4 U hU j x) hc
      rw [c1] at c2
      exact absurd c2 (by decide)
    · show (if i = k then false else S i) = true
      rw [if_neg e]
      exact h4 U hU i hi
/-- when no more goes -/
theorem offI_e {C : (Nat → Bool) → Nat → Bool} {keep due S : Nat → Bool} (h : offI C keep due S) (he : ∀ k, S k = true → due k = true → C S k = false) : noStk C keep due ↔ ∀ k, due k = true → S k = false := by
  obtain ⟨h1, h2, h3, h4⟩ := h
  constructor
  · intro hn
    have eS : (fun i => keep i || (S i && due i)) = S := funext fun i => by
      cases hs : S i
      · cases hk : keep i
        · rfl
        · rw [h1 i hk] at hs
          exact absurd hs (by decide)
      · rcases h2 i hs with x | x
        · rw [x]; rfl
        · rw [x]; cases keep i <;> rfl
    have hs : stk C keep due (fun i => S i && due i) := ⟨fun i hi => (Bool.and_eq_true _ _ |>.mp hi).2, fun k hk => by
      rw [eS]
      exact he k (Bool.and_eq_true _ _ |>.mp hk).1 (Bool.and_eq_true _ _ |>.mp hk).2⟩
    intro k hk
    have := hn _ hs k
    have h9 : (S k && due k) = false := this
    rw [hk, Bool.and_true] at h9
    exact h9
  · intro ha U hU k
    cases hu : U k
    · rfl
    · have := h4 U hU k hu
      rw [ha k (hU.1 k hu)] at this
      exact absurd this (by decide)
/-- a part of the RAFT: what is stuck in it is stuck in the whole -/
theorem noStk_mono {C : (Nat → Bool) → Nat → Bool} {keep due keep2 due2 : Nat → Bool} (hC : mono C) (hk : ∀ i, keep2 i = true → keep i = true) (hd : ∀ i, due2 i = true → due i = true) (h : noStk C keep due) : noStk C keep2 due2 := fun U hU k => by
  refine h U ⟨fun i hi => hd i (hU.1 i hi), fun k hk9 => ?_⟩ k
  cases hc : C (fun i => keep i || U i) k
  · rfl
  · have := hC _ (fun i => keep2 i || U i) k (fun j hj => by
      rcases Bool.or_eq_true _ _ |>.mp hj with x | x
      · exact Bool.or_eq_true _ _ |>.mpr (Or.inl (hk j x))
      · exact Bool.or_eq_true _ _ |>.mpr (Or.inr x)) hc
    rw [hU.2 k hk9] at this
    exact absurd this (by decide)
