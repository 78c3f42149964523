/-! CLEAR: one comes off without BLOCKERS -/
def clrP (w n : Nat) (sd : Int) (P : Nat → Bool) (k : Nat) : Bool := decide (hN w n P k 2 = 0 ∨ (sd ≠ 2 ∧ hN w n P k 0 = 0) ∨ (sd ≠ 1 ∧ hN w n P k 1 = 0))
theorem hN_mono {w n : Nat} {P P2 : Nat → Bool} {k b : Nat} (h : ∀ i, P2 i = true → P i = true) : hN w n P2 k b ≤ hN w n P k b :=
  cnt_mono (fun i _ hp => by
    have h9 : (onW w k b i && P2 i) = true := hp
    show (onW w k b i && P i) = true
    rw [Bool.and_eq_true] at h9 ⊢
    exact ⟨h9.1, h i h9.2⟩)
theorem clrP_mono {w n : Nat} {sd : Int} : mono (clrP w n sd) := fun P P2 k h hc => by
  have h0 := hN_mono (w := w) (n := n) (k := k) (b := 0) h
  have h1 := hN_mono (w := w) (n := n) (k := k) (b := 1) h
  have h2 := hN_mono (w := w) (n := n) (k := k) (b := 2) h
  unfold clrP at hc ⊢
  rw [decide_eq_true_iff] at hc ⊢
  rcases hc with c | ⟨c, c2⟩ | ⟨c, c2⟩
  · exact Or.inl (by omega)
  · exact Or.inr (Or.inl ⟨c, by omega⟩)
  · exact Or.inr (Or.inr ⟨c, by omega⟩)
