/-! A part of the RAFT PASSES where the whole does -/
theorem wIn_le {c k W : Nat → Int} {t : Int} : ∀ (f : Nat) (m a : Int), wIn c k W t f m a ≤ a
  | 0, m, a => Int.le_refl a
  | f + 1, m, a => by
    unfold wIn
    by_cases h : t < m + c f
    · rw [if_pos h]; exact Int.le_refl a
    · rw [if_neg h]
      refine Int.le_trans (wIn_le f _ _) ?_
      generalize W f + 100 + (if f = 0 then 0 else k f) = x
      by_cases h2 : x < a
      · rw [if_pos h2]; omega
      · rw [if_neg h2]; exact Int.le_refl a
theorem wIn_ge {c k W : Nat → Int} {t : Int} (hc : ∀ r, 0 ≤ c r) (hk : ∀ r, 0 ≤ k r) {r : Nat} (hr : t < c r) : ∀ (f : Nat) (m a : Int), r < f → 0 ≤ m → 500000000 ≤ a → (∀ g, r < g → g < f → 500000000 ≤ W g) → 500000000 ≤ wIn c k W t f m a
  | 0, m, a, h, _, _, _ => absurd h (Nat.not_lt_zero r)
  | f + 1, m, a, h, hm, ha, hW => by
    unfold wIn
    by_cases h1 : t < m + c f
    · rw [if_pos h1]; exact ha
    · rw [if_neg h1]
      have hf : r ≠ f := fun e => by
        rw [e] at hr
        omega
      have hw := hW f (by omega) (by omega)
      have hx : 500000000 ≤ W f + 100 + (if f = 0 then 0 else k f) := by
        have := hk f
        by_cases h0 : f = 0
        · rw [if_pos h0]; omega
        · rw [if_neg h0]; omega
      have hcf := hc f
      refine wIn_ge hc hk hr f _ _ (by omega) (by omega) ?_ (fun g g1 g2 => hW g g1 (by omega))
      generalize W f + 100 + (if f = 0 then 0 else k f) = x at hx ⊢
      by_cases h2 : x < a
      · rw [if_pos h2]; exact hx
      · rw [if_neg h2]; exact ha
theorem wT_inf {c k : Nat → Int} {t : Int} (hc : ∀ r, 0 ≤ c r) (hk : ∀ r, 0 ≤ k r) {r : Nat} (hr : t < c r) : ∀ e : Nat, r < e → 500000000 ≤ wTab c k t e e := by
  intro e
  induction e using Nat.strongRecOn with
  | ind e ih =>
    intro h
    obtain ⟨g, rfl⟩ : ∃ g, e = g + 1 := ⟨e - 1, by omega⟩
    rw [wTab_0]
    refine wIn_ge hc hk hr (g + 1) 0 _ h (Int.le_refl 0) (Int.le_refl _) (fun j j1 j2 => ?_)
    rw [wTab_s (by omega)]
    exact ih j (by omega) j1
theorem wT_fin {c k : Nat → Int} {t : Int} (hk : ∀ r, k r ≤ 4) : ∀ e : Nat, (∀ r, r < e → c r ≤ t) → wTab c k t e e ≤ 104 * (e : Int)
  | 0, _ => Int.le_refl 0
  | e + 1, h => by
    have ih := wT_fin hk e (fun r hr => h r (by omega))
    have h1 := h e (by omega)
    have h2 := hk e
    rw [wTab_0]
    unfold wIn
    rw [if_neg (by omega)]
    refine Int.le_trans (wIn_le e _ _) ?_
    have hx : wTab c k t e e + 100 + (if e = 0 then 0 else k e) ≤ 104 * ((e + 1 : Nat) : Int) := by
      by_cases h0 : e = 0
      · rw [if_pos h0]; omega
      · rw [if_neg h0]; omega
    generalize wTab c k t e e + 100 + (if e = 0 then 0 else k e) = x at hx ⊢
    by_cases h3 : x < 500000000
    · rw [if_pos h3]; exact hx
    · rw [if_neg h3]; omega
