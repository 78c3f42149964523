/-! goV and a part of the RAFT -/
theorem cnt_mn {n : Nat} {p q : Nat → Bool} (h : ∀ i, i < n → p i = true → q i = true) : cnt n p ≤ cnt n q := by
  induction n with
  | zero => exact Nat.le_refl 0
  | succ n ih =>
    have h1 := ih (fun i hi => h i (by omega))
    unfold cnt
    cases hp : p n
    · show cnt n p + 0 ≤ cnt n q + (q n).toNat
      omega
    · rw [h n (by omega) hp]
      omega
theorem goV_no {w l : Nat} {P : Nat → Bool} {t mi ea kn : Int} (hw : 1 ≤ w ∧ w ≤ 4) (hl : 1 ≤ l ∧ l ≤ 6) (ht : 1 ≤ t) (hm : 1 ≤ mi) (he : 0 ≤ ea) (hk : 0 ≤ kn) : goV w l P t mi ea kn = -1 ↔ ∃ r, r < l ∧ t < rowC w P r := by
  have hR := pa_rel hw hl (by omega : 0 ≤ t) (P := P) _ _ rfl rfl
  have hk4 : ∀ r, 0 ≤ rowK' w P r ∧ rowK' w P r ≤ 4 := fun r => by
    unfold rowK'
    by_cases h : r = 0
    · rw [if_pos h]; decide
    · rw [if_neg h]
      have := rowK_b (w := w) (P := P) (r := r)
      omega
  have hc : ∀ r, 0 ≤ rowC w P r := fun r => rowC_b.1
  constructor
  · intro h
    apply Classical.byContradiction
    intro hn
    have fin := wT_fin (c := rowC w P) (k := rowK' w P) (t := t) (fun r => (hk4 r).2) l (fun r hr => by
      apply Classical.byContradiction
      intro h9
      exact hn ⟨r, hr, by omega⟩)
    have hlt : wTab (rowC w P) (rowK' w P) t l l < 500000000 := by omega
    have hp := hR.1.mp hlt
    obtain ⟨⟨q1, q2⟩, q3, q4⟩ := hR.2 hlt
    unfold goV at h
    rw [if_neg (by omega), if_pos hp, ← q1, ← q2] at h
    have y1 : 0 ≤ wTab (rowC w P) (rowK' w P) t l l / 100 * ea := Int.mul_nonneg (by omega) he
    have y2 : 0 ≤ 2 * kn * (wTab (rowC w P) (rowK' w P) t l l % 100) := Int.mul_nonneg (by omega) q4.1
    omega
  · rintro ⟨r, hr, hx⟩
    have inf := wT_inf hc (fun r => (hk4 r).1) hx l hr
    have hp : ¬ (rTab (rowC w P) (rowK' w P) t l l).1 < 100000000 := fun h9 => by
      have := hR.1.mpr h9
      omega
    unfold goV
    rw [if_neg (by omega), if_neg hp]
theorem goV_mono {w l : Nat} {P P2 : Nat → Bool} {t mi ea kn : Int} (hw : 1 ≤ w ∧ w ≤ 4) (hl : 1 ≤ l ∧ l ≤ 6) (ht : 0 ≤ t) (hm : 1 ≤ mi) (he : 0 ≤ ea) (hk : 0 ≤ kn) (hs : ∀ i, P2 i = true → P i = true) (h : goV w l P2 t mi ea kn = -1) : goV w l P t mi ea kn = -1 := by
  by_cases t0 : t = 0
  · unfold goV at h
    rw [if_pos t0] at h
    omega
  · obtain ⟨r, hr, hx⟩ := (goV_no hw hl (by omega) hm he hk).mp h
    refine (goV_no hw hl (by omega) hm he hk).mpr ⟨r, hr, ?_⟩
    have : rowC w P2 r ≤ rowC w P r := by
      unfold rowC
      have := cnt_mn (n := w) (p := fun x => P2 (r * w + x)) (q := fun x => P (r * w + x)) (fun i _ h9 => hs _ h9)
      omega
    omega
