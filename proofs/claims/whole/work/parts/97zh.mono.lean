/-! A part of the RAFT FITS where the whole does -/
theorem bx_ex {w : Nat} {R : Int → Int} (hw : 1 ≤ w) : ∀ n : Nat, n ≤ 24 → ∃ a b c e : Int, bxI w n R 30 30 a b c e
  | 0, _ => ⟨_, _, _, _, bxI_0⟩
  | n + 1, h => by
    obtain ⟨a, b, c, e, hb⟩ := bx_ex (R := R) hw n (by omega)
    by_cases hr : R n = -1
    · exact ⟨a, b, c, e, bxI_n hb hr⟩
    · have m1 : n % w ≤ n := Nat.mod_le n w
      have m2 : n / w ≤ n := Nat.div_le_self n w
      exact ⟨_, _, _, _, bxI_y hb hr (by omega) (by omega) _ _ _ _ rfl rfl rfl rfl⟩
theorem fitP_mono {w n : Nat} {R R2 D : Int → Int} {broad long deep edge : Int} (hw : 1 ≤ w) (hn : n ≤ 24) (hs : ∀ i : Nat, i < n → R2 i ≠ -1 → R2 i = R i) (h : fitP w n R D broad long deep edge) : fitP w n R2 D broad long deep edge := by
  have hs2 : ∀ i : Nat, i < n → R2 i ≠ -1 → R i ≠ -1 := fun i hi hr => by rw [← hs i hi hr]; exact hr
  refine ⟨fun i hi hr => by rw [hs i hi hr]; exact h.1 i hi (hs2 i hi hr), ?_⟩
  rintro a b c e ⟨f1, ⟨i1, p1, q1, r1⟩, ⟨i2, p2, q2, r2⟩, ⟨i3, p3, q3, r3⟩, i4, p4, q4, r4⟩
  obtain ⟨a0, b0, c0, e0, hb⟩ := bx_ex (R := R) hw n hn
  obtain ⟨g1, g2, g3, g4⟩ := (fitP_x hb (fun h9 => hs2 i1 p1 q1 (h9 i1 p1))).mp h
  have k1 := hb.1 i1 p1 (hs2 i1 p1 q1)
  have k2 := hb.1 i2 p2 (hs2 i2 p2 q2)
  have k3 := hb.1 i3 p3 (hs2 i3 p3 q3)
  have k4 := hb.1 i4 p4 (hs2 i4 p4 q4)
  rw [r1] at k1
  rw [r2] at k2
  rw [r3] at k3
  rw [r4] at k4
  refine ⟨by omega, by omega, fun hh i hi hr hc => ?_⟩
  rw [hs i hi hr]
  exact g4 (by omega) i hi (hs2 i hi hr) (by omega)
