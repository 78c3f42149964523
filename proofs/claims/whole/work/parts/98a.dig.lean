/-! BEST, pure: RAFTS as codes -/
def dg (c i : Nat) : Nat := c / 8 ^ i % 8
def adc (c i k : Nat) : Nat := c + (k + 1) * 8 ^ i
def rmc (c i : Nat) : Nat := c - dg c i * 8 ^ i
theorem p8 : (8 : Nat) ^ 0 = 1 ∧ (8 : Nat) ^ 1 = 8 ∧ (8 : Nat) ^ 2 = 64 ∧ (8 : Nat) ^ 3 = 512 ∧ (8 : Nat) ^ 4 = 4096 := by decide
theorem i4 {i : Nat} (h : i < 4) : i = 0 ∨ i = 1 ∨ i = 2 ∨ i = 3 := by omega
theorem dg_e (c : Nat) : dg c 0 = c % 8 ∧ dg c 1 = c / 8 % 8 ∧ dg c 2 = c / 64 % 8 ∧ dg c 3 = c / 512 % 8 := by
  unfold dg
  rw [p8.1, p8.2.1, p8.2.2.1, p8.2.2.2.1, Nat.div_one]
  exact ⟨rfl, rfl, rfl, rfl⟩
theorem dg_lt {c i : Nat} : dg c i < 8 := Nat.mod_lt _ (by decide)
theorem adc_e (c k : Nat) : adc c 0 k = c + (k + 1) ∧ adc c 1 k = c + (k + 1) * 8 ∧ adc c 2 k = c + (k + 1) * 64 ∧ adc c 3 k = c + (k + 1) * 512 := by
  unfold adc
  rw [p8.1, p8.2.1, p8.2.2.1, p8.2.2.2.1, Nat.mul_one]
  exact ⟨rfl, rfl, rfl, rfl⟩
theorem rmc_e (c : Nat) : rmc c 0 = c - c % 8 ∧ rmc c 1 = c - c / 8 % 8 * 8 ∧ rmc c 2 = c - c / 64 % 8 * 64 ∧ rmc c 3 = c - c / 512 % 8 * 512 := by
  unfold rmc
  obtain ⟨e0, e1, e2, e3⟩ := dg_e c
  rw [e0, e1, e2, e3, p8.1, p8.2.1, p8.2.2.1, p8.2.2.2.1, Nat.mul_one]
  exact ⟨rfl, rfl, rfl, rfl⟩
theorem dgs_x (c : Nat) : ∃ r0 r1 r2 r3 q : Nat, (r0 < 8 ∧ r1 < 8 ∧ r2 < 8 ∧ r3 < 8) ∧ c = r0 + 8 * r1 + 64 * r2 + 512 * r3 + 4096 * q := ⟨c % 8, c / 8 % 8, c / 64 % 8, c / 512 % 8, c / 4096, by omega⟩
theorem dgs_e {r0 r1 r2 r3 q : Nat} (h0 : r0 < 8) (h1 : r1 < 8) (h2 : r2 < 8) (h3 : r3 < 8) : dg (r0 + 8 * r1 + 64 * r2 + 512 * r3 + 4096 * q) 0 = r0 ∧ dg (r0 + 8 * r1 + 64 * r2 + 512 * r3 + 4096 * q) 1 = r1 ∧ dg (r0 + 8 * r1 + 64 * r2 + 512 * r3 + 4096 * q) 2 = r2 ∧ dg (r0 + 8 * r1 + 64 * r2 + 512 * r3 + 4096 * q) 3 = r3 := by
  obtain ⟨e0, e1, e2, e3⟩ := dg_e (r0 + 8 * r1 + 64 * r2 + 512 * r3 + 4096 * q)
  rw [e0, e1, e2, e3]
  clear e0 e1 e2 e3
  refine ⟨by omega, by omega, by omega, by omega⟩
/-- one digit is another -/
theorem dg_put {c c2 i x : Nat} (hi : i < 4) (hx : x < 8) (h : c2 + dg c i * 8 ^ i = c + x * 8 ^ i) : dg c2 i = x ∧ ∀ j, j < 4 → j ≠ i → dg c2 j = dg c j := by
  obtain ⟨r0, r1, r2, r3, q, ⟨h0, h1, h2, h3⟩, rfl⟩ := dgs_x c
  obtain ⟨e0, e1, e2, e3⟩ := dgs_e (q := q) h0 h1 h2 h3
  rcases i4 hi with rfl | rfl | rfl | rfl
  · rw [e0, p8.1] at h
    have hc : c2 = x + 8 * r1 + 64 * r2 + 512 * r3 + 4096 * q := by omega
    obtain ⟨f0, f1, f2, f3⟩ := dgs_e (q := q) hx h1 h2 h3
    rw [hc]
    refine ⟨f0, fun j hj hne => ?_⟩
    rcases i4 hj with rfl | rfl | rfl | rfl
    · exact absurd rfl hne
    · rw [f1, e1]
    · rw [f2, e2]
    · rw [f3, e3]
  · rw [e1, p8.2.1] at h
    have hc : c2 = r0 + 8 * x + 64 * r2 + 512 * r3 + 4096 * q := by omega
    obtain ⟨f0, f1, f2, f3⟩ := dgs_e (q := q) h0 hx h2 h3
    rw [hc]
    refine ⟨f1, fun j hj hne => ?_⟩
    rcases i4 hj with rfl | rfl | rfl | rfl
    · rw [f0, e0]
    · exact absurd rfl hne
    · rw [f2, e2]
    · rw [f3, e3]
  · rw [e2, p8.2.2.1] at h
    have hc : c2 = r0 + 8 * r1 + 64 * x + 512 * r3 + 4096 * q := by omega
    obtain ⟨f0, f1, f2, f3⟩ := dgs_e (q := q) h0 h1 hx h3
    rw [hc]
    refine ⟨f2, fun j hj hne => ?_⟩
    rcases i4 hj with rfl | rfl | rfl | rfl
    · rw [f0, e0]
    · rw [f1, e1]
    · exact absurd rfl hne
    · rw [f3, e3]
  · rw [e3, p8.2.2.2.1] at h
    have hc : c2 = r0 + 8 * r1 + 64 * r2 + 512 * x + 4096 * q := by omega
    obtain ⟨f0, f1, f2, f3⟩ := dgs_e (q := q) h0 h1 h2 hx
    rw [hc]
    refine ⟨f3, fun j hj hne => ?_⟩
    rcases i4 hj with rfl | rfl | rfl | rfl
    · rw [f0, e0]
    · rw [f1, e1]
    · rw [f2, e2]
    · exact absurd rfl hne
theorem dg_le {c i : Nat} (hi : i < 4) : dg c i * 8 ^ i ≤ c := by
  obtain ⟨r0, r1, r2, r3, q, ⟨h0, h1, h2, h3⟩, rfl⟩ := dgs_x c
  obtain ⟨e0, e1, e2, e3⟩ := dgs_e (q := q) h0 h1 h2 h3
  rcases i4 hi with rfl | rfl | rfl | rfl
  · rw [e0, p8.1]; omega
  · rw [e1, p8.2.1]; omega
  · rw [e2, p8.2.2.1]; omega
  · rw [e3, p8.2.2.2.1]; omega
theorem dg_adc {c i k : Nat} (hi : i < 4) (h : dg c i = 0) (hk : k < 7) : dg (adc c i k) i = k + 1 ∧ ∀ j, j < 4 → j ≠ i → dg (adc c i k) j = dg c j := by
  refine dg_put hi (by omega) ?_
  rw [h, Nat.zero_mul]
  rfl
theorem dg_rmc {c i : Nat} (hi : i < 4) : dg (rmc c i) i = 0 ∧ ∀ j, j < 4 → j ≠ i → dg (rmc c i) j = dg c j := by
  have h := dg_le (c := c) hi
  refine dg_put hi (by decide) ?_
  rw [Nat.zero_mul]
  unfold rmc
  omega
theorem adc_rmc {c i k : Nat} (hi : i < 4) (h : dg c i = k + 1) : adc (rmc c i) i k = c := by
  have h1 := dg_le (c := c) hi
  unfold adc rmc
  rw [← h]
  omega
theorem rmc_adc {c i k : Nat} (hi : i < 4) (h : dg c i = 0) (hk : k < 7) : rmc (adc c i k) i = c := by
  have h1 := (dg_adc hi h hk).1
  unfold rmc
  rw [h1]
  unfold adc
  omega
theorem rmc_z {c i : Nat} (h : dg c i = 0) : rmc c i = c := by
  unfold rmc
  rw [h, Nat.zero_mul]
  rfl
/-- codes agree where all digits do -/
theorem dg_ext {c c2 : Nat} (h1 : c < 4096) (h2 : c2 < 4096) (h : ∀ i, i < 4 → dg c i = dg c2 i) : c = c2 := by
  obtain ⟨r0, r1, r2, r3, q, ⟨a0, a1, a2, a3⟩, rfl⟩ := dgs_x c
  obtain ⟨e0, e1, e2, e3⟩ := dgs_e (q := q) a0 a1 a2 a3
  obtain ⟨s0, s1, s2, s3, q2, ⟨b0, b1, b2, b3⟩, rfl⟩ := dgs_x c2
  obtain ⟨f0, f1, f2, f3⟩ := dgs_e (q := q2) b0 b1 b2 b3
  have g0 := h 0 (by decide)
  have g1 := h 1 (by decide)
  have g2 := h 2 (by decide)
  have g3 := h 3 (by decide)
  rw [e0, f0] at g0
  rw [e1, f1] at g1
  rw [e2, f2] at g2
  rw [e3, f3] at g3
  omega
/-- a code of a RAFT of the first m in n CELLS -/
def vcd (m n c : Nat) : Prop := c < 4096 ∧ (∀ i, i < 4 → m ≤ i → dg c i = 0) ∧ (∀ i, i < 4 → dg c i ≤ n) ∧ ∀ i j, i < 4 → j < 4 → dg c i = dg c j → dg c i = 0 ∨ i = j
/-- who lies in a CELL (4: nobody) -/
def occ (c k : Nat) : Nat := if dg c 0 = k + 1 then 0 else if dg c 1 = k + 1 then 1 else if dg c 2 = k + 1 then 2 else if dg c 3 = k + 1 then 3 else 4
theorem occ_sp (c k : Nat) : (occ c k = 4 ∧ ∀ i, i < 4 → dg c i ≠ k + 1) ∨ (occ c k < 4 ∧ dg c (occ c k) = k + 1) := by
  unfold occ
  by_cases h0 : dg c 0 = k + 1
  · rw [if_pos h0]; exact Or.inr ⟨by decide, h0⟩
  · rw [if_neg h0]
    by_cases h1 : dg c 1 = k + 1
    · rw [if_pos h1]; exact Or.inr ⟨by decide, h1⟩
    · rw [if_neg h1]
      by_cases h2 : dg c 2 = k + 1
      · rw [if_pos h2]; exact Or.inr ⟨by decide, h2⟩
      · rw [if_neg h2]
        by_cases h3 : dg c 3 = k + 1
        · rw [if_pos h3]; exact Or.inr ⟨by decide, h3⟩
        · rw [if_neg h3]
          refine Or.inl ⟨rfl, fun i hi => ?_⟩
          rcases i4 hi with rfl | rfl | rfl | rfl
          · exact h0
          · exact h1
          · exact h2
          · exact h3
theorem occ_f {c k : Nat} : occ c k = 4 ↔ ∀ i, i < 4 → dg c i ≠ k + 1 := by
  rcases occ_sp c k with ⟨h1, h2⟩ | ⟨h1, h2⟩
  · exact ⟨fun _ => h2, fun _ => h1⟩
  · exact ⟨fun h => by omega, fun h => absurd h2 (h _ h1)⟩
theorem occ_is {m n c k i : Nat} (hv : vcd m n c) (hi : i < 4) (h : dg c i = k + 1) : occ c k = i := by
  rcases occ_sp c k with ⟨h1, h2⟩ | ⟨h1, h2⟩
  · exact absurd h (h2 i hi)
  · rcases hv.2.2.2 _ i h1 hi (by rw [h2, h]) with h3 | h3
    · omega
    · exact h3
theorem vcd_0 {m n : Nat} : vcd m n 0 := by
  have z : ∀ i, i < 4 → dg 0 i = 0 := by decide
  exact ⟨by decide, fun i hi _ => z i hi, fun i hi => by rw [z i hi]; exact Nat.zero_le _, fun i j hi _ _ => Or.inl (z i hi)⟩
theorem adc_lt {c i k : Nat} (hc : c < 4096) (hi : i < 4) (h : dg c i = 0) (hk : k < 7) : adc c i k < 4096 := by
  obtain ⟨r0, r1, r2, r3, q, ⟨a0, a1, a2, a3⟩, rfl⟩ := dgs_x c
  obtain ⟨e0, e1, e2, e3⟩ := dgs_e (q := q) a0 a1 a2 a3
  unfold adc
  rcases i4 hi with rfl | rfl | rfl | rfl
  · rw [p8.1]; omega
  · rw [p8.2.1]; omega
  · rw [p8.2.2.1]; omega
  · rw [p8.2.2.2.1]; omega
theorem vcd_ad {m n c i k : Nat} (hv : vcd m n c) (hi : i < 4) (him : i < m) (h : dg c i = 0) (hk : k < n) (hn : n ≤ 6) (hf : occ c k = 4) : vcd m n (adc c i k) := by
  obtain ⟨h1, h2, h3, h4⟩ := hv
  obtain ⟨d1, d2⟩ := dg_adc hi h (show k < 7 by omega)
  have fr := occ_f.mp hf
  refine ⟨adc_lt h1 hi h (by omega), fun j hj hm => ?_, fun j hj => ?_, fun j j2 hj hj2 he => ?_⟩
  · rw [d2 j hj (by omega)]; exact h2 j hj hm
  · by_cases e : j = i
    · rw [e, d1]; omega
    · rw [d2 j hj e]; exact h3 j hj
  · by_cases e : j = i
    · by_cases e2 : j2 = i
      · exact Or.inr (by omega)
      · rw [e, d1, d2 j2 hj2 e2] at he
        exact absurd he.symm (fr j2 hj2)
    · rw [d2 j hj e] at he ⊢
      by_cases e2 : j2 = i
      · rw [e2, d1] at he
        exact absurd he (fr j hj)
      · rw [d2 j2 hj2 e2] at he
        exact h4 j j2 hj hj2 he
theorem vcd_rm {m n c i : Nat} (hv : vcd m n c) (hi : i < 4) : vcd m n (rmc c i) := by
  obtain ⟨h1, h2, h3, h4⟩ := hv
  obtain ⟨d1, d2⟩ := dg_rmc (c := c) hi
  have dz : ∀ j, j < 4 → dg (rmc c i) j = 0 ∨ dg (rmc c i) j = dg c j ∧ j ≠ i := fun j hj => by
    by_cases e : j = i
    · rw [e]; exact Or.inl d1
    · exact Or.inr ⟨d2 j hj e, e⟩
  refine ⟨Nat.lt_of_le_of_lt (Nat.sub_le _ _) h1, fun j hj hm => ?_, fun j hj => ?_, fun j j2 hj hj2 he => ?_⟩
  · rcases dz j hj with e | ⟨e, -⟩
    · exact e
    · rw [e]; exact h2 j hj hm
  · rcases dz j hj with e | ⟨e, -⟩
    · rw [e]; exact Nat.zero_le _
    · rw [e]; exact h3 j hj
  · rcases dz j hj with e | ⟨e, -⟩
    · exact Or.inl e
    · rcases dz j2 hj2 with e2 | ⟨e2, -⟩
      · rw [he]; exact Or.inl e2
      · rw [e, e2] at he
        rw [e]
        exact h4 j j2 hj hj2 he
/-- taking off frees the CELL -/
theorem occ_rm {m n c i k : Nat} (hv : vcd m n c) (hi : i < 4) (h : dg c i = k + 1) (k2 : Nat) : occ (rmc c i) k2 = if k2 = k then 4 else occ c k2 := by
  have hv2 := vcd_rm hv hi
  obtain ⟨d1, d2⟩ := dg_rmc (c := c) hi
  by_cases e : k2 = k
  · rw [if_pos e, e]
    refine occ_f.mpr (fun j hj he => ?_)
    by_cases ej : j = i
    · rw [ej, d1] at he; omega
    · rw [d2 j hj ej] at he
      rcases hv.2.2.2 j i hj hi (by rw [he, h]) with h3 | h3
      · omega
      · exact ej h3
  · rw [if_neg e]
    rcases occ_sp c k2 with ⟨h1, h2⟩ | ⟨h1, h2⟩
    · rw [h1]
      refine occ_f.mpr (fun j hj he => ?_)
      by_cases ej : j = i
      · rw [ej, d1] at he; omega
      · rw [d2 j hj ej] at he
        exact h2 j hj he
    · have ne : occ c k2 ≠ i := fun e9 => by rw [e9, h] at h2; omega
      exact occ_is hv2 h1 (by rw [d2 _ h1 ne]; exact h2)
theorem occ_ad {m n c i k : Nat} (hv : vcd m n c) (hi : i < 4) (him : i < m) (h : dg c i = 0) (hk : k < n) (hn : n ≤ 6) (hf : occ c k = 4) (k2 : Nat) : occ (adc c i k) k2 = if k2 = k then i else occ c k2 := by
  have hv2 := vcd_ad hv hi him h hk hn hf
  obtain ⟨d1, d2⟩ := dg_adc hi h (show k < 7 by omega)
  by_cases e : k2 = k
  · rw [if_pos e, e]
    exact occ_is hv2 hi d1
  · rw [if_neg e]
    rcases occ_sp c k2 with ⟨h1, h2⟩ | ⟨h1, h2⟩
    · rw [h1]
      refine occ_f.mpr (fun j hj he => ?_)
      by_cases ej : j = i
      · rw [ej, d1] at he; omega
      · rw [d2 j hj ej] at he
        exact h2 j hj he
    · have ne : occ c k2 ≠ i := fun e9 => by rw [e9, h] at h2; omega
      exact occ_is hv2 h1 (by rw [d2 _ h1 ne]; exact h2)
/-- as sets: the CELLS that are filled, who is aboard -/
def bn (c : Nat) : Nat := setN 6 (fun k => decide (occ c k < 4))
def an (c : Nat) : Nat := setN 4 (fun i => decide (dg c i ≠ 0))
theorem bn_t {c k : Nat} : (bn c).testBit k = true ↔ k < 6 ∧ occ c k < 4 := by
  unfold bn
  rw [setN_t, Bool.and_eq_true, decide_eq_true_iff, decide_eq_true_iff]
theorem an_t {c i : Nat} : (an c).testBit i = true ↔ i < 4 ∧ dg c i ≠ 0 := by
  unfold an
  rw [setN_t, Bool.and_eq_true, decide_eq_true_iff, decide_eq_true_iff]
theorem occ_4 {c k : Nat} : occ c k < 4 ∨ occ c k = 4 := by
  rcases occ_sp c k with h | h
  · exact Or.inr h.1
  · exact Or.inl h.1
theorem vcd_occ {m n c k : Nat} (hv : vcd m n c) (h : occ c k < 4) : k < n ∧ occ c k < m := by
  rcases occ_sp c k with ⟨h1, h2⟩ | ⟨h1, h2⟩
  · omega
  · have := hv.2.2.1 _ h1
    refine ⟨by omega, ?_⟩
    apply Classical.byContradiction
    intro h9
    have := hv.2.1 _ h1 (by omega)
    omega
theorem bn_lt {m n c : Nat} (hv : vcd m n c) (hn : n ≤ 6) : bn c < 2 ^ n := lt_of_tb (fun k hk => by
  cases h : (bn c).testBit k
  · rfl
  · have := vcd_occ hv (bn_t.mp h).2
    omega)
theorem bn_ad {m n c i k : Nat} (hv : vcd m n c) (hi : i < 4) (him : i < m) (h : dg c i = 0) (hk : k < n) (hn : n ≤ 6) (hf : occ c k = 4) : bn (adc c i k) = bn c ||| 2 ^ k := by
  apply Nat.eq_of_testBit_eq
  intro k2
  rw [set_t]
  apply Bool.eq_iff_iff.mpr
  rw [Bool.or_eq_true, bn_t, bn_t, decide_eq_true_iff, occ_ad hv hi him h hk hn hf]
  by_cases e : k2 = k
  · rw [if_pos e]
    exact ⟨fun _ => Or.inr e.symm, fun _ => ⟨by omega, hi⟩⟩
  · rw [if_neg e]
    exact ⟨fun h9 => Or.inl h9, fun h9 => h9.resolve_right (fun h8 => e h8.symm)⟩
theorem an_ad {c i k : Nat} (hi : i < 4) (h : dg c i = 0) (hk : k < 7) : an (adc c i k) = an c ||| 2 ^ i := by
  obtain ⟨d1, d2⟩ := dg_adc hi h hk
  apply Nat.eq_of_testBit_eq
  intro j
  rw [set_t]
  apply Bool.eq_iff_iff.mpr
  rw [Bool.or_eq_true, an_t, an_t, decide_eq_true_iff]
  by_cases e : j = i
  · rw [e, d1]
    exact ⟨fun _ => Or.inr rfl, fun _ => ⟨hi, by omega⟩⟩
  · constructor
    · rintro ⟨h1, h2⟩
      rw [d2 j h1 e] at h2
      exact Or.inl ⟨h1, h2⟩
    · rintro (⟨h1, h2⟩ | h1)
      · exact ⟨h1, by rw [d2 j h1 e]; exact h2⟩
      · exact absurd h1.symm e
/-- how many codes there are -/
def vcdB (c : Nat) : Bool := (List.range 4).all (fun i => decide (dg c i ≤ 6) && (List.range 4).all (fun j => !decide (dg c i = dg c j) || decide (dg c i = 0) || decide (i = j)))
theorem vcdB_n : cnt 4096 vcdB = 1045 := by decide +kernel
theorem vcd_B {m n c : Nat} (hv : vcd m n c) (hn : n ≤ 6) : vcdB c = true := by
  unfold vcdB
  rw [List.all_eq_true]
  intro i hi
  have hi4 := List.mem_range.mp hi
  rw [Bool.and_eq_true, decide_eq_true_iff, List.all_eq_true]
  refine ⟨Nat.le_trans (hv.2.2.1 i hi4) hn, fun j hj => ?_⟩
  have hj4 := List.mem_range.mp hj
  rw [Bool.or_eq_true, Bool.or_eq_true, decide_eq_true_iff, decide_eq_true_iff, Bool.not_eq_true', decide_eq_false_iff_not]
  by_cases e : dg c i = dg c j
  · rcases hv.2.2.2 i j hi4 hj4 e with h | h
    · exact Or.inl (Or.inr h)
    · exact Or.inr h
  · exact Or.inl (Or.inl e)
theorem inj_cnt {N : Nat} {f : Nat → Nat} : ∀ (k : Nat) (p : Nat → Bool), (∀ a, a < k → f a < N ∧ p (f a) = true) → (∀ a a2, a < k → a2 < k → f a = f a2 → a = a2) → k ≤ cnt N p
  | 0, _, _, _ => Nat.zero_le _
  | k + 1, p, h1, h2 => by
    have ih := inj_cnt k (fun x => p x && !decide (x = f k)) (fun a ha => ⟨(h1 a (by omega)).1, by
      show (p (f a) && !decide (f a = f k)) = true
      rw [(h1 a (by omega)).2, decide_eq_false (fun e => by have := h2 a k (by omega) (by omega) e; omega)]
      rfl⟩) (fun a a2 ha ha2 => h2 a a2 (by omega) (by omega))
    have lt : cnt N (fun x => p x && !decide (x = f k)) < cnt N p := cnt_lt (fun i _ h => (Bool.and_eq_true _ _ |>.mp h).1) ⟨f k, (h1 k (by omega)).1, (h1 k (by omega)).2, by
      show (p (f k) && !decide (f k = f k)) = false
      rw [decide_eq_true rfl, Bool.not_true, Bool.and_false]⟩
    omega
