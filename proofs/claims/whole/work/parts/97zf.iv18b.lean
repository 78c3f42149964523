/-! THE CALL plan, what holds behind it -/
theorem iv_18 {M : Mem} (hI : Inv M) : Step2 112 190 [] M Inv := by
  unfold Step2
  obtain ⟨⟨t1, t2, t3⟩, hT⟩ := hI
  have hSm := hT.1
  have hCon : ConR M := hT.2.2.2.2.2.2.2.2.2.2
  have hNow := hT.2.2.1
  obtain ⟨s1, s2, s3, s4, s5, s6, s7⟩ := hNow
  have r0 := s1.1
  have r1 := s1.2.1
  have r2 := s1.2.2.1
  obtain ⟨len, hlen⟩ : ∃ len : Nat, M 1 1 = (len : Int) := ⟨(M 1 1).toNat, by omega⟩
  obtain ⟨m, hm⟩ : ∃ m : Nat, M 5 2 = (m : Int) := ⟨(M 5 2).toNat, by omega⟩
  have hl : len ≤ 940 := by omega
  have bT : ∀ i, 0 ≤ M 2 i ∧ M 2 i < 256 := fun i => (t3 i).1
  have mT : ∀ i, and32 (M 68 i) 255 = M 2 i := fun i => oct_and (t3 i)
  obtain ⟨F, hF⟩ : ∃ F : Nat → List Nat, ∀ i : Nat, i < m → (F i).length ≤ 6 ∧ (∀ x ∈ F i, 1 ≤ x ∧ x ≤ 26) ∧ M 10 (i : Int) = nm32 (F i) ∧ M 72 (8 + (i : Int)) = nm256 (F i) := by
    have sk : ∀ i : Nat, ∃ w : List Nat, i < m → w.length ≤ 6 ∧ (∀ x ∈ w, 1 ≤ x ∧ x ≤ 26) ∧ M 10 (i : Int) = nm32 w ∧ M 72 (8 + (i : Int)) = nm256 w := fun i => by
      by_cases c : i < m
      · obtain ⟨w, w1, w2, w3, w4⟩ := s7.2 (i : Int) (by omega) (by omega)
        exact ⟨w, fun _ => ⟨w1, w2, w3, w4⟩⟩
      · exact ⟨[], fun h9 => absurd h9 c⟩
    exact ⟨fun i => Classical.choose (sk i), fun i hi => Classical.choose_spec (sk i) hi⟩
  have e69 : M 69 2 = (m : Int) := by rw [s3.1.2.2.1]; exact hm
  refine s_x_plan (d := 7) (T := M 2) (F := F) (m := m) hlen hl (fun i _ _ => rfl) bT hCon.2.2.2.1 hSm.2.2.1 (by omega) hm (fun i hi => ⟨(hF i hi).2.2.1, (hF i hi).1, (hF i hi).2.1⟩) ?_
  cases hp : pPln (M 2) len (min len 600) 600 F m 61 0 (tok (M 2) len (min len 600) 0) (fun _ => 0) with
  | inl e =>
    intro M1 a1 a2 a3
    have f1 : ∀ b j, ¬ (b = 1 ∨ (34 ≤ b ∧ b ≤ 42)) → up M1 1 1 0 b j = M b j := fun b j hx => by
      rw [up_b (by omega)]
      exact a1 b j (by unfold tcR; omega)
    have f1' : ∀ b, ¬ (b = 1 ∨ (34 ≤ b ∧ b ≤ 42)) → up M1 1 1 0 b = M b := fun b hx => funext fun j => f1 b j hx
    refine s_m_plan (d := 10) (T := M 2) (F := F) (m := m) (by rw [f1 67 2 (by decide), t1, hlen]) hl (fun i _ _ => by rw [f1 68 i (by decide)]; exact mT i) bT (by rw [f1' 73 (by decide)]; exact hCon.2.2.2.2) (small_cg (f1' 70 (by decide)) hSm.2.2.2.2.2.2.1) (small_cg (f1' 71 (by decide)) hSm.2.2.2.2.2.2.2) (by omega) (by rw [f1 69 2 (by decide)]; exact e69) (fun i hi => ⟨by rw [f1 72 _ (by decide)]; exact (hF i hi).2.2.2, (hF i hi).1, (hF i hi).2.1⟩) ?_
    rw [hp]
    intro M2 c1 c2 c3 c4 c5
    refine ⟨eqr_i rfl, ?_⟩
    have g : ∀ b j, ¬ tmT b j → M2 b j = up M1 1 1 0 b j := c1
    have g' : ∀ b, b ≠ 67 → b ≠ 70 → b ≠ 71 → b ≠ 72 → M2 b = up M1 1 1 0 b := fun b h1 h2 h3 h4 => funext fun j => g b j (by unfold tmT; omega)
    have G : ∀ b, b ≠ 67 → b ≠ 70 → b ≠ 71 → b ≠ 72 → ¬ (b = 1 ∨ (34 ≤ b ∧ b ≤ 42)) → M2 b = M b := fun b h1 h2 h3 h4 h5 => (g' b h1 h2 h3 h4).trans (f1' b h5)
    have k72 : ∀ j, 0 ≤ j → j < 17 → M2 72 j = M 72 j := fun j h0 h1 => by rw [g 72 j (by unfold tmT; omega)]; exact f1 72 j (by decide)
    refine ⟨⟨?_, ?_, fun i => ?_⟩, InvT_n (M := M) (fun b j hx => ?_) hT ⟨small_cg (G 69 (by decide) (by decide) (by decide) (by decide) (by decide)) hSm.1, small_cg (G 7 (by decide) (by decide) (by decide) (by decide) (by decide)) hSm.2.1, ?_, c2, c3⟩ ?_ ?_ ?_⟩
    · rw [c5, g 1 1 (by unfold tmT; omega), up_s]
    · rw [g 1 1 (by unfold tmT; omega), up_s]; decide
    · rw [G 2 (by decide) (by decide) (by decide) (by decide) (by decide), G 68 (by decide) (by decide) (by decide) (by decide) (by decide)]
      exact t3 i
    · rw [g b j (by unfold tmT; unfold scrN at hx; omega)]
      exact f1 b j (by unfold scrN at hx; omega)
    · intro i h0 h1
      rw [g 37 i (by unfold tmT; omega), up_b (by decide)]
      exact a2 i h0 h1
    · rw [g 1 9 (by unfold tmT; omega), up_j (by decide), a3, c4]
    · unfold NowR
      have k : ∀ b, 4 ≤ b → b ≤ 12 ∨ b = 69 → M2 b = M b := fun b h1 h2 => G b (by omega) (by omega) (by omega) (by omega) (by omega)
      rw [k 4 (by decide) (by decide), k 5 (by decide) (by decide), k 6 (by decide) (by decide), k 7 (by decide) (by decide), k 8 (by decide) (by decide), k 9 (by decide) (by decide), k 10 (by decide) (by decide), k 11 (by decide) (by decide), k 12 (by decide) (by decide), k 69 (by decide) (by decide)]
      exact ⟨s1, s2, s3, s4, s5, s6, NMf_cg ⟨r0.2, r2.2⟩ k72 s7⟩
    · have i4 := hT.2.2.2.1
      unfold GridR at i4 ⊢
      rw [G 32 (by decide) (by decide) (by decide) (by decide) (by decide), G 33 (by decide) (by decide) (by decide) (by decide) (by decide), G 5 (by decide) (by decide) (by decide) (by decide) (by decide)]
      exact i4
  | inr x =>
    intro Ma a1 a2 a3 a4 a5 a6
    obtain ⟨u, ac, n⟩ := x
    have a5' : aOK ac n (m : Int) := a5
    have a4' : n ≤ 60 := a4
    have a6' : ∀ i, 0 ≤ i → i < 4 * (n : Int) → Ma 41 i = ac i := a6
    obtain ⟨M1, hM1⟩ : ∃ M1, M1 = up (cpy (up Ma 1 1 0) 41 12 0 0 240) 4 3 (n : Int) := ⟨_, rfl⟩
    have f0 : ∀ b j, ¬ (b = 1 ∨ (34 ≤ b ∧ b ≤ 42)) → up Ma 1 1 0 b j = M b j := fun b j hx => by
      rw [up_b (by omega)]
      exact a1 b j (by unfold tcR; omega)
    have f1 : ∀ b j, ¬ (b = 1 ∨ b = 12 ∨ (34 ≤ b ∧ b ≤ 42)) → ¬ (b = 4 ∧ j = 3) → M1 b j = M b j := fun b j hx hy => by
      rw [hM1, up_b' hy, cpy_b (by omega), f0 b j (by omega)]
    have f1' : ∀ b, ¬ (b = 1 ∨ b = 12 ∨ b = 4 ∨ (34 ≤ b ∧ b ≤ 42)) → M1 b = M b := fun b hx => funext fun j => f1 b j (by omega) (by omega)
    show XC 15 190 [aR 22 0 67] (up (cpy (up Ma 1 1 0) 41 12 0 0 240) 4 3 (n : Int)) _
    rw [← hM1]
    refine s_m_plan (d := 10) (T := M 2) (F := F) (m := m) (by rw [f1 67 2 (by decide) (by decide), t1, hlen]) hl (fun i _ _ => by rw [f1 68 i (by decide) (by omega)]; exact mT i) bT (by rw [f1' 73 (by decide)]; exact hCon.2.2.2.2) (small_cg (f1' 70 (by decide)) hSm.2.2.2.2.2.2.1) (small_cg (f1' 71 (by decide)) hSm.2.2.2.2.2.2.2) (by omega) (by rw [f1 69 2 (by decide) (by decide)]; exact e69) (fun i hi => ⟨by rw [f1 72 _ (by decide) (by omega)]; exact (hF i hi).2.2.2, (hF i hi).1, (hF i hi).2.1⟩) ?_
    rw [hp]
    intro Mr c1 c2 c3 c4 c5 c6 c7 c8 M2 d1 d2 d3
    refine ⟨eqr_i rfl, ?_⟩
    have d1' : ∀ b j, ¬ (b = 69 ∧ 118 ≤ j ∧ j < 119 + 4 * (n : Int)) → M2 b j = Mr b j := d1
    have d2' : M2 69 118 = (n : Int) := d2
    have d3' : ∀ j, 0 ≤ j → j < 4 * (n : Int) → M2 69 (119 + j) = ac j := d3
    have g : ∀ b j, ¬ tmT b j → ¬ (b = 69 ∧ 118 ≤ j ∧ j < 119 + 4 * (n : Int)) → M2 b j = M1 b j := fun b j hx hy => by
      rw [d1' b j hy]
      exact c1 b j hx
    have G : ∀ b, b ≠ 67 → b ≠ 69 → b ≠ 70 → b ≠ 71 → b ≠ 72 → ¬ (b = 1 ∨ b = 12 ∨ b = 4 ∨ (34 ≤ b ∧ b ≤ 42)) → M2 b = M b := fun b h1 h0 h2 h3 h4 h5 => funext fun j => by
      rw [g b j (by unfold tmT; omega) (by omega)]
      exact f1 b j (by omega) (by omega)
    have k69 : ∀ j, j < 118 ∨ 359 ≤ j → M2 69 j = M 69 j := fun j hj => by
      rw [g 69 j (by unfold tmT; omega) (by omega)]
      exact f1 69 j (by decide) (by omega)
    have k72 : ∀ j, 0 ≤ j → j < 17 → M2 72 j = M 72 j := fun j h0 h1 => by rw [g 72 j (by unfold tmT; omega) (by omega)]; exact f1 72 j (by decide) (by omega)
    have k12 : ∀ j, 0 ≤ j → j < 4 * (n : Int) → M2 12 j = ac j := fun j h0 h1 => by
      rw [g 12 j (by unfold tmT; omega) (by omega), hM1, up_b (by decide), cpy_0 h0 (by omega), up_b (by decide)]
      exact a6' j h0 h1
    have k43 : M2 4 3 = (n : Int) := by rw [g 4 3 (by unfold tmT; omega) (by omega), hM1, up_s]
    have k44 : M2 4 4 = M 4 4 := by rw [g 4 4 (by unfold tmT; omega) (by omega)]; exact f1 4 4 (by decide) (by decide)
    have hN : NowR M2 := by
      unfold NowR
      have k : ∀ b, (5 ≤ b ∧ b ≤ 11) → M2 b = M b := fun b h1 => G b (by omega) (by omega) (by omega) (by omega) (by omega) (by omega)
      rw [k 5 (by decide), k 6 (by decide), k 7 (by decide), k 8 (by decide), k 9 (by decide), k 10 (by decide), k 11 (by decide)]
      refine ⟨s1, s2, ⟨⟨?_, ?_, ?_, ?_, ?_, ?_, ?_, ?_⟩, fun i i0 i1 => ?_, fun i i0 i1 => ?_, fun i i0 i1 => ?_⟩, fun k9 k0 k1 => ?_, ⟨by rw [k43]; omega, by rw [k43]; exact d2', fun i i0 i1 => ?_, fun i i0 i1 => ?_⟩, ⟨by rw [k44]; exact s6.1, by rw [k44, k69 117 (by decide)]; exact s6.2⟩, NMf_cg ⟨r0.2, r2.2⟩ k72 s7⟩
      · rw [k69 0 (by decide)]; exact s3.1.1
      · rw [k69 1 (by decide)]; exact s3.1.2.1
      · rw [k69 2 (by decide)]; exact s3.1.2.2.1
      · rw [k69 3 (by decide)]; exact s3.1.2.2.2.1
      · rw [k69 4 (by decide)]; exact s3.1.2.2.2.2.1
      · rw [k69 5 (by decide)]; exact s3.1.2.2.2.2.2.1
      · rw [k69 6 (by decide)]; exact s3.1.2.2.2.2.2.2.1
      · rw [k69 7 (by decide)]; exact s3.1.2.2.2.2.2.2.2
      · rw [k69 _ (by omega)]; exact s3.2.1 i i0 i1
      · rw [k69 _ (by omega)]; exact s3.2.2.1 i i0 i1
      · rw [k69 _ (by omega)]; exact s3.2.2.2 i i0 i1
      · rw [k69 _ (by omega)]; exact s4 k9 k0 k1
      · rw [k43] at i1
        rw [d3' i i0 i1, k12 i i0 i1]
      · rw [k43] at i1
        rw [k12 _ (by omega) (by omega), k12 _ (by omega) (by omega), k12 _ (by omega) (by omega), k12 _ (by omega) (by omega), hm]
        exact a5' i i0 i1
    refine ⟨⟨?_, ?_, fun i => ?_⟩, InvT_n (M := M) (fun b j hx => ?_) hT ⟨fun i h0 h1 => ?_, small_cg (G 7 (by decide) (by decide) (by decide) (by decide) (by decide) (by decide)) hSm.2.1, ?_, fun i h0 h1 => ?_, fun i h0 h1 => ?_⟩ ?_ hN ?_⟩
    · rw [d1' 67 2 (by omega), c5, g 1 1 (by unfold tmT; omega) (by omega), hM1, up_b (by decide), cpy_b (by decide), up_s]
    · rw [g 1 1 (by unfold tmT; omega) (by omega), hM1, up_b (by decide), cpy_b (by decide), up_s]; decide
    · rw [G 2 (by decide) (by decide) (by decide) (by decide) (by decide) (by decide), G 68 (by decide) (by decide) (by decide) (by decide) (by decide) (by decide)]
      exact t3 i
    · rw [g b j (by unfold tmT; unfold scrN at hx; omega) (by unfold scrN at hx; omega)]
      exact f1 b j (by unfold scrN at hx; omega) (by unfold scrN at hx; omega)
    · by_cases e1 : i < 118 ∨ 359 ≤ i
      · rw [k69 i e1]; exact hSm.1 i h0 h1
      · by_cases e2 : i = 118
        · rw [e2, d2']; omega
        · by_cases e3 : i < 119 + 4 * (n : Int)
          · have := d3' (i - 119) (by omega) (by omega)
            rw [show 119 + (i - 119) = i by omega] at this
            rw [this, ← show Mr 71 (i - 119) = ac (i - 119) from c8 (i - 119) (by omega) (by show i - 119 < 4 * (n : Int); omega)]
            exact c3 (i - 119) (by omega) (by show i - 119 < ((240 : Nat) : Int); omega)
          · rw [g 69 i (by unfold tmT; omega) (by omega), f1 69 i (by decide) (by omega)]
            exact hSm.1 i h0 h1
    · intro i h0 h1
      rw [g 37 i (by unfold tmT; omega) (by omega), hM1, up_b (by decide), cpy_b (by decide), up_b (by decide)]
      exact a2 i h0 h1
    · rw [d1' 70 i (by omega)]; exact c2 i h0 h1
    · rw [d1' 71 i (by omega)]; exact c3 i h0 h1
    · rw [g 1 9 (by unfold tmT; omega) (by omega), hM1, up_b (by decide), cpy_b (by decide), up_j (by decide), a3, d1' 67 15 (by omega), c4]
    · have i4 := hT.2.2.2.1
      unfold GridR at i4 ⊢
      rw [G 32 (by decide) (by decide) (by decide) (by decide) (by decide) (by decide), G 33 (by decide) (by decide) (by decide) (by decide) (by decide) (by decide), G 5 (by decide) (by decide) (by decide) (by decide) (by decide) (by decide)]
      exact i4
