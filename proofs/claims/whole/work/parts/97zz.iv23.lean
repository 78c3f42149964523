/-! FIRST, both sides -/
theorem AgrT_first {M M1 M2 : Mem} (hA1 : AgX (fun b j => xfX b j ∨ b = 11) M M1) (hA2 : AgX (fun b j => mfX b j ∨ rsX b j) (takM M1 940) M2) : ∀ b j, ¬ scrT b j → b ≠ 11 → ¬ (b = 69 ∧ 359 ≤ j ∧ j < 383) → M2 b j = M b j := fun b j hs h11 h69 => by
  have e : ¬ (mfX b j ∨ rsX b j) := by
    unfold mfX yX fX rsX
    unfold scrT scr at hs
    omega
  have e1 : ¬ (xfX b j ∨ b = 11) := by
    unfold xfX
    unfold scrT scr at hs
    omega
  rw [hA2 b j e]
  by_cases h67 : b = 67
  · subst h67
    unfold scrT scr at hs
    rw [takM_o (by omega) (by omega)]
    exact hA1 67 j e1
  · rw [takM_b h67]
    exact hA1 b j e1
theorem iv_23 {M : Mem} (hI : Inv M) : Step2 116 207 [] M Inv := by
  unfold Step2
  obtain ⟨t1, t2, t3⟩ := hI.1
  obtain ⟨w, l, hG, hM, r3, r4⟩ := hI.gs
  have hV := hI.V
  have hRv : Riv M w l := ⟨hG, hI.N.1, hI.L, hI.W.1, r3, r4⟩
  have ht : ∀ i, 0 ≤ M 2 i ∧ M 2 i < 256 := fun i => (t3 i).1
  obtain ⟨n, hn⟩ : ∃ n, M 1 1 = n := ⟨_, rfl⟩
  rw [hn] at t1 t2
  have RM : ∀ M1 : Mem, AgX (fun b j => xfX b j ∨ b = 11) M M1 → RivM M1 w l (M 5) (M 6) (M 7) (M 8) (M 4 4) := fun M1 hA => by
    have o69 : M1 69 = M 69 := hA.fn (fun j => by unfold xfX; omega)
    have o67 : M1 67 = M 67 := hA.fn (fun j => by unfold xfX; omega)
    exact ⟨hM.of o69, hI.N.1, hI.L, by rw [o69]; exact hV, ⟨by rw [o69]; exact hI.W.2, hI.W.1⟩, small_cg o69 hI.S.1, by rw [o67]; exact hI.con.1, by rw [o67]; exact hI.con.2.1⟩
  have TR : ∀ M1 : Mem, AgX (fun b j => xfX b j ∨ b = 11) M M1 → (∀ i, and32 (M1 68 i) 255 = M 2 i ∧ 0 ≤ M 2 i ∧ M 2 i < 256) ∧ M1 67 2 = n := fun M1 hA => by
    refine ⟨fun i => ?_, ?_⟩
    · rw [hA 68 i (by unfold xfX; omega)]
      exact ⟨oct_and (t3 i), ht i⟩
    · rw [hA 67 2 (by unfold xfX; omega)]
      exact t1
  have TP : ∀ M1 M2 : Mem, AgX (fun b j => xfX b j ∨ b = 11) M M1 → AgX (fun b j => mfX b j ∨ rsX b j) (takM M1 940) M2 → M1 1 1 = 0 → tapeR M2 M2 := fun M1 M2 hA1 hA2 h11 => by
    have a1 : M2 1 1 = 0 := by
      rw [hA2 1 1 (by unfold mfX yX fX rsX; omega), takM_b (by decide)]
      exact h11
    have a2 : M2 67 2 = 0 := by
      rw [hA2 67 2 (by unfold mfX yX fX rsX; omega)]
      exact takM_2
    refine ⟨by rw [a1, a2], by rw [a1]; exact ⟨by decide, by decide⟩, fun i => ?_⟩
    rw [hA2 2 i (by unfold mfX yX fX rsX; omega), hA2 68 i (by unfold mfX yX fX rsX; omega), takM_b (by decide), takM_b (by decide), hA1 2 i (by unfold xfX; omega), hA1 68 i (by unfold xfX; omega)]
    exact t3 i
  have same : ∀ M1 M2 : Mem, AgX xfX M M1 → AgX mfX (takM M1 940) M2 → M1 1 1 = 0 → Inv M2 := fun M1 M2 hA1 hA2 h11 => by
    have hA1' : AgX (fun b j => xfX b j ∨ b = 11) M M1 := fun b j hx => hA1 b j (fun e => hx (Or.inl e))
    have hA2' : AgX (fun b j => mfX b j ∨ rsX b j) (takM M1 940) M2 := fun b j hx => hA2 b j (fun e => hx (Or.inl e))
    refine ⟨TP M1 M2 hA1' hA2' h11, InvT_agr (fun b j hs => ?_) hI.2⟩
    by_cases c : b = 11
    · subst c
      rw [hA2 11 j (by unfold mfX yX fX; omega), takM_b (by decide)]
      exact hA1 11 j (by unfold xfX; omega)
    · by_cases c2 : b = 69
      · subst c2
        rw [hA2 69 j (by unfold mfX yX fX; omega), takM_b (by decide)]
        exact hA1 69 j (by unfold xfX; omega)
      · exact AgrT_first hA1' hA2' b j hs c (fun e => c2 e.1)
  refine s_x_first (d := 4) hRv n hn t2 ht (fun hno => ?_) (fun R0 Z M1 hs hz hA1 h11 hZ hf => ?_) (fun R0 M1 hs hz hA1 h11 hf => ?_)
  · have hA1 : AgX xfX M (up M 1 1 0) := fun b j hx => up_b' (fun e => hx (by unfold xfX; omega))
    have hA1' : AgX (fun b j => xfX b j ∨ b = 11) M (up M 1 1 0) := fun b j hx => hA1 b j (fun e => hx (Or.inl e))
    obtain ⟨q1, q2⟩ := TR _ hA1'
    exact s_m_first (d := 7) (RM _ hA1') (M 2) q1 n q2 t2 (fun _ => -1) (fun _ _ _ => rfl) (fun M2 _ hA2 => ⟨eqr_i rfl, same _ M2 hA1 hA2 up_s⟩) (fun Z M2 hs => absurd hs hno) (fun M2 hs => absurd hs hno)
  · obtain ⟨q1, q2⟩ := TR M1 hA1
    refine s_m_first (d := 7) (RM M1 hA1) (M 2) q1 n q2 t2 R0 hz (fun M2 hno => absurd hs hno) (fun Z2 M2 _ hA2 hZ2 hj hf2 => ⟨eqr_i rfl, ?_⟩) (fun M2 _ hA2 hf2 => ?_)
    · have eZ : Z2 = Z := by
        rw [hf2] at hf
        exact Option.some.inj hf
      subst eZ
      refine ⟨TP M1 M2 hA1 hA2 h11, InvT_raft (AgrT_first hA1 hA2) (fun k k0 k1 => ?_) hI.2⟩
      have c11 : ∀ j, 0 ≤ j → j < 24 → M2 11 j = Z2 j := fun j j0 j1 => by
        rw [hA2 11 j (by unfold mfX yX fX rsX; omega), takM_b (by decide)]
        exact hZ j j0 j1
      have h1 := hj.1 k k0 k1
      rw [c11 k k0 k1]
      refine ⟨hZ2 k k0 k1, h1.1, fun h9 => h1.2 (by rw [r3, r4, ← Int.natCast_mul] at h9; exact h9), fun j j0 j1 he => ?_⟩
      rw [c11 j j0 j1] at he
      rcases hj.2.1 j k j0 j1 k0 k1 he with h9 | h9
      · exact Or.inl (by omega)
      · exact Or.inr h9
    · rw [hf2] at hf
      exact absurd hf (by simp)
  · have hA1' : AgX (fun b j => xfX b j ∨ b = 11) M M1 := fun b j hx => hA1 b j (fun e => hx (Or.inl e))
    obtain ⟨q1, q2⟩ := TR M1 hA1'
    refine s_m_first (d := 7) (RM M1 hA1') (M 2) q1 n q2 t2 R0 hz (fun M2 hno => absurd hs hno) (fun Z2 M2 _ hA2 hZ2 hj hf2 => ?_) (fun M2 _ hA2 _ => ⟨eqr_i rfl, same M1 M2 hA1 hA2 h11⟩)
    rw [hf2] at hf
    exact absurd hf (by simp)
