/-! SIMPLE CALLS KEEP IT -/
theorem RVf_cg {r q l b fs fs2 : Int → Int} (hR : RIf r q b) (h : ∀ j, 0 ≤ j → j < 117 → fs2 j = fs j) (hV : RVf r q l b fs) : RVf r q l b fs2 := by
  obtain ⟨⟨a0, a1, a2, a3, a4, a5, a6, a7⟩, b1, b2, b3⟩ := hV
  have r0 := hR.1
  have r1 := hR.2.1
  have r2 := hR.2.2.1
  refine ⟨⟨by rw [h 0 (by omega) (by omega)]; exact a0, by rw [h 1 (by omega) (by omega)]; exact a1, by rw [h 2 (by omega) (by omega)]; exact a2, by rw [h 3 (by omega) (by omega)]; exact a3, by rw [h 4 (by omega) (by omega)]; exact a4, by rw [h 5 (by omega) (by omega)]; exact a5, by rw [h 6 (by omega) (by omega)]; exact a6, by rw [h 7 (by omega) (by omega)]; exact a7⟩, fun i h1 h2 => ?_, fun i h1 h2 => ?_, fun i h1 h2 => ?_⟩
  · rw [h _ (by omega) (by omega)]; exact b1 i h1 h2
  · rw [h _ (by omega) (by omega)]; exact b2 i h1 h2
  · rw [h _ (by omega) (by omega)]; exact b3 i h1 h2
theorem RFf_cg {r cs fs fs2 : Int → Int} (h : ∀ j, 359 ≤ j → fs2 j = fs j) (hV : RFf r cs fs) : RFf r cs fs2 := fun k h1 h2 => by
  rw [h _ (by omega)]
  exact hV k h1 h2
theorem PLf_cg {n : Int} {r ac fs fs2 : Int → Int} (h : ∀ j, 118 ≤ j → j < 359 → fs2 j = fs j) (hV : PLf n r ac fs) : PLf n r ac fs2 := by
  obtain ⟨h1, h2, h3, h4⟩ := hV
  exact ⟨h1, by rw [h 118 (by omega) (by omega)]; exact h2, fun i h5 h6 => by rw [h _ (by omega) (by omega)]; exact h3 i h5 h6, h4⟩
theorem tapeR_cg {Mc Mc2 Mr : Mem} (h1 : Mc2 1 1 = Mc 1 1) (h2 : Mc2 2 = Mc 2) (h : tapeR Mc Mr) : tapeR Mc2 Mr := by
  unfold tapeR at h ⊢
  rw [h1, h2]
  exact h
section IV
variable {a : Nat → Int} {M : Mem}
theorem Inv.N (h : Inv M) : NowR M := h.2.2.2.1
theorem Inv.RI (h : Inv M) : RI M := RI_f.mpr h.N.1
theorem Inv.S (h : Inv M) : SmR M := h.2.1
theorem Inv.G (h : Inv M) : GridR M := h.2.2.2.2.1
theorem Inv.V (h : Inv M) : RVf (M 5) (M 6) (M 7) (M 8) (M 69) := h.N.2.2.1
theorem Inv.F (h : Inv M) : RFf (M 5) (M 11) (M 69) := h.N.2.2.2.1
theorem Inv.P (h : Inv M) : PLf (M 4 3) (M 5) (M 12) (M 69) := h.N.2.2.2.2.1
theorem Inv.W (h : Inv M) : WTf (M 4 4) (M 69) := h.N.2.2.2.2.2.1
theorem Inv.told (h : Inv M) : ToldR M := h.2.2.2.2.2.2.2.1
theorem Inv.pas (h : Inv M) : M 0 10 = M 67 36 := h.2.2.2.2.2.2.2.2.1
theorem Inv.hir (h : Inv M) : M 0 11 = M 67 59 := h.2.2.2.2.2.2.2.2.2.1
theorem Inv.jud (h : Inv M) : JudR M := h.2.2.2.2.2.2.2.2.2.2.1
theorem Inv.con (h : Inv M) : ConR M := h.2.2.2.2.2.2.2.2.2.2.2
theorem Inv.thr (h : Inv M) : Inv (up M 67 0 0) := Inv_agr agr_thrown h
theorem Inv.thr1 (h : Inv M) : Inv (up M 67 0 1) := Inv_agr agr_thrown h
theorem iv_0 (hI : Inv M) : Step2 96 130 [aI (a 1), aI (a 2), aI (a 3), aI (a 4), aI (a 5)] M Inv := by
  unfold Step2
  have ht := hI.1
  obtain ⟨h1, h2, h3⟩ := hI.1
  rw [s_x_feed (d := 14) (n := M 1 1) _ _ _ _ _ rfl h2]
  by_cases hn : 920 < M 1 1
  · rw [if_pos hn, s_m_feed (d := 14) (n := M 67 2) _ _ _ _ _ rfl (by rw [h1]; exact h2), if_pos (by rw [h1]; exact hn)]
    exact ⟨eqr_i rfl, hI.thr⟩
  · have e2 : fed5 M 1 1 2 (fun y => and32 y 255) (M 1 1) (a 1) (a 2) (a 3) (a 4) (a 5) 67 2 = M 1 1 := by rw [fed5_b (by decide) (by decide)]; exact h1
    rw [if_neg hn, s_m_feed (d := 14) (n := M 1 1) _ _ _ _ _ e2 h2, if_neg hn]
    refine ⟨eqr_i rfl, ?_, ?_⟩
    · have t1 := tape_feed (Mr := up (fed5 M 1 1 2 (fun y => and32 y 255) (M 1 1) (a 1) (a 2) (a 3) (a 4) (a 5)) 67 0 0) (p := a 1) (q := a 2) (r := a 3) (s := a 4) (u := a 5) ⟨by rw [up_j (by decide), e2], h2, fun i => by rw [up_b (by decide), fed5_b (by decide) (by decide)]; exact h3 i⟩ rfl (by omega)
      exact tapeR_cg (by rw [fed5_b (by decide) (by decide), up_b (by decide)]) (by funext i; rw [fed5_b (by decide) (by decide), up_b (by decide)]) t1
    · refine InvT_agr (fun b j hs => ?_) hI.2
      unfold scrT scr at hs
      by_cases h67 : b = 67
      · subst h67
        rw [fed5_j (by decide) (by omega), up_j (by omega), fed5_b (by decide) (by decide)]
      · rw [fed5_b h67 (by omega), up_b h67]
        by_cases hb1 : b = 1
        · subst hb1
          rw [fed5_j (by decide) (by omega)]
        · rw [fed5_b hb1 (by omega)]
theorem iv_1 (ha : ∀ j, I32 (a j)) (hI : Inv M) : Step2 97 132 [aI (a 1)] M Inv := by
  unfold Step2
  obtain ⟨h1, h2, h3⟩ := hI.1
  rw [s_x_end (a 1) (ha 1) h2]
  by_cases h : a 1 < 0 ∨ M 1 1 < a 1
  · rw [if_pos h, s_m_end (a 1) (ha 1) (by rw [h1]; exact h2), if_pos (by rw [h1]; exact h)]
    exact ⟨eqr_i rfl, hI.thr⟩
  · rw [if_neg h, s_m_end (a 1) (ha 1) (by rw [up_b (by decide), h1]; exact h2), if_neg (by rw [up_b (by decide), h1]; exact h)]
    refine ⟨eqr_i rfl, ⟨by rw [up_s, up_b (by decide), up_b (by decide), up_s], ?_, fun i => ?_⟩, InvT_agr (fun b j hs => ?_) hI.2⟩
    · rw [up_b (by decide), up_b (by decide), up_s]
      omega
    · rw [up_b (by decide), up_b (by decide), up_b (by decide), up_b (by decide), up_b (by decide), up_b (by decide)]
      exact h3 i
    · unfold scrT scr at hs
      unfold up
      rw [if_neg (by omega), if_neg (by omega), if_neg (by omega)]
theorem iv_3 (hI : Inv M) : Step2 99 156 [] M Inv := by
  unfold Step2
  rw [s_x_fault, s_m_fault]
  exact ⟨eqr_i hI.2.2.1, hI.thr⟩
theorem iv_4 (ha : ∀ j, I32 (a j)) (hI : Inv M) : StepT 164 ((0 ≤ a 1 ∧ a 1 < M 5 0) ∧ 0 ≤ a 2 ∧ a 2 < 3) (M 6 (a 1 * 3 + a 2)) [aI (a 1), aI (a 2)] M Inv := by
  unfold StepT
  have v0 := hI.V.1.1
  rw [s_m_quay (d := 13) _ _ (ha 1) (ha 2) (by rw [v0]; exact hI.RI.1), v0]
  by_cases h : (0 ≤ a 1 ∧ a 1 ≤ M 5 0 - 1) ∧ 0 ≤ a 2 ∧ a 2 ≤ 2
  · rw [if_pos h, s_m_thrown]
    refine ⟨_, rfl, Or.inl ⟨by omega, by rw [up_s], ?_⟩, hI.thr⟩
    have e := hI.V.2.1 (3 * a 1 + a 2) (by omega) (by omega)
    rw [show 8 + 3 * a 1 + a 2 = 8 + (3 * a 1 + a 2) by omega, e, show a 1 * 3 + a 2 = 3 * a 1 + a 2 by omega]
  · rw [if_neg h, s_m_thrown]
    exact ⟨0, rfl, Or.inr ⟨by omega, by rw [up_s]⟩, hI.thr1⟩
theorem iv_5 (ha : ∀ j, I32 (a j)) (hI : Inv M) : StepT 165 ((0 ≤ a 1 ∧ a 1 < M 5 1) ∧ 0 ≤ a 2 ∧ a 2 < 7) (M 7 (a 1 * 7 + a 2)) [aI (a 1), aI (a 2)] M Inv := by
  unfold StepT
  have v1 := hI.V.1.2.1
  have r1 := hI.RI.2.1
  rw [s_m_leg (d := 13) _ _ (ha 1) (ha 2) (by rw [v1]; omega), v1]
  by_cases h : (0 ≤ a 1 ∧ a 1 ≤ M 5 1 - 1) ∧ 0 ≤ a 2 ∧ a 2 ≤ 6
  · rw [if_pos h, s_m_thrown]
    refine ⟨_, rfl, Or.inl ⟨by omega, by rw [up_s], ?_⟩, hI.thr⟩
    have e := hI.V.2.2.1 (7 * a 1 + a 2) (by omega) (by omega)
    rw [show 32 + 7 * a 1 + a 2 = 32 + (7 * a 1 + a 2) by omega, e, show a 1 * 7 + a 2 = 7 * a 1 + a 2 by omega]
  · rw [if_neg h, s_m_thrown]
    exact ⟨0, rfl, Or.inr ⟨by omega, by rw [up_s]⟩, hI.thr1⟩
theorem iv_6 (ha : ∀ j, I32 (a j)) (hI : Inv M) : StepT 166 ((0 ≤ a 1 ∧ a 1 < M 5 2) ∧ 0 ≤ a 2 ∧ a 2 ≤ 5) (if a 2 < 4 then M 8 (a 1 * 4 + a 2) else if a 2 = 4 then (if M 8 (4 * a 1) < M 8 (4 * a 1 + 1) then M 8 (4 * a 1) else 2 * (M 5 0 - 1) - M 8 (4 * a 1)) else (if M 8 (4 * a 1) < M 8 (4 * a 1 + 1) then M 8 (4 * a 1 + 1) else 2 * (M 5 0 - 1) - M 8 (4 * a 1 + 1))) [aI (a 1), aI (a 2)] M Inv := by
  unfold StepT
  have v0 := hI.V.1.1
  have v2 := hI.V.1.2.2.1
  have r2 := hI.RI.2.2.1
  rw [s_m_barge (d := 13) _ _ (ha 1) (ha 2) hI.S.1 (by rw [v2]; exact r2) hI.con.1, v2]
  by_cases h : (0 ≤ a 1 ∧ a 1 ≤ M 5 2 - 1) ∧ 0 ≤ a 2 ∧ a 2 ≤ 5
  · rw [if_pos h, s_m_thrown]
    refine ⟨_, rfl, Or.inl ⟨by omega, by rw [up_s], ?_⟩, hI.thr⟩
    have e0 := hI.V.2.2.2 (4 * a 1) (by omega) (by omega)
    have e1 := hI.V.2.2.2 (4 * a 1 + 1) (by omega) (by omega)
    have e0' : M 69 (81 + 4 * a 1) = M 8 (4 * a 1) := e0
    have e1' : M 69 (81 + 4 * a 1 + 1) = M 8 (4 * a 1 + 1) := by rw [show 81 + 4 * a 1 + 1 = 81 + (4 * a 1 + 1) by omega]; exact e1
    unfold bargeM
    rw [e0', e1', v0]
    by_cases h4 : a 2 < 4
    · rw [if_pos h4, if_pos h4]
      have e := hI.V.2.2.2 (4 * a 1 + a 2) (by omega) (by omega)
      rw [show 81 + 4 * a 1 + a 2 = 81 + (4 * a 1 + a 2) by omega, e, show a 1 * 4 + a 2 = 4 * a 1 + a 2 by omega]
    · rw [if_neg h4, if_neg h4]
  · rw [if_neg h, s_m_thrown]
    exact ⟨0, rfl, Or.inr ⟨by omega, by rw [up_s]⟩, hI.thr1⟩
theorem iv_19 (ha : ∀ j, I32 (a j)) (hI : Inv M) : StepT 191 ((0 ≤ a 1 ∧ a 1 < M 4 3) ∧ 0 ≤ a 2 ∧ a 2 < 4) (M 12 (a 1 * 4 + a 2)) [aI (a 1), aI (a 2)] M Inv := by
  unfold StepT
  have p1 := hI.P.1
  have v := hI.P.2.1
  rw [s_m_act (d := 13) _ _ (ha 1) (ha 2) (by rw [v]; exact p1), v]
  by_cases h : (0 ≤ a 1 ∧ a 1 ≤ M 4 3 - 1) ∧ 0 ≤ a 2 ∧ a 2 ≤ 3
  · rw [if_pos h, s_m_thrown]
    refine ⟨_, rfl, Or.inl ⟨by omega, by rw [up_s], ?_⟩, hI.thr⟩
    have e := hI.P.2.2.1 (4 * a 1 + a 2) (by omega) (by omega)
    rw [show 119 + 4 * a 1 + a 2 = 119 + (4 * a 1 + a 2) by omega, e, show a 1 * 4 + a 2 = 4 * a 1 + a 2 by omega]
  · rw [if_neg h, s_m_thrown]
    exact ⟨0, rfl, Or.inr ⟨by omega, by rw [up_s]⟩, hI.thr1⟩
theorem iv_16 (ha : ∀ j, I32 (a j)) (hI : Inv M) : Step2 110 187 [aI (a 1), aI (a 2)] M Inv := by
  unfold Step2
  have v1 := hI.V.1.2.1
  have v2 := hI.V.1.2.2.1
  have r1 := hI.RI.2.1
  have r2 := hI.RI.2.2.1
  have w := hI.W
  rw [s_x_deep (d := 14) _ _ (ha 1) (ha 2) hI.RI hI.S.2.1 w.1, s_m_deep (d := 13) _ _ (ha 1) (ha 2) hI.S.1 (by rw [v2]; exact r2) (by rw [v1]; exact r1), v1, v2, w.2]
  by_cases h : (0 ≤ a 1 ∧ a 1 < M 5 2) ∧ 0 ≤ a 2 ∧ a 2 < M 5 1
  · rw [if_pos h, if_pos (by omega)]
    have e1 : M 69 (32 + 7 * a 2 + 3) = M 7 (7 * a 2 + 3) := by rw [show 32 + 7 * a 2 + 3 = 32 + (7 * a 2 + 3) by omega]; exact hI.V.2.2.1 _ (by omega) (by omega)
    have e2 : M 69 (32 + 7 * a 2 + 4) = M 7 (7 * a 2 + 4) := by rw [show 32 + 7 * a 2 + 4 = 32 + (7 * a 2 + 4) by omega]; exact hI.V.2.2.1 _ (by omega) (by omega)
    have e3 : M 69 (81 + 4 * a 1 + 2) = M 8 (4 * a 1 + 2) := by rw [show 81 + 4 * a 1 + 2 = 81 + (4 * a 1 + 2) by omega]; exact hI.V.2.2.2 _ (by omega) (by omega)
    rw [e1, e2, e3]
    exact ⟨eqr_i rfl, hI.thr⟩
  · rw [if_neg h, if_neg (by omega)]
    exact ⟨eqr_i rfl, hI.thr⟩
theorem iv_17 (ha : ∀ j, I32 (a j)) (hI : Inv M) : Step2 111 188 [aI (a 1)] M Inv := by
  unfold Step2
  rw [s_x_water _ (ha 1)]
  by_cases h : a 1 < 0 ∨ 99 < a 1
  · rw [if_pos h, s_m_water (d := 14) _ (ha 1), if_pos h]
    exact ⟨eqr_i rfl, hI.thr⟩
  · rw [if_neg h, s_m_water (d := 14) _ (ha 1), if_neg h]
    refine ⟨eqr_i rfl, ?_⟩
    obtain ⟨i1, i0, i2, i3, i4, i5, i6, i7, i8, i9, i10, i11⟩ := hI
    obtain ⟨n1, n2, n3, n4, n5, n6, n7⟩ := i3
    have f : ∀ b, b ≠ 4 → b ≠ 67 → b ≠ 69 → up (up (up M 4 4 (a 1)) 67 0 0) 69 117 (a 1) b = M b := fun b h4 h67 h69 => by
      funext j
      rw [up_b h69, up_b h67, up_b h4]
    have g : ∀ j, j ≠ 0 → up (up (up M 4 4 (a 1)) 67 0 0) 69 117 (a 1) 67 j = M 67 j := fun j hj => by rw [up_b (by decide), up_j hj, up_b (by decide)]
    have k : ∀ j, j ≠ 117 → up (up (up M 4 4 (a 1)) 67 0 0) 69 117 (a 1) 69 j = M 69 j := fun j hj => by rw [up_j hj, up_b (by decide), up_b (by decide)]
    have k117 : up (up (up M 4 4 (a 1)) 67 0 0) 69 117 (a 1) 69 117 = a 1 := up_s
    have k44 : up (up (up M 4 4 (a 1)) 67 0 0) 69 117 (a 1) 4 4 = a 1 := by rw [up_b (by decide), up_b (by decide), up_s]
    have k43 : up (up (up M 4 4 (a 1)) 67 0 0) 69 117 (a 1) 4 3 = M 4 3 := by rw [up_b (by decide), up_b (by decide), up_j (by decide)]
    generalize up (up (up M 4 4 (a 1)) 67 0 0) 69 117 (a 1) = M2 at f g k k117 k44 k43 ⊢
    refine ⟨?_, ⟨?_, small_cg (f 7 (by decide) (by decide) (by decide)) i0.2.1, small_cg (f 37 (by decide) (by decide) (by decide)) i0.2.2.1, small_cg (f 17 (by decide) (by decide) (by decide)) i0.2.2.2.1, small_cg (f 26 (by decide) (by decide) (by decide)) i0.2.2.2.2.1, small_cg (f 89 (by decide) (by decide) (by decide)) i0.2.2.2.2.2.1, small_cg (f 70 (by decide) (by decide) (by decide)) i0.2.2.2.2.2.2.1, small_cg (f 71 (by decide) (by decide) (by decide)) i0.2.2.2.2.2.2.2⟩, ?_, ⟨?_, ?_, ?_, ?_, ?_, ?_, ?_⟩, ?_, ?_, ?_, ?_, ?_, ?_, ?_, ?_⟩
    · unfold tapeR at i1 ⊢
      rw [f 1 (by decide) (by decide) (by decide), f 2 (by decide) (by decide) (by decide), f 68 (by decide) (by decide) (by decide), g 2 (by decide)]
      exact i1
    · intro i h1 h2
      by_cases hi : i = 117
      · rw [hi, k117]; omega
      · rw [k i hi]; exact i0.1 i h1 h2
    · rw [f 1 (by decide) (by decide) (by decide), g 15 (by decide)]; exact i2
    · rw [f 5 (by decide) (by decide) (by decide), f 6 (by decide) (by decide) (by decide), f 8 (by decide) (by decide) (by decide)]; exact n1
    · rw [f 5 (by decide) (by decide) (by decide), f 7 (by decide) (by decide) (by decide)]; exact n2
    · rw [f 5 (by decide) (by decide) (by decide), f 6 (by decide) (by decide) (by decide), f 7 (by decide) (by decide) (by decide), f 8 (by decide) (by decide) (by decide)]
      exact RVf_cg n1 (fun j h1 h2 => k j (by omega)) n3
    · rw [f 5 (by decide) (by decide) (by decide), f 11 (by decide) (by decide) (by decide)]
      exact RFf_cg (fun j h1 => k j (by omega)) n4
    · rw [f 5 (by decide) (by decide) (by decide), f 12 (by decide) (by decide) (by decide), k43]
      exact PLf_cg (fun j h1 h2 => k j (by omega)) n5
    · rw [k44]
      exact ⟨by omega, k117⟩
    · rw [f 5 (by decide) (by decide) (by decide), f 9 (by decide) (by decide) (by decide), f 10 (by decide) (by decide) (by decide), f 72 (by decide) (by decide) (by decide)]; exact n7
    · unfold GridR at i4 ⊢
      rw [f 5 (by decide) (by decide) (by decide), f 32 (by decide) (by decide) (by decide), f 33 (by decide) (by decide) (by decide)]; exact i4
    · unfold Kept0 at i5 ⊢
      rw [f 14 (by decide) (by decide) (by decide), f 15 (by decide) (by decide) (by decide), f 16 (by decide) (by decide) (by decide), f 17 (by decide) (by decide) (by decide), f 18 (by decide) (by decide) (by decide), f 19 (by decide) (by decide) (by decide), f 20 (by decide) (by decide) (by decide), f 21 (by decide) (by decide) (by decide), f 22 (by decide) (by decide) (by decide), f 89 (by decide) (by decide) (by decide), f 90 (by decide) (by decide) (by decide), f 91 (by decide) (by decide) (by decide)]; exact i5
    · unfold Kept1 at i6 ⊢
      rw [f 23 (by decide) (by decide) (by decide), f 24 (by decide) (by decide) (by decide), f 25 (by decide) (by decide) (by decide), f 26 (by decide) (by decide) (by decide), f 27 (by decide) (by decide) (by decide), f 28 (by decide) (by decide) (by decide), f 29 (by decide) (by decide) (by decide), f 30 (by decide) (by decide) (by decide), f 31 (by decide) (by decide) (by decide), f 89 (by decide) (by decide) (by decide), f 90 (by decide) (by decide) (by decide), f 91 (by decide) (by decide) (by decide)]; exact i6
    · unfold ToldR at i7 ⊢
      rw [f 45 (by decide) (by decide) (by decide), f 76 (by decide) (by decide) (by decide), g 29 (by decide)]; exact i7
    · rw [f 0 (by decide) (by decide) (by decide), g 36 (by decide)]; exact i8
    · rw [f 0 (by decide) (by decide) (by decide), g 59 (by decide)]; exact i9
    · unfold JudR tellX at i10 ⊢
      rw [f 46 (by decide) (by decide) (by decide), f 48 (by decide) (by decide) (by decide), f 80 (by decide) (by decide) (by decide), f 81 (by decide) (by decide) (by decide), g 40 (by decide)]; exact i10
    · unfold ConR at i11 ⊢
      rw [f 88 (by decide) (by decide) (by decide), f 3 (by decide) (by decide) (by decide), f 73 (by decide) (by decide) (by decide), g 21 (by decide), g 31 (by decide)]; exact i11
theorem iv_8 (ha : ∀ j, I32 (a j)) (hI : Inv M) : Step2 102 170 [aI (a 1)] M Inv := by
  unfold Step2
  obtain ⟨w, l, hw, hl, g3, g4, -, -, g2, -⟩ := hI.G
  have hwl : 1 ≤ w * l ∧ w * l ≤ 24 := ⟨Nat.mul_pos hw.1 hl.1, Nat.le_trans (Nat.mul_le_mul hw.2 hl.2) (by decide)⟩
  have v3 : M 69 3 = (w : Int) := hI.V.1.2.2.2.1.trans g3
  have v4 : M 69 4 = (l : Int) := hI.V.1.2.2.2.2.1.trans g4
  have e : M 69 3 * M 69 4 = M 32 2 := by rw [v3, v4, g2]; exact (Int.natCast_mul w l).symm
  rw [s_x_cell (d := 14) _ (ha 1) (by rw [g2]; omega), s_m_cell (d := 14) _ (ha 1) (by rw [v3, v4]; omega), e]
  refine ⟨eqr_i ?_, hI.thr⟩
  by_cases h : 0 ≤ a 1 ∧ a 1 < M 32 2
  · rw [if_pos h, if_pos h, (hI.F (a 1) h.1 (by rw [g2] at h; omega)).1]
    omega
  · rw [if_neg h, if_neg h]
theorem iv_11 (ha : ∀ j, I32 (a j)) (hI : Inv M) : Step2 105 177 [aI (a 1)] M Inv := by
  unfold Step2
  rcases hI.told with ⟨e0, e3, e4, e5, e6⟩ | ⟨e0, e3, e4, e5, e6⟩
  · rw [s_x_takenBy _ (ha 1), s_m_takenBy (d := 14) _ (ha 1) (Or.inl e0), e3, e4, e5, e6, e0, if_neg (show ¬ ((0 : Int) = 1 ∧ 0 ≤ a 1 ∧ a 1 ≤ 3) from by omega)]
    refine ⟨eqr_i ?_, hI.thr⟩
    repeat (first | rfl | split)
  · rw [s_x_takenBy _ (ha 1), s_m_takenBy (d := 14) _ (ha 1) (Or.inr e0), e0]
    refine ⟨eqr_i ?_, hI.thr⟩
    by_cases h : 0 ≤ a 1 ∧ a 1 ≤ 3
    · rw [if_pos (show (1 : Int) = 1 ∧ 0 ≤ a 1 ∧ a 1 ≤ 3 from ⟨rfl, h⟩)]
      rcases (show a 1 = 0 ∨ a 1 = 1 ∨ a 1 = 2 ∨ a 1 = 3 by omega) with h9 | h9 | h9 | h9
      · rw [h9, e3]; rfl
      · rw [h9, e4]; rfl
      · rw [h9, e5]; rfl
      · rw [h9, e6]; rfl
    · rw [if_neg (show ¬ ((1 : Int) = 1 ∧ 0 ≤ a 1 ∧ a 1 ≤ 3) from fun h9 => h h9.2), if_neg (fun h9 => h ⟨by omega, by omega⟩), if_neg (fun h9 => h ⟨by omega, by omega⟩), if_neg (fun h9 => h ⟨by omega, by omega⟩), if_neg (fun h9 => h ⟨by omega, by omega⟩)]
theorem iv_15 (hI : Inv M) : Step2 109 186 [] M Inv := by
  unfold Step2
  rw [s_x_passedBy, s_m_passedBy]
  exact ⟨eqr_i hI.pas, hI.thr⟩
theorem iv_26 (hI : Inv M) : Step2 120 217 [] M Inv := by
  unfold Step2
  rw [s_x_hiredBy, s_m_hiredBy]
  exact ⟨eqr_i hI.hir, hI.thr⟩
theorem iv_21 (ha : ∀ j, I32 (a j)) (hI : Inv M) : Step2 114 203 [aI (a 1)] M Inv := by
  unfold Step2
  rcases hI.jud with ⟨j1, j2, j3⟩ | ⟨j1, j2, j3, j4, j5⟩
  · rw [s_x_judged (d := 14) _ (ha 1) (Or.inl j1), s_m_judged (d := 14) _ (ha 1) (by rw [j3]; decide), j3, if_neg (by omega)]
    refine ⟨eqr_i ?_, hI.thr⟩
    unfold tellX
    rw [if_pos j1]
  · rw [s_x_judged (d := 14) _ (ha 1) (Or.inr j1), s_m_judged (d := 14) _ (ha 1) (by rw [j3]; omega)]
    refine ⟨eqr_i ?_, hI.thr⟩
    by_cases h : 0 ≤ a 1 ∧ a 1 ≤ 5
    · rw [if_pos ⟨by rw [j3]; omega, h⟩, j4 _ h.1 h.2]
    · rw [if_neg (fun h9 => h h9.2)]
      unfold tellX
      rw [if_neg (by omega), if_neg (by omega), if_neg (by omega), if_neg (by omega), if_neg (by omega), if_neg (by omega), if_neg (by omega)]
theorem iv_22 (ha : ∀ j, I32 (a j)) (hI : Inv M) : Step2 115 204 [aI (a 1)] M Inv := by
  unfold Step2
  rcases hI.jud with ⟨j1, j2, j3⟩ | ⟨j1, j2, j3, j4, j5⟩
  · rw [s_x_judgedAt _ (ha 1) (by rw [j2]; decide), s_m_judgedAt (d := 14) _ (ha 1) (by rw [j3]; decide), j2, j3, if_neg (by omega), if_neg (by omega)]
    exact ⟨eqr_i rfl, hI.thr⟩
  · rw [s_x_judgedAt _ (ha 1) (by omega), s_m_judgedAt (d := 14) _ (ha 1) (by rw [j3]; omega), j3]
    refine ⟨eqr_i ?_, hI.thr⟩
    by_cases h : 0 ≤ a 1 ∧ a 1 < M 46 6
    · rw [if_pos h, if_pos h, j5 _ h.1 (by omega)]
      omega
    · rw [if_neg h, if_neg h]
theorem iv_31 (ha : ∀ j, I32 (a j)) (hI : Inv M) : Step2 127 222 [aI (a 1)] M Inv := by
  unfold Step2
  obtain ⟨⟨v0, v1, v2, v3, v4, -⟩, -⟩ := hI.V
  have r0 := hI.RI.1
  rw [s_x_count (d := 14) _ (ha 1) hI.RI, s_m_count (d := 14) _ (ha 1) (by rw [v0]; exact r0), v0, v1, v2, v3, v4, hI.P.2.1, hI.W.2, hI.1.1]
  refine ⟨eqr_i ?_, hI.thr⟩
  by_cases h : M 5 0 = 0
  · rw [if_pos h, if_pos h]
  · rw [if_neg h, if_neg h, show 2 * M 5 0 - 1 = 2 * (M 5 0 - 1) + 1 by omega]
end IV
