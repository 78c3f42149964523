/-! THE FIRST CALL, case by case -/
section FS
variable {a : Nat → Int}
theorem fs_0 : Step2 96 130 [aI (a 1), aI (a 2), aI (a 3), aI (a 4), aI (a 5)] ML0 (fun _ => True) := by
  unfold Step2
  rw [s_x_feed (d := 14) (n := 0) _ _ _ _ _ (by decide +kernel) ⟨by decide, by decide⟩, if_neg (by decide), s_m_feed (d := 14) (n := 0) _ _ _ _ _ (by rw [fed5_b (by decide) (by decide)]; decide +kernel) ⟨by decide, by decide⟩, if_neg (by decide)]
  exact ⟨eqr_i rfl, trivial⟩
theorem fs_1 (ha : ∀ j, I32 (a j)) : Step2 97 132 [aI (a 1)] ML0 (fun _ => True) := by
  unfold Step2
  have e1 : ML0 1 1 = 0 := by decide +kernel
  have e2 : ML0 67 2 = 0 := by decide +kernel
  rw [s_x_end (a 1) (ha 1) (by rw [e1]; decide)]
  by_cases h : a 1 < 0 ∨ ML0 1 1 < a 1
  · rw [if_pos h, s_m_end (a 1) (ha 1) (by rw [e2]; decide), if_pos (by rw [e2, ← e1]; exact h)]
    exact ⟨eqr_i rfl, trivial⟩
  · rw [if_neg h, s_m_end (a 1) (ha 1) (by rw [up_b (by decide), e2]; decide), if_neg (by rw [up_b (by decide), e2, ← e1]; exact h)]
    exact ⟨eqr_i rfl, trivial⟩
theorem fs_3 : Step2 99 156 [] ML0 (fun _ => True) := by
  unfold Step2
  rw [s_x_fault, s_m_fault]
  exact ⟨eqr_i (by decide +kernel), trivial⟩
theorem fs_4 (ha : ∀ j, I32 (a j)) : StepT 164 ((0 ≤ a 1 ∧ a 1 < ML0 5 0) ∧ 0 ≤ a 2 ∧ a 2 < 3) (ML0 6 (a 1 * 3 + a 2)) [aI (a 1), aI (a 2)] ML0 (fun _ => True) := by
  unfold StepT
  rw [s_m_quay (d := 13) _ _ (ha 1) (ha 2) (by rw [fr_690]; decide), if_neg (by rw [fr_690]; omega), s_m_thrown]
  exact ⟨0, rfl, Or.inr ⟨by rw [fr_50]; omega, by rw [up_s]⟩, trivial⟩
theorem fs_5 (ha : ∀ j, I32 (a j)) : StepT 165 ((0 ≤ a 1 ∧ a 1 < ML0 5 1) ∧ 0 ≤ a 2 ∧ a 2 < 7) (ML0 7 (a 1 * 7 + a 2)) [aI (a 1), aI (a 2)] ML0 (fun _ => True) := by
  unfold StepT
  rw [s_m_leg (d := 13) _ _ (ha 1) (ha 2) (by rw [fr_691]; decide), if_neg (by rw [fr_691]; omega), s_m_thrown]
  exact ⟨0, rfl, Or.inr ⟨by rw [fr_51]; omega, by rw [up_s]⟩, trivial⟩
theorem fs_6 (ha : ∀ j, I32 (a j)) (v : Int) : StepT 166 ((0 ≤ a 1 ∧ a 1 < ML0 5 2) ∧ 0 ≤ a 2 ∧ a 2 ≤ 5) v [aI (a 1), aI (a 2)] ML0 (fun _ => True) := by
  unfold StepT
  rw [s_m_barge (d := 13) _ _ (ha 1) (ha 2) fr_small69 (by rw [fr_692]; decide) (by decide +kernel), if_neg (by rw [fr_692]; omega), s_m_thrown]
  exact ⟨0, rfl, Or.inr ⟨by rw [fr_52]; omega, by rw [up_s]⟩, trivial⟩
theorem fs_19 (ha : ∀ j, I32 (a j)) (v : Int) : StepT 191 ((0 ≤ a 1 ∧ a 1 < ML0 4 3) ∧ 0 ≤ a 2 ∧ a 2 < 4) v [aI (a 1), aI (a 2)] ML0 (fun _ => True) := by
  unfold StepT
  rw [s_m_act (d := 13) _ _ (ha 1) (ha 2) (by rw [fr_69118]; decide), if_neg (by rw [fr_69118]; omega), s_m_thrown]
  exact ⟨0, rfl, Or.inr ⟨by rw [fr_43]; omega, by rw [up_s]⟩, trivial⟩
theorem fs_8 (ha : ∀ j, I32 (a j)) : Step2 102 170 [aI (a 1)] ML0 (fun _ => True) := by
  unfold Step2
  rw [s_x_cell (d := 14) _ (ha 1) (by rw [fr_322]; decide), s_m_cell (d := 14) _ (ha 1) (by rw [fr_693, fr_694]; decide), fr_322, fr_693, fr_694]
  refine ⟨eqr_i ?_, trivial⟩
  by_cases h : 0 ≤ a 1 ∧ a 1 < 9
  · rw [if_pos h, if_pos (by omega), fr_i11 _ h.1 (by omega), fr_i359 _ h.1 (by omega)]
    rfl
  · rw [if_neg h, if_neg (by omega)]
theorem fs_10 (ha : ∀ j, I32 (a j)) : Step2 104 176 [aI (a 1), aI (a 2)] ML0 (fun _ => True) := by
  unfold Step2
  rw [s_x_taking0 (d := 14) _ _ (ha 1) (by rw [fr_322]; decide) (fun k h1 h2 => fr_i11 k h1 (by rw [fr_322] at h2; omega)), s_m_taking0 (d := 14) _ _ (ha 1) (by rw [fr_693, fr_694]; decide) fr_i359]
  exact ⟨eqr_i rfl, trivial⟩
theorem fs_11 (ha : ∀ j, I32 (a j)) : Step2 105 177 [aI (a 1)] ML0 (fun _ => True) := by
  unfold Step2
  have e0 : ML0 67 29 = 0 := by decide +kernel
  have e3 : ML0 45 3 = -1 := by decide +kernel
  have e4 : ML0 45 4 = -1 := by decide +kernel
  have e5 : ML0 45 5 = -1 := by decide +kernel
  have e6 : ML0 45 6 = -1 := by decide +kernel
  rw [s_x_takenBy _ (ha 1), s_m_takenBy (d := 14) _ (ha 1) (Or.inl e0), e3, e4, e5, e6, e0, if_neg (show ¬ ((0 : Int) = 1 ∧ 0 ≤ a 1 ∧ a 1 ≤ 3) from by omega)]
  refine ⟨eqr_i ?_, trivial⟩
  repeat (first | rfl | split)
theorem fs_13 (ha : ∀ j, I32 (a j)) : Step2 107 184 [aI (a 1)] ML0 (fun _ => True) := by
  unfold Step2
  rw [s_x_fits0 (d := 14) _ (ha 1) fr_RI (by rw [fr_51]; omega), s_m_fits0 (d := 13) _ (ha 1) (by rw [fr_691]; decide) (by rw [fr_691]; omega)]
  exact ⟨eqr_i rfl, trivial⟩
theorem fs_14 (ha : ∀ j, I32 (a j)) : Step2 108 185 [aI (a 1)] ML0 (fun _ => True) := by
  unfold Step2
  rw [s_x_passes0 (d := 14) _ (ha 1) fr_RI (by rw [fr_51]; omega), s_m_passes0 (d := 13) _ (ha 1) (by rw [fr_691]; decide) (by rw [fr_691]; omega)]
  exact ⟨eqr_i rfl, trivial⟩
theorem fs_15 : Step2 109 186 [] ML0 (fun _ => True) := by
  unfold Step2
  rw [s_x_passedBy, s_m_passedBy]
  exact ⟨eqr_i (by decide +kernel), trivial⟩
theorem fs_16 (ha : ∀ j, I32 (a j)) : Step2 110 187 [aI (a 1), aI (a 2)] ML0 (fun _ => True) := by
  unfold Step2
  rw [s_x_deep (d := 14) _ _ (ha 1) (ha 2) fr_RI fr_small7 (by decide +kernel), s_m_deep (d := 13) _ _ (ha 1) (ha 2) fr_small69 (by rw [fr_692]; decide) (by rw [fr_691]; decide), if_neg (by rw [fr_692]; omega), if_neg (by rw [fr_52]; omega)]
  exact ⟨eqr_i rfl, trivial⟩
theorem fs_17 (ha : ∀ j, I32 (a j)) : Step2 111 188 [aI (a 1)] ML0 (fun _ => True) := by
  unfold Step2
  rw [s_x_water _ (ha 1)]
  by_cases h : a 1 < 0 ∨ 99 < a 1
  · rw [if_pos h, s_m_water (d := 14) _ (ha 1), if_pos h]
    exact ⟨eqr_i rfl, trivial⟩
  · rw [if_neg h, s_m_water (d := 14) _ (ha 1), if_neg h]
    exact ⟨eqr_i rfl, trivial⟩
theorem fs_20 (ha : ∀ j, I32 (a j)) : Step2 113 202 [aI (a 1)] ML0 (fun _ => True) := by
  unfold Step2
  rw [s_x_judge0 _ fr_50, s_m_judge0 (d := 14) _ (ha 1) fr_690]
  exact ⟨eqr_i rfl, trivial⟩
theorem fs_21 (ha : ∀ j, I32 (a j)) : Step2 114 203 [aI (a 1)] ML0 (fun _ => True) := by
  unfold Step2
  have e1 : ML0 46 7 = 0 := by decide +kernel
  have e2 : ML0 67 40 = -1 := by decide +kernel
  rw [s_x_judged (d := 14) _ (ha 1) (Or.inl e1), s_m_judged (d := 14) _ (ha 1) (by rw [e2]; decide), e2, if_neg (by omega)]
  refine ⟨eqr_i ?_, trivial⟩
  unfold tellX
  rw [if_pos e1]
theorem fs_22 (ha : ∀ j, I32 (a j)) : Step2 115 204 [aI (a 1)] ML0 (fun _ => True) := by
  unfold Step2
  have e1 : ML0 46 6 = 0 := by decide +kernel
  have e2 : ML0 67 40 = -1 := by decide +kernel
  rw [s_x_judgedAt _ (ha 1) (by rw [e1]; decide), s_m_judgedAt (d := 14) _ (ha 1) (by rw [e2]; decide), e1, e2, if_neg (by omega), if_neg (by omega)]
  exact ⟨eqr_i rfl, trivial⟩
theorem fs_24 (ha : ∀ j, I32 (a j)) : Step2 118 215 [aI (a 1)] ML0 (fun _ => True) := by
  unfold Step2
  rw [s_x_best0 (d := 13) _ (ha 1) fr_50, s_m_best0 (d := 13) _ (ha 1) fr_690]
  exact ⟨eqr_i rfl, trivial⟩
theorem fs_25 (ha : ∀ j, I32 (a j)) : Step2 119 216 [aI (a 1)] ML0 (fun _ => True) := by
  unfold Step2
  rw [s_x_hired0 (d := 13) _ (ha 1) fr_50, s_m_hired0 (d := 13) _ fr_691]
  exact ⟨eqr_i rfl, trivial⟩
theorem fs_26 : Step2 120 217 [] ML0 (fun _ => True) := by
  unfold Step2
  rw [s_x_hiredBy, s_m_hiredBy]
  exact ⟨eqr_i (by decide +kernel), trivial⟩
theorem fs_27 (ha : ∀ j, I32 (a j)) : Step2 121 218 [aI (a 1), aI (a 2)] ML0 (fun _ => True) := by
  unfold Step2
  rw [s_x_vain0 (d := 13) _ _ (ha 2) fr_50, s_m_vain0 (d := 13) _ _ (ha 1) fr_692]
  exact ⟨eqr_i rfl, trivial⟩
theorem fs_28 (ha : ∀ j, I32 (a j)) : Step2 122 219 [aI (a 1), aI (a 2)] ML0 (fun _ => True) := by
  unfold Step2
  rw [s_x_without0 (d := 13) _ _ (ha 2) fr_50, s_m_without0 (d := 13) _ _ (ha 1) fr_692]
  exact ⟨eqr_i rfl, trivial⟩
theorem fs_29 (ha : ∀ j, I32 (a j)) : Step2 125 220 [aI (a 1)] ML0 (fun _ => True) := by
  by_cases h : a 1 < 0 ∨ 2 ≤ a 1
  · unfold Step2
    rw [s_x_image0 _ (ha 1) h, s_m_image0 (d := 14) _ (ha 1) h]
    exact ⟨eqr_i rfl, trivial⟩
  · by_cases h0 : a 1 = 0
    · rw [h0]; exact step_ex ck_29_0
    · rw [show a 1 = 1 by omega]; exact step_ex ck_29_1
theorem fs_30 (ha : ∀ j, I32 (a j)) : Step2 126 221 [aI (a 1)] ML0 (fun _ => True) := by
  by_cases h : a 1 < 0 ∨ 2 ≤ a 1
  · unfold Step2
    rw [s_x_restore0 _ (ha 1) h, s_m_restore0 (d := 14) _ (ha 1) h]
    exact ⟨eqr_i rfl, trivial⟩
  · by_cases h0 : a 1 = 0
    · rw [h0]; exact step_ex ck_30_0
    · rw [show a 1 = 1 by omega]; exact step_ex ck_30_1
theorem fs_31 (ha : ∀ j, I32 (a j)) : Step2 127 222 [aI (a 1)] ML0 (fun _ => True) := by
  unfold Step2
  have e1 : ML0 5 3 = 3 := by decide +kernel
  have e2 : ML0 5 4 = 3 := by decide +kernel
  have e3 : ML0 4 4 = 0 := by decide +kernel
  have e4 : ML0 1 1 = 0 := by decide +kernel
  have e5 : ML0 69 117 = 0 := by decide +kernel
  have e6 : ML0 67 2 = 0 := by decide +kernel
  rw [s_x_count (d := 14) _ (ha 1) fr_RI, s_m_count (d := 14) _ (ha 1) (by rw [fr_690]; decide), fr_50, fr_51, fr_52, e1, e2, fr_43, e3, e4, fr_690, fr_691, fr_692, fr_693, fr_694, fr_69118, e5, e6]
  refine ⟨eqr_i rfl, trivial⟩
end FS
theorem fresh_step (c : Nat) (hc : c < 32) (a : Nat → Int) (ha : ∀ j, I32 (a j)) : stepOf c a ML0 (fun _ => True) := by
  rcases cases_32 hc with rfl | rfl | rfl | rfl | rfl | rfl | rfl | rfl | rfl | rfl | rfl | rfl | rfl | rfl | rfl | rfl | rfl | rfl | rfl | rfl | rfl | rfl | rfl | rfl | rfl | rfl | rfl | rfl | rfl | rfl | rfl | rfl
  · exact fs_0
  · exact fs_1 ha
  · exact step_ex ck_2
  · exact fs_3
  · exact ⟨fr_RI, fs_4 ha⟩
  · exact ⟨fr_RI, fs_5 ha⟩
  · exact ⟨fr_RI, fs_6 ha _⟩
  · exact step_ex ck_7
  · exact fs_8 ha
  · exact step_ex ck_9
  · exact fs_10 ha
  · exact fs_11 ha
  · exact step_ex ck_12
  · exact fs_13 ha
  · exact fs_14 ha
  · exact fs_15
  · exact fs_16 ha
  · exact fs_17 ha
  · exact step_ex ck_18
  · exact ⟨by rw [fr_43]; decide, fs_19 ha _⟩
  · exact fs_20 ha
  · exact fs_21 ha
  · exact fs_22 ha
  · exact step_ex ck_23
  · exact fs_24 ha
  · exact fs_25 ha
  · exact fs_26
  · exact fs_27 ha
  · exact fs_28 ha
  · exact fs_29 ha
  · exact fs_30 ha
  · exact fs_31 ha
