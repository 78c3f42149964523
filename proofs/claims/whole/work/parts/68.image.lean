/-! IMAGE -/
theorem cpy_s {M : Mem} {s d : Nat} {dp n : Int} (h : s ≠ d) (h0 : 0 ≤ n) : up (cpy M s d 0 dp n) d (dp + n) (M s n) = cpy M s d 0 dp (n + 1) := by
  funext b j
  unfold up cpy
  by_cases h1 : b = d
  · by_cases h2 : j = dp + n
    · rw [if_pos ⟨h1, h2⟩, if_pos ⟨h1, by omega, by omega⟩]
      congr 1
      omega
    · rw [if_neg (fun h9 => h2 h9.2)]
      by_cases h3 : dp ≤ j ∧ j < dp + n
      · rw [if_pos ⟨h1, h3⟩, if_pos ⟨h1, by omega, by omega⟩]
      · rw [if_neg (fun h9 => h3 h9.2), if_neg (fun h9 => h3 ⟨h9.2.1, by omega⟩)]
  · rw [if_neg (fun h9 => h1 h9.1), if_neg (fun h9 => h1 h9.1), if_neg (fun h9 => h1 h9.1)]
theorem cpy_z {M : Mem} {s d : Nat} {dp : Int} : cpy M s d 0 dp 0 = M := by
  funext b j
  unfold cpy
  rw [if_neg (by omega)]
theorem cpy_in {M : Mem} {s d : Nat} {dp n j : Int} (h0 : dp ≤ j) (h1 : j < dp + n) : cpy M s d 0 dp n d j = M s (j - dp) := by
  unfold cpy
  rw [if_pos ⟨rfl, h0, h1⟩]
  congr 1
  omega
theorem cpy_out {M : Mem} {s d : Nat} {dp n j : Int} (h : j < dp ∨ dp + n ≤ j) : cpy M s d 0 dp n d j = M d j := by
  unfold cpy
  rw [if_neg (by omega)]
section IM
variable {d : Nat} {M : Mem} {Q : List AV → Mem → Prop}
theorem m_img_1 (k : Int) (hk : 0 ≤ k ∧ k ≤ 1) : ∀ (n : Nat) (i : Int), 0 ≤ i → i + n = 383 → (XL d 220 18 [aR 22 0 67, aI k, aI i] [] (cpy M 69 89 0 (383 * k) i) Q ↔ XL d 220 49 [aR 22 0 67, aI k, aI 383] [] (cpy M 69 89 0 (383 * k) 383) Q) := by
  intro n
  induction n with
  | zero =>
    intro i h0 h1
    have hi : i = 383 := by omega
    have e2 : w32 383 = 383 := rfl
    rw [hi]
    rw [b_220_18, k_220_18]
    simp (disch := first | exact nl_i _ | exact nl_r _ | exact Nat.le_of_ble_eq_true rfl | exact Or.inl rfl | exact Or.inr rfl | exact w8_lo _ | exact w8_hi _ | decide | omega) only [v_fall, v_il_0, v_al_0, v_is_0, v_as_0, v_inc_0, v_ll_0, v_ls_0, v_il_1, v_al_1, v_is_1, v_as_1, v_inc_1, v_ll_1, v_ls_1, v_il_2, v_al_2, v_is_2, v_as_2, v_inc_2, v_ll_2, v_ls_2, v_il_3, v_al_3, v_is_3, v_as_3, v_inc_3, v_ll_3, v_ls_3, v_il_4, v_al_4, v_is_4, v_as_4, v_inc_4, v_ll_4, v_ls_4, v_il_5, v_al_5, v_is_5, v_as_5, v_inc_5, v_ll_5, v_ls_5, v_il_6, v_al_6, v_is_6, v_as_6, v_inc_6, v_il_7, v_al_7, v_is_7, v_as_7, v_inc_7, v_il_8, v_al_8, v_is_8, v_as_8, v_inc_8, v_il_9, v_al_9, v_is_9, v_as_9, v_inc_9, v_il_10, v_al_10, v_is_10, v_as_10, v_inc_10, v_il_11, v_al_11, v_is_11, v_as_11, v_inc_11, v_il_12, v_al_12, v_is_12, v_as_12, v_inc_12, v_il_13, v_al_13, v_is_13, v_as_13, v_inc_13, v_c_8, v_c_9, v_c_10, v_c_11, v_c_12, v_c_13, v_c_14, v_b_15, v_b_16, v_b_17, v_b_21, v_b_22, v_b_23, v_b_24, v_b_25, v_b_26, v_b_18, v_b_19, v_b_20, v_b_27, v_b_28, v_b_29, v_b_30, v_b_31, v_dup_i, v_dup_r, v_dup2, v_pop, v_gi, v_gl, v_gr, v_pi, v_pl, v_pz, v_iald, v_lald, v_bald, v_zald, v_aald, v_iast, v_last, v_bast, v_zast, v_alen_0, v_alen_1, v_alen_2, v_alen_3, v_alen_4, v_j_45, v_j_46, v_j_47, v_j_48, v_j_49, v_j_50, v_j_51, v_j_52, v_j_53, v_j_54, v_j_55, v_j_56, v_goto, v_sw, v_ret_i, v_ret_z, v_ret, v_cpy, v_iv_1, v_iv_2, v_iv_3, v_iv_4, v_iv_5, v_iv_6, v_is2_1, v_is2_2, v_is2_3, v_ivJ, List.nil_append, List.cons_append, rf_0_0, rf_0_1, rf_0_2, rf_0_3, rf_0_4, rf_0_5, rf_0_6, rf_0_7, rf_0_8, rf_0_9, rf_1_0, rf_1_2, rf_4_0, rf_4_1, rf_4_2, rf_5_8, rf_5_9, rf_5_10, rf_5_11, rf_5_12, rf_13_0, rf_13_1, rf_14_0, rf_14_1, rf_14_2, rf_15_8, rf_15_9, rf_15_10, rf_15_11, rf_15_12, rf_23_0, rf_23_1, rf_23_2, rf_24_8, rf_24_9, rf_24_10, rf_24_11, rf_24_12, rf_32_6, rf_34_0, rf_34_1, rf_34_2, rf_34_3, rf_35_8, rf_35_9, rf_35_10, rf_35_11, rf_35_12, rf_43_0, rf_43_1, rf_43_2, rf_43_3, rf_45_0, rf_45_1, rf_46_0, rf_46_1, rf_46_2, rf_46_3, rf_46_4, rf_46_5, rf_47_0, rf_47_1, rf_49_0, rf_49_1, rf_49_2, rf_49_3, rf_49_4, rf_49_5, rf_53_0, rf_53_1, rf_53_2, rf_53_3, rf_53_4, rf_53_5, rf_53_6, rf_53_7, rf_53_9, rf_53_10, rf_53_11, rf_53_12, rf_53_13, rf_54_0, rf_54_1, rf_55_1, rf_55_2, rf_55_3, rf_67_1, rf_67_6, rf_67_7, rf_67_8, rf_67_9, rf_67_10, rf_67_22, rf_67_23, rf_67_28, rf_67_30, rf_67_32, rf_67_33, rf_67_38, rf_67_39, rf_67_48, rf_67_49, rf_67_51, rf_67_52, rf_67_53, rf_67_54, rf_67_55, rf_67_60, rf_67_61, rf_67_62, e2, if_pos (show (383 : Int) ≤ 383 by omega)]
  | succ n ih =>
    intro i h0 h1
    have e1 : w32 i = i := w32_of (by omega) (by omega)
    have e2 : w32 383 = 383 := rfl
    have h2 : i < ((383 : Nat) : Int) := by omega
    have h3 : 0 ≤ 383 * k + i := by omega
    have h4 : 383 * k + i < ((766 : Nat) : Int) := by omega
    have e3 : cpy M 69 89 0 (383 * k) i 69 i = M 69 i := cpy_b (by decide)
    rw [← ih (i + 1) (by omega) (by omega), ← cpy_s (by decide) h0]
    rw [b_220_18, k_220_18]
    simp (disch := first | exact nl_i _ | exact nl_r _ | exact Nat.le_of_ble_eq_true rfl | exact Or.inl rfl | exact Or.inr rfl | exact w8_lo _ | exact w8_hi _ | decide | omega) only [v_fall, v_il_0, v_al_0, v_is_0, v_as_0, v_inc_0, v_ll_0, v_ls_0, v_il_1, v_al_1, v_is_1, v_as_1, v_inc_1, v_ll_1, v_ls_1, v_il_2, v_al_2, v_is_2, v_as_2, v_inc_2, v_ll_2, v_ls_2, v_il_3, v_al_3, v_is_3, v_as_3, v_inc_3, v_ll_3, v_ls_3, v_il_4, v_al_4, v_is_4, v_as_4, v_inc_4, v_ll_4, v_ls_4, v_il_5, v_al_5, v_is_5, v_as_5, v_inc_5, v_ll_5, v_ls_5, v_il_6, v_al_6, v_is_6, v_as_6, v_inc_6, v_il_7, v_al_7, v_is_7, v_as_7, v_inc_7, v_il_8, v_al_8, v_is_8, v_as_8, v_inc_8, v_il_9, v_al_9, v_is_9, v_as_9, v_inc_9, v_il_10, v_al_10, v_is_10, v_as_10, v_inc_10, v_il_11, v_al_11, v_is_11, v_as_11, v_inc_11, v_il_12, v_al_12, v_is_12, v_as_12, v_inc_12, v_il_13, v_al_13, v_is_13, v_as_13, v_inc_13, v_c_8, v_c_9, v_c_10, v_c_11, v_c_12, v_c_13, v_c_14, v_b_15, v_b_16, v_b_17, v_b_21, v_b_22, v_b_23, v_b_24, v_b_25, v_b_26, v_b_18, v_b_19, v_b_20, v_b_27, v_b_28, v_b_29, v_b_30, v_b_31, v_dup_i, v_dup_r, v_dup2, v_pop, v_gi, v_gl, v_gr, v_pi, v_pl, v_pz, v_iald, v_lald, v_bald, v_zald, v_aald, v_iast, v_last, v_bast, v_zast, v_alen_0, v_alen_1, v_alen_2, v_alen_3, v_alen_4, v_j_45, v_j_46, v_j_47, v_j_48, v_j_49, v_j_50, v_j_51, v_j_52, v_j_53, v_j_54, v_j_55, v_j_56, v_goto, v_sw, v_ret_i, v_ret_z, v_ret, v_cpy, v_iv_1, v_iv_2, v_iv_3, v_iv_4, v_iv_5, v_iv_6, v_is2_1, v_is2_2, v_is2_3, v_ivJ, List.nil_append, List.cons_append, rf_0_0, rf_0_1, rf_0_2, rf_0_3, rf_0_4, rf_0_5, rf_0_6, rf_0_7, rf_0_8, rf_0_9, rf_1_0, rf_1_2, rf_4_0, rf_4_1, rf_4_2, rf_5_8, rf_5_9, rf_5_10, rf_5_11, rf_5_12, rf_13_0, rf_13_1, rf_14_0, rf_14_1, rf_14_2, rf_15_8, rf_15_9, rf_15_10, rf_15_11, rf_15_12, rf_23_0, rf_23_1, rf_23_2, rf_24_8, rf_24_9, rf_24_10, rf_24_11, rf_24_12, rf_32_6, rf_34_0, rf_34_1, rf_34_2, rf_34_3, rf_35_8, rf_35_9, rf_35_10, rf_35_11, rf_35_12, rf_43_0, rf_43_1, rf_43_2, rf_43_3, rf_45_0, rf_45_1, rf_46_0, rf_46_1, rf_46_2, rf_46_3, rf_46_4, rf_46_5, rf_47_0, rf_47_1, rf_49_0, rf_49_1, rf_49_2, rf_49_3, rf_49_4, rf_49_5, rf_53_0, rf_53_1, rf_53_2, rf_53_3, rf_53_4, rf_53_5, rf_53_6, rf_53_7, rf_53_9, rf_53_10, rf_53_11, rf_53_12, rf_53_13, rf_54_0, rf_54_1, rf_55_1, rf_55_2, rf_55_3, rf_67_1, rf_67_6, rf_67_7, rf_67_8, rf_67_9, rf_67_10, rf_67_22, rf_67_23, rf_67_28, rf_67_30, rf_67_32, rf_67_33, rf_67_38, rf_67_39, rf_67_48, rf_67_49, rf_67_51, rf_67_52, rf_67_53, rf_67_54, rf_67_55, rf_67_60, rf_67_61, rf_67_62, e1, e2, e3, if_neg (show ¬ (383 : Int) ≤ i by omega)]
theorem m_img_2 (k : Int) (hk : 0 ≤ k ∧ k ≤ 1) : ∀ (n : Nat) (i : Int), 0 ≤ i → i + n = 17 → (XL d 220 51 [aR 22 0 67, aI k, aI i] [] (cpy M 72 90 0 (17 * k) i) Q ↔ XL d 220 80 [aR 22 0 67, aI k, aI 17] [] (cpy M 72 90 0 (17 * k) 17) Q) := by
  intro n
  induction n with
  | zero =>
    intro i h0 h1
    have hi : i = 17 := by omega
    have e2 : w32 17 = 17 := rfl
    rw [hi]
    rw [b_220_51, k_220_51]
    simp (disch := first | exact nl_i _ | exact nl_r _ | exact Nat.le_of_ble_eq_true rfl | exact Or.inl rfl | exact Or.inr rfl | exact w8_lo _ | exact w8_hi _ | decide | omega) only [v_fall, v_il_0, v_al_0, v_is_0, v_as_0, v_inc_0, v_ll_0, v_ls_0, v_il_1, v_al_1, v_is_1, v_as_1, v_inc_1, v_ll_1, v_ls_1, v_il_2, v_al_2, v_is_2, v_as_2, v_inc_2, v_ll_2, v_ls_2, v_il_3, v_al_3, v_is_3, v_as_3, v_inc_3, v_ll_3, v_ls_3, v_il_4, v_al_4, v_is_4, v_as_4, v_inc_4, v_ll_4, v_ls_4, v_il_5, v_al_5, v_is_5, v_as_5, v_inc_5, v_ll_5, v_ls_5, v_il_6, v_al_6, v_is_6, v_as_6, v_inc_6, v_il_7, v_al_7, v_is_7, v_as_7, v_inc_7, v_il_8, v_al_8, v_is_8, v_as_8, v_inc_8, v_il_9, v_al_9, v_is_9, v_as_9, v_inc_9, v_il_10, v_al_10, v_is_10, v_as_10, v_inc_10, v_il_11, v_al_11, v_is_11, v_as_11, v_inc_11, v_il_12, v_al_12, v_is_12, v_as_12, v_inc_12, v_il_13, v_al_13, v_is_13, v_as_13, v_inc_13, v_c_8, v_c_9, v_c_10, v_c_11, v_c_12, v_c_13, v_c_14, v_b_15, v_b_16, v_b_17, v_b_21, v_b_22, v_b_23, v_b_24, v_b_25, v_b_26, v_b_18, v_b_19, v_b_20, v_b_27, v_b_28, v_b_29, v_b_30, v_b_31, v_dup_i, v_dup_r, v_dup2, v_pop, v_gi, v_gl, v_gr, v_pi, v_pl, v_pz, v_iald, v_lald, v_bald, v_zald, v_aald, v_iast, v_last, v_bast, v_zast, v_alen_0, v_alen_1, v_alen_2, v_alen_3, v_alen_4, v_j_45, v_j_46, v_j_47, v_j_48, v_j_49, v_j_50, v_j_51, v_j_52, v_j_53, v_j_54, v_j_55, v_j_56, v_goto, v_sw, v_ret_i, v_ret_z, v_ret, v_cpy, v_iv_1, v_iv_2, v_iv_3, v_iv_4, v_iv_5, v_iv_6, v_is2_1, v_is2_2, v_is2_3, v_ivJ, List.nil_append, List.cons_append, rf_0_0, rf_0_1, rf_0_2, rf_0_3, rf_0_4, rf_0_5, rf_0_6, rf_0_7, rf_0_8, rf_0_9, rf_1_0, rf_1_2, rf_4_0, rf_4_1, rf_4_2, rf_5_8, rf_5_9, rf_5_10, rf_5_11, rf_5_12, rf_13_0, rf_13_1, rf_14_0, rf_14_1, rf_14_2, rf_15_8, rf_15_9, rf_15_10, rf_15_11, rf_15_12, rf_23_0, rf_23_1, rf_23_2, rf_24_8, rf_24_9, rf_24_10, rf_24_11, rf_24_12, rf_32_6, rf_34_0, rf_34_1, rf_34_2, rf_34_3, rf_35_8, rf_35_9, rf_35_10, rf_35_11, rf_35_12, rf_43_0, rf_43_1, rf_43_2, rf_43_3, rf_45_0, rf_45_1, rf_46_0, rf_46_1, rf_46_2, rf_46_3, rf_46_4, rf_46_5, rf_47_0, rf_47_1, rf_49_0, rf_49_1, rf_49_2, rf_49_3, rf_49_4, rf_49_5, rf_53_0, rf_53_1, rf_53_2, rf_53_3, rf_53_4, rf_53_5, rf_53_6, rf_53_7, rf_53_9, rf_53_10, rf_53_11, rf_53_12, rf_53_13, rf_54_0, rf_54_1, rf_55_1, rf_55_2, rf_55_3, rf_67_1, rf_67_6, rf_67_7, rf_67_8, rf_67_9, rf_67_10, rf_67_22, rf_67_23, rf_67_28, rf_67_30, rf_67_32, rf_67_33, rf_67_38, rf_67_39, rf_67_48, rf_67_49, rf_67_51, rf_67_52, rf_67_53, rf_67_54, rf_67_55, rf_67_60, rf_67_61, rf_67_62, e2, if_pos (show (17 : Int) ≤ 17 by omega)]
  | succ n ih =>
    intro i h0 h1
    have e1 : w32 i = i := w32_of (by omega) (by omega)
    have e2 : w32 17 = 17 := rfl
    have h2 : i < ((34 : Nat) : Int) := by omega
    have h3 : 0 ≤ 17 * k + i := by omega
    have h4 : 17 * k + i < ((34 : Nat) : Int) := by omega
    have e3 : cpy M 72 90 0 (17 * k) i 72 i = M 72 i := cpy_b (by decide)
    rw [← ih (i + 1) (by omega) (by omega), ← cpy_s (by decide) h0]
    rw [b_220_51, k_220_51]
    simp (disch := first | exact nl_i _ | exact nl_r _ | exact Nat.le_of_ble_eq_true rfl | exact Or.inl rfl | exact Or.inr rfl | exact w8_lo _ | exact w8_hi _ | decide | omega) only [v_fall, v_il_0, v_al_0, v_is_0, v_as_0, v_inc_0, v_ll_0, v_ls_0, v_il_1, v_al_1, v_is_1, v_as_1, v_inc_1, v_ll_1, v_ls_1, v_il_2, v_al_2, v_is_2, v_as_2, v_inc_2, v_ll_2, v_ls_2, v_il_3, v_al_3, v_is_3, v_as_3, v_inc_3, v_ll_3, v_ls_3, v_il_4, v_al_4, v_is_4, v_as_4, v_inc_4, v_ll_4, v_ls_4, v_il_5, v_al_5, v_is_5, v_as_5, v_inc_5, v_ll_5, v_ls_5, v_il_6, v_al_6, v_is_6, v_as_6, v_inc_6, v_il_7, v_al_7, v_is_7, v_as_7, v_inc_7, v_il_8, v_al_8, v_is_8, v_as_8, v_inc_8, v_il_9, v_al_9, v_is_9, v_as_9, v_inc_9, v_il_10, v_al_10, v_is_10, v_as_10, v_inc_10, v_il_11, v_al_11, v_is_11, v_as_11, v_inc_11, v_il_12, v_al_12, v_is_12, v_as_12, v_inc_12, v_il_13, v_al_13, v_is_13, v_as_13, v_inc_13, v_c_8, v_c_9, v_c_10, v_c_11, v_c_12, v_c_13, v_c_14, v_b_15, v_b_16, v_b_17, v_b_21, v_b_22, v_b_23, v_b_24, v_b_25, v_b_26, v_b_18, v_b_19, v_b_20, v_b_27, v_b_28, v_b_29, v_b_30, v_b_31, v_dup_i, v_dup_r, v_dup2, v_pop, v_gi, v_gl, v_gr, v_pi, v_pl, v_pz, v_iald, v_lald, v_bald, v_zald, v_aald, v_iast, v_last, v_bast, v_zast, v_alen_0, v_alen_1, v_alen_2, v_alen_3, v_alen_4, v_j_45, v_j_46, v_j_47, v_j_48, v_j_49, v_j_50, v_j_51, v_j_52, v_j_53, v_j_54, v_j_55, v_j_56, v_goto, v_sw, v_ret_i, v_ret_z, v_ret, v_cpy, v_iv_1, v_iv_2, v_iv_3, v_iv_4, v_iv_5, v_iv_6, v_is2_1, v_is2_2, v_is2_3, v_ivJ, List.nil_append, List.cons_append, rf_0_0, rf_0_1, rf_0_2, rf_0_3, rf_0_4, rf_0_5, rf_0_6, rf_0_7, rf_0_8, rf_0_9, rf_1_0, rf_1_2, rf_4_0, rf_4_1, rf_4_2, rf_5_8, rf_5_9, rf_5_10, rf_5_11, rf_5_12, rf_13_0, rf_13_1, rf_14_0, rf_14_1, rf_14_2, rf_15_8, rf_15_9, rf_15_10, rf_15_11, rf_15_12, rf_23_0, rf_23_1, rf_23_2, rf_24_8, rf_24_9, rf_24_10, rf_24_11, rf_24_12, rf_32_6, rf_34_0, rf_34_1, rf_34_2, rf_34_3, rf_35_8, rf_35_9, rf_35_10, rf_35_11, rf_35_12, rf_43_0, rf_43_1, rf_43_2, rf_43_3, rf_45_0, rf_45_1, rf_46_0, rf_46_1, rf_46_2, rf_46_3, rf_46_4, rf_46_5, rf_47_0, rf_47_1, rf_49_0, rf_49_1, rf_49_2, rf_49_3, rf_49_4, rf_49_5, rf_53_0, rf_53_1, rf_53_2, rf_53_3, rf_53_4, rf_53_5, rf_53_6, rf_53_7, rf_53_9, rf_53_10, rf_53_11, rf_53_12, rf_53_13, rf_54_0, rf_54_1, rf_55_1, rf_55_2, rf_55_3, rf_67_1, rf_67_6, rf_67_7, rf_67_8, rf_67_9, rf_67_10, rf_67_22, rf_67_23, rf_67_28, rf_67_30, rf_67_32, rf_67_33, rf_67_38, rf_67_39, rf_67_48, rf_67_49, rf_67_51, rf_67_52, rf_67_53, rf_67_54, rf_67_55, rf_67_60, rf_67_61, rf_67_62, e1, e2, e3, if_neg (show ¬ (17 : Int) ≤ i by omega)]
def imgM (M : Mem) (k : Int) : Mem := up (cpy (cpy (up M 67 0 0) 69 89 0 (383 * k) 383) 72 90 0 (17 * k) 17) 91 k 1
theorem s_m_image (k : Int) (hk : 0 ≤ k ∧ k ≤ 1) : XC (d + 1) 220 [aR 22 0 67, aI k] M Q ↔ Q [aI 1] (imgM M k) := by
  have p1 : ∀ Q', XC d 134 [aI k, aI 0, aI 1] (up M 67 0 0) Q' ↔ Q' [aI 1] (up M 67 0 0) := fun Q' => by rw [s_isIn k 0 1 ⟨by omega, by omega⟩ ⟨by decide, by decide⟩ ⟨by decide, by decide⟩, bi_t (by omega)]
  have l1 := m_img_1 (d := d + 1) (M := up M 67 0 0) (Q := Q) k hk 383 0 (by omega) (by omega)
  have l2 := m_img_2 (d := d + 1) (M := cpy (up M 67 0 0) 69 89 0 (383 * k) 383) (Q := Q) k hk 17 0 (by omega) (by omega)
  rw [cpy_z] at l1 l2
  have h3 : k < ((2 : Nat) : Int) := by omega
  have h0 : 0 ≤ k := hk.1
  have g3 : XL (d + 1) 220 80 [aR 22 0 67, aI k, aI 17] [] (cpy (cpy (up M 67 0 0) 69 89 0 (383 * k) 383) 72 90 0 (17 * k) 17) Q ↔ Q [aI 1] (imgM M k) := by
    rw [b_220_80, k_220_80]
    simp (disch := first | exact nl_i _ | exact nl_r _ | exact Nat.le_of_ble_eq_true rfl | exact Or.inl rfl | exact Or.inr rfl | exact w8_lo _ | exact w8_hi _ | decide | omega) only [v_fall, v_il_0, v_al_0, v_is_0, v_as_0, v_inc_0, v_ll_0, v_ls_0, v_il_1, v_al_1, v_is_1, v_as_1, v_inc_1, v_ll_1, v_ls_1, v_il_2, v_al_2, v_is_2, v_as_2, v_inc_2, v_ll_2, v_ls_2, v_il_3, v_al_3, v_is_3, v_as_3, v_inc_3, v_ll_3, v_ls_3, v_il_4, v_al_4, v_is_4, v_as_4, v_inc_4, v_ll_4, v_ls_4, v_il_5, v_al_5, v_is_5, v_as_5, v_inc_5, v_ll_5, v_ls_5, v_il_6, v_al_6, v_is_6, v_as_6, v_inc_6, v_il_7, v_al_7, v_is_7, v_as_7, v_inc_7, v_il_8, v_al_8, v_is_8, v_as_8, v_inc_8, v_il_9, v_al_9, v_is_9, v_as_9, v_inc_9, v_il_10, v_al_10, v_is_10, v_as_10, v_inc_10, v_il_11, v_al_11, v_is_11, v_as_11, v_inc_11, v_il_12, v_al_12, v_is_12, v_as_12, v_inc_12, v_il_13, v_al_13, v_is_13, v_as_13, v_inc_13, v_c_8, v_c_9, v_c_10, v_c_11, v_c_12, v_c_13, v_c_14, v_b_15, v_b_16, v_b_17, v_b_21, v_b_22, v_b_23, v_b_24, v_b_25, v_b_26, v_b_18, v_b_19, v_b_20, v_b_27, v_b_28, v_b_29, v_b_30, v_b_31, v_dup_i, v_dup_r, v_dup2, v_pop, v_gi, v_gl, v_gr, v_pi, v_pl, v_pz, v_iald, v_lald, v_bald, v_zald, v_aald, v_iast, v_last, v_bast, v_zast, v_alen_0, v_alen_1, v_alen_2, v_alen_3, v_alen_4, v_j_45, v_j_46, v_j_47, v_j_48, v_j_49, v_j_50, v_j_51, v_j_52, v_j_53, v_j_54, v_j_55, v_j_56, v_goto, v_sw, v_ret_i, v_ret_z, v_ret, v_cpy, v_iv_1, v_iv_2, v_iv_3, v_iv_4, v_iv_5, v_iv_6, v_is2_1, v_is2_2, v_is2_3, v_ivJ, List.nil_append, List.cons_append, rf_0_0, rf_0_1, rf_0_2, rf_0_3, rf_0_4, rf_0_5, rf_0_6, rf_0_7, rf_0_8, rf_0_9, rf_1_0, rf_1_2, rf_4_0, rf_4_1, rf_4_2, rf_5_8, rf_5_9, rf_5_10, rf_5_11, rf_5_12, rf_13_0, rf_13_1, rf_14_0, rf_14_1, rf_14_2, rf_15_8, rf_15_9, rf_15_10, rf_15_11, rf_15_12, rf_23_0, rf_23_1, rf_23_2, rf_24_8, rf_24_9, rf_24_10, rf_24_11, rf_24_12, rf_32_6, rf_34_0, rf_34_1, rf_34_2, rf_34_3, rf_35_8, rf_35_9, rf_35_10, rf_35_11, rf_35_12, rf_43_0, rf_43_1, rf_43_2, rf_43_3, rf_45_0, rf_45_1, rf_46_0, rf_46_1, rf_46_2, rf_46_3, rf_46_4, rf_46_5, rf_47_0, rf_47_1, rf_49_0, rf_49_1, rf_49_2, rf_49_3, rf_49_4, rf_49_5, rf_53_0, rf_53_1, rf_53_2, rf_53_3, rf_53_4, rf_53_5, rf_53_6, rf_53_7, rf_53_9, rf_53_10, rf_53_11, rf_53_12, rf_53_13, rf_54_0, rf_54_1, rf_55_1, rf_55_2, rf_55_3, rf_67_1, rf_67_6, rf_67_7, rf_67_8, rf_67_9, rf_67_10, rf_67_22, rf_67_23, rf_67_28, rf_67_30, rf_67_32, rf_67_33, rf_67_38, rf_67_39, rf_67_48, rf_67_49, rf_67_51, rf_67_52, rf_67_53, rf_67_54, rf_67_55, rf_67_60, rf_67_61, rf_67_62]
    rfl
  have g2 : XL (d + 1) 220 49 [aR 22 0 67, aI k, aI 383] [] (cpy (up M 67 0 0) 69 89 0 (383 * k) 383) Q ↔ Q [aI 1] (imgM M k) := by
    rw [← g3, ← l2]
    rw [b_220_49, k_220_49]
    simp (disch := first | exact nl_i _ | exact nl_r _ | exact Nat.le_of_ble_eq_true rfl | exact Or.inl rfl | exact Or.inr rfl | exact w8_lo _ | exact w8_hi _ | decide | omega) only [v_fall, v_il_0, v_al_0, v_is_0, v_as_0, v_inc_0, v_ll_0, v_ls_0, v_il_1, v_al_1, v_is_1, v_as_1, v_inc_1, v_ll_1, v_ls_1, v_il_2, v_al_2, v_is_2, v_as_2, v_inc_2, v_ll_2, v_ls_2, v_il_3, v_al_3, v_is_3, v_as_3, v_inc_3, v_ll_3, v_ls_3, v_il_4, v_al_4, v_is_4, v_as_4, v_inc_4, v_ll_4, v_ls_4, v_il_5, v_al_5, v_is_5, v_as_5, v_inc_5, v_ll_5, v_ls_5, v_il_6, v_al_6, v_is_6, v_as_6, v_inc_6, v_il_7, v_al_7, v_is_7, v_as_7, v_inc_7, v_il_8, v_al_8, v_is_8, v_as_8, v_inc_8, v_il_9, v_al_9, v_is_9, v_as_9, v_inc_9, v_il_10, v_al_10, v_is_10, v_as_10, v_inc_10, v_il_11, v_al_11, v_is_11, v_as_11, v_inc_11, v_il_12, v_al_12, v_is_12, v_as_12, v_inc_12, v_il_13, v_al_13, v_is_13, v_as_13, v_inc_13, v_c_8, v_c_9, v_c_10, v_c_11, v_c_12, v_c_13, v_c_14, v_b_15, v_b_16, v_b_17, v_b_21, v_b_22, v_b_23, v_b_24, v_b_25, v_b_26, v_b_18, v_b_19, v_b_20, v_b_27, v_b_28, v_b_29, v_b_30, v_b_31, v_dup_i, v_dup_r, v_dup2, v_pop, v_gi, v_gl, v_gr, v_pi, v_pl, v_pz, v_iald, v_lald, v_bald, v_zald, v_aald, v_iast, v_last, v_bast, v_zast, v_alen_0, v_alen_1, v_alen_2, v_alen_3, v_alen_4, v_j_45, v_j_46, v_j_47, v_j_48, v_j_49, v_j_50, v_j_51, v_j_52, v_j_53, v_j_54, v_j_55, v_j_56, v_goto, v_sw, v_ret_i, v_ret_z, v_ret, v_cpy, v_iv_1, v_iv_2, v_iv_3, v_iv_4, v_iv_5, v_iv_6, v_is2_1, v_is2_2, v_is2_3, v_ivJ, List.nil_append, List.cons_append, rf_0_0, rf_0_1, rf_0_2, rf_0_3, rf_0_4, rf_0_5, rf_0_6, rf_0_7, rf_0_8, rf_0_9, rf_1_0, rf_1_2, rf_4_0, rf_4_1, rf_4_2, rf_5_8, rf_5_9, rf_5_10, rf_5_11, rf_5_12, rf_13_0, rf_13_1, rf_14_0, rf_14_1, rf_14_2, rf_15_8, rf_15_9, rf_15_10, rf_15_11, rf_15_12, rf_23_0, rf_23_1, rf_23_2, rf_24_8, rf_24_9, rf_24_10, rf_24_11, rf_24_12, rf_32_6, rf_34_0, rf_34_1, rf_34_2, rf_34_3, rf_35_8, rf_35_9, rf_35_10, rf_35_11, rf_35_12, rf_43_0, rf_43_1, rf_43_2, rf_43_3, rf_45_0, rf_45_1, rf_46_0, rf_46_1, rf_46_2, rf_46_3, rf_46_4, rf_46_5, rf_47_0, rf_47_1, rf_49_0, rf_49_1, rf_49_2, rf_49_3, rf_49_4, rf_49_5, rf_53_0, rf_53_1, rf_53_2, rf_53_3, rf_53_4, rf_53_5, rf_53_6, rf_53_7, rf_53_9, rf_53_10, rf_53_11, rf_53_12, rf_53_13, rf_54_0, rf_54_1, rf_55_1, rf_55_2, rf_55_3, rf_67_1, rf_67_6, rf_67_7, rf_67_8, rf_67_9, rf_67_10, rf_67_22, rf_67_23, rf_67_28, rf_67_30, rf_67_32, rf_67_33, rf_67_38, rf_67_39, rf_67_48, rf_67_49, rf_67_51, rf_67_52, rf_67_53, rf_67_54, rf_67_55, rf_67_60, rf_67_61, rf_67_62]
  have g1 : XL (d + 1) 220 16 [aR 22 0 67, aI k, aU] [] (up M 67 0 0) Q ↔ Q [aI 1] (imgM M k) := by
    rw [← g2, ← l1]
    rw [b_220_16, k_220_16]
    simp (disch := first | exact nl_i _ | exact nl_r _ | exact Nat.le_of_ble_eq_true rfl | exact Or.inl rfl | exact Or.inr rfl | exact w8_lo _ | exact w8_hi _ | decide | omega) only [v_fall, v_il_0, v_al_0, v_is_0, v_as_0, v_inc_0, v_ll_0, v_ls_0, v_il_1, v_al_1, v_is_1, v_as_1, v_inc_1, v_ll_1, v_ls_1, v_il_2, v_al_2, v_is_2, v_as_2, v_inc_2, v_ll_2, v_ls_2, v_il_3, v_al_3, v_is_3, v_as_3, v_inc_3, v_ll_3, v_ls_3, v_il_4, v_al_4, v_is_4, v_as_4, v_inc_4, v_ll_4, v_ls_4, v_il_5, v_al_5, v_is_5, v_as_5, v_inc_5, v_ll_5, v_ls_5, v_il_6, v_al_6, v_is_6, v_as_6, v_inc_6, v_il_7, v_al_7, v_is_7, v_as_7, v_inc_7, v_il_8, v_al_8, v_is_8, v_as_8, v_inc_8, v_il_9, v_al_9, v_is_9, v_as_9, v_inc_9, v_il_10, v_al_10, v_is_10, v_as_10, v_inc_10, v_il_11, v_al_11, v_is_11, v_as_11, v_inc_11, v_il_12, v_al_12, v_is_12, v_as_12, v_inc_12, v_il_13, v_al_13, v_is_13, v_as_13, v_inc_13, v_c_8, v_c_9, v_c_10, v_c_11, v_c_12, v_c_13, v_c_14, v_b_15, v_b_16, v_b_17, v_b_21, v_b_22, v_b_23, v_b_24, v_b_25, v_b_26, v_b_18, v_b_19, v_b_20, v_b_27, v_b_28, v_b_29, v_b_30, v_b_31, v_dup_i, v_dup_r, v_dup2, v_pop, v_gi, v_gl, v_gr, v_pi, v_pl, v_pz, v_iald, v_lald, v_bald, v_zald, v_aald, v_iast, v_last, v_bast, v_zast, v_alen_0, v_alen_1, v_alen_2, v_alen_3, v_alen_4, v_j_45, v_j_46, v_j_47, v_j_48, v_j_49, v_j_50, v_j_51, v_j_52, v_j_53, v_j_54, v_j_55, v_j_56, v_goto, v_sw, v_ret_i, v_ret_z, v_ret, v_cpy, v_iv_1, v_iv_2, v_iv_3, v_iv_4, v_iv_5, v_iv_6, v_is2_1, v_is2_2, v_is2_3, v_ivJ, List.nil_append, List.cons_append, rf_0_0, rf_0_1, rf_0_2, rf_0_3, rf_0_4, rf_0_5, rf_0_6, rf_0_7, rf_0_8, rf_0_9, rf_1_0, rf_1_2, rf_4_0, rf_4_1, rf_4_2, rf_5_8, rf_5_9, rf_5_10, rf_5_11, rf_5_12, rf_13_0, rf_13_1, rf_14_0, rf_14_1, rf_14_2, rf_15_8, rf_15_9, rf_15_10, rf_15_11, rf_15_12, rf_23_0, rf_23_1, rf_23_2, rf_24_8, rf_24_9, rf_24_10, rf_24_11, rf_24_12, rf_32_6, rf_34_0, rf_34_1, rf_34_2, rf_34_3, rf_35_8, rf_35_9, rf_35_10, rf_35_11, rf_35_12, rf_43_0, rf_43_1, rf_43_2, rf_43_3, rf_45_0, rf_45_1, rf_46_0, rf_46_1, rf_46_2, rf_46_3, rf_46_4, rf_46_5, rf_47_0, rf_47_1, rf_49_0, rf_49_1, rf_49_2, rf_49_3, rf_49_4, rf_49_5, rf_53_0, rf_53_1, rf_53_2, rf_53_3, rf_53_4, rf_53_5, rf_53_6, rf_53_7, rf_53_9, rf_53_10, rf_53_11, rf_53_12, rf_53_13, rf_54_0, rf_54_1, rf_55_1, rf_55_2, rf_55_3, rf_67_1, rf_67_6, rf_67_7, rf_67_8, rf_67_9, rf_67_10, rf_67_22, rf_67_23, rf_67_28, rf_67_30, rf_67_32, rf_67_33, rf_67_38, rf_67_39, rf_67_48, rf_67_49, rf_67_51, rf_67_52, rf_67_53, rf_67_54, rf_67_55, rf_67_60, rf_67_61, rf_67_62]
  rw [← g1]
  simp (disch := first | exact nl_i _ | exact nl_r _ | exact Nat.le_of_ble_eq_true rfl | exact Or.inl rfl | exact Or.inr rfl | exact w8_lo _ | exact w8_hi _ | decide | omega) only [e_220, k_220_0, v_fall, v_il_0, v_al_0, v_is_0, v_as_0, v_inc_0, v_ll_0, v_ls_0, v_il_1, v_al_1, v_is_1, v_as_1, v_inc_1, v_ll_1, v_ls_1, v_il_2, v_al_2, v_is_2, v_as_2, v_inc_2, v_ll_2, v_ls_2, v_il_3, v_al_3, v_is_3, v_as_3, v_inc_3, v_ll_3, v_ls_3, v_il_4, v_al_4, v_is_4, v_as_4, v_inc_4, v_ll_4, v_ls_4, v_il_5, v_al_5, v_is_5, v_as_5, v_inc_5, v_ll_5, v_ls_5, v_il_6, v_al_6, v_is_6, v_as_6, v_inc_6, v_il_7, v_al_7, v_is_7, v_as_7, v_inc_7, v_il_8, v_al_8, v_is_8, v_as_8, v_inc_8, v_il_9, v_al_9, v_is_9, v_as_9, v_inc_9, v_il_10, v_al_10, v_is_10, v_as_10, v_inc_10, v_il_11, v_al_11, v_is_11, v_as_11, v_inc_11, v_il_12, v_al_12, v_is_12, v_as_12, v_inc_12, v_il_13, v_al_13, v_is_13, v_as_13, v_inc_13, v_c_8, v_c_9, v_c_10, v_c_11, v_c_12, v_c_13, v_c_14, v_b_15, v_b_16, v_b_17, v_b_21, v_b_22, v_b_23, v_b_24, v_b_25, v_b_26, v_b_18, v_b_19, v_b_20, v_b_27, v_b_28, v_b_29, v_b_30, v_b_31, v_dup_i, v_dup_r, v_dup2, v_pop, v_gi, v_gl, v_gr, v_pi, v_pl, v_pz, v_iald, v_lald, v_bald, v_zald, v_aald, v_iast, v_last, v_bast, v_zast, v_alen_0, v_alen_1, v_alen_2, v_alen_3, v_alen_4, v_j_45, v_j_46, v_j_47, v_j_48, v_j_49, v_j_50, v_j_51, v_j_52, v_j_53, v_j_54, v_j_55, v_j_56, v_goto, v_sw, v_ret_i, v_ret_z, v_ret, v_cpy, v_iv_1, v_iv_2, v_iv_3, v_iv_4, v_iv_5, v_iv_6, v_is2_1, v_is2_2, v_is2_3, v_ivJ, List.nil_append, List.cons_append, rf_0_0, rf_0_1, rf_0_2, rf_0_3, rf_0_4, rf_0_5, rf_0_6, rf_0_7, rf_0_8, rf_0_9, rf_1_0, rf_1_2, rf_4_0, rf_4_1, rf_4_2, rf_5_8, rf_5_9, rf_5_10, rf_5_11, rf_5_12, rf_13_0, rf_13_1, rf_14_0, rf_14_1, rf_14_2, rf_15_8, rf_15_9, rf_15_10, rf_15_11, rf_15_12, rf_23_0, rf_23_1, rf_23_2, rf_24_8, rf_24_9, rf_24_10, rf_24_11, rf_24_12, rf_32_6, rf_34_0, rf_34_1, rf_34_2, rf_34_3, rf_35_8, rf_35_9, rf_35_10, rf_35_11, rf_35_12, rf_43_0, rf_43_1, rf_43_2, rf_43_3, rf_45_0, rf_45_1, rf_46_0, rf_46_1, rf_46_2, rf_46_3, rf_46_4, rf_46_5, rf_47_0, rf_47_1, rf_49_0, rf_49_1, rf_49_2, rf_49_3, rf_49_4, rf_49_5, rf_53_0, rf_53_1, rf_53_2, rf_53_3, rf_53_4, rf_53_5, rf_53_6, rf_53_7, rf_53_9, rf_53_10, rf_53_11, rf_53_12, rf_53_13, rf_54_0, rf_54_1, rf_55_1, rf_55_2, rf_55_3, rf_67_1, rf_67_6, rf_67_7, rf_67_8, rf_67_9, rf_67_10, rf_67_22, rf_67_23, rf_67_28, rf_67_30, rf_67_32, rf_67_33, rf_67_38, rf_67_39, rf_67_48, rf_67_49, rf_67_51, rf_67_52, rf_67_53, rf_67_54, rf_67_55, rf_67_60, rf_67_61, rf_67_62, p1]
  rfl
theorem imgM_o {k : Int} {b : Nat} {j : Int} (h67 : b ≠ 67) (h89 : b ≠ 89) (h90 : b ≠ 90) (h91 : b ≠ 91) : imgM M k b j = M b j := by
  unfold imgM
  rw [up_b h91, cpy_b h90, cpy_b h89, up_b h67]
theorem imgM_67 {k : Int} {j : Int} (h : j ≠ 0) : imgM M k 67 j = M 67 j := by
  unfold imgM
  rw [up_b (by decide), cpy_b (by decide), cpy_b (by decide), up_j h]
theorem imgM_89 {k j : Int} (h0 : 0 ≤ j) (h1 : j < 383) : imgM M k 89 (383 * k + j) = M 69 j := by
  unfold imgM
  rw [up_b (by decide), cpy_b (by decide), cpy_in (by omega) (by omega), up_b (by decide)]
  congr 1
  omega
theorem imgM_89o {k j : Int} (h : j < 383 * k ∨ 383 * k + 383 ≤ j) : imgM M k 89 j = M 89 j := by
  unfold imgM
  rw [up_b (by decide), cpy_b (by decide), cpy_out (by omega), up_b (by decide)]
theorem imgM_90 {k j : Int} (h0 : 0 ≤ j) (h1 : j < 17) : imgM M k 90 (17 * k + j) = M 72 j := by
  unfold imgM
  rw [up_b (by decide), cpy_in (by omega) (by omega), cpy_b (by decide), up_b (by decide)]
  congr 1
  omega
theorem imgM_90o {k j : Int} (h : j < 17 * k ∨ 17 * k + 17 ≤ j) : imgM M k 90 j = M 90 j := by
  unfold imgM
  rw [up_b (by decide), cpy_out (by omega), cpy_b (by decide), up_b (by decide)]
theorem imgM_91 {k : Int} : imgM M k 91 k = 1 := by
  unfold imgM
  rw [up_s]
theorem imgM_91o {k j : Int} (h : j ≠ k) : imgM M k 91 j = M 91 j := by
  unfold imgM
  rw [up_j h, cpy_b (by decide), cpy_b (by decide), up_b (by decide)]
theorem s_x_image_0 : XC (d + 2) 125 [aR 21 0 0, aI 0] M Q ↔ Q [aI 1] (up (cpSt M 4 14) 14 5 1) := by
  have p1 : ∀ Q', XC (d + 1) 69 [aR 17 0 14, aR 17 0 4] M Q' ↔ Q' [] (cpSt M 4 14) := fun Q' => s_st_4_14
  have e1 : w32 0 = 0 := rfl
  have e2 : w32 2 = 2 := rfl
  have e3 : Int.toNat 0 = 0 := rfl
  simp (disch := first | exact nl_i _ | exact nl_r _ | exact Nat.le_of_ble_eq_true rfl | exact Or.inl rfl | exact Or.inr rfl | exact w8_lo _ | exact w8_hi _ | decide | omega) only [e_125, k_125_0, b_125_9, k_125_9, b_125_11, k_125_11, v_fall, v_il_0, v_al_0, v_is_0, v_as_0, v_inc_0, v_ll_0, v_ls_0, v_il_1, v_al_1, v_is_1, v_as_1, v_inc_1, v_ll_1, v_ls_1, v_il_2, v_al_2, v_is_2, v_as_2, v_inc_2, v_ll_2, v_ls_2, v_il_3, v_al_3, v_is_3, v_as_3, v_inc_3, v_ll_3, v_ls_3, v_il_4, v_al_4, v_is_4, v_as_4, v_inc_4, v_ll_4, v_ls_4, v_il_5, v_al_5, v_is_5, v_as_5, v_inc_5, v_ll_5, v_ls_5, v_il_6, v_al_6, v_is_6, v_as_6, v_inc_6, v_il_7, v_al_7, v_is_7, v_as_7, v_inc_7, v_il_8, v_al_8, v_is_8, v_as_8, v_inc_8, v_il_9, v_al_9, v_is_9, v_as_9, v_inc_9, v_il_10, v_al_10, v_is_10, v_as_10, v_inc_10, v_il_11, v_al_11, v_is_11, v_as_11, v_inc_11, v_il_12, v_al_12, v_is_12, v_as_12, v_inc_12, v_il_13, v_al_13, v_is_13, v_as_13, v_inc_13, v_c_8, v_c_9, v_c_10, v_c_11, v_c_12, v_c_13, v_c_14, v_b_15, v_b_16, v_b_17, v_b_21, v_b_22, v_b_23, v_b_24, v_b_25, v_b_26, v_b_18, v_b_19, v_b_20, v_b_27, v_b_28, v_b_29, v_b_30, v_b_31, v_dup_i, v_dup_r, v_dup2, v_pop, v_gi, v_gl, v_gr, v_pi, v_pl, v_pz, v_iald, v_lald, v_bald, v_zald, v_aald, v_iast, v_last, v_bast, v_zast, v_alen_0, v_alen_1, v_alen_2, v_alen_3, v_alen_4, v_j_45, v_j_46, v_j_47, v_j_48, v_j_49, v_j_50, v_j_51, v_j_52, v_j_53, v_j_54, v_j_55, v_j_56, v_goto, v_sw, v_ret_i, v_ret_z, v_ret, v_cpy, v_iv_1, v_iv_2, v_iv_3, v_iv_4, v_iv_5, v_iv_6, v_is2_1, v_is2_2, v_is2_3, v_ivJ, List.nil_append, List.cons_append, rf_0_0, rf_0_1, rf_0_2, rf_0_3, rf_0_4, rf_0_5, rf_0_6, rf_0_7, rf_0_8, rf_0_9, rf_1_0, rf_1_2, rf_4_0, rf_4_1, rf_4_2, rf_5_8, rf_5_9, rf_5_10, rf_5_11, rf_5_12, rf_13_0, rf_13_1, rf_14_0, rf_14_1, rf_14_2, rf_15_8, rf_15_9, rf_15_10, rf_15_11, rf_15_12, rf_23_0, rf_23_1, rf_23_2, rf_24_8, rf_24_9, rf_24_10, rf_24_11, rf_24_12, rf_32_6, rf_34_0, rf_34_1, rf_34_2, rf_34_3, rf_35_8, rf_35_9, rf_35_10, rf_35_11, rf_35_12, rf_43_0, rf_43_1, rf_43_2, rf_43_3, rf_45_0, rf_45_1, rf_46_0, rf_46_1, rf_46_2, rf_46_3, rf_46_4, rf_46_5, rf_47_0, rf_47_1, rf_49_0, rf_49_1, rf_49_2, rf_49_3, rf_49_4, rf_49_5, rf_53_0, rf_53_1, rf_53_2, rf_53_3, rf_53_4, rf_53_5, rf_53_6, rf_53_7, rf_53_9, rf_53_10, rf_53_11, rf_53_12, rf_53_13, rf_54_0, rf_54_1, rf_55_1, rf_55_2, rf_55_3, rf_67_1, rf_67_6, rf_67_7, rf_67_8, rf_67_9, rf_67_10, rf_67_22, rf_67_23, rf_67_28, rf_67_30, rf_67_32, rf_67_33, rf_67_38, rf_67_39, rf_67_48, rf_67_49, rf_67_51, rf_67_52, rf_67_53, rf_67_54, rf_67_55, rf_67_60, rf_67_61, rf_67_62, p1, e1, e2, e3, if_neg (show ¬ (0 : Int) < 0 by omega), if_pos (show (0 : Int) < 2 by omega)]
theorem s_x_image_1 : XC (d + 2) 125 [aR 21 0 0, aI 1] M Q ↔ Q [aI 1] (up (cpSt M 4 23) 23 5 1) := by
  have p1 : ∀ Q', XC (d + 1) 69 [aR 17 0 23, aR 17 0 4] M Q' ↔ Q' [] (cpSt M 4 23) := fun Q' => s_st_4_23
  have e1 : w32 1 = 1 := rfl
  have e2 : w32 2 = 2 := rfl
  have e3 : Int.toNat 1 = 1 := rfl
  simp (disch := first | exact nl_i _ | exact nl_r _ | exact Nat.le_of_ble_eq_true rfl | exact Or.inl rfl | exact Or.inr rfl | exact w8_lo _ | exact w8_hi _ | decide | omega) only [e_125, k_125_0, b_125_9, k_125_9, b_125_11, k_125_11, v_fall, v_il_0, v_al_0, v_is_0, v_as_0, v_inc_0, v_ll_0, v_ls_0, v_il_1, v_al_1, v_is_1, v_as_1, v_inc_1, v_ll_1, v_ls_1, v_il_2, v_al_2, v_is_2, v_as_2, v_inc_2, v_ll_2, v_ls_2, v_il_3, v_al_3, v_is_3, v_as_3, v_inc_3, v_ll_3, v_ls_3, v_il_4, v_al_4, v_is_4, v_as_4, v_inc_4, v_ll_4, v_ls_4, v_il_5, v_al_5, v_is_5, v_as_5, v_inc_5, v_ll_5, v_ls_5, v_il_6, v_al_6, v_is_6, v_as_6, v_inc_6, v_il_7, v_al_7, v_is_7, v_as_7, v_inc_7, v_il_8, v_al_8, v_is_8, v_as_8, v_inc_8, v_il_9, v_al_9, v_is_9, v_as_9, v_inc_9, v_il_10, v_al_10, v_is_10, v_as_10, v_inc_10, v_il_11, v_al_11, v_is_11, v_as_11, v_inc_11, v_il_12, v_al_12, v_is_12, v_as_12, v_inc_12, v_il_13, v_al_13, v_is_13, v_as_13, v_inc_13, v_c_8, v_c_9, v_c_10, v_c_11, v_c_12, v_c_13, v_c_14, v_b_15, v_b_16, v_b_17, v_b_21, v_b_22, v_b_23, v_b_24, v_b_25, v_b_26, v_b_18, v_b_19, v_b_20, v_b_27, v_b_28, v_b_29, v_b_30, v_b_31, v_dup_i, v_dup_r, v_dup2, v_pop, v_gi, v_gl, v_gr, v_pi, v_pl, v_pz, v_iald, v_lald, v_bald, v_zald, v_aald, v_iast, v_last, v_bast, v_zast, v_alen_0, v_alen_1, v_alen_2, v_alen_3, v_alen_4, v_j_45, v_j_46, v_j_47, v_j_48, v_j_49, v_j_50, v_j_51, v_j_52, v_j_53, v_j_54, v_j_55, v_j_56, v_goto, v_sw, v_ret_i, v_ret_z, v_ret, v_cpy, v_iv_1, v_iv_2, v_iv_3, v_iv_4, v_iv_5, v_iv_6, v_is2_1, v_is2_2, v_is2_3, v_ivJ, List.nil_append, List.cons_append, rf_0_0, rf_0_1, rf_0_2, rf_0_3, rf_0_4, rf_0_5, rf_0_6, rf_0_7, rf_0_8, rf_0_9, rf_1_0, rf_1_2, rf_4_0, rf_4_1, rf_4_2, rf_5_8, rf_5_9, rf_5_10, rf_5_11, rf_5_12, rf_13_0, rf_13_1, rf_14_0, rf_14_1, rf_14_2, rf_15_8, rf_15_9, rf_15_10, rf_15_11, rf_15_12, rf_23_0, rf_23_1, rf_23_2, rf_24_8, rf_24_9, rf_24_10, rf_24_11, rf_24_12, rf_32_6, rf_34_0, rf_34_1, rf_34_2, rf_34_3, rf_35_8, rf_35_9, rf_35_10, rf_35_11, rf_35_12, rf_43_0, rf_43_1, rf_43_2, rf_43_3, rf_45_0, rf_45_1, rf_46_0, rf_46_1, rf_46_2, rf_46_3, rf_46_4, rf_46_5, rf_47_0, rf_47_1, rf_49_0, rf_49_1, rf_49_2, rf_49_3, rf_49_4, rf_49_5, rf_53_0, rf_53_1, rf_53_2, rf_53_3, rf_53_4, rf_53_5, rf_53_6, rf_53_7, rf_53_9, rf_53_10, rf_53_11, rf_53_12, rf_53_13, rf_54_0, rf_54_1, rf_55_1, rf_55_2, rf_55_3, rf_67_1, rf_67_6, rf_67_7, rf_67_8, rf_67_9, rf_67_10, rf_67_22, rf_67_23, rf_67_28, rf_67_30, rf_67_32, rf_67_33, rf_67_38, rf_67_39, rf_67_48, rf_67_49, rf_67_51, rf_67_52, rf_67_53, rf_67_54, rf_67_55, rf_67_60, rf_67_61, rf_67_62, p1, e1, e2, e3, if_neg (show ¬ (1 : Int) < 0 by omega), if_pos (show (1 : Int) < 2 by omega)]
end IM
theorem iv_29_0 {M : Mem} (hI : Inv M) : Step2 125 220 [aI 0] M Inv := by
  unfold Step2
  rw [s_x_image_0 (d := 13), s_m_image (d := 14) 0 ⟨by decide, by decide⟩]
  refine ⟨eqr_i rfl, ?_⟩
  have F : ∀ (b : Nat) (j : Int), (b < 14 ∨ 14 + 8 < b) → b ≠ 67 → b ≠ 89 → b ≠ 90 → b ≠ 91 → imgM (up (cpSt M 4 14) 14 5 1) 0 b j = M b j := fun b j h h67 h89 h90 h91 => by
    rw [imgM_o h67 h89 h90 h91, up_b (by omega), cpSt_o h]
  have F67 : ∀ j, j ≠ 0 → imgM (up (cpSt M 4 14) 14 5 1) 0 67 j = M 67 j := fun j hj => by rw [imgM_67 hj, up_b (by decide), cpSt_o (by omega)]
  have S : ∀ (b : Nat) (j : Int), b ≠ 14 → b ≠ 67 → b ≠ 89 → b ≠ 90 → b ≠ 91 → imgM (up (cpSt M 4 14) 14 5 1) 0 b j = cpSt M 4 14 b j := fun b j h h67 h89 h90 h91 => by
    rw [imgM_o h67 h89 h90 h91, up_b h]
  have S3 : imgM (up (cpSt M 4 14) 14 5 1) 0 14 3 = M 4 3 := by rw [imgM_o (by decide) (by decide) (by decide) (by decide), up_j (by decide), cpSt_3]
  have S4 : imgM (up (cpSt M 4 14) 14 5 1) 0 14 4 = M 4 4 := by rw [imgM_o (by decide) (by decide) (by decide) (by decide), up_j (by decide), cpSt_4]
  have S5 : imgM (up (cpSt M 4 14) 14 5 1) 0 14 5 = 1 := by rw [imgM_o (by decide) (by decide) (by decide) (by decide), up_s]
  have A1 : ∀ j, 0 ≤ j → j < 383 → imgM (up (cpSt M 4 14) 14 5 1) 0 89 (383 * 0 + j) = M 69 j := fun j h0 h1 => by rw [imgM_89 h0 h1, up_b (by decide), cpSt_o (by omega)]
  have A2 : ∀ j, (j < 383 * 0 ∨ 383 * 0 + 383 ≤ j) → imgM (up (cpSt M 4 14) 14 5 1) 0 89 j = M 89 j := fun j h => by rw [imgM_89o h, up_b (by decide), cpSt_o (by omega)]
  have B1 : ∀ j, 0 ≤ j → j < 17 → imgM (up (cpSt M 4 14) 14 5 1) 0 90 (17 * 0 + j) = M 72 j := fun j h0 h1 => by rw [imgM_90 h0 h1, up_b (by decide), cpSt_o (by omega)]
  have B2 : ∀ j, (j < 17 * 0 ∨ 17 * 0 + 17 ≤ j) → imgM (up (cpSt M 4 14) 14 5 1) 0 90 j = M 90 j := fun j h => by rw [imgM_90o h, up_b (by decide), cpSt_o (by omega)]
  have C1 : imgM (up (cpSt M 4 14) 14 5 1) 0 91 0 = 1 := imgM_91
  have C2 : ∀ j, j ≠ 0 → imgM (up (cpSt M 4 14) 14 5 1) 0 91 j = M 91 j := fun j h => by rw [imgM_91o h, up_b (by decide), cpSt_o (by omega)]
  generalize imgM (up (cpSt M 4 14) 14 5 1) 0 = M2 at F F67 S S3 S4 S5 A1 A2 B1 B2 C1 C2 ⊢
  have f : ∀ b, (b < 14 ∨ 14 + 8 < b) → b ≠ 67 → b ≠ 89 → b ≠ 90 → b ≠ 91 → M2 b = M b := fun b h h67 h89 h90 h91 => funext fun j => F b j h h67 h89 h90 h91
  obtain ⟨i1, i0, i2, i3, i4, i5, i6, i7, i8, i9, i10, i11⟩ := hI
  have KN : StR (M2 14) (M2 15) (M2 16) (M2 17) (M2 18) (M2 19) (M2 20) (M2 21) (M2 22) (fun i => M2 89 (383 * 0 + i)) (fun i => M2 90 (17 * 0 + i)) := by
    refine StR_cg i3 S3 S4 (fun j h0 h1 => ?_) (fun j h0 h1 => ?_) (fun j h0 h1 => ?_) (fun j h0 h1 => ?_) (fun j h0 h1 => ?_) (fun j h0 h1 => ?_) (fun j h0 h1 => ?_) (fun j h0 h1 => ?_) A1 B1
    · rw [S _ _ (by decide) (by decide) (by decide) (by decide) (by decide)]; exact cpSt_f (s := 4) (t := 14) h0 h1
    · rw [S _ _ (by decide) (by decide) (by decide) (by decide) (by decide)]; exact cpSt_r1 (s := 4) (t := 14) (by decide) h0 h1
    · rw [S _ _ (by decide) (by decide) (by decide) (by decide) (by decide)]; exact cpSt_r2 (s := 4) (t := 14) (by decide) h0 h1
    · rw [S _ _ (by decide) (by decide) (by decide) (by decide) (by decide)]; exact cpSt_r3 (s := 4) (t := 14) (by decide) h0 h1
    · rw [S _ _ (by decide) (by decide) (by decide) (by decide) (by decide)]; exact cpSt_r4 (s := 4) (t := 14) (by decide) h0 h1
    · rw [S _ _ (by decide) (by decide) (by decide) (by decide) (by decide)]; exact cpSt_r5 (s := 4) (t := 14) (by decide) h0 h1
    · rw [S _ _ (by decide) (by decide) (by decide) (by decide) (by decide)]; exact cpSt_7 (s := 4) (t := 14) (by decide) h0 h1
    · rw [S _ _ (by decide) (by decide) (by decide) (by decide) (by decide)]; exact cpSt_8 (s := 4) (t := 14) (by decide) h0 h1
  refine ⟨?_, ⟨small_cg (f 69 (by omega) (by decide) (by decide) (by decide) (by decide)) i0.1, small_cg (f 7 (by omega) (by decide) (by decide) (by decide) (by decide)) i0.2.1, small_cg (f 37 (by omega) (by decide) (by decide) (by decide) (by decide)) i0.2.2.1, (fun i h1 h2 => by rw [S _ _ (by decide) (by decide) (by decide) (by decide) (by decide), show cpSt M 4 14 17 i = M 7 i from cpSt_r2 (s := 4) (t := 14) (by decide) h1 h2]; exact i0.2.1 i h1 h2), small_cg (f 26 (by omega) (by decide) (by decide) (by decide) (by decide)) i0.2.2.2.2.1, ?_, small_cg (f 70 (by omega) (by decide) (by decide) (by decide) (by decide)) i0.2.2.2.2.2.2.1, small_cg (f 71 (by omega) (by decide) (by decide) (by decide) (by decide)) i0.2.2.2.2.2.2.2⟩, ?_, ?_, ?_, ?_, ?_, ?_, ?_, ?_, ?_, ?_⟩
  · unfold tapeR at i1 ⊢
    rw [f 1 (by omega) (by decide) (by decide) (by decide) (by decide), f 2 (by omega) (by decide) (by decide) (by decide) (by decide), f 68 (by omega) (by decide) (by decide) (by decide) (by decide), F67 2 (by decide)]
    exact i1
  · intro i h1 h2
    have h2 : i < 766 := h2
    by_cases hi : 383 * 0 ≤ i ∧ i < 383 * 0 + 383
    · have e := A1 (i - 383 * 0) (by omega) (by omega)
      rw [show (383 : Int) * 0 + (i - 383 * 0) = i by omega] at e
      rw [e]
      exact i0.1 _ (by omega) (by show i - 383 * 0 < 383; omega)
    · rw [A2 i (by omega)]
      exact i0.2.2.2.2.2.1 i h1 h2
  · rw [f 1 (by omega) (by decide) (by decide) (by decide) (by decide), F67 15 (by decide)]; exact i2
  · unfold NowR at i3 ⊢
    rw [f 4 (by omega) (by decide) (by decide) (by decide) (by decide), f 5 (by omega) (by decide) (by decide) (by decide) (by decide), f 6 (by omega) (by decide) (by decide) (by decide) (by decide), f 7 (by omega) (by decide) (by decide) (by decide) (by decide), f 8 (by omega) (by decide) (by decide) (by decide) (by decide), f 9 (by omega) (by decide) (by decide) (by decide) (by decide), f 10 (by omega) (by decide) (by decide) (by decide) (by decide), f 11 (by omega) (by decide) (by decide) (by decide) (by decide), f 12 (by omega) (by decide) (by decide) (by decide) (by decide), f 69 (by omega) (by decide) (by decide) (by decide) (by decide), f 72 (by omega) (by decide) (by decide) (by decide) (by decide)]
    exact i3
  · unfold GridR at i4 ⊢
    rw [f 5 (by omega) (by decide) (by decide) (by decide) (by decide), f 32 (by omega) (by decide) (by decide) (by decide) (by decide), f 33 (by omega) (by decide) (by decide) (by decide) (by decide)]; exact i4
  · refine ⟨by rw [S5, C1], Or.inr ⟨C1, ?_⟩⟩
    have e1 : (fun i => M2 89 (383 * 0 + i)) = M2 89 := funext fun i => by rw [show (383 : Int) * 0 + i = i by omega]
    have e2 : (fun i => M2 90 (17 * 0 + i)) = M2 90 := funext fun i => by rw [show (17 : Int) * 0 + i = i by omega]
    rw [e1, e2] at KN
    exact KN
  · unfold Kept1 at i6 ⊢
    rw [f 23 (by omega) (by decide) (by decide) (by decide) (by decide), f 24 (by omega) (by decide) (by decide) (by decide) (by decide), f 25 (by omega) (by decide) (by decide) (by decide) (by decide), f 26 (by omega) (by decide) (by decide) (by decide) (by decide), f 27 (by omega) (by decide) (by decide) (by decide) (by decide), f 28 (by omega) (by decide) (by decide) (by decide) (by decide), f 29 (by omega) (by decide) (by decide) (by decide) (by decide), f 30 (by omega) (by decide) (by decide) (by decide) (by decide), f 31 (by omega) (by decide) (by decide) (by decide) (by decide), C2 1 (by decide)]
    refine ⟨i6.1, i6.2.imp (fun h => h) (fun h => ⟨h.1, StR_cg h.2 rfl rfl (fun _ _ _ => rfl) (fun _ _ _ => rfl) (fun _ _ _ => rfl) (fun _ _ _ => rfl) (fun _ _ _ => rfl) (fun _ _ _ => rfl) (fun _ _ _ => rfl) (fun _ _ _ => rfl) (fun j h0 h1 => A2 (383 + j) (by omega)) (fun j h0 h1 => B2 (17 + j) (by omega))⟩)⟩
  · unfold ToldR at i7 ⊢
    rw [f 45 (by omega) (by decide) (by decide) (by decide) (by decide), f 76 (by omega) (by decide) (by decide) (by decide) (by decide), F67 29 (by decide)]; exact i7
  · rw [f 0 (by omega) (by decide) (by decide) (by decide) (by decide), F67 36 (by decide)]; exact i8
  · rw [f 0 (by omega) (by decide) (by decide) (by decide) (by decide), F67 59 (by decide)]; exact i9
  · unfold JudR tellX at i10 ⊢
    rw [f 46 (by omega) (by decide) (by decide) (by decide) (by decide), f 48 (by omega) (by decide) (by decide) (by decide) (by decide), f 80 (by omega) (by decide) (by decide) (by decide) (by decide), f 81 (by omega) (by decide) (by decide) (by decide) (by decide), F67 40 (by decide)]; exact i10
  · unfold ConR at i11 ⊢
    rw [f 88 (by omega) (by decide) (by decide) (by decide) (by decide), f 3 (by omega) (by decide) (by decide) (by decide) (by decide), f 73 (by omega) (by decide) (by decide) (by decide) (by decide), F67 21 (by decide), F67 31 (by decide)]; exact i11
theorem iv_29_1 {M : Mem} (hI : Inv M) : Step2 125 220 [aI 1] M Inv := by
  unfold Step2
  rw [s_x_image_1 (d := 13), s_m_image (d := 14) 1 ⟨by decide, by decide⟩]
  refine ⟨eqr_i rfl, ?_⟩
  have F : ∀ (b : Nat) (j : Int), (b < 23 ∨ 23 + 8 < b) → b ≠ 67 → b ≠ 89 → b ≠ 90 → b ≠ 91 → imgM (up (cpSt M 4 23) 23 5 1) 1 b j = M b j := fun b j h h67 h89 h90 h91 => by
    rw [imgM_o h67 h89 h90 h91, up_b (by omega), cpSt_o h]
  have F67 : ∀ j, j ≠ 0 → imgM (up (cpSt M 4 23) 23 5 1) 1 67 j = M 67 j := fun j hj => by rw [imgM_67 hj, up_b (by decide), cpSt_o (by omega)]
  have S : ∀ (b : Nat) (j : Int), b ≠ 23 → b ≠ 67 → b ≠ 89 → b ≠ 90 → b ≠ 91 → imgM (up (cpSt M 4 23) 23 5 1) 1 b j = cpSt M 4 23 b j := fun b j h h67 h89 h90 h91 => by
    rw [imgM_o h67 h89 h90 h91, up_b h]
  have S3 : imgM (up (cpSt M 4 23) 23 5 1) 1 23 3 = M 4 3 := by rw [imgM_o (by decide) (by decide) (by decide) (by decide), up_j (by decide), cpSt_3]
  have S4 : imgM (up (cpSt M 4 23) 23 5 1) 1 23 4 = M 4 4 := by rw [imgM_o (by decide) (by decide) (by decide) (by decide), up_j (by decide), cpSt_4]
  have S5 : imgM (up (cpSt M 4 23) 23 5 1) 1 23 5 = 1 := by rw [imgM_o (by decide) (by decide) (by decide) (by decide), up_s]
  have A1 : ∀ j, 0 ≤ j → j < 383 → imgM (up (cpSt M 4 23) 23 5 1) 1 89 (383 * 1 + j) = M 69 j := fun j h0 h1 => by rw [imgM_89 h0 h1, up_b (by decide), cpSt_o (by omega)]
  have A2 : ∀ j, (j < 383 * 1 ∨ 383 * 1 + 383 ≤ j) → imgM (up (cpSt M 4 23) 23 5 1) 1 89 j = M 89 j := fun j h => by rw [imgM_89o h, up_b (by decide), cpSt_o (by omega)]
  have B1 : ∀ j, 0 ≤ j → j < 17 → imgM (up (cpSt M 4 23) 23 5 1) 1 90 (17 * 1 + j) = M 72 j := fun j h0 h1 => by rw [imgM_90 h0 h1, up_b (by decide), cpSt_o (by omega)]
  have B2 : ∀ j, (j < 17 * 1 ∨ 17 * 1 + 17 ≤ j) → imgM (up (cpSt M 4 23) 23 5 1) 1 90 j = M 90 j := fun j h => by rw [imgM_90o h, up_b (by decide), cpSt_o (by omega)]
  have C1 : imgM (up (cpSt M 4 23) 23 5 1) 1 91 1 = 1 := imgM_91
  have C2 : ∀ j, j ≠ 1 → imgM (up (cpSt M 4 23) 23 5 1) 1 91 j = M 91 j := fun j h => by rw [imgM_91o h, up_b (by decide), cpSt_o (by omega)]
  generalize imgM (up (cpSt M 4 23) 23 5 1) 1 = M2 at F F67 S S3 S4 S5 A1 A2 B1 B2 C1 C2 ⊢
  have f : ∀ b, (b < 23 ∨ 23 + 8 < b) → b ≠ 67 → b ≠ 89 → b ≠ 90 → b ≠ 91 → M2 b = M b := fun b h h67 h89 h90 h91 => funext fun j => F b j h h67 h89 h90 h91
  obtain ⟨i1, i0, i2, i3, i4, i5, i6, i7, i8, i9, i10, i11⟩ := hI
  have KN : StR (M2 23) (M2 24) (M2 25) (M2 26) (M2 27) (M2 28) (M2 29) (M2 30) (M2 31) (fun i => M2 89 (383 * 1 + i)) (fun i => M2 90 (17 * 1 + i)) := by
    refine StR_cg i3 S3 S4 (fun j h0 h1 => ?_) (fun j h0 h1 => ?_) (fun j h0 h1 => ?_) (fun j h0 h1 => ?_) (fun j h0 h1 => ?_) (fun j h0 h1 => ?_) (fun j h0 h1 => ?_) (fun j h0 h1 => ?_) A1 B1
    · rw [S _ _ (by decide) (by decide) (by decide) (by decide) (by decide)]; exact cpSt_f (s := 4) (t := 23) h0 h1
    · rw [S _ _ (by decide) (by decide) (by decide) (by decide) (by decide)]; exact cpSt_r1 (s := 4) (t := 23) (by decide) h0 h1
    · rw [S _ _ (by decide) (by decide) (by decide) (by decide) (by decide)]; exact cpSt_r2 (s := 4) (t := 23) (by decide) h0 h1
    · rw [S _ _ (by decide) (by decide) (by decide) (by decide) (by decide)]; exact cpSt_r3 (s := 4) (t := 23) (by decide) h0 h1
    · rw [S _ _ (by decide) (by decide) (by decide) (by decide) (by decide)]; exact cpSt_r4 (s := 4) (t := 23) (by decide) h0 h1
    · rw [S _ _ (by decide) (by decide) (by decide) (by decide) (by decide)]; exact cpSt_r5 (s := 4) (t := 23) (by decide) h0 h1
    · rw [S _ _ (by decide) (by decide) (by decide) (by decide) (by decide)]; exact cpSt_7 (s := 4) (t := 23) (by decide) h0 h1
    · rw [S _ _ (by decide) (by decide) (by decide) (by decide) (by decide)]; exact cpSt_8 (s := 4) (t := 23) (by decide) h0 h1
  refine ⟨?_, ⟨small_cg (f 69 (by omega) (by decide) (by decide) (by decide) (by decide)) i0.1, small_cg (f 7 (by omega) (by decide) (by decide) (by decide) (by decide)) i0.2.1, small_cg (f 37 (by omega) (by decide) (by decide) (by decide) (by decide)) i0.2.2.1, small_cg (f 17 (by omega) (by decide) (by decide) (by decide) (by decide)) i0.2.2.2.1, (fun i h1 h2 => by rw [S _ _ (by decide) (by decide) (by decide) (by decide) (by decide), show cpSt M 4 23 26 i = M 7 i from cpSt_r2 (s := 4) (t := 23) (by decide) h1 h2]; exact i0.2.1 i h1 h2), ?_, small_cg (f 70 (by omega) (by decide) (by decide) (by decide) (by decide)) i0.2.2.2.2.2.2.1, small_cg (f 71 (by omega) (by decide) (by decide) (by decide) (by decide)) i0.2.2.2.2.2.2.2⟩, ?_, ?_, ?_, ?_, ?_, ?_, ?_, ?_, ?_, ?_⟩
  · unfold tapeR at i1 ⊢
    rw [f 1 (by omega) (by decide) (by decide) (by decide) (by decide), f 2 (by omega) (by decide) (by decide) (by decide) (by decide), f 68 (by omega) (by decide) (by decide) (by decide) (by decide), F67 2 (by decide)]
    exact i1
  · intro i h1 h2
    have h2 : i < 766 := h2
    by_cases hi : 383 * 1 ≤ i ∧ i < 383 * 1 + 383
    · have e := A1 (i - 383 * 1) (by omega) (by omega)
      rw [show (383 : Int) * 1 + (i - 383 * 1) = i by omega] at e
      rw [e]
      exact i0.1 _ (by omega) (by show i - 383 * 1 < 383; omega)
    · rw [A2 i (by omega)]
      exact i0.2.2.2.2.2.1 i h1 h2
  · rw [f 1 (by omega) (by decide) (by decide) (by decide) (by decide), F67 15 (by decide)]; exact i2
  · unfold NowR at i3 ⊢
    rw [f 4 (by omega) (by decide) (by decide) (by decide) (by decide), f 5 (by omega) (by decide) (by decide) (by decide) (by decide), f 6 (by omega) (by decide) (by decide) (by decide) (by decide), f 7 (by omega) (by decide) (by decide) (by decide) (by decide), f 8 (by omega) (by decide) (by decide) (by decide) (by decide), f 9 (by omega) (by decide) (by decide) (by decide) (by decide), f 10 (by omega) (by decide) (by decide) (by decide) (by decide), f 11 (by omega) (by decide) (by decide) (by decide) (by decide), f 12 (by omega) (by decide) (by decide) (by decide) (by decide), f 69 (by omega) (by decide) (by decide) (by decide) (by decide), f 72 (by omega) (by decide) (by decide) (by decide) (by decide)]
    exact i3
  · unfold GridR at i4 ⊢
    rw [f 5 (by omega) (by decide) (by decide) (by decide) (by decide), f 32 (by omega) (by decide) (by decide) (by decide) (by decide), f 33 (by omega) (by decide) (by decide) (by decide) (by decide)]; exact i4
  · unfold Kept0 at i5 ⊢
    rw [f 14 (by omega) (by decide) (by decide) (by decide) (by decide), f 15 (by omega) (by decide) (by decide) (by decide) (by decide), f 16 (by omega) (by decide) (by decide) (by decide) (by decide), f 17 (by omega) (by decide) (by decide) (by decide) (by decide), f 18 (by omega) (by decide) (by decide) (by decide) (by decide), f 19 (by omega) (by decide) (by decide) (by decide) (by decide), f 20 (by omega) (by decide) (by decide) (by decide) (by decide), f 21 (by omega) (by decide) (by decide) (by decide) (by decide), f 22 (by omega) (by decide) (by decide) (by decide) (by decide), C2 0 (by decide)]
    refine ⟨i5.1, i5.2.imp (fun h => h) (fun h => ⟨h.1, StR_cg h.2 rfl rfl (fun _ _ _ => rfl) (fun _ _ _ => rfl) (fun _ _ _ => rfl) (fun _ _ _ => rfl) (fun _ _ _ => rfl) (fun _ _ _ => rfl) (fun _ _ _ => rfl) (fun _ _ _ => rfl) (fun j h0 h1 => A2 j (by omega)) (fun j h0 h1 => B2 j (by omega))⟩)⟩
  · refine ⟨by rw [S5, C1], Or.inr ⟨C1, ?_⟩⟩
    have e1 : (fun i => M2 89 (383 * 1 + i)) = fun i => M2 89 (383 + i) := funext fun i => by rw [show (383 : Int) * 1 + i = 383 + i by omega]
    have e2 : (fun i => M2 90 (17 * 1 + i)) = fun i => M2 90 (17 + i) := funext fun i => by rw [show (17 : Int) * 1 + i = 17 + i by omega]
    rw [e1, e2] at KN
    exact KN
  · unfold ToldR at i7 ⊢
    rw [f 45 (by omega) (by decide) (by decide) (by decide) (by decide), f 76 (by omega) (by decide) (by decide) (by decide) (by decide), F67 29 (by decide)]; exact i7
  · rw [f 0 (by omega) (by decide) (by decide) (by decide) (by decide), F67 36 (by decide)]; exact i8
  · rw [f 0 (by omega) (by decide) (by decide) (by decide) (by decide), F67 59 (by decide)]; exact i9
  · unfold JudR tellX at i10 ⊢
    rw [f 46 (by omega) (by decide) (by decide) (by decide) (by decide), f 48 (by omega) (by decide) (by decide) (by decide) (by decide), f 80 (by omega) (by decide) (by decide) (by decide) (by decide), f 81 (by omega) (by decide) (by decide) (by decide) (by decide), F67 40 (by decide)]; exact i10
  · unfold ConR at i11 ⊢
    rw [f 88 (by omega) (by decide) (by decide) (by decide) (by decide), f 3 (by omega) (by decide) (by decide) (by decide) (by decide), f 73 (by omega) (by decide) (by decide) (by decide) (by decide), F67 21 (by decide), F67 31 (by decide)]; exact i11
theorem iv_29 {M : Mem} {a : Nat → Int} (ha : ∀ j, I32 (a j)) (hI : Inv M) : Step2 125 220 [aI (a 1)] M Inv := by
  by_cases h : a 1 < 0 ∨ 2 ≤ a 1
  · unfold Step2
    rw [s_x_image0 _ (ha 1) h, s_m_image0 (d := 14) _ (ha 1) h]
    exact ⟨eqr_i rfl, hI.thr⟩
  · by_cases h0 : a 1 = 0
    · rw [h0]; exact iv_29_0 hI
    · rw [show a 1 = 1 by omega]; exact iv_29_1 hI
