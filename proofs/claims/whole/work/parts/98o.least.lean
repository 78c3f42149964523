/-! BEST on the class's side: depart, leastMinutes -/
section DE
variable {d : Nat} {M M0 : Mem} {Q : List AV → Mem → Prop} {w l m : Nat} {wh cm lv : Nat → Int} {len : Nat} {f : Nat → Nat} {A : Nat → Int} {s : Nat}
theorem dpt_0 (st hd lg mo : Int) (p : ∀ Q', XC d 38 [aR 13 0 5, aI st] M Q' ↔ Q' [aI lg] M) (hb : (-1 ≤ hd ∧ hd ≤ 100) ∧ -1 ≤ lg ∧ lg ≤ 100) (hm : mo = if lg = hd then 1 else 0) : XC (d + 1) 58 [aR 15 0 53, aI st, aI hd] M Q ↔ XL (d + 1) 58 27 [aR 15 0 53, aI st, aI hd, aI lg, aI mo, aI 0, aI 0, aU, aU, aU, aU] [] M Q := by
  rw [e_58, k_58_0]
  by_cases c : lg = hd
  · rw [if_pos c] at hm
    subst hm
    simp (disch := first | exact nl_i _ | exact nl_r _ | exact Nat.le_of_ble_eq_true rfl | exact Or.inl rfl | exact Or.inr rfl | exact w8_lo _ | exact w8_hi _ | decide | omega) only [v_fall, v_il_0, v_al_0, v_is_0, v_as_0, v_inc_0, v_ll_0, v_ls_0, v_il_1, v_al_1, v_is_1, v_as_1, v_inc_1, v_ll_1, v_ls_1, v_il_2, v_al_2, v_is_2, v_as_2, v_inc_2, v_ll_2, v_ls_2, v_il_3, v_al_3, v_is_3, v_as_3, v_inc_3, v_ll_3, v_ls_3, v_il_4, v_al_4, v_is_4, v_as_4, v_inc_4, v_ll_4, v_ls_4, v_il_5, v_al_5, v_is_5, v_as_5, v_inc_5, v_ll_5, v_ls_5, v_il_6, v_al_6, v_is_6, v_as_6, v_inc_6, v_il_7, v_al_7, v_is_7, v_as_7, v_inc_7, v_il_8, v_al_8, v_is_8, v_as_8, v_inc_8, v_il_9, v_al_9, v_is_9, v_as_9, v_inc_9, v_il_10, v_al_10, v_is_10, v_as_10, v_inc_10, v_il_11, v_al_11, v_is_11, v_as_11, v_inc_11, v_il_12, v_al_12, v_is_12, v_as_12, v_inc_12, v_il_13, v_al_13, v_is_13, v_as_13, v_inc_13, v_c_8, v_c_9, v_c_10, v_c_11, v_c_12, v_c_13, v_c_14, v_b_15, v_b_16, v_b_17, v_b_21, v_b_22, v_b_23, v_b_24, v_b_25, v_b_26, v_b_18, v_b_19, v_b_20, v_b_27, v_b_28, v_b_29, v_b_30, v_b_31, v_dup_i, v_dup_r, v_dup2, v_pop, v_gi, v_gl, v_gr, v_pi, v_pl, v_pz, v_iald, v_lald, v_bald, v_zald, v_aald, v_iast, v_last, v_bast, v_zast, v_alen_0, v_alen_1, v_alen_2, v_alen_3, v_alen_4, v_j_45, v_j_46, v_j_47, v_j_48, v_j_49, v_j_50, v_j_51, v_j_52, v_j_53, v_j_54, v_j_55, v_j_56, v_goto, v_sw, v_ret_i, v_ret_z, v_ret, v_cpy, v_iv_1, v_iv_2, v_iv_3, v_iv_4, v_iv_5, v_iv_6, v_is2_1, v_is2_2, v_is2_3, v_ivJ, List.nil_append, List.cons_append, rf_0_0, rf_0_1, rf_0_2, rf_0_3, rf_0_4, rf_0_5, rf_0_6, rf_0_7, rf_0_8, rf_0_9, rf_1_0, rf_1_2, rf_4_0, rf_4_1, rf_4_2, rf_5_8, rf_5_9, rf_5_10, rf_5_11, rf_5_12, rf_13_0, rf_13_1, rf_14_0, rf_14_1, rf_14_2, rf_15_8, rf_15_9, rf_15_10, rf_15_11, rf_15_12, rf_23_0, rf_23_1, rf_23_2, rf_24_8, rf_24_9, rf_24_10, rf_24_11, rf_24_12, rf_32_6, rf_34_0, rf_34_1, rf_34_2, rf_34_3, rf_35_8, rf_35_9, rf_35_10, rf_35_11, rf_35_12, rf_43_0, rf_43_1, rf_43_2, rf_43_3, rf_45_0, rf_45_1, rf_46_0, rf_46_1, rf_46_2, rf_46_3, rf_46_4, rf_46_5, rf_47_0, rf_47_1, rf_49_0, rf_49_1, rf_49_2, rf_49_3, rf_49_4, rf_49_5, rf_53_0, rf_53_1, rf_53_2, rf_53_3, rf_53_4, rf_53_5, rf_53_6, rf_53_7, rf_53_9, rf_53_10, rf_53_11, rf_53_12, rf_53_13, rf_54_0, rf_54_1, rf_55_1, rf_55_2, rf_55_3, rf_67_1, rf_67_6, rf_67_7, rf_67_8, rf_67_9, rf_67_10, rf_67_22, rf_67_23, rf_67_28, rf_67_30, rf_67_32, rf_67_33, rf_67_38, rf_67_39, rf_67_48, rf_67_49, rf_67_51, rf_67_52, rf_67_53, rf_67_54, rf_67_55, rf_67_60, rf_67_61, rf_67_62, up_s, up_b, up_j, b_58_18, k_58_18, b_58_19, k_58_19, b_58_67, k_58_67, b_58_73, k_58_73, b_58_185, k_58_185, b_58_191, k_58_191, w_sm, ↓if_pos, ↓if_neg,  p]
  · rw [if_neg c] at hm
    subst hm
    simp (disch := first | exact nl_i _ | exact nl_r _ | exact Nat.le_of_ble_eq_true rfl | exact Or.inl rfl | exact Or.inr rfl | exact w8_lo _ | exact w8_hi _ | decide | omega) only [v_fall, v_il_0, v_al_0, v_is_0, v_as_0, v_inc_0, v_ll_0, v_ls_0, v_il_1, v_al_1, v_is_1, v_as_1, v_inc_1, v_ll_1, v_ls_1, v_il_2, v_al_2, v_is_2, v_as_2, v_inc_2, v_ll_2, v_ls_2, v_il_3, v_al_3, v_is_3, v_as_3, v_inc_3, v_ll_3, v_ls_3, v_il_4, v_al_4, v_is_4, v_as_4, v_inc_4, v_ll_4, v_ls_4, v_il_5, v_al_5, v_is_5, v_as_5, v_inc_5, v_ll_5, v_ls_5, v_il_6, v_al_6, v_is_6, v_as_6, v_inc_6, v_il_7, v_al_7, v_is_7, v_as_7, v_inc_7, v_il_8, v_al_8, v_is_8, v_as_8, v_inc_8, v_il_9, v_al_9, v_is_9, v_as_9, v_inc_9, v_il_10, v_al_10, v_is_10, v_as_10, v_inc_10, v_il_11, v_al_11, v_is_11, v_as_11, v_inc_11, v_il_12, v_al_12, v_is_12, v_as_12, v_inc_12, v_il_13, v_al_13, v_is_13, v_as_13, v_inc_13, v_c_8, v_c_9, v_c_10, v_c_11, v_c_12, v_c_13, v_c_14, v_b_15, v_b_16, v_b_17, v_b_21, v_b_22, v_b_23, v_b_24, v_b_25, v_b_26, v_b_18, v_b_19, v_b_20, v_b_27, v_b_28, v_b_29, v_b_30, v_b_31, v_dup_i, v_dup_r, v_dup2, v_pop, v_gi, v_gl, v_gr, v_pi, v_pl, v_pz, v_iald, v_lald, v_bald, v_zald, v_aald, v_iast, v_last, v_bast, v_zast, v_alen_0, v_alen_1, v_alen_2, v_alen_3, v_alen_4, v_j_45, v_j_46, v_j_47, v_j_48, v_j_49, v_j_50, v_j_51, v_j_52, v_j_53, v_j_54, v_j_55, v_j_56, v_goto, v_sw, v_ret_i, v_ret_z, v_ret, v_cpy, v_iv_1, v_iv_2, v_iv_3, v_iv_4, v_iv_5, v_iv_6, v_is2_1, v_is2_2, v_is2_3, v_ivJ, List.nil_append, List.cons_append, rf_0_0, rf_0_1, rf_0_2, rf_0_3, rf_0_4, rf_0_5, rf_0_6, rf_0_7, rf_0_8, rf_0_9, rf_1_0, rf_1_2, rf_4_0, rf_4_1, rf_4_2, rf_5_8, rf_5_9, rf_5_10, rf_5_11, rf_5_12, rf_13_0, rf_13_1, rf_14_0, rf_14_1, rf_14_2, rf_15_8, rf_15_9, rf_15_10, rf_15_11, rf_15_12, rf_23_0, rf_23_1, rf_23_2, rf_24_8, rf_24_9, rf_24_10, rf_24_11, rf_24_12, rf_32_6, rf_34_0, rf_34_1, rf_34_2, rf_34_3, rf_35_8, rf_35_9, rf_35_10, rf_35_11, rf_35_12, rf_43_0, rf_43_1, rf_43_2, rf_43_3, rf_45_0, rf_45_1, rf_46_0, rf_46_1, rf_46_2, rf_46_3, rf_46_4, rf_46_5, rf_47_0, rf_47_1, rf_49_0, rf_49_1, rf_49_2, rf_49_3, rf_49_4, rf_49_5, rf_53_0, rf_53_1, rf_53_2, rf_53_3, rf_53_4, rf_53_5, rf_53_6, rf_53_7, rf_53_9, rf_53_10, rf_53_11, rf_53_12, rf_53_13, rf_54_0, rf_54_1, rf_55_1, rf_55_2, rf_55_3, rf_67_1, rf_67_6, rf_67_7, rf_67_8, rf_67_9, rf_67_10, rf_67_22, rf_67_23, rf_67_28, rf_67_30, rf_67_32, rf_67_33, rf_67_38, rf_67_39, rf_67_48, rf_67_49, rf_67_51, rf_67_52, rf_67_53, rf_67_54, rf_67_55, rf_67_60, rf_67_61, rf_67_62, up_s, up_b, up_j, b_58_18, k_58_18, b_58_19, k_58_19, b_58_67, k_58_67, b_58_73, k_58_73, b_58_185, k_58_185, b_58_191, k_58_191, w_sm, ↓if_pos, ↓if_neg,  p]
theorem dpt_1 (st i m9 ci li bo bo2 : Int) (o2 o3 o4 o7 o8 o9 o10 : AV) (hm : M 53 8 = m9) (hi : 0 ≤ i ∧ i < m9 ∧ m9 ≤ 4) (hc : M 60 i = ci) (hl : M 61 i = li) (hb : (-100 ≤ ci ∧ ci ≤ 100) ∧ (-100 ≤ li ∧ li ≤ 100) ∧ -100 ≤ st ∧ st ≤ 100) (h2 : bo2 = if ci ≤ st ∧ st < li then or32 bo (shl32 1 i) else bo) : XL d 58 27 [aR 15 0 53, aI st, o2, o3, o4, aI bo, aI i, o7, o8, o9, o10] [] M Q ↔ XL d 58 27 [aR 15 0 53, aI st, o2, o3, o4, aI bo2, aI (i + 1), o7, o8, o9, o10] [] M Q := by
  rw [b_58_27, k_58_27]
  by_cases c1 : ci ≤ st
  · by_cases c2 : st < li
    · rw [if_pos ⟨c1, c2⟩] at h2
      subst h2
      simp (disch := first | exact nl_i _ | exact nl_r _ | exact Nat.le_of_ble_eq_true rfl | exact Or.inl rfl | exact Or.inr rfl | exact w8_lo _ | exact w8_hi _ | decide | omega) only [v_fall, v_il_0, v_al_0, v_is_0, v_as_0, v_inc_0, v_ll_0, v_ls_0, v_il_1, v_al_1, v_is_1, v_as_1, v_inc_1, v_ll_1, v_ls_1, v_il_2, v_al_2, v_is_2, v_as_2, v_inc_2, v_ll_2, v_ls_2, v_il_3, v_al_3, v_is_3, v_as_3, v_inc_3, v_ll_3, v_ls_3, v_il_4, v_al_4, v_is_4, v_as_4, v_inc_4, v_ll_4, v_ls_4, v_il_5, v_al_5, v_is_5, v_as_5, v_inc_5, v_ll_5, v_ls_5, v_il_6, v_al_6, v_is_6, v_as_6, v_inc_6, v_il_7, v_al_7, v_is_7, v_as_7, v_inc_7, v_il_8, v_al_8, v_is_8, v_as_8, v_inc_8, v_il_9, v_al_9, v_is_9, v_as_9, v_inc_9, v_il_10, v_al_10, v_is_10, v_as_10, v_inc_10, v_il_11, v_al_11, v_is_11, v_as_11, v_inc_11, v_il_12, v_al_12, v_is_12, v_as_12, v_inc_12, v_il_13, v_al_13, v_is_13, v_as_13, v_inc_13, v_c_8, v_c_9, v_c_10, v_c_11, v_c_12, v_c_13, v_c_14, v_b_15, v_b_16, v_b_17, v_b_21, v_b_22, v_b_23, v_b_24, v_b_25, v_b_26, v_b_18, v_b_19, v_b_20, v_b_27, v_b_28, v_b_29, v_b_30, v_b_31, v_dup_i, v_dup_r, v_dup2, v_pop, v_gi, v_gl, v_gr, v_pi, v_pl, v_pz, v_iald, v_lald, v_bald, v_zald, v_aald, v_iast, v_last, v_bast, v_zast, v_alen_0, v_alen_1, v_alen_2, v_alen_3, v_alen_4, v_j_45, v_j_46, v_j_47, v_j_48, v_j_49, v_j_50, v_j_51, v_j_52, v_j_53, v_j_54, v_j_55, v_j_56, v_goto, v_sw, v_ret_i, v_ret_z, v_ret, v_cpy, v_iv_1, v_iv_2, v_iv_3, v_iv_4, v_iv_5, v_iv_6, v_is2_1, v_is2_2, v_is2_3, v_ivJ, List.nil_append, List.cons_append, rf_0_0, rf_0_1, rf_0_2, rf_0_3, rf_0_4, rf_0_5, rf_0_6, rf_0_7, rf_0_8, rf_0_9, rf_1_0, rf_1_2, rf_4_0, rf_4_1, rf_4_2, rf_5_8, rf_5_9, rf_5_10, rf_5_11, rf_5_12, rf_13_0, rf_13_1, rf_14_0, rf_14_1, rf_14_2, rf_15_8, rf_15_9, rf_15_10, rf_15_11, rf_15_12, rf_23_0, rf_23_1, rf_23_2, rf_24_8, rf_24_9, rf_24_10, rf_24_11, rf_24_12, rf_32_6, rf_34_0, rf_34_1, rf_34_2, rf_34_3, rf_35_8, rf_35_9, rf_35_10, rf_35_11, rf_35_12, rf_43_0, rf_43_1, rf_43_2, rf_43_3, rf_45_0, rf_45_1, rf_46_0, rf_46_1, rf_46_2, rf_46_3, rf_46_4, rf_46_5, rf_47_0, rf_47_1, rf_49_0, rf_49_1, rf_49_2, rf_49_3, rf_49_4, rf_49_5, rf_53_0, rf_53_1, rf_53_2, rf_53_3, rf_53_4, rf_53_5, rf_53_6, rf_53_7, rf_53_9, rf_53_10, rf_53_11, rf_53_12, rf_53_13, rf_54_0, rf_54_1, rf_55_1, rf_55_2, rf_55_3, rf_67_1, rf_67_6, rf_67_7, rf_67_8, rf_67_9, rf_67_10, rf_67_22, rf_67_23, rf_67_28, rf_67_30, rf_67_32, rf_67_33, rf_67_38, rf_67_39, rf_67_48, rf_67_49, rf_67_51, rf_67_52, rf_67_53, rf_67_54, rf_67_55, rf_67_60, rf_67_61, rf_67_62, up_s, up_b, up_j, b_58_18, k_58_18, b_58_19, k_58_19, b_58_67, k_58_67, b_58_73, k_58_73, b_58_185, k_58_185, b_58_191, k_58_191, w_sm, ↓if_pos, ↓if_neg,  hm, hc, hl]
    · rw [if_neg (fun h => c2 h.2)] at h2
      subst h2
      simp (disch := first | exact nl_i _ | exact nl_r _ | exact Nat.le_of_ble_eq_true rfl | exact Or.inl rfl | exact Or.inr rfl | exact w8_lo _ | exact w8_hi _ | decide | omega) only [v_fall, v_il_0, v_al_0, v_is_0, v_as_0, v_inc_0, v_ll_0, v_ls_0, v_il_1, v_al_1, v_is_1, v_as_1, v_inc_1, v_ll_1, v_ls_1, v_il_2, v_al_2, v_is_2, v_as_2, v_inc_2, v_ll_2, v_ls_2, v_il_3, v_al_3, v_is_3, v_as_3, v_inc_3, v_ll_3, v_ls_3, v_il_4, v_al_4, v_is_4, v_as_4, v_inc_4, v_ll_4, v_ls_4, v_il_5, v_al_5, v_is_5, v_as_5, v_inc_5, v_ll_5, v_ls_5, v_il_6, v_al_6, v_is_6, v_as_6, v_inc_6, v_il_7, v_al_7, v_is_7, v_as_7, v_inc_7, v_il_8, v_al_8, v_is_8, v_as_8, v_inc_8, v_il_9, v_al_9, v_is_9, v_as_9, v_inc_9, v_il_10, v_al_10, v_is_10, v_as_10, v_inc_10, v_il_11, v_al_11, v_is_11, v_as_11, v_inc_11, v_il_12, v_al_12, v_is_12, v_as_12, v_inc_12, v_il_13, v_al_13, v_is_13, v_as_13, v_inc_13, v_c_8, v_c_9, v_c_10, v_c_11, v_c_12, v_c_13, v_c_14, v_b_15, v_b_16, v_b_17, v_b_21, v_b_22, v_b_23, v_b_24, v_b_25, v_b_26, v_b_18, v_b_19, v_b_20, v_b_27, v_b_28, v_b_29, v_b_30, v_b_31, v_dup_i, v_dup_r, v_dup2, v_pop, v_gi, v_gl, v_gr, v_pi, v_pl, v_pz, v_iald, v_lald, v_bald, v_zald, v_aald, v_iast, v_last, v_bast, v_zast, v_alen_0, v_alen_1, v_alen_2, v_alen_3, v_alen_4, v_j_45, v_j_46, v_j_47, v_j_48, v_j_49, v_j_50, v_j_51, v_j_52, v_j_53, v_j_54, v_j_55, v_j_56, v_goto, v_sw, v_ret_i, v_ret_z, v_ret, v_cpy, v_iv_1, v_iv_2, v_iv_3, v_iv_4, v_iv_5, v_iv_6, v_is2_1, v_is2_2, v_is2_3, v_ivJ, List.nil_append, List.cons_append, rf_0_0, rf_0_1, rf_0_2, rf_0_3, rf_0_4, rf_0_5, rf_0_6, rf_0_7, rf_0_8, rf_0_9, rf_1_0, rf_1_2, rf_4_0, rf_4_1, rf_4_2, rf_5_8, rf_5_9, rf_5_10, rf_5_11, rf_5_12, rf_13_0, rf_13_1, rf_14_0, rf_14_1, rf_14_2, rf_15_8, rf_15_9, rf_15_10, rf_15_11, rf_15_12, rf_23_0, rf_23_1, rf_23_2, rf_24_8, rf_24_9, rf_24_10, rf_24_11, rf_24_12, rf_32_6, rf_34_0, rf_34_1, rf_34_2, rf_34_3, rf_35_8, rf_35_9, rf_35_10, rf_35_11, rf_35_12, rf_43_0, rf_43_1, rf_43_2, rf_43_3, rf_45_0, rf_45_1, rf_46_0, rf_46_1, rf_46_2, rf_46_3, rf_46_4, rf_46_5, rf_47_0, rf_47_1, rf_49_0, rf_49_1, rf_49_2, rf_49_3, rf_49_4, rf_49_5, rf_53_0, rf_53_1, rf_53_2, rf_53_3, rf_53_4, rf_53_5, rf_53_6, rf_53_7, rf_53_9, rf_53_10, rf_53_11, rf_53_12, rf_53_13, rf_54_0, rf_54_1, rf_55_1, rf_55_2, rf_55_3, rf_67_1, rf_67_6, rf_67_7, rf_67_8, rf_67_9, rf_67_10, rf_67_22, rf_67_23, rf_67_28, rf_67_30, rf_67_32, rf_67_33, rf_67_38, rf_67_39, rf_67_48, rf_67_49, rf_67_51, rf_67_52, rf_67_53, rf_67_54, rf_67_55, rf_67_60, rf_67_61, rf_67_62, up_s, up_b, up_j, b_58_18, k_58_18, b_58_19, k_58_19, b_58_67, k_58_67, b_58_73, k_58_73, b_58_185, k_58_185, b_58_191, k_58_191, w_sm, ↓if_pos, ↓if_neg,  hm, hc, hl]
  · rw [if_neg (fun h => c1 h.1)] at h2
    subst h2
    simp (disch := first | exact nl_i _ | exact nl_r _ | exact Nat.le_of_ble_eq_true rfl | exact Or.inl rfl | exact Or.inr rfl | exact w8_lo _ | exact w8_hi _ | decide | omega) only [v_fall, v_il_0, v_al_0, v_is_0, v_as_0, v_inc_0, v_ll_0, v_ls_0, v_il_1, v_al_1, v_is_1, v_as_1, v_inc_1, v_ll_1, v_ls_1, v_il_2, v_al_2, v_is_2, v_as_2, v_inc_2, v_ll_2, v_ls_2, v_il_3, v_al_3, v_is_3, v_as_3, v_inc_3, v_ll_3, v_ls_3, v_il_4, v_al_4, v_is_4, v_as_4, v_inc_4, v_ll_4, v_ls_4, v_il_5, v_al_5, v_is_5, v_as_5, v_inc_5, v_ll_5, v_ls_5, v_il_6, v_al_6, v_is_6, v_as_6, v_inc_6, v_il_7, v_al_7, v_is_7, v_as_7, v_inc_7, v_il_8, v_al_8, v_is_8, v_as_8, v_inc_8, v_il_9, v_al_9, v_is_9, v_as_9, v_inc_9, v_il_10, v_al_10, v_is_10, v_as_10, v_inc_10, v_il_11, v_al_11, v_is_11, v_as_11, v_inc_11, v_il_12, v_al_12, v_is_12, v_as_12, v_inc_12, v_il_13, v_al_13, v_is_13, v_as_13, v_inc_13, v_c_8, v_c_9, v_c_10, v_c_11, v_c_12, v_c_13, v_c_14, v_b_15, v_b_16, v_b_17, v_b_21, v_b_22, v_b_23, v_b_24, v_b_25, v_b_26, v_b_18, v_b_19, v_b_20, v_b_27, v_b_28, v_b_29, v_b_30, v_b_31, v_dup_i, v_dup_r, v_dup2, v_pop, v_gi, v_gl, v_gr, v_pi, v_pl, v_pz, v_iald, v_lald, v_bald, v_zald, v_aald, v_iast, v_last, v_bast, v_zast, v_alen_0, v_alen_1, v_alen_2, v_alen_3, v_alen_4, v_j_45, v_j_46, v_j_47, v_j_48, v_j_49, v_j_50, v_j_51, v_j_52, v_j_53, v_j_54, v_j_55, v_j_56, v_goto, v_sw, v_ret_i, v_ret_z, v_ret, v_cpy, v_iv_1, v_iv_2, v_iv_3, v_iv_4, v_iv_5, v_iv_6, v_is2_1, v_is2_2, v_is2_3, v_ivJ, List.nil_append, List.cons_append, rf_0_0, rf_0_1, rf_0_2, rf_0_3, rf_0_4, rf_0_5, rf_0_6, rf_0_7, rf_0_8, rf_0_9, rf_1_0, rf_1_2, rf_4_0, rf_4_1, rf_4_2, rf_5_8, rf_5_9, rf_5_10, rf_5_11, rf_5_12, rf_13_0, rf_13_1, rf_14_0, rf_14_1, rf_14_2, rf_15_8, rf_15_9, rf_15_10, rf_15_11, rf_15_12, rf_23_0, rf_23_1, rf_23_2, rf_24_8, rf_24_9, rf_24_10, rf_24_11, rf_24_12, rf_32_6, rf_34_0, rf_34_1, rf_34_2, rf_34_3, rf_35_8, rf_35_9, rf_35_10, rf_35_11, rf_35_12, rf_43_0, rf_43_1, rf_43_2, rf_43_3, rf_45_0, rf_45_1, rf_46_0, rf_46_1, rf_46_2, rf_46_3, rf_46_4, rf_46_5, rf_47_0, rf_47_1, rf_49_0, rf_49_1, rf_49_2, rf_49_3, rf_49_4, rf_49_5, rf_53_0, rf_53_1, rf_53_2, rf_53_3, rf_53_4, rf_53_5, rf_53_6, rf_53_7, rf_53_9, rf_53_10, rf_53_11, rf_53_12, rf_53_13, rf_54_0, rf_54_1, rf_55_1, rf_55_2, rf_55_3, rf_67_1, rf_67_6, rf_67_7, rf_67_8, rf_67_9, rf_67_10, rf_67_22, rf_67_23, rf_67_28, rf_67_30, rf_67_32, rf_67_33, rf_67_38, rf_67_39, rf_67_48, rf_67_49, rf_67_51, rf_67_52, rf_67_53, rf_67_54, rf_67_55, rf_67_60, rf_67_61, rf_67_62, up_s, up_b, up_j, b_58_18, k_58_18, b_58_19, k_58_19, b_58_67, k_58_67, b_58_73, k_58_73, b_58_185, k_58_185, b_58_191, k_58_191, w_sm, ↓if_pos, ↓if_neg,  hm, hc]
theorem dpt_2 (o1 o2 o3 o4 o5 o7 o8 o9 o10 : AV) (m9 : Int) (hm : M 53 8 = m9) (hmb : 0 ≤ m9 ∧ m9 ≤ 4) : XL d 58 27 [aR 15 0 53, o1, o2, o3, o4, o5, aI m9, o7, o8, o9, o10] [] M Q ↔ XL d 58 79 [aR 15 0 53, o1, o2, o3, o4, o5, aI 0, aI 0, o8, o9, o10] [] M Q := by
  rw [b_58_27, k_58_27]
  simp (disch := first | exact nl_i _ | exact nl_r _ | exact Nat.le_of_ble_eq_true rfl | exact Or.inl rfl | exact Or.inr rfl | exact w8_lo _ | exact w8_hi _ | decide | omega) only [v_fall, v_il_0, v_al_0, v_is_0, v_as_0, v_inc_0, v_ll_0, v_ls_0, v_il_1, v_al_1, v_is_1, v_as_1, v_inc_1, v_ll_1, v_ls_1, v_il_2, v_al_2, v_is_2, v_as_2, v_inc_2, v_ll_2, v_ls_2, v_il_3, v_al_3, v_is_3, v_as_3, v_inc_3, v_ll_3, v_ls_3, v_il_4, v_al_4, v_is_4, v_as_4, v_inc_4, v_ll_4, v_ls_4, v_il_5, v_al_5, v_is_5, v_as_5, v_inc_5, v_ll_5, v_ls_5, v_il_6, v_al_6, v_is_6, v_as_6, v_inc_6, v_il_7, v_al_7, v_is_7, v_as_7, v_inc_7, v_il_8, v_al_8, v_is_8, v_as_8, v_inc_8, v_il_9, v_al_9, v_is_9, v_as_9, v_inc_9, v_il_10, v_al_10, v_is_10, v_as_10, v_inc_10, v_il_11, v_al_11, v_is_11, v_as_11, v_inc_11, v_il_12, v_al_12, v_is_12, v_as_12, v_inc_12, v_il_13, v_al_13, v_is_13, v_as_13, v_inc_13, v_c_8, v_c_9, v_c_10, v_c_11, v_c_12, v_c_13, v_c_14, v_b_15, v_b_16, v_b_17, v_b_21, v_b_22, v_b_23, v_b_24, v_b_25, v_b_26, v_b_18, v_b_19, v_b_20, v_b_27, v_b_28, v_b_29, v_b_30, v_b_31, v_dup_i, v_dup_r, v_dup2, v_pop, v_gi, v_gl, v_gr, v_pi, v_pl, v_pz, v_iald, v_lald, v_bald, v_zald, v_aald, v_iast, v_last, v_bast, v_zast, v_alen_0, v_alen_1, v_alen_2, v_alen_3, v_alen_4, v_j_45, v_j_46, v_j_47, v_j_48, v_j_49, v_j_50, v_j_51, v_j_52, v_j_53, v_j_54, v_j_55, v_j_56, v_goto, v_sw, v_ret_i, v_ret_z, v_ret, v_cpy, v_iv_1, v_iv_2, v_iv_3, v_iv_4, v_iv_5, v_iv_6, v_is2_1, v_is2_2, v_is2_3, v_ivJ, List.nil_append, List.cons_append, rf_0_0, rf_0_1, rf_0_2, rf_0_3, rf_0_4, rf_0_5, rf_0_6, rf_0_7, rf_0_8, rf_0_9, rf_1_0, rf_1_2, rf_4_0, rf_4_1, rf_4_2, rf_5_8, rf_5_9, rf_5_10, rf_5_11, rf_5_12, rf_13_0, rf_13_1, rf_14_0, rf_14_1, rf_14_2, rf_15_8, rf_15_9, rf_15_10, rf_15_11, rf_15_12, rf_23_0, rf_23_1, rf_23_2, rf_24_8, rf_24_9, rf_24_10, rf_24_11, rf_24_12, rf_32_6, rf_34_0, rf_34_1, rf_34_2, rf_34_3, rf_35_8, rf_35_9, rf_35_10, rf_35_11, rf_35_12, rf_43_0, rf_43_1, rf_43_2, rf_43_3, rf_45_0, rf_45_1, rf_46_0, rf_46_1, rf_46_2, rf_46_3, rf_46_4, rf_46_5, rf_47_0, rf_47_1, rf_49_0, rf_49_1, rf_49_2, rf_49_3, rf_49_4, rf_49_5, rf_53_0, rf_53_1, rf_53_2, rf_53_3, rf_53_4, rf_53_5, rf_53_6, rf_53_7, rf_53_9, rf_53_10, rf_53_11, rf_53_12, rf_53_13, rf_54_0, rf_54_1, rf_55_1, rf_55_2, rf_55_3, rf_67_1, rf_67_6, rf_67_7, rf_67_8, rf_67_9, rf_67_10, rf_67_22, rf_67_23, rf_67_28, rf_67_30, rf_67_32, rf_67_33, rf_67_38, rf_67_39, rf_67_48, rf_67_49, rf_67_51, rf_67_52, rf_67_53, rf_67_54, rf_67_55, rf_67_60, rf_67_61, rf_67_62, up_s, up_b, up_j, b_58_18, k_58_18, b_58_19, k_58_19, b_58_67, k_58_67, b_58_73, k_58_73, b_58_185, k_58_185, b_58_191, k_58_191, w_sm, ↓if_pos, ↓if_neg,  hm]
theorem dpt_3 (o1 o2 o8 o9 o10 : AV) (lg mo bo any p N code a y mi ab : Int) (hN : M 55 0 = N) (hp : 0 ≤ p ∧ p < N ∧ N ≤ 1045) (h6 : M 56 p = code) (hc : 0 ≤ code ∧ code < 4096) (ha : M 65 code = a) (hy : M 66 code = y) (hb : (0 ≤ a ∧ a ≤ 500000000) ∧ 0 ≤ y ∧ y ≤ 500000000) (hmi : mi = if y < a then y else a) (h8 : M 58 p = ab) (hbb : (0 ≤ ab ∧ ab ≤ 100) ∧ 0 ≤ bo ∧ bo ≤ 100) (k0 : ¬ (ab = bo ∧ mi < 500000000) → XL (d + 1) 58 79 [aR 15 0 53, o1, o2, aI lg, aI mo, aI bo, aI any, aI (p + 1), aI code, aI mi, o10] [] (up M 65 code 500000000) Q) (T : ab = bo → mi < 500000000 → XC d 59 [aR 15 0 53, aI p, aI lg, aI mo] (up M 65 code 500000000) (fun r M2 => ∃ v : Int, r = [aI v] ∧ (v = -1 ∧ XL (d + 1) 58 79 [aR 15 0 53, o1, o2, aI lg, aI mo, aI bo, aI any, aI (p + 1), aI code, aI mi, aI v] [] M2 Q ∨ (0 ≤ v ∧ v ≤ 10000) ∧ XL (d + 1) 58 79 [aR 15 0 53, o1, o2, aI lg, aI mo, aI bo, aI 1, aI (p + 1), aI code, aI mi, aI v] [] (up M2 65 code (mi + v)) Q))) : XL (d + 1) 58 79 [aR 15 0 53, o1, o2, aI lg, aI mo, aI bo, aI any, aI p, o8, o9, o10] [] M Q := by
  have pm : ∀ Q', XC d 225 [aI a, aI y] M Q' ↔ Q' [aI mi] M := fun Q' => by
    rw [s_min, w_sm (by omega), w_sm (by omega), ← hmi]
  have mb : 0 ≤ mi ∧ mi ≤ 500000000 := by
    rw [hmi]
    by_cases c : y < a
    · rw [if_pos c]; omega
    · rw [if_neg c]; omega
  clear hmi
  rw [b_58_79, k_58_79]
  by_cases c1 : ab = bo
  · by_cases c2 : mi < 500000000
    · have T' := T c1 c2
      clear T k0
      simp (disch := first | exact nl_i _ | exact nl_r _ | exact Nat.le_of_ble_eq_true rfl | exact Or.inl rfl | exact Or.inr rfl | exact w8_lo _ | exact w8_hi _ | decide | omega) only [v_fall, v_il_0, v_al_0, v_is_0, v_as_0, v_inc_0, v_ll_0, v_ls_0, v_il_1, v_al_1, v_is_1, v_as_1, v_inc_1, v_ll_1, v_ls_1, v_il_2, v_al_2, v_is_2, v_as_2, v_inc_2, v_ll_2, v_ls_2, v_il_3, v_al_3, v_is_3, v_as_3, v_inc_3, v_ll_3, v_ls_3, v_il_4, v_al_4, v_is_4, v_as_4, v_inc_4, v_ll_4, v_ls_4, v_il_5, v_al_5, v_is_5, v_as_5, v_inc_5, v_ll_5, v_ls_5, v_il_6, v_al_6, v_is_6, v_as_6, v_inc_6, v_il_7, v_al_7, v_is_7, v_as_7, v_inc_7, v_il_8, v_al_8, v_is_8, v_as_8, v_inc_8, v_il_9, v_al_9, v_is_9, v_as_9, v_inc_9, v_il_10, v_al_10, v_is_10, v_as_10, v_inc_10, v_il_11, v_al_11, v_is_11, v_as_11, v_inc_11, v_il_12, v_al_12, v_is_12, v_as_12, v_inc_12, v_il_13, v_al_13, v_is_13, v_as_13, v_inc_13, v_c_8, v_c_9, v_c_10, v_c_11, v_c_12, v_c_13, v_c_14, v_b_15, v_b_16, v_b_17, v_b_21, v_b_22, v_b_23, v_b_24, v_b_25, v_b_26, v_b_18, v_b_19, v_b_20, v_b_27, v_b_28, v_b_29, v_b_30, v_b_31, v_dup_i, v_dup_r, v_dup2, v_pop, v_gi, v_gl, v_gr, v_pi, v_pl, v_pz, v_iald, v_lald, v_bald, v_zald, v_aald, v_iast, v_last, v_bast, v_zast, v_alen_0, v_alen_1, v_alen_2, v_alen_3, v_alen_4, v_j_45, v_j_46, v_j_47, v_j_48, v_j_49, v_j_50, v_j_51, v_j_52, v_j_53, v_j_54, v_j_55, v_j_56, v_goto, v_sw, v_ret_i, v_ret_z, v_ret, v_cpy, v_iv_1, v_iv_2, v_iv_3, v_iv_4, v_iv_5, v_iv_6, v_is2_1, v_is2_2, v_is2_3, v_ivJ, List.nil_append, List.cons_append, rf_0_0, rf_0_1, rf_0_2, rf_0_3, rf_0_4, rf_0_5, rf_0_6, rf_0_7, rf_0_8, rf_0_9, rf_1_0, rf_1_2, rf_4_0, rf_4_1, rf_4_2, rf_5_8, rf_5_9, rf_5_10, rf_5_11, rf_5_12, rf_13_0, rf_13_1, rf_14_0, rf_14_1, rf_14_2, rf_15_8, rf_15_9, rf_15_10, rf_15_11, rf_15_12, rf_23_0, rf_23_1, rf_23_2, rf_24_8, rf_24_9, rf_24_10, rf_24_11, rf_24_12, rf_32_6, rf_34_0, rf_34_1, rf_34_2, rf_34_3, rf_35_8, rf_35_9, rf_35_10, rf_35_11, rf_35_12, rf_43_0, rf_43_1, rf_43_2, rf_43_3, rf_45_0, rf_45_1, rf_46_0, rf_46_1, rf_46_2, rf_46_3, rf_46_4, rf_46_5, rf_47_0, rf_47_1, rf_49_0, rf_49_1, rf_49_2, rf_49_3, rf_49_4, rf_49_5, rf_53_0, rf_53_1, rf_53_2, rf_53_3, rf_53_4, rf_53_5, rf_53_6, rf_53_7, rf_53_9, rf_53_10, rf_53_11, rf_53_12, rf_53_13, rf_54_0, rf_54_1, rf_55_1, rf_55_2, rf_55_3, rf_67_1, rf_67_6, rf_67_7, rf_67_8, rf_67_9, rf_67_10, rf_67_22, rf_67_23, rf_67_28, rf_67_30, rf_67_32, rf_67_33, rf_67_38, rf_67_39, rf_67_48, rf_67_49, rf_67_51, rf_67_52, rf_67_53, rf_67_54, rf_67_55, rf_67_60, rf_67_61, rf_67_62, up_s, up_b, up_j, b_58_18, k_58_18, b_58_19, k_58_19, b_58_67, k_58_67, b_58_73, k_58_73, b_58_185, k_58_185, b_58_191, k_58_191, w_sm, ↓if_pos, ↓if_neg,  hN, h6, ha, hy, pm, h8]
      refine T'.mono (fun r M2 h => ?_)
      obtain ⟨v, rfl, ⟨rfl, h⟩ | ⟨hv, h⟩⟩ := h
      · simp (disch := first | exact nl_i _ | exact nl_r _ | exact Nat.le_of_ble_eq_true rfl | exact Or.inl rfl | exact Or.inr rfl | exact w8_lo _ | exact w8_hi _ | decide | omega) only [v_fall, v_il_0, v_al_0, v_is_0, v_as_0, v_inc_0, v_ll_0, v_ls_0, v_il_1, v_al_1, v_is_1, v_as_1, v_inc_1, v_ll_1, v_ls_1, v_il_2, v_al_2, v_is_2, v_as_2, v_inc_2, v_ll_2, v_ls_2, v_il_3, v_al_3, v_is_3, v_as_3, v_inc_3, v_ll_3, v_ls_3, v_il_4, v_al_4, v_is_4, v_as_4, v_inc_4, v_ll_4, v_ls_4, v_il_5, v_al_5, v_is_5, v_as_5, v_inc_5, v_ll_5, v_ls_5, v_il_6, v_al_6, v_is_6, v_as_6, v_inc_6, v_il_7, v_al_7, v_is_7, v_as_7, v_inc_7, v_il_8, v_al_8, v_is_8, v_as_8, v_inc_8, v_il_9, v_al_9, v_is_9, v_as_9, v_inc_9, v_il_10, v_al_10, v_is_10, v_as_10, v_inc_10, v_il_11, v_al_11, v_is_11, v_as_11, v_inc_11, v_il_12, v_al_12, v_is_12, v_as_12, v_inc_12, v_il_13, v_al_13, v_is_13, v_as_13, v_inc_13, v_c_8, v_c_9, v_c_10, v_c_11, v_c_12, v_c_13, v_c_14, v_b_15, v_b_16, v_b_17, v_b_21, v_b_22, v_b_23, v_b_24, v_b_25, v_b_26, v_b_18, v_b_19, v_b_20, v_b_27, v_b_28, v_b_29, v_b_30, v_b_31, v_dup_i, v_dup_r, v_dup2, v_pop, v_gi, v_gl, v_gr, v_pi, v_pl, v_pz, v_iald, v_lald, v_bald, v_zald, v_aald, v_iast, v_last, v_bast, v_zast, v_alen_0, v_alen_1, v_alen_2, v_alen_3, v_alen_4, v_j_45, v_j_46, v_j_47, v_j_48, v_j_49, v_j_50, v_j_51, v_j_52, v_j_53, v_j_54, v_j_55, v_j_56, v_goto, v_sw, v_ret_i, v_ret_z, v_ret, v_cpy, v_iv_1, v_iv_2, v_iv_3, v_iv_4, v_iv_5, v_iv_6, v_is2_1, v_is2_2, v_is2_3, v_ivJ, List.nil_append, List.cons_append, rf_0_0, rf_0_1, rf_0_2, rf_0_3, rf_0_4, rf_0_5, rf_0_6, rf_0_7, rf_0_8, rf_0_9, rf_1_0, rf_1_2, rf_4_0, rf_4_1, rf_4_2, rf_5_8, rf_5_9, rf_5_10, rf_5_11, rf_5_12, rf_13_0, rf_13_1, rf_14_0, rf_14_1, rf_14_2, rf_15_8, rf_15_9, rf_15_10, rf_15_11, rf_15_12, rf_23_0, rf_23_1, rf_23_2, rf_24_8, rf_24_9, rf_24_10, rf_24_11, rf_24_12, rf_32_6, rf_34_0, rf_34_1, rf_34_2, rf_34_3, rf_35_8, rf_35_9, rf_35_10, rf_35_11, rf_35_12, rf_43_0, rf_43_1, rf_43_2, rf_43_3, rf_45_0, rf_45_1, rf_46_0, rf_46_1, rf_46_2, rf_46_3, rf_46_4, rf_46_5, rf_47_0, rf_47_1, rf_49_0, rf_49_1, rf_49_2, rf_49_3, rf_49_4, rf_49_5, rf_53_0, rf_53_1, rf_53_2, rf_53_3, rf_53_4, rf_53_5, rf_53_6, rf_53_7, rf_53_9, rf_53_10, rf_53_11, rf_53_12, rf_53_13, rf_54_0, rf_54_1, rf_55_1, rf_55_2, rf_55_3, rf_67_1, rf_67_6, rf_67_7, rf_67_8, rf_67_9, rf_67_10, rf_67_22, rf_67_23, rf_67_28, rf_67_30, rf_67_32, rf_67_33, rf_67_38, rf_67_39, rf_67_48, rf_67_49, rf_67_51, rf_67_52, rf_67_53, rf_67_54, rf_67_55, rf_67_60, rf_67_61, rf_67_62, up_s, up_b, up_j, b_58_18, k_58_18, b_58_19, k_58_19, b_58_67, k_58_67, b_58_73, k_58_73, b_58_185, k_58_185, b_58_191, k_58_191, w_sm, ↓if_pos, ↓if_neg,  ]
        exact h
      · simp (disch := first | exact nl_i _ | exact nl_r _ | exact Nat.le_of_ble_eq_true rfl | exact Or.inl rfl | exact Or.inr rfl | exact w8_lo _ | exact w8_hi _ | decide | omega) only [v_fall, v_il_0, v_al_0, v_is_0, v_as_0, v_inc_0, v_ll_0, v_ls_0, v_il_1, v_al_1, v_is_1, v_as_1, v_inc_1, v_ll_1, v_ls_1, v_il_2, v_al_2, v_is_2, v_as_2, v_inc_2, v_ll_2, v_ls_2, v_il_3, v_al_3, v_is_3, v_as_3, v_inc_3, v_ll_3, v_ls_3, v_il_4, v_al_4, v_is_4, v_as_4, v_inc_4, v_ll_4, v_ls_4, v_il_5, v_al_5, v_is_5, v_as_5, v_inc_5, v_ll_5, v_ls_5, v_il_6, v_al_6, v_is_6, v_as_6, v_inc_6, v_il_7, v_al_7, v_is_7, v_as_7, v_inc_7, v_il_8, v_al_8, v_is_8, v_as_8, v_inc_8, v_il_9, v_al_9, v_is_9, v_as_9, v_inc_9, v_il_10, v_al_10, v_is_10, v_as_10, v_inc_10, v_il_11, v_al_11, v_is_11, v_as_11, v_inc_11, v_il_12, v_al_12, v_is_12, v_as_12, v_inc_12, v_il_13, v_al_13, v_is_13, v_as_13, v_inc_13, v_c_8, v_c_9, v_c_10, v_c_11, v_c_12, v_c_13, v_c_14, v_b_15, v_b_16, v_b_17, v_b_21, v_b_22, v_b_23, v_b_24, v_b_25, v_b_26, v_b_18, v_b_19, v_b_20, v_b_27, v_b_28, v_b_29, v_b_30, v_b_31, v_dup_i, v_dup_r, v_dup2, v_pop, v_gi, v_gl, v_gr, v_pi, v_pl, v_pz, v_iald, v_lald, v_bald, v_zald, v_aald, v_iast, v_last, v_bast, v_zast, v_alen_0, v_alen_1, v_alen_2, v_alen_3, v_alen_4, v_j_45, v_j_46, v_j_47, v_j_48, v_j_49, v_j_50, v_j_51, v_j_52, v_j_53, v_j_54, v_j_55, v_j_56, v_goto, v_sw, v_ret_i, v_ret_z, v_ret, v_cpy, v_iv_1, v_iv_2, v_iv_3, v_iv_4, v_iv_5, v_iv_6, v_is2_1, v_is2_2, v_is2_3, v_ivJ, List.nil_append, List.cons_append, rf_0_0, rf_0_1, rf_0_2, rf_0_3, rf_0_4, rf_0_5, rf_0_6, rf_0_7, rf_0_8, rf_0_9, rf_1_0, rf_1_2, rf_4_0, rf_4_1, rf_4_2, rf_5_8, rf_5_9, rf_5_10, rf_5_11, rf_5_12, rf_13_0, rf_13_1, rf_14_0, rf_14_1, rf_14_2, rf_15_8, rf_15_9, rf_15_10, rf_15_11, rf_15_12, rf_23_0, rf_23_1, rf_23_2, rf_24_8, rf_24_9, rf_24_10, rf_24_11, rf_24_12, rf_32_6, rf_34_0, rf_34_1, rf_34_2, rf_34_3, rf_35_8, rf_35_9, rf_35_10, rf_35_11, rf_35_12, rf_43_0, rf_43_1, rf_43_2, rf_43_3, rf_45_0, rf_45_1, rf_46_0, rf_46_1, rf_46_2, rf_46_3, rf_46_4, rf_46_5, rf_47_0, rf_47_1, rf_49_0, rf_49_1, rf_49_2, rf_49_3, rf_49_4, rf_49_5, rf_53_0, rf_53_1, rf_53_2, rf_53_3, rf_53_4, rf_53_5, rf_53_6, rf_53_7, rf_53_9, rf_53_10, rf_53_11, rf_53_12, rf_53_13, rf_54_0, rf_54_1, rf_55_1, rf_55_2, rf_55_3, rf_67_1, rf_67_6, rf_67_7, rf_67_8, rf_67_9, rf_67_10, rf_67_22, rf_67_23, rf_67_28, rf_67_30, rf_67_32, rf_67_33, rf_67_38, rf_67_39, rf_67_48, rf_67_49, rf_67_51, rf_67_52, rf_67_53, rf_67_54, rf_67_55, rf_67_60, rf_67_61, rf_67_62, up_s, up_b, up_j, b_58_18, k_58_18, b_58_19, k_58_19, b_58_67, k_58_67, b_58_73, k_58_73, b_58_185, k_58_185, b_58_191, k_58_191, w_sm, ↓if_pos, ↓if_neg,  ]
        exact h
    · have g := k0 (fun h => c2 h.2)
      clear T k0
      simp (disch := first | exact nl_i _ | exact nl_r _ | exact Nat.le_of_ble_eq_true rfl | exact Or.inl rfl | exact Or.inr rfl | exact w8_lo _ | exact w8_hi _ | decide | omega) only [v_fall, v_il_0, v_al_0, v_is_0, v_as_0, v_inc_0, v_ll_0, v_ls_0, v_il_1, v_al_1, v_is_1, v_as_1, v_inc_1, v_ll_1, v_ls_1, v_il_2, v_al_2, v_is_2, v_as_2, v_inc_2, v_ll_2, v_ls_2, v_il_3, v_al_3, v_is_3, v_as_3, v_inc_3, v_ll_3, v_ls_3, v_il_4, v_al_4, v_is_4, v_as_4, v_inc_4, v_ll_4, v_ls_4, v_il_5, v_al_5, v_is_5, v_as_5, v_inc_5, v_ll_5, v_ls_5, v_il_6, v_al_6, v_is_6, v_as_6, v_inc_6, v_il_7, v_al_7, v_is_7, v_as_7, v_inc_7, v_il_8, v_al_8, v_is_8, v_as_8, v_inc_8, v_il_9, v_al_9, v_is_9, v_as_9, v_inc_9, v_il_10, v_al_10, v_is_10, v_as_10, v_inc_10, v_il_11, v_al_11, v_is_11, v_as_11, v_inc_11, v_il_12, v_al_12, v_is_12, v_as_12, v_inc_12, v_il_13, v_al_13, v_is_13, v_as_13, v_inc_13, v_c_8, v_c_9, v_c_10, v_c_11, v_c_12, v_c_13, v_c_14, v_b_15, v_b_16, v_b_17, v_b_21, v_b_22, v_b_23, v_b_24, v_b_25, v_b_26, v_b_18, v_b_19, v_b_20, v_b_27, v_b_28, v_b_29, v_b_30, v_b_31, v_dup_i, v_dup_r, v_dup2, v_pop, v_gi, v_gl, v_gr, v_pi, v_pl, v_pz, v_iald, v_lald, v_bald, v_zald, v_aald, v_iast, v_last, v_bast, v_zast, v_alen_0, v_alen_1, v_alen_2, v_alen_3, v_alen_4, v_j_45, v_j_46, v_j_47, v_j_48, v_j_49, v_j_50, v_j_51, v_j_52, v_j_53, v_j_54, v_j_55, v_j_56, v_goto, v_sw, v_ret_i, v_ret_z, v_ret, v_cpy, v_iv_1, v_iv_2, v_iv_3, v_iv_4, v_iv_5, v_iv_6, v_is2_1, v_is2_2, v_is2_3, v_ivJ, List.nil_append, List.cons_append, rf_0_0, rf_0_1, rf_0_2, rf_0_3, rf_0_4, rf_0_5, rf_0_6, rf_0_7, rf_0_8, rf_0_9, rf_1_0, rf_1_2, rf_4_0, rf_4_1, rf_4_2, rf_5_8, rf_5_9, rf_5_10, rf_5_11, rf_5_12, rf_13_0, rf_13_1, rf_14_0, rf_14_1, rf_14_2, rf_15_8, rf_15_9, rf_15_10, rf_15_11, rf_15_12, rf_23_0, rf_23_1, rf_23_2, rf_24_8, rf_24_9, rf_24_10, rf_24_11, rf_24_12, rf_32_6, rf_34_0, rf_34_1, rf_34_2, rf_34_3, rf_35_8, rf_35_9, rf_35_10, rf_35_11, rf_35_12, rf_43_0, rf_43_1, rf_43_2, rf_43_3, rf_45_0, rf_45_1, rf_46_0, rf_46_1, rf_46_2, rf_46_3, rf_46_4, rf_46_5, rf_47_0, rf_47_1, rf_49_0, rf_49_1, rf_49_2, rf_49_3, rf_49_4, rf_49_5, rf_53_0, rf_53_1, rf_53_2, rf_53_3, rf_53_4, rf_53_5, rf_53_6, rf_53_7, rf_53_9, rf_53_10, rf_53_11, rf_53_12, rf_53_13, rf_54_0, rf_54_1, rf_55_1, rf_55_2, rf_55_3, rf_67_1, rf_67_6, rf_67_7, rf_67_8, rf_67_9, rf_67_10, rf_67_22, rf_67_23, rf_67_28, rf_67_30, rf_67_32, rf_67_33, rf_67_38, rf_67_39, rf_67_48, rf_67_49, rf_67_51, rf_67_52, rf_67_53, rf_67_54, rf_67_55, rf_67_60, rf_67_61, rf_67_62, up_s, up_b, up_j, b_58_18, k_58_18, b_58_19, k_58_19, b_58_67, k_58_67, b_58_73, k_58_73, b_58_185, k_58_185, b_58_191, k_58_191, w_sm, ↓if_pos, ↓if_neg,  hN, h6, ha, hy, pm, h8]
      exact g
  · have g := k0 (fun h => c1 h.1)
    clear T k0
    simp (disch := first | exact nl_i _ | exact nl_r _ | exact Nat.le_of_ble_eq_true rfl | exact Or.inl rfl | exact Or.inr rfl | exact w8_lo _ | exact w8_hi _ | decide | omega) only [v_fall, v_il_0, v_al_0, v_is_0, v_as_0, v_inc_0, v_ll_0, v_ls_0, v_il_1, v_al_1, v_is_1, v_as_1, v_inc_1, v_ll_1, v_ls_1, v_il_2, v_al_2, v_is_2, v_as_2, v_inc_2, v_ll_2, v_ls_2, v_il_3, v_al_3, v_is_3, v_as_3, v_inc_3, v_ll_3, v_ls_3, v_il_4, v_al_4, v_is_4, v_as_4, v_inc_4, v_ll_4, v_ls_4, v_il_5, v_al_5, v_is_5, v_as_5, v_inc_5, v_ll_5, v_ls_5, v_il_6, v_al_6, v_is_6, v_as_6, v_inc_6, v_il_7, v_al_7, v_is_7, v_as_7, v_inc_7, v_il_8, v_al_8, v_is_8, v_as_8, v_inc_8, v_il_9, v_al_9, v_is_9, v_as_9, v_inc_9, v_il_10, v_al_10, v_is_10, v_as_10, v_inc_10, v_il_11, v_al_11, v_is_11, v_as_11, v_inc_11, v_il_12, v_al_12, v_is_12, v_as_12, v_inc_12, v_il_13, v_al_13, v_is_13, v_as_13, v_inc_13, v_c_8, v_c_9, v_c_10, v_c_11, v_c_12, v_c_13, v_c_14, v_b_15, v_b_16, v_b_17, v_b_21, v_b_22, v_b_23, v_b_24, v_b_25, v_b_26, v_b_18, v_b_19, v_b_20, v_b_27, v_b_28, v_b_29, v_b_30, v_b_31, v_dup_i, v_dup_r, v_dup2, v_pop, v_gi, v_gl, v_gr, v_pi, v_pl, v_pz, v_iald, v_lald, v_bald, v_zald, v_aald, v_iast, v_last, v_bast, v_zast, v_alen_0, v_alen_1, v_alen_2, v_alen_3, v_alen_4, v_j_45, v_j_46, v_j_47, v_j_48, v_j_49, v_j_50, v_j_51, v_j_52, v_j_53, v_j_54, v_j_55, v_j_56, v_goto, v_sw, v_ret_i, v_ret_z, v_ret, v_cpy, v_iv_1, v_iv_2, v_iv_3, v_iv_4, v_iv_5, v_iv_6, v_is2_1, v_is2_2, v_is2_3, v_ivJ, List.nil_append, List.cons_append, rf_0_0, rf_0_1, rf_0_2, rf_0_3, rf_0_4, rf_0_5, rf_0_6, rf_0_7, rf_0_8, rf_0_9, rf_1_0, rf_1_2, rf_4_0, rf_4_1, rf_4_2, rf_5_8, rf_5_9, rf_5_10, rf_5_11, rf_5_12, rf_13_0, rf_13_1, rf_14_0, rf_14_1, rf_14_2, rf_15_8, rf_15_9, rf_15_10, rf_15_11, rf_15_12, rf_23_0, rf_23_1, rf_23_2, rf_24_8, rf_24_9, rf_24_10, rf_24_11, rf_24_12, rf_32_6, rf_34_0, rf_34_1, rf_34_2, rf_34_3, rf_35_8, rf_35_9, rf_35_10, rf_35_11, rf_35_12, rf_43_0, rf_43_1, rf_43_2, rf_43_3, rf_45_0, rf_45_1, rf_46_0, rf_46_1, rf_46_2, rf_46_3, rf_46_4, rf_46_5, rf_47_0, rf_47_1, rf_49_0, rf_49_1, rf_49_2, rf_49_3, rf_49_4, rf_49_5, rf_53_0, rf_53_1, rf_53_2, rf_53_3, rf_53_4, rf_53_5, rf_53_6, rf_53_7, rf_53_9, rf_53_10, rf_53_11, rf_53_12, rf_53_13, rf_54_0, rf_54_1, rf_55_1, rf_55_2, rf_55_3, rf_67_1, rf_67_6, rf_67_7, rf_67_8, rf_67_9, rf_67_10, rf_67_22, rf_67_23, rf_67_28, rf_67_30, rf_67_32, rf_67_33, rf_67_38, rf_67_39, rf_67_48, rf_67_49, rf_67_51, rf_67_52, rf_67_53, rf_67_54, rf_67_55, rf_67_60, rf_67_61, rf_67_62, up_s, up_b, up_j, b_58_18, k_58_18, b_58_19, k_58_19, b_58_67, k_58_67, b_58_73, k_58_73, b_58_185, k_58_185, b_58_191, k_58_191, w_sm, ↓if_pos, ↓if_neg,  hN, h6, ha, hy, pm, h8]
    exact g
theorem dpt_4 (o1 o2 o3 o4 o5 o8 o9 o10 : AV) (any N : Int) (hN : M 55 0 = N) (hNb : 0 ≤ N ∧ N ≤ 1045) (ha : any = 0 ∨ any = 1) : XL d 58 79 [aR 15 0 53, o1, o2, o3, o4, o5, aI any, aI N, o8, o9, o10] [] M Q ↔ Q [aI any] M := by
  rw [b_58_79, k_58_79]
  rcases ha with rfl | rfl
  · simp (disch := first | exact nl_i _ | exact nl_r _ | exact Nat.le_of_ble_eq_true rfl | exact Or.inl rfl | exact Or.inr rfl | exact w8_lo _ | exact w8_hi _ | decide | omega) only [v_fall, v_il_0, v_al_0, v_is_0, v_as_0, v_inc_0, v_ll_0, v_ls_0, v_il_1, v_al_1, v_is_1, v_as_1, v_inc_1, v_ll_1, v_ls_1, v_il_2, v_al_2, v_is_2, v_as_2, v_inc_2, v_ll_2, v_ls_2, v_il_3, v_al_3, v_is_3, v_as_3, v_inc_3, v_ll_3, v_ls_3, v_il_4, v_al_4, v_is_4, v_as_4, v_inc_4, v_ll_4, v_ls_4, v_il_5, v_al_5, v_is_5, v_as_5, v_inc_5, v_ll_5, v_ls_5, v_il_6, v_al_6, v_is_6, v_as_6, v_inc_6, v_il_7, v_al_7, v_is_7, v_as_7, v_inc_7, v_il_8, v_al_8, v_is_8, v_as_8, v_inc_8, v_il_9, v_al_9, v_is_9, v_as_9, v_inc_9, v_il_10, v_al_10, v_is_10, v_as_10, v_inc_10, v_il_11, v_al_11, v_is_11, v_as_11, v_inc_11, v_il_12, v_al_12, v_is_12, v_as_12, v_inc_12, v_il_13, v_al_13, v_is_13, v_as_13, v_inc_13, v_c_8, v_c_9, v_c_10, v_c_11, v_c_12, v_c_13, v_c_14, v_b_15, v_b_16, v_b_17, v_b_21, v_b_22, v_b_23, v_b_24, v_b_25, v_b_26, v_b_18, v_b_19, v_b_20, v_b_27, v_b_28, v_b_29, v_b_30, v_b_31, v_dup_i, v_dup_r, v_dup2, v_pop, v_gi, v_gl, v_gr, v_pi, v_pl, v_pz, v_iald, v_lald, v_bald, v_zald, v_aald, v_iast, v_last, v_bast, v_zast, v_alen_0, v_alen_1, v_alen_2, v_alen_3, v_alen_4, v_j_45, v_j_46, v_j_47, v_j_48, v_j_49, v_j_50, v_j_51, v_j_52, v_j_53, v_j_54, v_j_55, v_j_56, v_goto, v_sw, v_ret_i, v_ret_z, v_ret, v_cpy, v_iv_1, v_iv_2, v_iv_3, v_iv_4, v_iv_5, v_iv_6, v_is2_1, v_is2_2, v_is2_3, v_ivJ, List.nil_append, List.cons_append, rf_0_0, rf_0_1, rf_0_2, rf_0_3, rf_0_4, rf_0_5, rf_0_6, rf_0_7, rf_0_8, rf_0_9, rf_1_0, rf_1_2, rf_4_0, rf_4_1, rf_4_2, rf_5_8, rf_5_9, rf_5_10, rf_5_11, rf_5_12, rf_13_0, rf_13_1, rf_14_0, rf_14_1, rf_14_2, rf_15_8, rf_15_9, rf_15_10, rf_15_11, rf_15_12, rf_23_0, rf_23_1, rf_23_2, rf_24_8, rf_24_9, rf_24_10, rf_24_11, rf_24_12, rf_32_6, rf_34_0, rf_34_1, rf_34_2, rf_34_3, rf_35_8, rf_35_9, rf_35_10, rf_35_11, rf_35_12, rf_43_0, rf_43_1, rf_43_2, rf_43_3, rf_45_0, rf_45_1, rf_46_0, rf_46_1, rf_46_2, rf_46_3, rf_46_4, rf_46_5, rf_47_0, rf_47_1, rf_49_0, rf_49_1, rf_49_2, rf_49_3, rf_49_4, rf_49_5, rf_53_0, rf_53_1, rf_53_2, rf_53_3, rf_53_4, rf_53_5, rf_53_6, rf_53_7, rf_53_9, rf_53_10, rf_53_11, rf_53_12, rf_53_13, rf_54_0, rf_54_1, rf_55_1, rf_55_2, rf_55_3, rf_67_1, rf_67_6, rf_67_7, rf_67_8, rf_67_9, rf_67_10, rf_67_22, rf_67_23, rf_67_28, rf_67_30, rf_67_32, rf_67_33, rf_67_38, rf_67_39, rf_67_48, rf_67_49, rf_67_51, rf_67_52, rf_67_53, rf_67_54, rf_67_55, rf_67_60, rf_67_61, rf_67_62, up_s, up_b, up_j, b_58_18, k_58_18, b_58_19, k_58_19, b_58_67, k_58_67, b_58_73, k_58_73, b_58_185, k_58_185, b_58_191, k_58_191, w_sm, ↓if_pos, ↓if_neg,  hN]
  · simp (disch := first | exact nl_i _ | exact nl_r _ | exact Nat.le_of_ble_eq_true rfl | exact Or.inl rfl | exact Or.inr rfl | exact w8_lo _ | exact w8_hi _ | decide | omega) only [v_fall, v_il_0, v_al_0, v_is_0, v_as_0, v_inc_0, v_ll_0, v_ls_0, v_il_1, v_al_1, v_is_1, v_as_1, v_inc_1, v_ll_1, v_ls_1, v_il_2, v_al_2, v_is_2, v_as_2, v_inc_2, v_ll_2, v_ls_2, v_il_3, v_al_3, v_is_3, v_as_3, v_inc_3, v_ll_3, v_ls_3, v_il_4, v_al_4, v_is_4, v_as_4, v_inc_4, v_ll_4, v_ls_4, v_il_5, v_al_5, v_is_5, v_as_5, v_inc_5, v_ll_5, v_ls_5, v_il_6, v_al_6, v_is_6, v_as_6, v_inc_6, v_il_7, v_al_7, v_is_7, v_as_7, v_inc_7, v_il_8, v_al_8, v_is_8, v_as_8, v_inc_8, v_il_9, v_al_9, v_is_9, v_as_9, v_inc_9, v_il_10, v_al_10, v_is_10, v_as_10, v_inc_10, v_il_11, v_al_11, v_is_11, v_as_11, v_inc_11, v_il_12, v_al_12, v_is_12, v_as_12, v_inc_12, v_il_13, v_al_13, v_is_13, v_as_13, v_inc_13, v_c_8, v_c_9, v_c_10, v_c_11, v_c_12, v_c_13, v_c_14, v_b_15, v_b_16, v_b_17, v_b_21, v_b_22, v_b_23, v_b_24, v_b_25, v_b_26, v_b_18, v_b_19, v_b_20, v_b_27, v_b_28, v_b_29, v_b_30, v_b_31, v_dup_i, v_dup_r, v_dup2, v_pop, v_gi, v_gl, v_gr, v_pi, v_pl, v_pz, v_iald, v_lald, v_bald, v_zald, v_aald, v_iast, v_last, v_bast, v_zast, v_alen_0, v_alen_1, v_alen_2, v_alen_3, v_alen_4, v_j_45, v_j_46, v_j_47, v_j_48, v_j_49, v_j_50, v_j_51, v_j_52, v_j_53, v_j_54, v_j_55, v_j_56, v_goto, v_sw, v_ret_i, v_ret_z, v_ret, v_cpy, v_iv_1, v_iv_2, v_iv_3, v_iv_4, v_iv_5, v_iv_6, v_is2_1, v_is2_2, v_is2_3, v_ivJ, List.nil_append, List.cons_append, rf_0_0, rf_0_1, rf_0_2, rf_0_3, rf_0_4, rf_0_5, rf_0_6, rf_0_7, rf_0_8, rf_0_9, rf_1_0, rf_1_2, rf_4_0, rf_4_1, rf_4_2, rf_5_8, rf_5_9, rf_5_10, rf_5_11, rf_5_12, rf_13_0, rf_13_1, rf_14_0, rf_14_1, rf_14_2, rf_15_8, rf_15_9, rf_15_10, rf_15_11, rf_15_12, rf_23_0, rf_23_1, rf_23_2, rf_24_8, rf_24_9, rf_24_10, rf_24_11, rf_24_12, rf_32_6, rf_34_0, rf_34_1, rf_34_2, rf_34_3, rf_35_8, rf_35_9, rf_35_10, rf_35_11, rf_35_12, rf_43_0, rf_43_1, rf_43_2, rf_43_3, rf_45_0, rf_45_1, rf_46_0, rf_46_1, rf_46_2, rf_46_3, rf_46_4, rf_46_5, rf_47_0, rf_47_1, rf_49_0, rf_49_1, rf_49_2, rf_49_3, rf_49_4, rf_49_5, rf_53_0, rf_53_1, rf_53_2, rf_53_3, rf_53_4, rf_53_5, rf_53_6, rf_53_7, rf_53_9, rf_53_10, rf_53_11, rf_53_12, rf_53_13, rf_54_0, rf_54_1, rf_55_1, rf_55_2, rf_55_3, rf_67_1, rf_67_6, rf_67_7, rf_67_8, rf_67_9, rf_67_10, rf_67_22, rf_67_23, rf_67_28, rf_67_30, rf_67_32, rf_67_33, rf_67_38, rf_67_39, rf_67_48, rf_67_49, rf_67_51, rf_67_52, rf_67_53, rf_67_54, rf_67_55, rf_67_60, rf_67_61, rf_67_62, up_s, up_b, up_j, b_58_18, k_58_18, b_58_19, k_58_19, b_58_67, k_58_67, b_58_73, k_58_73, b_58_185, k_58_185, b_58_191, k_58_191, w_sm, ↓if_pos, ↓if_neg,  hN]
theorem dpt_b (hP : PW w l m wh cm lv M len f) (hcb : ∀ i, i < m → (-100 ≤ cm i ∧ cm i ≤ 100) ∧ -100 ≤ lv i ∧ lv i ≤ 100) (st : Int) (hst : -100 ≤ st ∧ st ≤ 100) (o2 o3 o4 o7 o8 o9 o10 : AV) (kk : ∀ bo : Nat, bo < 2 ^ m → (∀ i, i < m → (bo.testBit i = true ↔ cm i ≤ st ∧ st < lv i)) → XL d 58 27 [aR 15 0 53, aI st, o2, o3, o4, aI (bo : Int), aI (m : Int), o7, o8, o9, o10] [] M Q) : ∀ (t i bo : Nat), i + t = m → bo < 2 ^ i → (∀ j, j < i → (bo.testBit j = true ↔ cm j ≤ st ∧ st < lv j)) → XL d 58 27 [aR 15 0 53, aI st, o2, o3, o4, aI (bo : Int), aI (i : Int), o7, o8, o9, o10] [] M Q
  | 0, i, bo, h, hb, hL => by
    have e : i = m := by omega
    rw [e] at hb hL ⊢
    exact kk bo hb hL
  | t + 1, i, bo, h, hb, hL => by
    have m4 := hP.2.2.1
    have him : i < m := by omega
    have b := hcb i him
    have p4 : (2 : Nat) ^ i ≤ 2 ^ 4 := Nat.pow_le_pow_right (by decide) (by omega)
    rw [dpt_1 st (i : Int) (m : Int) (cm i) (lv i) (bo : Int) _ o2 o3 o4 o7 o8 o9 o10 hP.2.2.2.1 ⟨by omega, by omega, by omega⟩ (hP.2.2.2.2.1 i him).2.1 (hP.2.2.2.2.1 i him).2.2 ⟨b.1, b.2, hst⟩ rfl]
    by_cases c : cm i ≤ st ∧ st < lv i
    · rw [if_pos c, set32 bo i (by omega) (by omega)]
      have s1 := lk_s (p := cm i ≤ st ∧ st < lv i) hb c
      have g := dpt_b hP hcb st hst o2 o3 o4 o7 o8 o9 o10 kk t (i + 1) (bo ||| 2 ^ i) (by omega) s1.1 (fun j hj => by
        by_cases e : j = i
        · rw [e]; exact s1.2.1
        · rw [s1.2.2 j (by omega)]; exact hL j (by omega))
      rw [Int.natCast_add] at g
      exact g
    · rw [if_neg c]
      have s1 := lk_n (p := cm i ≤ st ∧ st < lv i) hb c
      have g := dpt_b hP hcb st hst o2 o3 o4 o7 o8 o9 o10 kk t (i + 1) bo (by omega) s1.1 (fun j hj => by
        by_cases e : j = i
        · rw [e]; exact s1.2
        · exact hL j (by omega))
      rw [Int.natCast_add] at g
      exact g
theorem bnd_st (hP : PW w l m wh cm lv M0 len f) {st : Int} {bo c : Nat} (hb : bo < 2 ^ m) (hbo : ∀ i, i < m → (bo.testBit i = true ↔ cm i ≤ st ∧ st < lv i)) (hJ : Jc m (w * l) cm lv st c) (hlt : ∀ i, i < m → cm i < lv i) : an c = bo ↔ setd m cm lv st c := by
  have m4 := hP.2.2.1
  constructor
  · intro h i hi
    have a1 := an_t (c := c) (i := i)
    rw [h, hbo i hi] at a1
    refine ⟨fun h9 => ?_, fun h9 => ?_⟩
    · have := a1.mpr ⟨by omega, h9.1⟩
      omega
    · have := (a1.mp (by have := hlt i hi; omega)).2
      exact this h9.1
  · intro h
    apply Nat.eq_of_testBit_eq
    intro i
    apply Bool.eq_iff_iff.mpr
    by_cases hi : i < m
    · rw [an_t, hbo i hi]
      have j := hJ.2 i hi
      have q := h i hi
      constructor
      · rintro ⟨-, h2⟩
        have := j.2 h2
        have : lv i ≠ st := fun e => q.1 ⟨h2, e⟩
        omega
      · intro h2
        refine ⟨by omega, fun h0 => ?_⟩
        by_cases e : cm i = st
        · exact q.2 ⟨h0, e⟩
        · exact j.1 ⟨by omega, h2.2⟩ h0
    · rw [tb_hi hb (by omega)]
      constructor
      · intro h9
        obtain ⟨h1, h2⟩ := an_t.mp h9
        exact absurd (hJ.1.2.1 i h1 (by omega)) h2
      · intro h9; exact absurd h9 (by decide)
def dpX (b : Nat) (j : Int) : Prop := b = 43 ∨ b = 44 ∨ b = 63 ∨ b = 64 ∨ b = 65
theorem dpt_l (hP : PW w l m wh cm lv M0 len f) (hok : okB w l m (M0 5) (M0 6) (M0 7) (M0 8) (M0 4 4) wh cm lv) (hBI : BI w l m cm lv s A) (hs : (s : Int) < 2 * (M0 5 0 - 1)) (hcl : clA A M0) (hr : ∀ c, (rdy M0 c < 100000000 ∧ rdy M0 c = DS w l m (M0 5) (M0 6) cm lv (s : Int) A c) ∨ (rdy M0 c = 500000000 ∧ DS w l m (M0 5) (M0 6) cm lv (s : Int) A c = 100000000)) (hd : Int) (bo : Nat) (hb : bo < 2 ^ m) (hbo : ∀ i, i < m → (bo.testBit i = true ↔ cm i ≤ (s : Int) ∧ (s : Int) < lv i)) (o2 : AV) (kk : ∀ M' any, AgX dpX M0 M' → SM w l (M0 8) wh M' len f → clA (nxA w l m (M0 5) (M0 6) (M0 7) (M0 8) (M0 4 4) hd wh cm lv (s : Int) A) M' → (any = 0 ∧ (∀ c, nxA w l m (M0 5) (M0 6) (M0 7) (M0 8) (M0 4 4) hd wh cm lv (s : Int) A c = 100000000) ∨ any = 1) → Q [aI any] M') : ∀ (t a : Nat) (M : Mem) (any : Int) (o8 o9 o10 : AV), a + t = len → AgX dpX M0 M → SM w l (M0 8) wh M len f → (any = 0 ∧ (∀ a', a' < a → nxA w l m (M0 5) (M0 6) (M0 7) (M0 8) (M0 4 4) hd wh cm lv (s : Int) A (f a') = 100000000) ∨ any = 1) → (∀ a', a' < a → (M 65 ((f a' : Nat) : Int) = nxA w l m (M0 5) (M0 6) (M0 7) (M0 8) (M0 4 4) hd wh cm lv (s : Int) A (f a') ∧ nxA w l m (M0 5) (M0 6) (M0 7) (M0 8) (M0 4 4) hd wh cm lv (s : Int) A (f a') < 100000000) ∨ (M 65 ((f a' : Nat) : Int) = 500000000 ∧ nxA w l m (M0 5) (M0 6) (M0 7) (M0 8) (M0 4 4) hd wh cm lv (s : Int) A (f a') = 100000000)) → (∀ c : Nat, c < 4096 → (∀ a', a' < a → f a' ≠ c) → M 65 (c : Int) = M0 65 (c : Int)) → XL (d + 4) 58 79 [aR 15 0 53, aI (s : Int), o2, aI (lgO (M0 5) (s : Int)), aI (if lgO (M0 5) (s : Int) = hd then 1 else 0), aI (bo : Int), aI any, aI (a : Int), o8, o9, o10] [] M Q
  | 0, a, M, any, o8, o9, o10, h, hA, hS, hany, h1, h2 => by
    have e : a = len := by omega
    rw [e] at hany h1 h2 ⊢
    have hF := hP.2.2.2.2.2.1
    have hl := hF.2.1
    have nv : ∀ c, ¬ vcd m (w * l) c → nxA w l m (M0 5) (M0 6) (M0 7) (M0 8) (M0 4 4) hd wh cm lv (s : Int) A c = 100000000 := fun c hc => by
      unfold nxA
      rw [cb_f (fun h9 => hc h9.1), if_neg (by decide)]
    rw [dpt_4 _ o2 _ _ _ o8 o9 o10 any (len : Int) (by rw [hA 55 0 (by unfold dpX; omega)]; exact hF.1.1) ⟨by omega, by omega⟩ (by rcases hany with ⟨h9, -⟩ | h9; exact Or.inl h9; exact Or.inr h9)]
    refine kk M any hA hS (fun c hc => ?_) ?_
    · by_cases hv : vcd m (w * l) c
      · obtain ⟨a', a1, a2⟩ := hF.2.2.2 c hv
        have := h1 a' a1
        rw [a2] at this
        exact this
      · right
        refine ⟨?_, nv c hv⟩
        rw [h2 c hc (fun a' ha' hfe => hv (by rw [← hfe]; exact hF.2.2.1 a' ha'))]
        rcases hcl c hc with ⟨-, h9⟩ | ⟨h9, -⟩
        · exact absurd ((hBI c).2 h9).1 hv
        · exact h9
    · rcases hany with ⟨h9, h8⟩ | h9
      · refine Or.inl ⟨h9, fun c => ?_⟩
        by_cases hv : vcd m (w * l) c
        · obtain ⟨a', a1, a2⟩ := hF.2.2.2 c hv
          have := h8 a' a1
          rw [a2] at this
          exact this
        · exact nv c hv
      · exact Or.inr h9
  | t + 1, a, M, any, o8, o9, o10, h, hA, hS, hany, h1, h2 => by
    have hF := hP.2.2.2.2.2.1
    have hl := hF.2.1
    have m4 := hP.2.2.1
    have hv := hF.2.2.1 a (by omega)
    have ea := hF.1.2.1 a (by omega)
    have hcl4 := hv.1
    have r0 := hok.2.2.2.2.1.1
    have hLE0 := hok.2.2.2.2.2.1.1
    have hk := lgO_b (r := M0 5) (s := (s : Int)) ⟨by omega, hs⟩
    have fresh : ∀ a', a' < a → f a' ≠ f a := fun a' ha' he => by
      have := hF.1.2.2 a' a (by omega) (by omega) he
      omega
    have e65 : M 65 ((f a : Nat) : Int) = M0 65 ((f a : Nat) : Int) := h2 (f a) hcl4 fresh
    have e66 : M 66 ((f a : Nat) : Int) = rdy M0 (f a) := by rw [hA 66 _ (by unfold dpX; omega)]; exact rdy_e hcl4
    have ca := hcl (f a) hcl4
    have cr := hr (f a)
    have hAb := (hBI (f a)).1
    have fb := frm_b hok hBI (by omega) (f a)
    have db := DS_b hok hBI (by omega) (f a)
    obtain ⟨mi, hmi⟩ : ∃ mi : Int, mi = if rdy M0 (f a) < M0 65 ((f a : Nat) : Int) then rdy M0 (f a) else M0 65 ((f a : Nat) : Int) := ⟨_, rfl⟩
    have hmf : (mi < 500000000 ∧ mi = frm w l m (M0 5) (M0 6) cm lv (s : Int) A (f a) ∧ mi < 100000000) ∨ (mi = 500000000 ∧ frm w l m (M0 5) (M0 6) cm lv (s : Int) A (f a) = 100000000) := by
      unfold frm at fb ⊢
      by_cases c1 : rdy M0 (f a) < M0 65 ((f a : Nat) : Int)
      · rw [if_pos c1] at hmi
        by_cases c2 : A (f a) < DS w l m (M0 5) (M0 6) cm lv (s : Int) A (f a)
        · rw [if_pos c2] at fb ⊢; omega
        · rw [if_neg c2] at fb ⊢; omega
      · rw [if_neg c1] at hmi
        by_cases c2 : A (f a) < DS w l m (M0 5) (M0 6) cm lv (s : Int) A (f a)
        · rw [if_pos c2] at fb ⊢; omega
        · rw [if_neg c2] at fb ⊢; omega
    have al : an (f a) < 2 ^ 4 := setN_lt _
    have bl : bo < 2 ^ 4 := Nat.lt_of_lt_of_le hb (Nat.pow_le_pow_right (by decide) m4)
    have hyb : 0 ≤ rdy M0 (f a) ∧ rdy M0 (f a) ≤ 500000000 := by omega
    have rec9 := dpt_l hP hok hBI hs hcl hr hd bo hb hbo o2 kk t (a + 1)
    obtain ⟨M1, hM1⟩ : ∃ M1, M1 = up M 65 ((f a : Nat) : Int) 500000000 := ⟨_, rfl⟩
    have A1 : AgX dpX M0 M1 := fun b j hx => by
      rw [hM1, up_b (fun e => hx (by unfold dpX; omega))]
      exact hA b j hx
    have S1 : SM w l (M0 8) wh M1 len f := fun a' ha' => by
      rw [hM1, up_b (by decide)]
      exact hS a' ha'
    have cI : ∀ x y : Nat, (x : Int) = (y : Int) → x = y := fun x y h => by omega
    have no9 : nxA w l m (M0 5) (M0 6) (M0 7) (M0 8) (M0 4 4) hd wh cm lv (s : Int) A (f a) = 100000000 → ∀ (M2 : Mem), AgX saX M1 M2 → SM w l (M0 8) wh M2 len f → ∀ o10, XL (d + 4) 58 79 [aR 15 0 53, aI (s : Int), o2, aI (lgO (M0 5) (s : Int)), aI (if lgO (M0 5) (s : Int) = hd then 1 else 0), aI (bo : Int), aI any, aI ((a : Int) + 1), aI ((f a : Nat) : Int), aI mi, o10] [] M2 Q := fun hn9 M2 hA2 hS2 o10 => by
      have u65 : ∀ c : Nat, M2 65 (c : Int) = up M 65 ((f a : Nat) : Int) 500000000 65 (c : Int) := fun c => by rw [hA2 65 _ (by unfold saX; omega), hM1]
      have g := rec9 M2 any (aI ((f a : Nat) : Int)) (aI mi) o10 (by omega) (fun b j hx => by
        rw [hA2 b j (fun e => hx (by unfold saX at e; unfold dpX; omega))]
        exact A1 b j hx) hS2 (by
        rcases hany with ⟨h9, h8⟩ | h9
        · refine Or.inl ⟨h9, fun a' ha' => ?_⟩
          by_cases e : a' = a
          · rw [e]; exact hn9
          · exact h8 a' (by omega)
        · exact Or.inr h9) (fun a' ha' => by
        by_cases e : a' = a
        · rw [e, u65, up_s]
          exact Or.inr ⟨rfl, hn9⟩
        · rw [u65, up_j (by have := fresh a' (by omega); omega)]
          exact h1 a' (by omega)) (fun c hc hno => by
        rw [u65, up_j (by have := hno a (Nat.lt_succ_self a); omega)]
        exact h2 c hc (fun a' ha' => hno a' (by omega)))
      rw [Int.natCast_add] at g
      exact g
    have lt9 : ∀ i, i < m → cm i < lv i := fun i hi => (hok.2.2.2.2.2.2.2.2.1 i hi).1.2.1
    refine dpt_3 (d := d + 3) (aI (s : Int)) o2 o8 o9 o10 (lgO (M0 5) (s : Int)) _ (bo : Int) any (a : Int) (len : Int) ((f a : Nat) : Int) (M0 65 ((f a : Nat) : Int)) (rdy M0 (f a)) mi ((an (f a) : Nat) : Int) (by rw [hA 55 0 (by unfold dpX; omega)]; exact hF.1.1) ⟨by omega, by omega, by omega⟩ (by rw [hA 56 _ (by unfold dpX; omega)]; exact ea.1) ⟨by omega, by omega⟩ e65 e66 ⟨by omega, hyb⟩ hmi (by rw [hA 58 _ (by unfold dpX; omega)]; exact ea.2.2) ⟨⟨by omega, by omega⟩, by omega, by omega⟩ (fun hno => ?_) (fun hab hlt => ?_)
    · rw [← hM1]
      refine no9 ?_ M1 (fun _ _ _ => rfl) S1 o10
      unfold nxA
      rw [cb_f (fun h9 => ?_), if_neg (by decide)]
      obtain ⟨q1, q2, q3, q4⟩ := h9
      have hJ : Jc m (w * l) cm lv (s : Int) (f a) := by
        rcases fb with h9 | h9
        · omega
        · exact h9.2.2
      refine hno ⟨?_, by omega⟩
      rw [(bnd_st hP hb hbo hJ lt9).mpr q2]
    · rw [← hM1]
      have hfrm : mi = frm w l m (M0 5) (M0 6) cm lv (s : Int) A (f a) ∧ mi < 100000000 := by
        rcases hmf with ⟨-, h9⟩ | ⟨h9, -⟩
        · exact h9
        · omega
      have hJ : Jc m (w * l) cm lv (s : Int) (f a) := by
        rcases fb with h9 | h9
        · omega
        · exact h9.2.2
      have hset := (bnd_st hP hb hbo hJ lt9).mp (cI _ _ hab)
      have hP1 : PW w l m wh cm lv M1 len f := hP.cg (fun b j hx => A1 b j (by unfold seX at hx; unfold dpX; omega))
      have g5 : M1 5 = M0 5 := A1.fn (fun j => by unfold dpX; omega)
      have g6 : M1 6 = M0 6 := A1.fn (fun j => by unfold dpX; omega)
      have g7 : M1 7 = M0 7 := A1.fn (fun j => by unfold dpX; omega)
      have g8 : M1 8 = M0 8 := A1.fn (fun j => by unfold dpX; omega)
      have g4 : M1 4 = M0 4 := A1.fn (fun j => by unfold dpX; omega)
      refine s_sail (d := d) hP1 (by rw [g5, g6, g7, g8, g4]; exact hok) (by rw [g8]; exact S1) (show a < len by omega) (lgO (M0 5) (s : Int)) (if lgO (M0 5) (s : Int) = hd then 1 else 0) ⟨hk.1, by rw [g5]; omega⟩ (by by_cases c9 : lgO (M0 5) (s : Int) = hd <;> simp [c9]) (fun M2 v hA2 hS2 hv2 => ⟨v, rfl, ?_⟩)
      rw [g5, g7, g8, g4] at hv2
      rw [g8] at hS2
      have lE : legA w l (M0 5) (M0 7) (M0 8) (M0 4 4) (RFc wh (f a)) (lgO (M0 5) (s : Int)) (if lgO (M0 5) (s : Int) = hd then 1 else 0) = lgT w l (M0 5) (M0 7) (M0 8) (M0 4 4) hd wh (s : Int) (f a) := rfl
      rw [lE] at hv2
      rcases hv2 with ⟨hneg, rfl⟩ | ⟨hpos, hve, hvb⟩
      · left
        refine ⟨rfl, no9 ?_ M2 hA2 hS2 _⟩
        unfold nxA
        rw [cb_f (fun h9 => h9.2.2.2 hneg), if_neg (by decide)]
      · right
        refine ⟨⟨by omega, hvb⟩, ?_⟩
        have nE : nxA w l m (M0 5) (M0 6) (M0 7) (M0 8) (M0 4 4) hd wh cm lv (s : Int) A (f a) = mi + v := by
          unfold nxA
          rw [cb_t ⟨hv, hset, by omega, by omega⟩, if_pos rfl, ← hfrm.1, hve]
        have nlt : mi + v < 100000000 := by
          have := BI_s (hd := hd) hok hBI hs (f a)
          rw [nE] at this
          omega
        have u65 : ∀ c : Nat, c ≠ f a → up M2 65 ((f a : Nat) : Int) (mi + v) 65 (c : Int) = M 65 (c : Int) := fun c hc => by
          rw [up_j (by omega), hA2 65 _ (by unfold saX; omega), hM1, up_j (by omega)]
        have g := rec9 (up M2 65 ((f a : Nat) : Int) (mi + v)) 1 (aI ((f a : Nat) : Int)) (aI mi) (aI v) (by omega) (fun b j hx => by
          rw [up_b (fun e => hx (by unfold dpX; omega)), hA2 b j (fun e => hx (by unfold saX at e; unfold dpX; omega))]
          exact A1 b j hx) (fun a' ha' => by
          rw [up_b (by decide)]
          exact hS2 a' ha') (Or.inr rfl) (fun a' ha' => by
          by_cases e : a' = a
          · rw [e, up_s, nE]
            exact Or.inl ⟨rfl, nlt⟩
          · rw [u65 _ (fresh a' (by omega))]
            exact h1 a' (by omega)) (fun c hc hno => by
          rw [u65 c (fun h9 => hno a (Nat.lt_succ_self a) h9.symm)]
          exact h2 c hc (fun a' ha' => hno a' (by omega)))
        rw [Int.natCast_add] at g
        exact g
theorem s_depart (hP : PW w l m wh cm lv M len f) (hok : okB w l m (M 5) (M 6) (M 7) (M 8) (M 4 4) wh cm lv) (hS : SM w l (M 8) wh M len f) (hBI : BI w l m cm lv s A) (hs : (s : Int) < 2 * (M 5 0 - 1)) (hcl : clA A M) (hr : ∀ c, (rdy M c < 100000000 ∧ rdy M c = DS w l m (M 5) (M 6) cm lv (s : Int) A c) ∨ (rdy M c = 500000000 ∧ DS w l m (M 5) (M 6) cm lv (s : Int) A c = 100000000)) (hd : Int) (hdb : -1 ≤ hd ∧ hd < 7) (kk : ∀ M' any, AgX dpX M M' → SM w l (M 8) wh M' len f → clA (nxA w l m (M 5) (M 6) (M 7) (M 8) (M 4 4) hd wh cm lv (s : Int) A) M' → (any = 0 ∧ (∀ c, nxA w l m (M 5) (M 6) (M 7) (M 8) (M 4 4) hd wh cm lv (s : Int) A c = 100000000) ∨ any = 1) → Q [aI any] M') : XC (d + 4) 58 [aR 15 0 53, aI (s : Int), aI hd] M Q := by
  have r0 := hok.2.2.2.2.1.1
  have hRI : RI M := RI_f.mpr hP.1.2.1
  have hk := lgO_b (r := M 5) (s := (s : Int)) ⟨by omega, hs⟩
  have hcb : ∀ i, i < m → (-100 ≤ cm i ∧ cm i ≤ 100) ∧ -100 ≤ lv i ∧ lv i ≤ 100 := fun i hi => by
    have := (hok.2.2.2.2.2.2.2.2.1 i hi).1
    omega
  rw [dpt_0 (d := d + 3) (s : Int) hd (lgO (M 5) (s : Int)) _ (fun Q' => s_legBehind (d := d + 2) (s : Int) ⟨by omega, by omega⟩ hRI) ⟨by omega, by omega⟩ rfl]
  refine dpt_b (d := d + 4) hP hcb (s : Int) ⟨by omega, by omega⟩ _ _ _ _ _ _ _ (fun bo hb hbo => ?_) m 0 0 (by omega) (by decide) (fun j hj => absurd hj (Nat.not_lt_zero j))
  rw [dpt_2 _ _ _ _ _ _ _ _ _ (m : Int) hP.2.2.2.1 ⟨by omega, by have := hP.2.2.1; omega⟩]
  exact dpt_l (d := d) (Q := Q) hP hok hBI hs hcl hr hd bo hb hbo (aI hd) kk len 0 M 0 aU aU aU (by omega) (fun _ _ _ => rfl) hS (Or.inl ⟨rfl, fun a' ha' => absurd ha' (Nat.not_lt_zero a')⟩) (fun a' ha' => absurd ha' (Nat.not_lt_zero a')) (fun c _ _ => rfl)
/-! leastMinutes -/
theorem lms_0 (mi hd la : Int) (p : ∀ (M' : Mem) Q', (∀ x, x ≠ 65 → M' x = M x) → (XC d 35 [aR 13 0 5] M' Q' ↔ Q' [aI (la + 1)] M')) : XC (d + 1) 53 [aR 15 0 53, aI mi, aI hd] M Q ↔ XL (d + 1) 53 29 [aR 15 0 53, aI mi, aI hd, aI la, aI 0] [] (up (filM M 65 500000000 0 4096) 65 0 mi) Q := by
  have p1 : ∀ (M' : Mem) Q', XC d 226 [aR 0 4096 65, aI 500000000] M' Q' ↔ Q' [] (filM M' 65 500000000 0 4096) := fun M' Q' => s_fill (n := 4096)
  have p2 := fun Q' => p (up (filM M 65 500000000 0 4096) 65 0 mi) Q' (fun x hx => by rw [up_r hx, filM_r hx])
  have e : la + 1 - 1 = la := by omega
  rw [e_53, k_53_0]
  simp (disch := first | exact nl_i _ | exact nl_r _ | exact Nat.le_of_ble_eq_true rfl | exact Or.inl rfl | exact Or.inr rfl | exact w8_lo _ | exact w8_hi _ | decide | omega) only [v_fall, v_il_0, v_al_0, v_is_0, v_as_0, v_inc_0, v_ll_0, v_ls_0, v_il_1, v_al_1, v_is_1, v_as_1, v_inc_1, v_ll_1, v_ls_1, v_il_2, v_al_2, v_is_2, v_as_2, v_inc_2, v_ll_2, v_ls_2, v_il_3, v_al_3, v_is_3, v_as_3, v_inc_3, v_ll_3, v_ls_3, v_il_4, v_al_4, v_is_4, v_as_4, v_inc_4, v_ll_4, v_ls_4, v_il_5, v_al_5, v_is_5, v_as_5, v_inc_5, v_ll_5, v_ls_5, v_il_6, v_al_6, v_is_6, v_as_6, v_inc_6, v_il_7, v_al_7, v_is_7, v_as_7, v_inc_7, v_il_8, v_al_8, v_is_8, v_as_8, v_inc_8, v_il_9, v_al_9, v_is_9, v_as_9, v_inc_9, v_il_10, v_al_10, v_is_10, v_as_10, v_inc_10, v_il_11, v_al_11, v_is_11, v_as_11, v_inc_11, v_il_12, v_al_12, v_is_12, v_as_12, v_inc_12, v_il_13, v_al_13, v_is_13, v_as_13, v_inc_13, v_c_8, v_c_9, v_c_10, v_c_11, v_c_12, v_c_13, v_c_14, v_b_15, v_b_16, v_b_17, v_b_21, v_b_22, v_b_23, v_b_24, v_b_25, v_b_26, v_b_18, v_b_19, v_b_20, v_b_27, v_b_28, v_b_29, v_b_30, v_b_31, v_dup_i, v_dup_r, v_dup2, v_pop, v_gi, v_gl, v_gr, v_pi, v_pl, v_pz, v_iald, v_lald, v_bald, v_zald, v_aald, v_iast, v_last, v_bast, v_zast, v_alen_0, v_alen_1, v_alen_2, v_alen_3, v_alen_4, v_j_45, v_j_46, v_j_47, v_j_48, v_j_49, v_j_50, v_j_51, v_j_52, v_j_53, v_j_54, v_j_55, v_j_56, v_goto, v_sw, v_ret_i, v_ret_z, v_ret, v_cpy, v_iv_1, v_iv_2, v_iv_3, v_iv_4, v_iv_5, v_iv_6, v_is2_1, v_is2_2, v_is2_3, v_ivJ, List.nil_append, List.cons_append, rf_0_0, rf_0_1, rf_0_2, rf_0_3, rf_0_4, rf_0_5, rf_0_6, rf_0_7, rf_0_8, rf_0_9, rf_1_0, rf_1_2, rf_4_0, rf_4_1, rf_4_2, rf_5_8, rf_5_9, rf_5_10, rf_5_11, rf_5_12, rf_13_0, rf_13_1, rf_14_0, rf_14_1, rf_14_2, rf_15_8, rf_15_9, rf_15_10, rf_15_11, rf_15_12, rf_23_0, rf_23_1, rf_23_2, rf_24_8, rf_24_9, rf_24_10, rf_24_11, rf_24_12, rf_32_6, rf_34_0, rf_34_1, rf_34_2, rf_34_3, rf_35_8, rf_35_9, rf_35_10, rf_35_11, rf_35_12, rf_43_0, rf_43_1, rf_43_2, rf_43_3, rf_45_0, rf_45_1, rf_46_0, rf_46_1, rf_46_2, rf_46_3, rf_46_4, rf_46_5, rf_47_0, rf_47_1, rf_49_0, rf_49_1, rf_49_2, rf_49_3, rf_49_4, rf_49_5, rf_53_0, rf_53_1, rf_53_2, rf_53_3, rf_53_4, rf_53_5, rf_53_6, rf_53_7, rf_53_9, rf_53_10, rf_53_11, rf_53_12, rf_53_13, rf_54_0, rf_54_1, rf_55_1, rf_55_2, rf_55_3, rf_67_1, rf_67_6, rf_67_7, rf_67_8, rf_67_9, rf_67_10, rf_67_22, rf_67_23, rf_67_28, rf_67_30, rf_67_32, rf_67_33, rf_67_38, rf_67_39, rf_67_48, rf_67_49, rf_67_51, rf_67_52, rf_67_53, rf_67_54, rf_67_55, rf_67_60, rf_67_61, rf_67_62, up_s, up_b, up_j, w_sm, ↓if_pos, ↓if_neg, p1, p2, e]
theorem lms_1 (mi hd la s : Int) (h : 0 ≤ s ∧ s < la ∧ la ≤ 100) (T : XC d 54 [aR 15 0 53, aI s] M (fun r M1 => r = [] ∧ XC d 58 [aR 15 0 53, aI s, aI hd] M1 (fun r M2 => ∃ any : Int, r = [aI any] ∧ (any = 0 ∧ Q [aI (-1)] M2 ∨ any = 1 ∧ XL (d + 1) 53 29 [aR 15 0 53, aI mi, aI hd, aI la, aI (s + 1)] [] M2 Q)))) : XL (d + 1) 53 29 [aR 15 0 53, aI mi, aI hd, aI la, aI s] [] M Q := by
  rw [b_53_29, k_53_29]
  simp (disch := first | exact nl_i _ | exact nl_r _ | exact Nat.le_of_ble_eq_true rfl | exact Or.inl rfl | exact Or.inr rfl | exact w8_lo _ | exact w8_hi _ | decide | omega) only [v_fall, v_il_0, v_al_0, v_is_0, v_as_0, v_inc_0, v_ll_0, v_ls_0, v_il_1, v_al_1, v_is_1, v_as_1, v_inc_1, v_ll_1, v_ls_1, v_il_2, v_al_2, v_is_2, v_as_2, v_inc_2, v_ll_2, v_ls_2, v_il_3, v_al_3, v_is_3, v_as_3, v_inc_3, v_ll_3, v_ls_3, v_il_4, v_al_4, v_is_4, v_as_4, v_inc_4, v_ll_4, v_ls_4, v_il_5, v_al_5, v_is_5, v_as_5, v_inc_5, v_ll_5, v_ls_5, v_il_6, v_al_6, v_is_6, v_as_6, v_inc_6, v_il_7, v_al_7, v_is_7, v_as_7, v_inc_7, v_il_8, v_al_8, v_is_8, v_as_8, v_inc_8, v_il_9, v_al_9, v_is_9, v_as_9, v_inc_9, v_il_10, v_al_10, v_is_10, v_as_10, v_inc_10, v_il_11, v_al_11, v_is_11, v_as_11, v_inc_11, v_il_12, v_al_12, v_is_12, v_as_12, v_inc_12, v_il_13, v_al_13, v_is_13, v_as_13, v_inc_13, v_c_8, v_c_9, v_c_10, v_c_11, v_c_12, v_c_13, v_c_14, v_b_15, v_b_16, v_b_17, v_b_21, v_b_22, v_b_23, v_b_24, v_b_25, v_b_26, v_b_18, v_b_19, v_b_20, v_b_27, v_b_28, v_b_29, v_b_30, v_b_31, v_dup_i, v_dup_r, v_dup2, v_pop, v_gi, v_gl, v_gr, v_pi, v_pl, v_pz, v_iald, v_lald, v_bald, v_zald, v_aald, v_iast, v_last, v_bast, v_zast, v_alen_0, v_alen_1, v_alen_2, v_alen_3, v_alen_4, v_j_45, v_j_46, v_j_47, v_j_48, v_j_49, v_j_50, v_j_51, v_j_52, v_j_53, v_j_54, v_j_55, v_j_56, v_goto, v_sw, v_ret_i, v_ret_z, v_ret, v_cpy, v_iv_1, v_iv_2, v_iv_3, v_iv_4, v_iv_5, v_iv_6, v_is2_1, v_is2_2, v_is2_3, v_ivJ, List.nil_append, List.cons_append, rf_0_0, rf_0_1, rf_0_2, rf_0_3, rf_0_4, rf_0_5, rf_0_6, rf_0_7, rf_0_8, rf_0_9, rf_1_0, rf_1_2, rf_4_0, rf_4_1, rf_4_2, rf_5_8, rf_5_9, rf_5_10, rf_5_11, rf_5_12, rf_13_0, rf_13_1, rf_14_0, rf_14_1, rf_14_2, rf_15_8, rf_15_9, rf_15_10, rf_15_11, rf_15_12, rf_23_0, rf_23_1, rf_23_2, rf_24_8, rf_24_9, rf_24_10, rf_24_11, rf_24_12, rf_32_6, rf_34_0, rf_34_1, rf_34_2, rf_34_3, rf_35_8, rf_35_9, rf_35_10, rf_35_11, rf_35_12, rf_43_0, rf_43_1, rf_43_2, rf_43_3, rf_45_0, rf_45_1, rf_46_0, rf_46_1, rf_46_2, rf_46_3, rf_46_4, rf_46_5, rf_47_0, rf_47_1, rf_49_0, rf_49_1, rf_49_2, rf_49_3, rf_49_4, rf_49_5, rf_53_0, rf_53_1, rf_53_2, rf_53_3, rf_53_4, rf_53_5, rf_53_6, rf_53_7, rf_53_9, rf_53_10, rf_53_11, rf_53_12, rf_53_13, rf_54_0, rf_54_1, rf_55_1, rf_55_2, rf_55_3, rf_67_1, rf_67_6, rf_67_7, rf_67_8, rf_67_9, rf_67_10, rf_67_22, rf_67_23, rf_67_28, rf_67_30, rf_67_32, rf_67_33, rf_67_38, rf_67_39, rf_67_48, rf_67_49, rf_67_51, rf_67_52, rf_67_53, rf_67_54, rf_67_55, rf_67_60, rf_67_61, rf_67_62, up_s, up_b, up_j, b_53_53, k_53_53, b_53_59, k_53_59, b_53_95, k_53_95, b_53_96, k_53_96, w_sm, ↓if_pos, ↓if_neg,  ]
  refine T.mono (fun r M1 h1 => ?_)
  obtain ⟨rfl, h1⟩ := h1
  simp (disch := first | exact nl_i _ | exact nl_r _ | exact Nat.le_of_ble_eq_true rfl | exact Or.inl rfl | exact Or.inr rfl | exact w8_lo _ | exact w8_hi _ | decide | omega) only [v_fall, v_il_0, v_al_0, v_is_0, v_as_0, v_inc_0, v_ll_0, v_ls_0, v_il_1, v_al_1, v_is_1, v_as_1, v_inc_1, v_ll_1, v_ls_1, v_il_2, v_al_2, v_is_2, v_as_2, v_inc_2, v_ll_2, v_ls_2, v_il_3, v_al_3, v_is_3, v_as_3, v_inc_3, v_ll_3, v_ls_3, v_il_4, v_al_4, v_is_4, v_as_4, v_inc_4, v_ll_4, v_ls_4, v_il_5, v_al_5, v_is_5, v_as_5, v_inc_5, v_ll_5, v_ls_5, v_il_6, v_al_6, v_is_6, v_as_6, v_inc_6, v_il_7, v_al_7, v_is_7, v_as_7, v_inc_7, v_il_8, v_al_8, v_is_8, v_as_8, v_inc_8, v_il_9, v_al_9, v_is_9, v_as_9, v_inc_9, v_il_10, v_al_10, v_is_10, v_as_10, v_inc_10, v_il_11, v_al_11, v_is_11, v_as_11, v_inc_11, v_il_12, v_al_12, v_is_12, v_as_12, v_inc_12, v_il_13, v_al_13, v_is_13, v_as_13, v_inc_13, v_c_8, v_c_9, v_c_10, v_c_11, v_c_12, v_c_13, v_c_14, v_b_15, v_b_16, v_b_17, v_b_21, v_b_22, v_b_23, v_b_24, v_b_25, v_b_26, v_b_18, v_b_19, v_b_20, v_b_27, v_b_28, v_b_29, v_b_30, v_b_31, v_dup_i, v_dup_r, v_dup2, v_pop, v_gi, v_gl, v_gr, v_pi, v_pl, v_pz, v_iald, v_lald, v_bald, v_zald, v_aald, v_iast, v_last, v_bast, v_zast, v_alen_0, v_alen_1, v_alen_2, v_alen_3, v_alen_4, v_j_45, v_j_46, v_j_47, v_j_48, v_j_49, v_j_50, v_j_51, v_j_52, v_j_53, v_j_54, v_j_55, v_j_56, v_goto, v_sw, v_ret_i, v_ret_z, v_ret, v_cpy, v_iv_1, v_iv_2, v_iv_3, v_iv_4, v_iv_5, v_iv_6, v_is2_1, v_is2_2, v_is2_3, v_ivJ, List.nil_append, List.cons_append, rf_0_0, rf_0_1, rf_0_2, rf_0_3, rf_0_4, rf_0_5, rf_0_6, rf_0_7, rf_0_8, rf_0_9, rf_1_0, rf_1_2, rf_4_0, rf_4_1, rf_4_2, rf_5_8, rf_5_9, rf_5_10, rf_5_11, rf_5_12, rf_13_0, rf_13_1, rf_14_0, rf_14_1, rf_14_2, rf_15_8, rf_15_9, rf_15_10, rf_15_11, rf_15_12, rf_23_0, rf_23_1, rf_23_2, rf_24_8, rf_24_9, rf_24_10, rf_24_11, rf_24_12, rf_32_6, rf_34_0, rf_34_1, rf_34_2, rf_34_3, rf_35_8, rf_35_9, rf_35_10, rf_35_11, rf_35_12, rf_43_0, rf_43_1, rf_43_2, rf_43_3, rf_45_0, rf_45_1, rf_46_0, rf_46_1, rf_46_2, rf_46_3, rf_46_4, rf_46_5, rf_47_0, rf_47_1, rf_49_0, rf_49_1, rf_49_2, rf_49_3, rf_49_4, rf_49_5, rf_53_0, rf_53_1, rf_53_2, rf_53_3, rf_53_4, rf_53_5, rf_53_6, rf_53_7, rf_53_9, rf_53_10, rf_53_11, rf_53_12, rf_53_13, rf_54_0, rf_54_1, rf_55_1, rf_55_2, rf_55_3, rf_67_1, rf_67_6, rf_67_7, rf_67_8, rf_67_9, rf_67_10, rf_67_22, rf_67_23, rf_67_28, rf_67_30, rf_67_32, rf_67_33, rf_67_38, rf_67_39, rf_67_48, rf_67_49, rf_67_51, rf_67_52, rf_67_53, rf_67_54, rf_67_55, rf_67_60, rf_67_61, rf_67_62, up_s, up_b, up_j, b_53_53, k_53_53, b_53_59, k_53_59, b_53_95, k_53_95, b_53_96, k_53_96, w_sm, ↓if_pos, ↓if_neg,  ]
  refine h1.mono (fun r M2 h2 => ?_)
  obtain ⟨any, rfl, ⟨rfl, h2⟩ | ⟨rfl, h2⟩⟩ := h2
  · simp (disch := first | exact nl_i _ | exact nl_r _ | exact Nat.le_of_ble_eq_true rfl | exact Or.inl rfl | exact Or.inr rfl | exact w8_lo _ | exact w8_hi _ | decide | omega) only [v_fall, v_il_0, v_al_0, v_is_0, v_as_0, v_inc_0, v_ll_0, v_ls_0, v_il_1, v_al_1, v_is_1, v_as_1, v_inc_1, v_ll_1, v_ls_1, v_il_2, v_al_2, v_is_2, v_as_2, v_inc_2, v_ll_2, v_ls_2, v_il_3, v_al_3, v_is_3, v_as_3, v_inc_3, v_ll_3, v_ls_3, v_il_4, v_al_4, v_is_4, v_as_4, v_inc_4, v_ll_4, v_ls_4, v_il_5, v_al_5, v_is_5, v_as_5, v_inc_5, v_ll_5, v_ls_5, v_il_6, v_al_6, v_is_6, v_as_6, v_inc_6, v_il_7, v_al_7, v_is_7, v_as_7, v_inc_7, v_il_8, v_al_8, v_is_8, v_as_8, v_inc_8, v_il_9, v_al_9, v_is_9, v_as_9, v_inc_9, v_il_10, v_al_10, v_is_10, v_as_10, v_inc_10, v_il_11, v_al_11, v_is_11, v_as_11, v_inc_11, v_il_12, v_al_12, v_is_12, v_as_12, v_inc_12, v_il_13, v_al_13, v_is_13, v_as_13, v_inc_13, v_c_8, v_c_9, v_c_10, v_c_11, v_c_12, v_c_13, v_c_14, v_b_15, v_b_16, v_b_17, v_b_21, v_b_22, v_b_23, v_b_24, v_b_25, v_b_26, v_b_18, v_b_19, v_b_20, v_b_27, v_b_28, v_b_29, v_b_30, v_b_31, v_dup_i, v_dup_r, v_dup2, v_pop, v_gi, v_gl, v_gr, v_pi, v_pl, v_pz, v_iald, v_lald, v_bald, v_zald, v_aald, v_iast, v_last, v_bast, v_zast, v_alen_0, v_alen_1, v_alen_2, v_alen_3, v_alen_4, v_j_45, v_j_46, v_j_47, v_j_48, v_j_49, v_j_50, v_j_51, v_j_52, v_j_53, v_j_54, v_j_55, v_j_56, v_goto, v_sw, v_ret_i, v_ret_z, v_ret, v_cpy, v_iv_1, v_iv_2, v_iv_3, v_iv_4, v_iv_5, v_iv_6, v_is2_1, v_is2_2, v_is2_3, v_ivJ, List.nil_append, List.cons_append, rf_0_0, rf_0_1, rf_0_2, rf_0_3, rf_0_4, rf_0_5, rf_0_6, rf_0_7, rf_0_8, rf_0_9, rf_1_0, rf_1_2, rf_4_0, rf_4_1, rf_4_2, rf_5_8, rf_5_9, rf_5_10, rf_5_11, rf_5_12, rf_13_0, rf_13_1, rf_14_0, rf_14_1, rf_14_2, rf_15_8, rf_15_9, rf_15_10, rf_15_11, rf_15_12, rf_23_0, rf_23_1, rf_23_2, rf_24_8, rf_24_9, rf_24_10, rf_24_11, rf_24_12, rf_32_6, rf_34_0, rf_34_1, rf_34_2, rf_34_3, rf_35_8, rf_35_9, rf_35_10, rf_35_11, rf_35_12, rf_43_0, rf_43_1, rf_43_2, rf_43_3, rf_45_0, rf_45_1, rf_46_0, rf_46_1, rf_46_2, rf_46_3, rf_46_4, rf_46_5, rf_47_0, rf_47_1, rf_49_0, rf_49_1, rf_49_2, rf_49_3, rf_49_4, rf_49_5, rf_53_0, rf_53_1, rf_53_2, rf_53_3, rf_53_4, rf_53_5, rf_53_6, rf_53_7, rf_53_9, rf_53_10, rf_53_11, rf_53_12, rf_53_13, rf_54_0, rf_54_1, rf_55_1, rf_55_2, rf_55_3, rf_67_1, rf_67_6, rf_67_7, rf_67_8, rf_67_9, rf_67_10, rf_67_22, rf_67_23, rf_67_28, rf_67_30, rf_67_32, rf_67_33, rf_67_38, rf_67_39, rf_67_48, rf_67_49, rf_67_51, rf_67_52, rf_67_53, rf_67_54, rf_67_55, rf_67_60, rf_67_61, rf_67_62, up_s, up_b, up_j, b_53_53, k_53_53, b_53_59, k_53_59, b_53_95, k_53_95, b_53_96, k_53_96, w_sm, ↓if_pos, ↓if_neg,  ]
    exact h2
  · simp (disch := first | exact nl_i _ | exact nl_r _ | exact Nat.le_of_ble_eq_true rfl | exact Or.inl rfl | exact Or.inr rfl | exact w8_lo _ | exact w8_hi _ | decide | omega) only [v_fall, v_il_0, v_al_0, v_is_0, v_as_0, v_inc_0, v_ll_0, v_ls_0, v_il_1, v_al_1, v_is_1, v_as_1, v_inc_1, v_ll_1, v_ls_1, v_il_2, v_al_2, v_is_2, v_as_2, v_inc_2, v_ll_2, v_ls_2, v_il_3, v_al_3, v_is_3, v_as_3, v_inc_3, v_ll_3, v_ls_3, v_il_4, v_al_4, v_is_4, v_as_4, v_inc_4, v_ll_4, v_ls_4, v_il_5, v_al_5, v_is_5, v_as_5, v_inc_5, v_ll_5, v_ls_5, v_il_6, v_al_6, v_is_6, v_as_6, v_inc_6, v_il_7, v_al_7, v_is_7, v_as_7, v_inc_7, v_il_8, v_al_8, v_is_8, v_as_8, v_inc_8, v_il_9, v_al_9, v_is_9, v_as_9, v_inc_9, v_il_10, v_al_10, v_is_10, v_as_10, v_inc_10, v_il_11, v_al_11, v_is_11, v_as_11, v_inc_11, v_il_12, v_al_12, v_is_12, v_as_12, v_inc_12, v_il_13, v_al_13, v_is_13, v_as_13, v_inc_13, v_c_8, v_c_9, v_c_10, v_c_11, v_c_12, v_c_13, v_c_14, v_b_15, v_b_16, v_b_17, v_b_21, v_b_22, v_b_23, v_b_24, v_b_25, v_b_26, v_b_18, v_b_19, v_b_20, v_b_27, v_b_28, v_b_29, v_b_30, v_b_31, v_dup_i, v_dup_r, v_dup2, v_pop, v_gi, v_gl, v_gr, v_pi, v_pl, v_pz, v_iald, v_lald, v_bald, v_zald, v_aald, v_iast, v_last, v_bast, v_zast, v_alen_0, v_alen_1, v_alen_2, v_alen_3, v_alen_4, v_j_45, v_j_46, v_j_47, v_j_48, v_j_49, v_j_50, v_j_51, v_j_52, v_j_53, v_j_54, v_j_55, v_j_56, v_goto, v_sw, v_ret_i, v_ret_z, v_ret, v_cpy, v_iv_1, v_iv_2, v_iv_3, v_iv_4, v_iv_5, v_iv_6, v_is2_1, v_is2_2, v_is2_3, v_ivJ, List.nil_append, List.cons_append, rf_0_0, rf_0_1, rf_0_2, rf_0_3, rf_0_4, rf_0_5, rf_0_6, rf_0_7, rf_0_8, rf_0_9, rf_1_0, rf_1_2, rf_4_0, rf_4_1, rf_4_2, rf_5_8, rf_5_9, rf_5_10, rf_5_11, rf_5_12, rf_13_0, rf_13_1, rf_14_0, rf_14_1, rf_14_2, rf_15_8, rf_15_9, rf_15_10, rf_15_11, rf_15_12, rf_23_0, rf_23_1, rf_23_2, rf_24_8, rf_24_9, rf_24_10, rf_24_11, rf_24_12, rf_32_6, rf_34_0, rf_34_1, rf_34_2, rf_34_3, rf_35_8, rf_35_9, rf_35_10, rf_35_11, rf_35_12, rf_43_0, rf_43_1, rf_43_2, rf_43_3, rf_45_0, rf_45_1, rf_46_0, rf_46_1, rf_46_2, rf_46_3, rf_46_4, rf_46_5, rf_47_0, rf_47_1, rf_49_0, rf_49_1, rf_49_2, rf_49_3, rf_49_4, rf_49_5, rf_53_0, rf_53_1, rf_53_2, rf_53_3, rf_53_4, rf_53_5, rf_53_6, rf_53_7, rf_53_9, rf_53_10, rf_53_11, rf_53_12, rf_53_13, rf_54_0, rf_54_1, rf_55_1, rf_55_2, rf_55_3, rf_67_1, rf_67_6, rf_67_7, rf_67_8, rf_67_9, rf_67_10, rf_67_22, rf_67_23, rf_67_28, rf_67_30, rf_67_32, rf_67_33, rf_67_38, rf_67_39, rf_67_48, rf_67_49, rf_67_51, rf_67_52, rf_67_53, rf_67_54, rf_67_55, rf_67_60, rf_67_61, rf_67_62, up_s, up_b, up_j, b_53_53, k_53_53, b_53_59, k_53_59, b_53_95, k_53_95, b_53_96, k_53_96, w_sm, ↓if_pos, ↓if_neg,  ]
    exact h2
theorem lms_2 (mi hd la : Int) (h : 0 ≤ la ∧ la ≤ 100) (hmi : 0 ≤ mi ∧ mi < 1440) (T : XC d 54 [aR 15 0 53, aI la] M (fun r M1 => r = [] ∧ ∃ a y e : Int, M1 65 0 = a ∧ M1 66 0 = y ∧ (0 ≤ a ∧ a ≤ 500000000) ∧ (0 ≤ y ∧ y ≤ 500000000) ∧ e = (if y < a then y else a) ∧ Q [aI (if e < 500000000 then e - mi else -1)] M1)) : XL (d + 1) 53 29 [aR 15 0 53, aI mi, aI hd, aI la, aI la] [] M Q := by
  rw [b_53_29, k_53_29]
  simp (disch := first | exact nl_i _ | exact nl_r _ | exact Nat.le_of_ble_eq_true rfl | exact Or.inl rfl | exact Or.inr rfl | exact w8_lo _ | exact w8_hi _ | decide | omega) only [v_fall, v_il_0, v_al_0, v_is_0, v_as_0, v_inc_0, v_ll_0, v_ls_0, v_il_1, v_al_1, v_is_1, v_as_1, v_inc_1, v_ll_1, v_ls_1, v_il_2, v_al_2, v_is_2, v_as_2, v_inc_2, v_ll_2, v_ls_2, v_il_3, v_al_3, v_is_3, v_as_3, v_inc_3, v_ll_3, v_ls_3, v_il_4, v_al_4, v_is_4, v_as_4, v_inc_4, v_ll_4, v_ls_4, v_il_5, v_al_5, v_is_5, v_as_5, v_inc_5, v_ll_5, v_ls_5, v_il_6, v_al_6, v_is_6, v_as_6, v_inc_6, v_il_7, v_al_7, v_is_7, v_as_7, v_inc_7, v_il_8, v_al_8, v_is_8, v_as_8, v_inc_8, v_il_9, v_al_9, v_is_9, v_as_9, v_inc_9, v_il_10, v_al_10, v_is_10, v_as_10, v_inc_10, v_il_11, v_al_11, v_is_11, v_as_11, v_inc_11, v_il_12, v_al_12, v_is_12, v_as_12, v_inc_12, v_il_13, v_al_13, v_is_13, v_as_13, v_inc_13, v_c_8, v_c_9, v_c_10, v_c_11, v_c_12, v_c_13, v_c_14, v_b_15, v_b_16, v_b_17, v_b_21, v_b_22, v_b_23, v_b_24, v_b_25, v_b_26, v_b_18, v_b_19, v_b_20, v_b_27, v_b_28, v_b_29, v_b_30, v_b_31, v_dup_i, v_dup_r, v_dup2, v_pop, v_gi, v_gl, v_gr, v_pi, v_pl, v_pz, v_iald, v_lald, v_bald, v_zald, v_aald, v_iast, v_last, v_bast, v_zast, v_alen_0, v_alen_1, v_alen_2, v_alen_3, v_alen_4, v_j_45, v_j_46, v_j_47, v_j_48, v_j_49, v_j_50, v_j_51, v_j_52, v_j_53, v_j_54, v_j_55, v_j_56, v_goto, v_sw, v_ret_i, v_ret_z, v_ret, v_cpy, v_iv_1, v_iv_2, v_iv_3, v_iv_4, v_iv_5, v_iv_6, v_is2_1, v_is2_2, v_is2_3, v_ivJ, List.nil_append, List.cons_append, rf_0_0, rf_0_1, rf_0_2, rf_0_3, rf_0_4, rf_0_5, rf_0_6, rf_0_7, rf_0_8, rf_0_9, rf_1_0, rf_1_2, rf_4_0, rf_4_1, rf_4_2, rf_5_8, rf_5_9, rf_5_10, rf_5_11, rf_5_12, rf_13_0, rf_13_1, rf_14_0, rf_14_1, rf_14_2, rf_15_8, rf_15_9, rf_15_10, rf_15_11, rf_15_12, rf_23_0, rf_23_1, rf_23_2, rf_24_8, rf_24_9, rf_24_10, rf_24_11, rf_24_12, rf_32_6, rf_34_0, rf_34_1, rf_34_2, rf_34_3, rf_35_8, rf_35_9, rf_35_10, rf_35_11, rf_35_12, rf_43_0, rf_43_1, rf_43_2, rf_43_3, rf_45_0, rf_45_1, rf_46_0, rf_46_1, rf_46_2, rf_46_3, rf_46_4, rf_46_5, rf_47_0, rf_47_1, rf_49_0, rf_49_1, rf_49_2, rf_49_3, rf_49_4, rf_49_5, rf_53_0, rf_53_1, rf_53_2, rf_53_3, rf_53_4, rf_53_5, rf_53_6, rf_53_7, rf_53_9, rf_53_10, rf_53_11, rf_53_12, rf_53_13, rf_54_0, rf_54_1, rf_55_1, rf_55_2, rf_55_3, rf_67_1, rf_67_6, rf_67_7, rf_67_8, rf_67_9, rf_67_10, rf_67_22, rf_67_23, rf_67_28, rf_67_30, rf_67_32, rf_67_33, rf_67_38, rf_67_39, rf_67_48, rf_67_49, rf_67_51, rf_67_52, rf_67_53, rf_67_54, rf_67_55, rf_67_60, rf_67_61, rf_67_62, up_s, up_b, up_j, b_53_53, k_53_53, b_53_59, k_53_59, b_53_95, k_53_95, b_53_96, k_53_96, w_sm, ↓if_pos, ↓if_neg,  ]
  refine T.mono (fun r M1 h1 => ?_)
  obtain ⟨rfl, a, y, e, ha, hy, hab, hyb, he, h1⟩ := h1
  have pm : ∀ Q', XC d 225 [aI a, aI y] M1 Q' ↔ Q' [aI e] M1 := fun Q' => by
    rw [s_min, w_sm (by omega), w_sm (by omega), ← he]
  have eb : 0 ≤ e ∧ e ≤ 500000000 := by
    rw [he]
    by_cases c : y < a
    · rw [if_pos c]; omega
    · rw [if_neg c]; omega
  clear he
  by_cases c : e < 500000000
  · rw [if_pos c] at h1
    simp (disch := first | exact nl_i _ | exact nl_r _ | exact Nat.le_of_ble_eq_true rfl | exact Or.inl rfl | exact Or.inr rfl | exact w8_lo _ | exact w8_hi _ | decide | omega) only [v_fall, v_il_0, v_al_0, v_is_0, v_as_0, v_inc_0, v_ll_0, v_ls_0, v_il_1, v_al_1, v_is_1, v_as_1, v_inc_1, v_ll_1, v_ls_1, v_il_2, v_al_2, v_is_2, v_as_2, v_inc_2, v_ll_2, v_ls_2, v_il_3, v_al_3, v_is_3, v_as_3, v_inc_3, v_ll_3, v_ls_3, v_il_4, v_al_4, v_is_4, v_as_4, v_inc_4, v_ll_4, v_ls_4, v_il_5, v_al_5, v_is_5, v_as_5, v_inc_5, v_ll_5, v_ls_5, v_il_6, v_al_6, v_is_6, v_as_6, v_inc_6, v_il_7, v_al_7, v_is_7, v_as_7, v_inc_7, v_il_8, v_al_8, v_is_8, v_as_8, v_inc_8, v_il_9, v_al_9, v_is_9, v_as_9, v_inc_9, v_il_10, v_al_10, v_is_10, v_as_10, v_inc_10, v_il_11, v_al_11, v_is_11, v_as_11, v_inc_11, v_il_12, v_al_12, v_is_12, v_as_12, v_inc_12, v_il_13, v_al_13, v_is_13, v_as_13, v_inc_13, v_c_8, v_c_9, v_c_10, v_c_11, v_c_12, v_c_13, v_c_14, v_b_15, v_b_16, v_b_17, v_b_21, v_b_22, v_b_23, v_b_24, v_b_25, v_b_26, v_b_18, v_b_19, v_b_20, v_b_27, v_b_28, v_b_29, v_b_30, v_b_31, v_dup_i, v_dup_r, v_dup2, v_pop, v_gi, v_gl, v_gr, v_pi, v_pl, v_pz, v_iald, v_lald, v_bald, v_zald, v_aald, v_iast, v_last, v_bast, v_zast, v_alen_0, v_alen_1, v_alen_2, v_alen_3, v_alen_4, v_j_45, v_j_46, v_j_47, v_j_48, v_j_49, v_j_50, v_j_51, v_j_52, v_j_53, v_j_54, v_j_55, v_j_56, v_goto, v_sw, v_ret_i, v_ret_z, v_ret, v_cpy, v_iv_1, v_iv_2, v_iv_3, v_iv_4, v_iv_5, v_iv_6, v_is2_1, v_is2_2, v_is2_3, v_ivJ, List.nil_append, List.cons_append, rf_0_0, rf_0_1, rf_0_2, rf_0_3, rf_0_4, rf_0_5, rf_0_6, rf_0_7, rf_0_8, rf_0_9, rf_1_0, rf_1_2, rf_4_0, rf_4_1, rf_4_2, rf_5_8, rf_5_9, rf_5_10, rf_5_11, rf_5_12, rf_13_0, rf_13_1, rf_14_0, rf_14_1, rf_14_2, rf_15_8, rf_15_9, rf_15_10, rf_15_11, rf_15_12, rf_23_0, rf_23_1, rf_23_2, rf_24_8, rf_24_9, rf_24_10, rf_24_11, rf_24_12, rf_32_6, rf_34_0, rf_34_1, rf_34_2, rf_34_3, rf_35_8, rf_35_9, rf_35_10, rf_35_11, rf_35_12, rf_43_0, rf_43_1, rf_43_2, rf_43_3, rf_45_0, rf_45_1, rf_46_0, rf_46_1, rf_46_2, rf_46_3, rf_46_4, rf_46_5, rf_47_0, rf_47_1, rf_49_0, rf_49_1, rf_49_2, rf_49_3, rf_49_4, rf_49_5, rf_53_0, rf_53_1, rf_53_2, rf_53_3, rf_53_4, rf_53_5, rf_53_6, rf_53_7, rf_53_9, rf_53_10, rf_53_11, rf_53_12, rf_53_13, rf_54_0, rf_54_1, rf_55_1, rf_55_2, rf_55_3, rf_67_1, rf_67_6, rf_67_7, rf_67_8, rf_67_9, rf_67_10, rf_67_22, rf_67_23, rf_67_28, rf_67_30, rf_67_32, rf_67_33, rf_67_38, rf_67_39, rf_67_48, rf_67_49, rf_67_51, rf_67_52, rf_67_53, rf_67_54, rf_67_55, rf_67_60, rf_67_61, rf_67_62, up_s, up_b, up_j, b_53_53, k_53_53, b_53_59, k_53_59, b_53_95, k_53_95, b_53_96, k_53_96, w_sm, ↓if_pos, ↓if_neg,  ha, hy, pm]
    exact h1
  · rw [if_neg c] at h1
    simp (disch := first | exact nl_i _ | exact nl_r _ | exact Nat.le_of_ble_eq_true rfl | exact Or.inl rfl | exact Or.inr rfl | exact w8_lo _ | exact w8_hi _ | decide | omega) only [v_fall, v_il_0, v_al_0, v_is_0, v_as_0, v_inc_0, v_ll_0, v_ls_0, v_il_1, v_al_1, v_is_1, v_as_1, v_inc_1, v_ll_1, v_ls_1, v_il_2, v_al_2, v_is_2, v_as_2, v_inc_2, v_ll_2, v_ls_2, v_il_3, v_al_3, v_is_3, v_as_3, v_inc_3, v_ll_3, v_ls_3, v_il_4, v_al_4, v_is_4, v_as_4, v_inc_4, v_ll_4, v_ls_4, v_il_5, v_al_5, v_is_5, v_as_5, v_inc_5, v_ll_5, v_ls_5, v_il_6, v_al_6, v_is_6, v_as_6, v_inc_6, v_il_7, v_al_7, v_is_7, v_as_7, v_inc_7, v_il_8, v_al_8, v_is_8, v_as_8, v_inc_8, v_il_9, v_al_9, v_is_9, v_as_9, v_inc_9, v_il_10, v_al_10, v_is_10, v_as_10, v_inc_10, v_il_11, v_al_11, v_is_11, v_as_11, v_inc_11, v_il_12, v_al_12, v_is_12, v_as_12, v_inc_12, v_il_13, v_al_13, v_is_13, v_as_13, v_inc_13, v_c_8, v_c_9, v_c_10, v_c_11, v_c_12, v_c_13, v_c_14, v_b_15, v_b_16, v_b_17, v_b_21, v_b_22, v_b_23, v_b_24, v_b_25, v_b_26, v_b_18, v_b_19, v_b_20, v_b_27, v_b_28, v_b_29, v_b_30, v_b_31, v_dup_i, v_dup_r, v_dup2, v_pop, v_gi, v_gl, v_gr, v_pi, v_pl, v_pz, v_iald, v_lald, v_bald, v_zald, v_aald, v_iast, v_last, v_bast, v_zast, v_alen_0, v_alen_1, v_alen_2, v_alen_3, v_alen_4, v_j_45, v_j_46, v_j_47, v_j_48, v_j_49, v_j_50, v_j_51, v_j_52, v_j_53, v_j_54, v_j_55, v_j_56, v_goto, v_sw, v_ret_i, v_ret_z, v_ret, v_cpy, v_iv_1, v_iv_2, v_iv_3, v_iv_4, v_iv_5, v_iv_6, v_is2_1, v_is2_2, v_is2_3, v_ivJ, List.nil_append, List.cons_append, rf_0_0, rf_0_1, rf_0_2, rf_0_3, rf_0_4, rf_0_5, rf_0_6, rf_0_7, rf_0_8, rf_0_9, rf_1_0, rf_1_2, rf_4_0, rf_4_1, rf_4_2, rf_5_8, rf_5_9, rf_5_10, rf_5_11, rf_5_12, rf_13_0, rf_13_1, rf_14_0, rf_14_1, rf_14_2, rf_15_8, rf_15_9, rf_15_10, rf_15_11, rf_15_12, rf_23_0, rf_23_1, rf_23_2, rf_24_8, rf_24_9, rf_24_10, rf_24_11, rf_24_12, rf_32_6, rf_34_0, rf_34_1, rf_34_2, rf_34_3, rf_35_8, rf_35_9, rf_35_10, rf_35_11, rf_35_12, rf_43_0, rf_43_1, rf_43_2, rf_43_3, rf_45_0, rf_45_1, rf_46_0, rf_46_1, rf_46_2, rf_46_3, rf_46_4, rf_46_5, rf_47_0, rf_47_1, rf_49_0, rf_49_1, rf_49_2, rf_49_3, rf_49_4, rf_49_5, rf_53_0, rf_53_1, rf_53_2, rf_53_3, rf_53_4, rf_53_5, rf_53_6, rf_53_7, rf_53_9, rf_53_10, rf_53_11, rf_53_12, rf_53_13, rf_54_0, rf_54_1, rf_55_1, rf_55_2, rf_55_3, rf_67_1, rf_67_6, rf_67_7, rf_67_8, rf_67_9, rf_67_10, rf_67_22, rf_67_23, rf_67_28, rf_67_30, rf_67_32, rf_67_33, rf_67_38, rf_67_39, rf_67_48, rf_67_49, rf_67_51, rf_67_52, rf_67_53, rf_67_54, rf_67_55, rf_67_60, rf_67_61, rf_67_62, up_s, up_b, up_j, b_53_53, k_53_53, b_53_59, k_53_59, b_53_95, k_53_95, b_53_96, k_53_96, w_sm, ↓if_pos, ↓if_neg,  ha, hy, pm]
    exact h1
theorem lms_l (hP : PW w l m wh cm lv M0 len f) (hok : okB w l m (M0 5) (M0 6) (M0 7) (M0 8) (M0 4 4) wh cm lv) (mi hd : Int) (hmi : 0 ≤ mi ∧ mi ≤ 1439) (hdb : -1 ≤ hd ∧ hd < 7) (kk : ∀ M', AgX seX M0 M' → SM w l (M0 8) wh M' len f → Q [aI (bstV w l m (M0 5) (M0 6) (M0 7) (M0 8) (M0 4 4) hd wh cm lv mi)] M') : ∀ (t s : Nat) (M : Mem), ((s + t : Nat) : Int) = 2 * (M0 5 0 - 1) → AgX seX M0 M → SM w l (M0 8) wh M len f → clA (bA w l m (M0 5) (M0 6) (M0 7) (M0 8) (M0 4 4) hd wh cm lv mi s) M → XL (d + 5) 53 29 [aR 15 0 53, aI mi, aI hd, aI (2 * (M0 5 0 - 1)), aI (s : Int)] [] M Q
  | 0, s, M, h, hA, hS, hcl => by
    have r0 := hok.2.2.2.2.1.1
    have e : (s : Int) = 2 * (M0 5 0 - 1) := by omega
    have g5 : M 5 = M0 5 := hA.fn (fun j => by unfold seX; omega)
    have g6 : M 6 = M0 6 := hA.fn (fun j => by unfold seX; omega)
    have g7 : M 7 = M0 7 := hA.fn (fun j => by unfold seX; omega)
    have g8 : M 8 = M0 8 := hA.fn (fun j => by unfold seX; omega)
    have g4 : M 4 = M0 4 := hA.fn (fun j => by unfold seX; omega)
    have hBI := bA_BI (hd := hd) hok hmi s (by omega)
    have es : (2 * (M0 5 0 - 1)).toNat = s := by omega
    rw [e]
    refine lms_2 (d := d + 4) mi hd (2 * (M0 5 0 - 1)) ⟨by omega, by omega⟩ ⟨by omega, by omega⟩ ?_
    rw [← e]
    refine s_work (d := d + 1) (hP.cg hA) (by rw [g5, g6, g7, g8, g4]; exact hok) hBI (by rw [g5]; omega) hcl (fun M1 hA1 hr => ⟨rfl, M 65 0, rdy M1 0, _, hA1 65 0 (by unfold wkX; omega), rdy_e (c := 0) (by decide), ?_, ?_, rfl, ?_⟩)
    · have := hcl 0 (by decide)
      have hb := (hBI 0).1
      have e0 : ((0 : Nat) : Int) = 0 := rfl
      rw [e0] at this
      omega
    · have := hr 0
      rw [g5, g6] at this
      have db := DS_b hok hBI (by omega) 0
      omega
    · have k := kk M1 (fun b j hx => by
        rw [hA1 b j (fun e9 => hx (by unfold wkX at e9; unfold seX; omega))]
        exact hA b j hx) (fun a ha => by
        rw [hA1 63 _ (by unfold wkX; omega)]
        exact hS a ha)
      unfold bstV at k
      rw [es, ← e] at k
      have h0 := hr 0
      rw [g5, g6] at h0
      have c0 := hcl 0 (by decide)
      have e0 : ((0 : Nat) : Int) = 0 := rfl
      rw [e0] at c0
      have fb := frm_b hok hBI (by omega) 0
      generalize hDD : DS w l m (M0 5) (M0 6) cm lv (s : Int) (bA w l m (M0 5) (M0 6) (M0 7) (M0 8) (M0 4 4) hd wh cm lv mi s) 0 = DD at h0
      have fE : frm w l m (M0 5) (M0 6) cm lv (s : Int) (bA w l m (M0 5) (M0 6) (M0 7) (M0 8) (M0 4 4) hd wh cm lv mi s) 0 = if bA w l m (M0 5) (M0 6) (M0 7) (M0 8) (M0 4 4) hd wh cm lv mi s 0 < DD then bA w l m (M0 5) (M0 6) (M0 7) (M0 8) (M0 4 4) hd wh cm lv mi s 0 else DD := by
        unfold frm
        rw [hDD]
      rw [fE] at k fb
      generalize bA w l m (M0 5) (M0 6) (M0 7) (M0 8) (M0 4 4) hd wh cm lv mi s 0 = AA at *
      have key : (if (if rdy M1 0 < M 65 0 then rdy M1 0 else M 65 0) < 500000000 then (if rdy M1 0 < M 65 0 then rdy M1 0 else M 65 0) - mi else -1) = (if (if AA < DD then AA else DD) < 100000000 then (if AA < DD then AA else DD) - mi else -1) := by
        by_cases c1 : rdy M1 0 < M 65 0
        · rw [if_pos c1]
          by_cases c2 : AA < DD
          · rw [if_pos c2] at fb ⊢
            by_cases c3 : rdy M1 0 < 500000000
            · rw [if_pos c3, if_pos (by omega)]; omega
            · rw [if_neg c3, if_neg (by omega)]
          · rw [if_neg c2] at fb ⊢
            by_cases c3 : rdy M1 0 < 500000000
            · rw [if_pos c3, if_pos (by omega)]; omega
            · rw [if_neg c3, if_neg (by omega)]
        · rw [if_neg c1]
          by_cases c2 : AA < DD
          · rw [if_pos c2] at fb ⊢
            by_cases c3 : M 65 0 < 500000000
            · rw [if_pos c3, if_pos (by omega)]; omega
            · rw [if_neg c3, if_neg (by omega)]
          · rw [if_neg c2] at fb ⊢
            by_cases c3 : M 65 0 < 500000000
            · rw [if_pos c3, if_pos (by omega)]; omega
            · rw [if_neg c3, if_neg (by omega)]
      rw [key]
      exact k
  | t + 1, s, M, h, hA, hS, hcl => by
    have r0 := hok.2.2.2.2.1.1
    have g5 : M 5 = M0 5 := hA.fn (fun j => by unfold seX; omega)
    have g6 : M 6 = M0 6 := hA.fn (fun j => by unfold seX; omega)
    have g7 : M 7 = M0 7 := hA.fn (fun j => by unfold seX; omega)
    have g8 : M 8 = M0 8 := hA.fn (fun j => by unfold seX; omega)
    have g4 : M 4 = M0 4 := hA.fn (fun j => by unfold seX; omega)
    have hBI := bA_BI (hd := hd) hok hmi s (by omega)
    refine lms_1 (d := d + 4) mi hd (2 * (M0 5 0 - 1)) (s : Int) ⟨by omega, by omega, by omega⟩ ?_
    refine s_work (d := d + 1) (hP.cg hA) (by rw [g5, g6, g7, g8, g4]; exact hok) hBI (by rw [g5]; omega) hcl (fun M1 hA1 hr => ⟨rfl, ?_⟩)
    have A1 : AgX seX M0 M1 := fun b j hx => by
      rw [hA1 b j (fun e9 => hx (by unfold wkX at e9; unfold seX; omega))]
      exact hA b j hx
    have k5 : M1 5 = M0 5 := A1.fn (fun j => by unfold seX; omega)
    have k6 : M1 6 = M0 6 := A1.fn (fun j => by unfold seX; omega)
    have k7 : M1 7 = M0 7 := A1.fn (fun j => by unfold seX; omega)
    have k8 : M1 8 = M0 8 := A1.fn (fun j => by unfold seX; omega)
    have k4 : M1 4 = M0 4 := A1.fn (fun j => by unfold seX; omega)
    rw [g5, g6] at hr
    have hcl1 : clA (bA w l m (M0 5) (M0 6) (M0 7) (M0 8) (M0 4 4) hd wh cm lv mi s) M1 := fun c hc => by
      rw [hA1 65 _ (by unfold wkX; omega)]
      exact hcl c hc
    refine s_depart (d := d) (hP.cg A1) (by rw [k5, k6, k7, k8, k4]; exact hok) (fun a ha => by rw [k8, hA1 63 _ (by unfold wkX; omega)]; exact hS a ha) hBI (by rw [k5]; omega) hcl1 (by rw [k5, k6]; exact hr) hd hdb (fun M2 any hA2 hS2 hcl2 hany => ⟨any, rfl, ?_⟩)
    rw [k5, k6, k7, k8, k4] at hcl2 hany
    rw [k8] at hS2
    have A2 : AgX seX M0 M2 := fun b j hx => by
      rw [hA2 b j (fun e9 => hx (by unfold dpX at e9; unfold seX; omega))]
      exact A1 b j hx
    rcases hany with ⟨e0, hno⟩ | e1
    · left
      refine ⟨e0, ?_⟩
      have k := kk M2 A2 hS2
      rw [bstV_none (s := s + 1) (by omega) hno] at k
      exact k
    · right
      refine ⟨e1, ?_⟩
      have g := lms_l hP hok mi hd hmi hdb kk t (s + 1) M2 (by omega) A2 hS2 hcl2
      rw [Int.natCast_add] at g
      exact g
theorem s_least (hP : PW w l m wh cm lv M len f) (hok : okB w l m (M 5) (M 6) (M 7) (M 8) (M 4 4) wh cm lv) (hS : SM w l (M 8) wh M len f) (mi hd : Int) (hmi : 0 ≤ mi ∧ mi ≤ 1439) (hdb : -1 ≤ hd ∧ hd < 7) (kk : ∀ M', AgX seX M M' → SM w l (M 8) wh M' len f → Q [aI (bstV w l m (M 5) (M 6) (M 7) (M 8) (M 4 4) hd wh cm lv mi)] M') : XC (d + 5) 53 [aR 15 0 53, aI mi, aI hd] M Q := by
  have r0 := hok.2.2.2.2.1.1
  have h0 := hok.2.2.2.2.2.2.2.1
  rw [lms_0 (d := d + 4) mi hd (2 * (M 5 0 - 1)) (fun M' Q' hM' => by
    rw [s_stopCount (RI_f.mpr (by rw [hM' 5 (by decide), hM' 6 (by decide), hM' 8 (by decide)]; exact hP.1.2.1)), hM' 5 (by decide), if_neg (by omega), show 2 * M 5 0 - 1 = 2 * (M 5 0 - 1) + 1 by omega])]
  refine lms_l (d := d) hP hok mi hd hmi hdb kk (2 * (M 5 0 - 1)).toNat 0 _ (by omega) (fun b j hx => ?_) (fun a ha => ?_) (fun c hc => ?_)
  · unfold seX at hx
    rw [up_b (by omega), filM_r (by omega)]
  · rw [up_b (by decide), filM_r (by decide)]
    exact hS a ha
  · unfold bA
    by_cases e : c = 0
    · rw [e, if_pos rfl]
      exact Or.inl ⟨up_s, by omega⟩
    · rw [if_neg e, up_j (by omega), filM_at (by omega) (by omega)]
      exact Or.inr ⟨rfl, rfl⟩
end DE
