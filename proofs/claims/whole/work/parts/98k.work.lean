/-! BEST on the class's side: rounds of sweeps -/
section WO
variable {d : Nat} {M M0 : Mem} {Q : List AV → Mem → Prop} {w l : Nat}
theorem wk_3 (st ki qi i ro m h z nx : Int) (o2 : AV) (hh : M 53 14 = h) (hq : 0 ≤ qi ∧ qi < ki ∧ ki ≤ 4) (hro : 0 ≤ ro ∧ ro < 1000000) (hi : 0 ≤ i ∧ i < m ∧ m ≤ 4) (hz : and32 (shr32 h i) 1 = z) (hzb : z = 0 ∨ z = 1) (hnx : nx = if i + 1 < m then i + 1 else 0) (k0 : z = 0 → M 53 8 = m ∧ XL (d + 1) 54 120 [aR 15 0 53, aI st, o2, aI ki, aI qi, aI nx, aI (ro + 1)] [] M Q) (T : z = 1 → XC d 56 [aR 15 0 53, aI i, aI st] M (fun r M1 => ∃ be : Int, r = [aI be] ∧ (be = 0 ∨ be = 1) ∧ M1 53 8 = m ∧ XL (d + 1) 54 120 [aR 15 0 53, aI st, o2, aI ki, aI (if be = 1 then 1 else qi + 1), aI nx, aI (ro + 1)] [] M1 Q)) : XL (d + 1) 54 120 [aR 15 0 53, aI st, o2, aI ki, aI qi, aI i, aI ro] [] M Q := by
  rw [b_54_120, k_54_120]
  rcases hzb with rfl | rfl
  · obtain ⟨hm, g⟩ := k0 rfl
    clear T k0
    by_cases c : i + 1 < m
    · rw [if_pos c] at hnx
      subst hnx
      simp (disch := first | exact nl_i _ | exact nl_r _ | exact Nat.le_of_ble_eq_true rfl | exact Or.inl rfl | exact Or.inr rfl | exact w8_lo _ | exact w8_hi _ | decide | omega) only [v_fall, v_il_0, v_al_0, v_is_0, v_as_0, v_inc_0, v_ll_0, v_ls_0, v_il_1, v_al_1, v_is_1, v_as_1, v_inc_1, v_ll_1, v_ls_1, v_il_2, v_al_2, v_is_2, v_as_2, v_inc_2, v_ll_2, v_ls_2, v_il_3, v_al_3, v_is_3, v_as_3, v_inc_3, v_ll_3, v_ls_3, v_il_4, v_al_4, v_is_4, v_as_4, v_inc_4, v_ll_4, v_ls_4, v_il_5, v_al_5, v_is_5, v_as_5, v_inc_5, v_ll_5, v_ls_5, v_il_6, v_al_6, v_is_6, v_as_6, v_inc_6, v_il_7, v_al_7, v_is_7, v_as_7, v_inc_7, v_il_8, v_al_8, v_is_8, v_as_8, v_inc_8, v_il_9, v_al_9, v_is_9, v_as_9, v_inc_9, v_il_10, v_al_10, v_is_10, v_as_10, v_inc_10, v_il_11, v_al_11, v_is_11, v_as_11, v_inc_11, v_il_12, v_al_12, v_is_12, v_as_12, v_inc_12, v_il_13, v_al_13, v_is_13, v_as_13, v_inc_13, v_c_8, v_c_9, v_c_10, v_c_11, v_c_12, v_c_13, v_c_14, v_b_15, v_b_16, v_b_17, v_b_21, v_b_22, v_b_23, v_b_24, v_b_25, v_b_26, v_b_18, v_b_19, v_b_20, v_b_27, v_b_28, v_b_29, v_b_30, v_b_31, v_dup_i, v_dup_r, v_dup2, v_pop, v_gi, v_gl, v_gr, v_pi, v_pl, v_pz, v_iald, v_lald, v_bald, v_zald, v_aald, v_iast, v_last, v_bast, v_zast, v_alen_0, v_alen_1, v_alen_2, v_alen_3, v_alen_4, v_j_45, v_j_46, v_j_47, v_j_48, v_j_49, v_j_50, v_j_51, v_j_52, v_j_53, v_j_54, v_j_55, v_j_56, v_goto, v_sw, v_ret_i, v_ret_z, v_ret, v_cpy, v_iv_1, v_iv_2, v_iv_3, v_iv_4, v_iv_5, v_iv_6, v_is2_1, v_is2_2, v_is2_3, v_ivJ, List.nil_append, List.cons_append, rf_0_0, rf_0_1, rf_0_2, rf_0_3, rf_0_4, rf_0_5, rf_0_6, rf_0_7, rf_0_8, rf_0_9, rf_1_0, rf_1_2, rf_4_0, rf_4_1, rf_4_2, rf_5_8, rf_5_9, rf_5_10, rf_5_11, rf_5_12, rf_13_0, rf_13_1, rf_14_0, rf_14_1, rf_14_2, rf_15_8, rf_15_9, rf_15_10, rf_15_11, rf_15_12, rf_23_0, rf_23_1, rf_23_2, rf_24_8, rf_24_9, rf_24_10, rf_24_11, rf_24_12, rf_32_6, rf_34_0, rf_34_1, rf_34_2, rf_34_3, rf_35_8, rf_35_9, rf_35_10, rf_35_11, rf_35_12, rf_43_0, rf_43_1, rf_43_2, rf_43_3, rf_45_0, rf_45_1, rf_46_0, rf_46_1, rf_46_2, rf_46_3, rf_46_4, rf_46_5, rf_47_0, rf_47_1, rf_49_0, rf_49_1, rf_49_2, rf_49_3, rf_49_4, rf_49_5, rf_53_0, rf_53_1, rf_53_2, rf_53_3, rf_53_4, rf_53_5, rf_53_6, rf_53_7, rf_53_9, rf_53_10, rf_53_11, rf_53_12, rf_53_13, rf_54_0, rf_54_1, rf_55_1, rf_55_2, rf_55_3, rf_67_1, rf_67_6, rf_67_7, rf_67_8, rf_67_9, rf_67_10, rf_67_22, rf_67_23, rf_67_28, rf_67_30, rf_67_32, rf_67_33, rf_67_38, rf_67_39, rf_67_48, rf_67_49, rf_67_51, rf_67_52, rf_67_53, rf_67_54, rf_67_55, rf_67_60, rf_67_61, rf_67_62, up_s, up_b, up_j, b_54_76, k_54_76, b_54_82, k_54_82, b_54_160, k_54_160, b_54_164, k_54_164, b_54_166, k_54_166, b_54_184, k_54_184, b_54_185, k_54_185, b_54_193, k_54_193, w_sm, ↓if_pos, ↓if_neg,  hh, hz, hm]
      exact g
    · rw [if_neg c] at hnx
      subst hnx
      simp (disch := first | exact nl_i _ | exact nl_r _ | exact Nat.le_of_ble_eq_true rfl | exact Or.inl rfl | exact Or.inr rfl | exact w8_lo _ | exact w8_hi _ | decide | omega) only [v_fall, v_il_0, v_al_0, v_is_0, v_as_0, v_inc_0, v_ll_0, v_ls_0, v_il_1, v_al_1, v_is_1, v_as_1, v_inc_1, v_ll_1, v_ls_1, v_il_2, v_al_2, v_is_2, v_as_2, v_inc_2, v_ll_2, v_ls_2, v_il_3, v_al_3, v_is_3, v_as_3, v_inc_3, v_ll_3, v_ls_3, v_il_4, v_al_4, v_is_4, v_as_4, v_inc_4, v_ll_4, v_ls_4, v_il_5, v_al_5, v_is_5, v_as_5, v_inc_5, v_ll_5, v_ls_5, v_il_6, v_al_6, v_is_6, v_as_6, v_inc_6, v_il_7, v_al_7, v_is_7, v_as_7, v_inc_7, v_il_8, v_al_8, v_is_8, v_as_8, v_inc_8, v_il_9, v_al_9, v_is_9, v_as_9, v_inc_9, v_il_10, v_al_10, v_is_10, v_as_10, v_inc_10, v_il_11, v_al_11, v_is_11, v_as_11, v_inc_11, v_il_12, v_al_12, v_is_12, v_as_12, v_inc_12, v_il_13, v_al_13, v_is_13, v_as_13, v_inc_13, v_c_8, v_c_9, v_c_10, v_c_11, v_c_12, v_c_13, v_c_14, v_b_15, v_b_16, v_b_17, v_b_21, v_b_22, v_b_23, v_b_24, v_b_25, v_b_26, v_b_18, v_b_19, v_b_20, v_b_27, v_b_28, v_b_29, v_b_30, v_b_31, v_dup_i, v_dup_r, v_dup2, v_pop, v_gi, v_gl, v_gr, v_pi, v_pl, v_pz, v_iald, v_lald, v_bald, v_zald, v_aald, v_iast, v_last, v_bast, v_zast, v_alen_0, v_alen_1, v_alen_2, v_alen_3, v_alen_4, v_j_45, v_j_46, v_j_47, v_j_48, v_j_49, v_j_50, v_j_51, v_j_52, v_j_53, v_j_54, v_j_55, v_j_56, v_goto, v_sw, v_ret_i, v_ret_z, v_ret, v_cpy, v_iv_1, v_iv_2, v_iv_3, v_iv_4, v_iv_5, v_iv_6, v_is2_1, v_is2_2, v_is2_3, v_ivJ, List.nil_append, List.cons_append, rf_0_0, rf_0_1, rf_0_2, rf_0_3, rf_0_4, rf_0_5, rf_0_6, rf_0_7, rf_0_8, rf_0_9, rf_1_0, rf_1_2, rf_4_0, rf_4_1, rf_4_2, rf_5_8, rf_5_9, rf_5_10, rf_5_11, rf_5_12, rf_13_0, rf_13_1, rf_14_0, rf_14_1, rf_14_2, rf_15_8, rf_15_9, rf_15_10, rf_15_11, rf_15_12, rf_23_0, rf_23_1, rf_23_2, rf_24_8, rf_24_9, rf_24_10, rf_24_11, rf_24_12, rf_32_6, rf_34_0, rf_34_1, rf_34_2, rf_34_3, rf_35_8, rf_35_9, rf_35_10, rf_35_11, rf_35_12, rf_43_0, rf_43_1, rf_43_2, rf_43_3, rf_45_0, rf_45_1, rf_46_0, rf_46_1, rf_46_2, rf_46_3, rf_46_4, rf_46_5, rf_47_0, rf_47_1, rf_49_0, rf_49_1, rf_49_2, rf_49_3, rf_49_4, rf_49_5, rf_53_0, rf_53_1, rf_53_2, rf_53_3, rf_53_4, rf_53_5, rf_53_6, rf_53_7, rf_53_9, rf_53_10, rf_53_11, rf_53_12, rf_53_13, rf_54_0, rf_54_1, rf_55_1, rf_55_2, rf_55_3, rf_67_1, rf_67_6, rf_67_7, rf_67_8, rf_67_9, rf_67_10, rf_67_22, rf_67_23, rf_67_28, rf_67_30, rf_67_32, rf_67_33, rf_67_38, rf_67_39, rf_67_48, rf_67_49, rf_67_51, rf_67_52, rf_67_53, rf_67_54, rf_67_55, rf_67_60, rf_67_61, rf_67_62, up_s, up_b, up_j, b_54_76, k_54_76, b_54_82, k_54_82, b_54_160, k_54_160, b_54_164, k_54_164, b_54_166, k_54_166, b_54_184, k_54_184, b_54_185, k_54_185, b_54_193, k_54_193, w_sm, ↓if_pos, ↓if_neg,  hh, hz, hm]
      exact g
  · have T' := T rfl
    clear T k0
    simp (disch := first | exact nl_i _ | exact nl_r _ | exact Nat.le_of_ble_eq_true rfl | exact Or.inl rfl | exact Or.inr rfl | exact w8_lo _ | exact w8_hi _ | decide | omega) only [v_fall, v_il_0, v_al_0, v_is_0, v_as_0, v_inc_0, v_ll_0, v_ls_0, v_il_1, v_al_1, v_is_1, v_as_1, v_inc_1, v_ll_1, v_ls_1, v_il_2, v_al_2, v_is_2, v_as_2, v_inc_2, v_ll_2, v_ls_2, v_il_3, v_al_3, v_is_3, v_as_3, v_inc_3, v_ll_3, v_ls_3, v_il_4, v_al_4, v_is_4, v_as_4, v_inc_4, v_ll_4, v_ls_4, v_il_5, v_al_5, v_is_5, v_as_5, v_inc_5, v_ll_5, v_ls_5, v_il_6, v_al_6, v_is_6, v_as_6, v_inc_6, v_il_7, v_al_7, v_is_7, v_as_7, v_inc_7, v_il_8, v_al_8, v_is_8, v_as_8, v_inc_8, v_il_9, v_al_9, v_is_9, v_as_9, v_inc_9, v_il_10, v_al_10, v_is_10, v_as_10, v_inc_10, v_il_11, v_al_11, v_is_11, v_as_11, v_inc_11, v_il_12, v_al_12, v_is_12, v_as_12, v_inc_12, v_il_13, v_al_13, v_is_13, v_as_13, v_inc_13, v_c_8, v_c_9, v_c_10, v_c_11, v_c_12, v_c_13, v_c_14, v_b_15, v_b_16, v_b_17, v_b_21, v_b_22, v_b_23, v_b_24, v_b_25, v_b_26, v_b_18, v_b_19, v_b_20, v_b_27, v_b_28, v_b_29, v_b_30, v_b_31, v_dup_i, v_dup_r, v_dup2, v_pop, v_gi, v_gl, v_gr, v_pi, v_pl, v_pz, v_iald, v_lald, v_bald, v_zald, v_aald, v_iast, v_last, v_bast, v_zast, v_alen_0, v_alen_1, v_alen_2, v_alen_3, v_alen_4, v_j_45, v_j_46, v_j_47, v_j_48, v_j_49, v_j_50, v_j_51, v_j_52, v_j_53, v_j_54, v_j_55, v_j_56, v_goto, v_sw, v_ret_i, v_ret_z, v_ret, v_cpy, v_iv_1, v_iv_2, v_iv_3, v_iv_4, v_iv_5, v_iv_6, v_is2_1, v_is2_2, v_is2_3, v_ivJ, List.nil_append, List.cons_append, rf_0_0, rf_0_1, rf_0_2, rf_0_3, rf_0_4, rf_0_5, rf_0_6, rf_0_7, rf_0_8, rf_0_9, rf_1_0, rf_1_2, rf_4_0, rf_4_1, rf_4_2, rf_5_8, rf_5_9, rf_5_10, rf_5_11, rf_5_12, rf_13_0, rf_13_1, rf_14_0, rf_14_1, rf_14_2, rf_15_8, rf_15_9, rf_15_10, rf_15_11, rf_15_12, rf_23_0, rf_23_1, rf_23_2, rf_24_8, rf_24_9, rf_24_10, rf_24_11, rf_24_12, rf_32_6, rf_34_0, rf_34_1, rf_34_2, rf_34_3, rf_35_8, rf_35_9, rf_35_10, rf_35_11, rf_35_12, rf_43_0, rf_43_1, rf_43_2, rf_43_3, rf_45_0, rf_45_1, rf_46_0, rf_46_1, rf_46_2, rf_46_3, rf_46_4, rf_46_5, rf_47_0, rf_47_1, rf_49_0, rf_49_1, rf_49_2, rf_49_3, rf_49_4, rf_49_5, rf_53_0, rf_53_1, rf_53_2, rf_53_3, rf_53_4, rf_53_5, rf_53_6, rf_53_7, rf_53_9, rf_53_10, rf_53_11, rf_53_12, rf_53_13, rf_54_0, rf_54_1, rf_55_1, rf_55_2, rf_55_3, rf_67_1, rf_67_6, rf_67_7, rf_67_8, rf_67_9, rf_67_10, rf_67_22, rf_67_23, rf_67_28, rf_67_30, rf_67_32, rf_67_33, rf_67_38, rf_67_39, rf_67_48, rf_67_49, rf_67_51, rf_67_52, rf_67_53, rf_67_54, rf_67_55, rf_67_60, rf_67_61, rf_67_62, up_s, up_b, up_j, b_54_76, k_54_76, b_54_82, k_54_82, b_54_160, k_54_160, b_54_164, k_54_164, b_54_166, k_54_166, b_54_184, k_54_184, b_54_185, k_54_185, b_54_193, k_54_193, w_sm, ↓if_pos, ↓if_neg,  hh, hz]
    refine T'.mono (fun r M1 h1 => ?_)
    obtain ⟨be, rfl, hbe, hm, h1⟩ := h1
    by_cases c : i + 1 < m
    · rw [if_pos c] at hnx
      subst hnx
      rcases hbe with rfl | rfl
      · rw [if_neg (by decide)] at h1
        simp (disch := first | exact nl_i _ | exact nl_r _ | exact Nat.le_of_ble_eq_true rfl | exact Or.inl rfl | exact Or.inr rfl | exact w8_lo _ | exact w8_hi _ | decide | omega) only [v_fall, v_il_0, v_al_0, v_is_0, v_as_0, v_inc_0, v_ll_0, v_ls_0, v_il_1, v_al_1, v_is_1, v_as_1, v_inc_1, v_ll_1, v_ls_1, v_il_2, v_al_2, v_is_2, v_as_2, v_inc_2, v_ll_2, v_ls_2, v_il_3, v_al_3, v_is_3, v_as_3, v_inc_3, v_ll_3, v_ls_3, v_il_4, v_al_4, v_is_4, v_as_4, v_inc_4, v_ll_4, v_ls_4, v_il_5, v_al_5, v_is_5, v_as_5, v_inc_5, v_ll_5, v_ls_5, v_il_6, v_al_6, v_is_6, v_as_6, v_inc_6, v_il_7, v_al_7, v_is_7, v_as_7, v_inc_7, v_il_8, v_al_8, v_is_8, v_as_8, v_inc_8, v_il_9, v_al_9, v_is_9, v_as_9, v_inc_9, v_il_10, v_al_10, v_is_10, v_as_10, v_inc_10, v_il_11, v_al_11, v_is_11, v_as_11, v_inc_11, v_il_12, v_al_12, v_is_12, v_as_12, v_inc_12, v_il_13, v_al_13, v_is_13, v_as_13, v_inc_13, v_c_8, v_c_9, v_c_10, v_c_11, v_c_12, v_c_13, v_c_14, v_b_15, v_b_16, v_b_17, v_b_21, v_b_22, v_b_23, v_b_24, v_b_25, v_b_26, v_b_18, v_b_19, v_b_20, v_b_27, v_b_28, v_b_29, v_b_30, v_b_31, v_dup_i, v_dup_r, v_dup2, v_pop, v_gi, v_gl, v_gr, v_pi, v_pl, v_pz, v_iald, v_lald, v_bald, v_zald, v_aald, v_iast, v_last, v_bast, v_zast, v_alen_0, v_alen_1, v_alen_2, v_alen_3, v_alen_4, v_j_45, v_j_46, v_j_47, v_j_48, v_j_49, v_j_50, v_j_51, v_j_52, v_j_53, v_j_54, v_j_55, v_j_56, v_goto, v_sw, v_ret_i, v_ret_z, v_ret, v_cpy, v_iv_1, v_iv_2, v_iv_3, v_iv_4, v_iv_5, v_iv_6, v_is2_1, v_is2_2, v_is2_3, v_ivJ, List.nil_append, List.cons_append, rf_0_0, rf_0_1, rf_0_2, rf_0_3, rf_0_4, rf_0_5, rf_0_6, rf_0_7, rf_0_8, rf_0_9, rf_1_0, rf_1_2, rf_4_0, rf_4_1, rf_4_2, rf_5_8, rf_5_9, rf_5_10, rf_5_11, rf_5_12, rf_13_0, rf_13_1, rf_14_0, rf_14_1, rf_14_2, rf_15_8, rf_15_9, rf_15_10, rf_15_11, rf_15_12, rf_23_0, rf_23_1, rf_23_2, rf_24_8, rf_24_9, rf_24_10, rf_24_11, rf_24_12, rf_32_6, rf_34_0, rf_34_1, rf_34_2, rf_34_3, rf_35_8, rf_35_9, rf_35_10, rf_35_11, rf_35_12, rf_43_0, rf_43_1, rf_43_2, rf_43_3, rf_45_0, rf_45_1, rf_46_0, rf_46_1, rf_46_2, rf_46_3, rf_46_4, rf_46_5, rf_47_0, rf_47_1, rf_49_0, rf_49_1, rf_49_2, rf_49_3, rf_49_4, rf_49_5, rf_53_0, rf_53_1, rf_53_2, rf_53_3, rf_53_4, rf_53_5, rf_53_6, rf_53_7, rf_53_9, rf_53_10, rf_53_11, rf_53_12, rf_53_13, rf_54_0, rf_54_1, rf_55_1, rf_55_2, rf_55_3, rf_67_1, rf_67_6, rf_67_7, rf_67_8, rf_67_9, rf_67_10, rf_67_22, rf_67_23, rf_67_28, rf_67_30, rf_67_32, rf_67_33, rf_67_38, rf_67_39, rf_67_48, rf_67_49, rf_67_51, rf_67_52, rf_67_53, rf_67_54, rf_67_55, rf_67_60, rf_67_61, rf_67_62, up_s, up_b, up_j, b_54_76, k_54_76, b_54_82, k_54_82, b_54_160, k_54_160, b_54_164, k_54_164, b_54_166, k_54_166, b_54_184, k_54_184, b_54_185, k_54_185, b_54_193, k_54_193, w_sm, ↓if_pos, ↓if_neg,  hm]
        exact h1
      · rw [if_pos rfl] at h1
        simp (disch := first | exact nl_i _ | exact nl_r _ | exact Nat.le_of_ble_eq_true rfl | exact Or.inl rfl | exact Or.inr rfl | exact w8_lo _ | exact w8_hi _ | decide | omega) only [v_fall, v_il_0, v_al_0, v_is_0, v_as_0, v_inc_0, v_ll_0, v_ls_0, v_il_1, v_al_1, v_is_1, v_as_1, v_inc_1, v_ll_1, v_ls_1, v_il_2, v_al_2, v_is_2, v_as_2, v_inc_2, v_ll_2, v_ls_2, v_il_3, v_al_3, v_is_3, v_as_3, v_inc_3, v_ll_3, v_ls_3, v_il_4, v_al_4, v_is_4, v_as_4, v_inc_4, v_ll_4, v_ls_4, v_il_5, v_al_5, v_is_5, v_as_5, v_inc_5, v_ll_5, v_ls_5, v_il_6, v_al_6, v_is_6, v_as_6, v_inc_6, v_il_7, v_al_7, v_is_7, v_as_7, v_inc_7, v_il_8, v_al_8, v_is_8, v_as_8, v_inc_8, v_il_9, v_al_9, v_is_9, v_as_9, v_inc_9, v_il_10, v_al_10, v_is_10, v_as_10, v_inc_10, v_il_11, v_al_11, v_is_11, v_as_11, v_inc_11, v_il_12, v_al_12, v_is_12, v_as_12, v_inc_12, v_il_13, v_al_13, v_is_13, v_as_13, v_inc_13, v_c_8, v_c_9, v_c_10, v_c_11, v_c_12, v_c_13, v_c_14, v_b_15, v_b_16, v_b_17, v_b_21, v_b_22, v_b_23, v_b_24, v_b_25, v_b_26, v_b_18, v_b_19, v_b_20, v_b_27, v_b_28, v_b_29, v_b_30, v_b_31, v_dup_i, v_dup_r, v_dup2, v_pop, v_gi, v_gl, v_gr, v_pi, v_pl, v_pz, v_iald, v_lald, v_bald, v_zald, v_aald, v_iast, v_last, v_bast, v_zast, v_alen_0, v_alen_1, v_alen_2, v_alen_3, v_alen_4, v_j_45, v_j_46, v_j_47, v_j_48, v_j_49, v_j_50, v_j_51, v_j_52, v_j_53, v_j_54, v_j_55, v_j_56, v_goto, v_sw, v_ret_i, v_ret_z, v_ret, v_cpy, v_iv_1, v_iv_2, v_iv_3, v_iv_4, v_iv_5, v_iv_6, v_is2_1, v_is2_2, v_is2_3, v_ivJ, List.nil_append, List.cons_append, rf_0_0, rf_0_1, rf_0_2, rf_0_3, rf_0_4, rf_0_5, rf_0_6, rf_0_7, rf_0_8, rf_0_9, rf_1_0, rf_1_2, rf_4_0, rf_4_1, rf_4_2, rf_5_8, rf_5_9, rf_5_10, rf_5_11, rf_5_12, rf_13_0, rf_13_1, rf_14_0, rf_14_1, rf_14_2, rf_15_8, rf_15_9, rf_15_10, rf_15_11, rf_15_12, rf_23_0, rf_23_1, rf_23_2, rf_24_8, rf_24_9, rf_24_10, rf_24_11, rf_24_12, rf_32_6, rf_34_0, rf_34_1, rf_34_2, rf_34_3, rf_35_8, rf_35_9, rf_35_10, rf_35_11, rf_35_12, rf_43_0, rf_43_1, rf_43_2, rf_43_3, rf_45_0, rf_45_1, rf_46_0, rf_46_1, rf_46_2, rf_46_3, rf_46_4, rf_46_5, rf_47_0, rf_47_1, rf_49_0, rf_49_1, rf_49_2, rf_49_3, rf_49_4, rf_49_5, rf_53_0, rf_53_1, rf_53_2, rf_53_3, rf_53_4, rf_53_5, rf_53_6, rf_53_7, rf_53_9, rf_53_10, rf_53_11, rf_53_12, rf_53_13, rf_54_0, rf_54_1, rf_55_1, rf_55_2, rf_55_3, rf_67_1, rf_67_6, rf_67_7, rf_67_8, rf_67_9, rf_67_10, rf_67_22, rf_67_23, rf_67_28, rf_67_30, rf_67_32, rf_67_33, rf_67_38, rf_67_39, rf_67_48, rf_67_49, rf_67_51, rf_67_52, rf_67_53, rf_67_54, rf_67_55, rf_67_60, rf_67_61, rf_67_62, up_s, up_b, up_j, b_54_76, k_54_76, b_54_82, k_54_82, b_54_160, k_54_160, b_54_164, k_54_164, b_54_166, k_54_166, b_54_184, k_54_184, b_54_185, k_54_185, b_54_193, k_54_193, w_sm, ↓if_pos, ↓if_neg,  hm]
        exact h1
    · rw [if_neg c] at hnx
      subst hnx
      rcases hbe with rfl | rfl
      · rw [if_neg (by decide)] at h1
        simp (disch := first | exact nl_i _ | exact nl_r _ | exact Nat.le_of_ble_eq_true rfl | exact Or.inl rfl | exact Or.inr rfl | exact w8_lo _ | exact w8_hi _ | decide | omega) only [v_fall, v_il_0, v_al_0, v_is_0, v_as_0, v_inc_0, v_ll_0, v_ls_0, v_il_1, v_al_1, v_is_1, v_as_1, v_inc_1, v_ll_1, v_ls_1, v_il_2, v_al_2, v_is_2, v_as_2, v_inc_2, v_ll_2, v_ls_2, v_il_3, v_al_3, v_is_3, v_as_3, v_inc_3, v_ll_3, v_ls_3, v_il_4, v_al_4, v_is_4, v_as_4, v_inc_4, v_ll_4, v_ls_4, v_il_5, v_al_5, v_is_5, v_as_5, v_inc_5, v_ll_5, v_ls_5, v_il_6, v_al_6, v_is_6, v_as_6, v_inc_6, v_il_7, v_al_7, v_is_7, v_as_7, v_inc_7, v_il_8, v_al_8, v_is_8, v_as_8, v_inc_8, v_il_9, v_al_9, v_is_9, v_as_9, v_inc_9, v_il_10, v_al_10, v_is_10, v_as_10, v_inc_10, v_il_11, v_al_11, v_is_11, v_as_11, v_inc_11, v_il_12, v_al_12, v_is_12, v_as_12, v_inc_12, v_il_13, v_al_13, v_is_13, v_as_13, v_inc_13, v_c_8, v_c_9, v_c_10, v_c_11, v_c_12, v_c_13, v_c_14, v_b_15, v_b_16, v_b_17, v_b_21, v_b_22, v_b_23, v_b_24, v_b_25, v_b_26, v_b_18, v_b_19, v_b_20, v_b_27, v_b_28, v_b_29, v_b_30, v_b_31, v_dup_i, v_dup_r, v_dup2, v_pop, v_gi, v_gl, v_gr, v_pi, v_pl, v_pz, v_iald, v_lald, v_bald, v_zald, v_aald, v_iast, v_last, v_bast, v_zast, v_alen_0, v_alen_1, v_alen_2, v_alen_3, v_alen_4, v_j_45, v_j_46, v_j_47, v_j_48, v_j_49, v_j_50, v_j_51, v_j_52, v_j_53, v_j_54, v_j_55, v_j_56, v_goto, v_sw, v_ret_i, v_ret_z, v_ret, v_cpy, v_iv_1, v_iv_2, v_iv_3, v_iv_4, v_iv_5, v_iv_6, v_is2_1, v_is2_2, v_is2_3, v_ivJ, List.nil_append, List.cons_append, rf_0_0, rf_0_1, rf_0_2, rf_0_3, rf_0_4, rf_0_5, rf_0_6, rf_0_7, rf_0_8, rf_0_9, rf_1_0, rf_1_2, rf_4_0, rf_4_1, rf_4_2, rf_5_8, rf_5_9, rf_5_10, rf_5_11, rf_5_12, rf_13_0, rf_13_1, rf_14_0, rf_14_1, rf_14_2, rf_15_8, rf_15_9, rf_15_10, rf_15_11, rf_15_12, rf_23_0, rf_23_1, rf_23_2, rf_24_8, rf_24_9, rf_24_10, rf_24_11, rf_24_12, rf_32_6, rf_34_0, rf_34_1, rf_34_2, rf_34_3, rf_35_8, rf_35_9, rf_35_10, rf_35_11, rf_35_12, rf_43_0, rf_43_1, rf_43_2, rf_43_3, rf_45_0, rf_45_1, rf_46_0, rf_46_1, rf_46_2, rf_46_3, rf_46_4, rf_46_5, rf_47_0, rf_47_1, rf_49_0, rf_49_1, rf_49_2, rf_49_3, rf_49_4, rf_49_5, rf_53_0, rf_53_1, rf_53_2, rf_53_3, rf_53_4, rf_53_5, rf_53_6, rf_53_7, rf_53_9, rf_53_10, rf_53_11, rf_53_12, rf_53_13, rf_54_0, rf_54_1, rf_55_1, rf_55_2, rf_55_3, rf_67_1, rf_67_6, rf_67_7, rf_67_8, rf_67_9, rf_67_10, rf_67_22, rf_67_23, rf_67_28, rf_67_30, rf_67_32, rf_67_33, rf_67_38, rf_67_39, rf_67_48, rf_67_49, rf_67_51, rf_67_52, rf_67_53, rf_67_54, rf_67_55, rf_67_60, rf_67_61, rf_67_62, up_s, up_b, up_j, b_54_76, k_54_76, b_54_82, k_54_82, b_54_160, k_54_160, b_54_164, k_54_164, b_54_166, k_54_166, b_54_184, k_54_184, b_54_185, k_54_185, b_54_193, k_54_193, w_sm, ↓if_pos, ↓if_neg,  hm]
        exact h1
      · rw [if_pos rfl] at h1
        simp (disch := first | exact nl_i _ | exact nl_r _ | exact Nat.le_of_ble_eq_true rfl | exact Or.inl rfl | exact Or.inr rfl | exact w8_lo _ | exact w8_hi _ | decide | omega) only [v_fall, v_il_0, v_al_0, v_is_0, v_as_0, v_inc_0, v_ll_0, v_ls_0, v_il_1, v_al_1, v_is_1, v_as_1, v_inc_1, v_ll_1, v_ls_1, v_il_2, v_al_2, v_is_2, v_as_2, v_inc_2, v_ll_2, v_ls_2, v_il_3, v_al_3, v_is_3, v_as_3, v_inc_3, v_ll_3, v_ls_3, v_il_4, v_al_4, v_is_4, v_as_4, v_inc_4, v_ll_4, v_ls_4, v_il_5, v_al_5, v_is_5, v_as_5, v_inc_5, v_ll_5, v_ls_5, v_il_6, v_al_6, v_is_6, v_as_6, v_inc_6, v_il_7, v_al_7, v_is_7, v_as_7, v_inc_7, v_il_8, v_al_8, v_is_8, v_as_8, v_inc_8, v_il_9, v_al_9, v_is_9, v_as_9, v_inc_9, v_il_10, v_al_10, v_is_10, v_as_10, v_inc_10, v_il_11, v_al_11, v_is_11, v_as_11, v_inc_11, v_il_12, v_al_12, v_is_12, v_as_12, v_inc_12, v_il_13, v_al_13, v_is_13, v_as_13, v_inc_13, v_c_8, v_c_9, v_c_10, v_c_11, v_c_12, v_c_13, v_c_14, v_b_15, v_b_16, v_b_17, v_b_21, v_b_22, v_b_23, v_b_24, v_b_25, v_b_26, v_b_18, v_b_19, v_b_20, v_b_27, v_b_28, v_b_29, v_b_30, v_b_31, v_dup_i, v_dup_r, v_dup2, v_pop, v_gi, v_gl, v_gr, v_pi, v_pl, v_pz, v_iald, v_lald, v_bald, v_zald, v_aald, v_iast, v_last, v_bast, v_zast, v_alen_0, v_alen_1, v_alen_2, v_alen_3, v_alen_4, v_j_45, v_j_46, v_j_47, v_j_48, v_j_49, v_j_50, v_j_51, v_j_52, v_j_53, v_j_54, v_j_55, v_j_56, v_goto, v_sw, v_ret_i, v_ret_z, v_ret, v_cpy, v_iv_1, v_iv_2, v_iv_3, v_iv_4, v_iv_5, v_iv_6, v_is2_1, v_is2_2, v_is2_3, v_ivJ, List.nil_append, List.cons_append, rf_0_0, rf_0_1, rf_0_2, rf_0_3, rf_0_4, rf_0_5, rf_0_6, rf_0_7, rf_0_8, rf_0_9, rf_1_0, rf_1_2, rf_4_0, rf_4_1, rf_4_2, rf_5_8, rf_5_9, rf_5_10, rf_5_11, rf_5_12, rf_13_0, rf_13_1, rf_14_0, rf_14_1, rf_14_2, rf_15_8, rf_15_9, rf_15_10, rf_15_11, rf_15_12, rf_23_0, rf_23_1, rf_23_2, rf_24_8, rf_24_9, rf_24_10, rf_24_11, rf_24_12, rf_32_6, rf_34_0, rf_34_1, rf_34_2, rf_34_3, rf_35_8, rf_35_9, rf_35_10, rf_35_11, rf_35_12, rf_43_0, rf_43_1, rf_43_2, rf_43_3, rf_45_0, rf_45_1, rf_46_0, rf_46_1, rf_46_2, rf_46_3, rf_46_4, rf_46_5, rf_47_0, rf_47_1, rf_49_0, rf_49_1, rf_49_2, rf_49_3, rf_49_4, rf_49_5, rf_53_0, rf_53_1, rf_53_2, rf_53_3, rf_53_4, rf_53_5, rf_53_6, rf_53_7, rf_53_9, rf_53_10, rf_53_11, rf_53_12, rf_53_13, rf_54_0, rf_54_1, rf_55_1, rf_55_2, rf_55_3, rf_67_1, rf_67_6, rf_67_7, rf_67_8, rf_67_9, rf_67_10, rf_67_22, rf_67_23, rf_67_28, rf_67_30, rf_67_32, rf_67_33, rf_67_38, rf_67_39, rf_67_48, rf_67_49, rf_67_51, rf_67_52, rf_67_53, rf_67_54, rf_67_55, rf_67_60, rf_67_61, rf_67_62, up_s, up_b, up_j, b_54_76, k_54_76, b_54_82, k_54_82, b_54_160, k_54_160, b_54_164, k_54_164, b_54_166, k_54_166, b_54_184, k_54_184, b_54_185, k_54_185, b_54_193, k_54_193, w_sm, ↓if_pos, ↓if_neg,  hm]
        exact h1
theorem wk_4 (ki qi ro : Int) (o1 o2 o5 : AV) (hq : 0 ≤ qi ∧ ki ≤ qi ∧ qi ≤ 4) (hk : 0 ≤ ki) (hro : 0 ≤ ro ∧ ro < 1000000) : XL d 54 120 [aR 15 0 53, o1, o2, aI ki, aI qi, o5, aI ro] [] M Q ↔ Q [] M := by
  rw [b_54_120, k_54_120]
  simp (disch := first | exact nl_i _ | exact nl_r _ | exact Nat.le_of_ble_eq_true rfl | exact Or.inl rfl | exact Or.inr rfl | exact w8_lo _ | exact w8_hi _ | decide | omega) only [v_fall, v_il_0, v_al_0, v_is_0, v_as_0, v_inc_0, v_ll_0, v_ls_0, v_il_1, v_al_1, v_is_1, v_as_1, v_inc_1, v_ll_1, v_ls_1, v_il_2, v_al_2, v_is_2, v_as_2, v_inc_2, v_ll_2, v_ls_2, v_il_3, v_al_3, v_is_3, v_as_3, v_inc_3, v_ll_3, v_ls_3, v_il_4, v_al_4, v_is_4, v_as_4, v_inc_4, v_ll_4, v_ls_4, v_il_5, v_al_5, v_is_5, v_as_5, v_inc_5, v_ll_5, v_ls_5, v_il_6, v_al_6, v_is_6, v_as_6, v_inc_6, v_il_7, v_al_7, v_is_7, v_as_7, v_inc_7, v_il_8, v_al_8, v_is_8, v_as_8, v_inc_8, v_il_9, v_al_9, v_is_9, v_as_9, v_inc_9, v_il_10, v_al_10, v_is_10, v_as_10, v_inc_10, v_il_11, v_al_11, v_is_11, v_as_11, v_inc_11, v_il_12, v_al_12, v_is_12, v_as_12, v_inc_12, v_il_13, v_al_13, v_is_13, v_as_13, v_inc_13, v_c_8, v_c_9, v_c_10, v_c_11, v_c_12, v_c_13, v_c_14, v_b_15, v_b_16, v_b_17, v_b_21, v_b_22, v_b_23, v_b_24, v_b_25, v_b_26, v_b_18, v_b_19, v_b_20, v_b_27, v_b_28, v_b_29, v_b_30, v_b_31, v_dup_i, v_dup_r, v_dup2, v_pop, v_gi, v_gl, v_gr, v_pi, v_pl, v_pz, v_iald, v_lald, v_bald, v_zald, v_aald, v_iast, v_last, v_bast, v_zast, v_alen_0, v_alen_1, v_alen_2, v_alen_3, v_alen_4, v_j_45, v_j_46, v_j_47, v_j_48, v_j_49, v_j_50, v_j_51, v_j_52, v_j_53, v_j_54, v_j_55, v_j_56, v_goto, v_sw, v_ret_i, v_ret_z, v_ret, v_cpy, v_iv_1, v_iv_2, v_iv_3, v_iv_4, v_iv_5, v_iv_6, v_is2_1, v_is2_2, v_is2_3, v_ivJ, List.nil_append, List.cons_append, rf_0_0, rf_0_1, rf_0_2, rf_0_3, rf_0_4, rf_0_5, rf_0_6, rf_0_7, rf_0_8, rf_0_9, rf_1_0, rf_1_2, rf_4_0, rf_4_1, rf_4_2, rf_5_8, rf_5_9, rf_5_10, rf_5_11, rf_5_12, rf_13_0, rf_13_1, rf_14_0, rf_14_1, rf_14_2, rf_15_8, rf_15_9, rf_15_10, rf_15_11, rf_15_12, rf_23_0, rf_23_1, rf_23_2, rf_24_8, rf_24_9, rf_24_10, rf_24_11, rf_24_12, rf_32_6, rf_34_0, rf_34_1, rf_34_2, rf_34_3, rf_35_8, rf_35_9, rf_35_10, rf_35_11, rf_35_12, rf_43_0, rf_43_1, rf_43_2, rf_43_3, rf_45_0, rf_45_1, rf_46_0, rf_46_1, rf_46_2, rf_46_3, rf_46_4, rf_46_5, rf_47_0, rf_47_1, rf_49_0, rf_49_1, rf_49_2, rf_49_3, rf_49_4, rf_49_5, rf_53_0, rf_53_1, rf_53_2, rf_53_3, rf_53_4, rf_53_5, rf_53_6, rf_53_7, rf_53_9, rf_53_10, rf_53_11, rf_53_12, rf_53_13, rf_54_0, rf_54_1, rf_55_1, rf_55_2, rf_55_3, rf_67_1, rf_67_6, rf_67_7, rf_67_8, rf_67_9, rf_67_10, rf_67_22, rf_67_23, rf_67_28, rf_67_30, rf_67_32, rf_67_33, rf_67_38, rf_67_39, rf_67_48, rf_67_49, rf_67_51, rf_67_52, rf_67_53, rf_67_54, rf_67_55, rf_67_60, rf_67_61, rf_67_62, up_s, up_b, up_j, b_54_76, k_54_76, b_54_82, k_54_82, b_54_160, k_54_160, b_54_164, k_54_164, b_54_166, k_54_166, b_54_184, k_54_184, b_54_185, k_54_185, b_54_193, k_54_193, w_sm, ↓if_pos, ↓if_neg,  ]
variable {m : Nat} {cm lv : Nat → Int} {st : Int} {len here stay : Nat} {f : Nat → Nat} {A : Nat → Int}
/-- what stands at the head of the rounds -/
def WI (w l m : Nat) (cm lv : Nat → Int) (st : Int) (A : Nat → Int) (M0 : Mem) (here : Nat) (M : Mem) (i qi : Nat) : Prop :=
  AgX (fun b _ => b = 66) M0 M ∧ sndS m (w * l) cm lv st (tkS w l (M0 5) (M0 6) st) A (rdy M) ∧ (∀ c, A c < 100000000 → rdy M c ≤ A c) ∧ i < m ∧ qi ≤ 4 ∧ ∀ x, x < 4 → (bk m here m i qi).testBit x = true → cloS (w * l) cm lv st (tkS w l (M0 5) (M0 6) st) (rdy M) x
theorem cloS_out {n : Nat} {tk : Nat → Nat → Int} (hO : okW m n cm lv st tk A) {S : Nat → Int} (hS : sndS m n cm lv st tk A S) {i : Nat} (hi : i < m) (h : ¬ (cm i ≤ st ∧ st ≤ lv i)) : cloS n cm lv st tk S i := by
  intro u v k hu he
  exfalso
  have lt := hO.2.2.1 i hi
  have j := ((hS u).2 hu |>.J hO).1.2 i hi
  rcases he with ⟨h1, h2, -⟩ | ⟨j2, h1, -⟩
  · exact h (by omega)
  · exact h (j.2 (by omega))
theorem WI.end (hB : Bs w l m cm lv st M0 len f here stay) (hO : okW m (w * l) cm lv st (tkS w l (M0 5) (M0 6) st) A) {X : Int} (hX : ∀ c, A c < 100000000 → A c ≤ X) (hX2 : X ≤ 90000000) {i qi : Nat} (hW : WI w l m cm lv st A M0 here M i qi) (hq : cnt 4 here.testBit ≤ qi) (c : Nat) : (rdy M c < 100000000 ∧ rdy M c = dsV m (w * l) cm lv st (tkS w l (M0 5) (M0 6) st) A c) ∨ (rdy M c = 500000000 ∧ dsV m (w * l) cm lv st (tkS w l (M0 5) (M0 6) st) A c = 100000000) := by
  obtain ⟨w1, w2, w3, w4, w5, w6⟩ := hW
  have m4 := hO.1
  have B := (bkC_e (q := qi) m4 hB.2.2.2.2.2.2.2.2.2.2.2.1 w4 w5).2.2.2.1 hq
  refine cl_ds hO hX hX2 (by decide) (fun c hc => (w2 c).2 hc) w3 (fun x u v k hx hu he => ?_) (fun c => (w2 c).1) c
  have cl : cloS (w * l) cm lv st (tkS w l (M0 5) (M0 6) st) (rdy M) x := by
    by_cases hh : cm x ≤ st ∧ st ≤ lv x
    · exact w6 x (by omega) (subB_t B (by omega) ((hB.2.2.2.2.2.2.2.2.2.2.2.2.2.1 x hx).1.mpr hh))
    · exact cloS_out hO w2 hx hh
  exact cl u v k hu he
theorem nxi_e {m i : Nat} : ((nxi m i : Nat) : Int) = if (i : Int) + 1 < (m : Int) then (i : Int) + 1 else 0 := by
  unfold nxi
  by_cases c : i + 1 < m
  · rw [if_pos c, if_pos (by omega)]
    omega
  · rw [if_neg c, if_neg (by omega)]
    rfl
theorem nxi_lt {m i : Nat} (h : i < m) : nxi m i < m := by
  unfold nxi
  by_cases c : i + 1 < m
  · rw [if_pos c]; exact c
  · rw [if_neg c]; omega
/-- one round -/
theorem wk_r (hB : Bs w l m cm lv st M0 len f here stay) (hO : okW m (w * l) cm lv st (tkS w l (M0 5) (M0 6) st) A) (o2 : AV) {i qi : Nat} (hW : WI w l m cm lv st A M0 here M i qi) (hq : qi < cnt 4 here.testBit) (ro : Int) (hro : 0 ≤ ro ∧ ro < 1000000)
  (k0 : here.testBit i = false → WI w l m cm lv st A M0 here M (nxi m i) qi → XL (d + 3) 54 120 [aR 15 0 53, aI st, o2, aI ((cnt 4 here.testBit : Nat) : Int), aI (qi : Int), aI ((nxi m i : Nat) : Int), aI (ro + 1)] [] M Q)
  (k1 : ∀ M' q', here.testBit i = true → WI w l m cm lv st A M0 here M' (nxi m i) q' → (q' = qi + 1 ∧ rdy M' = rdy M ∨ q' = 1 ∧ ∃ c, rdy M' c < rdy M c) → (∀ c, rdy M' c ≤ rdy M c) → cloS (w * l) cm lv st (tkS w l (M0 5) (M0 6) st) (rdy M') i → XL (d + 3) 54 120 [aR 15 0 53, aI st, o2, aI ((cnt 4 here.testBit : Nat) : Int), aI (q' : Int), aI ((nxi m i : Nat) : Int), aI (ro + 1)] [] M' Q) : XL (d + 3) 54 120 [aR 15 0 53, aI st, o2, aI ((cnt 4 here.testBit : Nat) : Int), aI (qi : Int), aI (i : Int), aI ro] [] M Q := by
  have m4 := hO.1
  have hW' := hW
  obtain ⟨w1, w2, w3, w4, w5, w6⟩ := hW
  have hhm := hB.2.2.2.2.2.2.2.2.2.2.2.1
  have hh : here < 2 ^ 4 := Nat.lt_of_lt_of_le hhm (Nat.pow_le_pow_right (by decide) m4)
  have c4 := cnt_le (p := here.testBit) (n := 4)
  obtain ⟨B1, B2, B3, B4, B5⟩ := bkC_e (q := qi) m4 hhm w4 w5
  have hm8 : ∀ M', AgX (fun b _ => b = 66) M0 M' → M' 53 8 = (m : Int) := fun M' h => (h 53 8 (by simp)).trans hB.2.2.2.1
  refine wk_3 (d := d + 2) st ((cnt 4 here.testBit : Nat) : Int) (qi : Int) (i : Int) ro (m : Int) (here : Int) ((here.testBit i).toNat : Int) ((nxi m i : Nat) : Int) o2 ((w1 53 14 (by simp)).trans hB.2.2.2.2.2.2.2.2.2.1) ⟨by omega, by omega, by omega⟩ hro ⟨by omega, by omega, by omega⟩ (tb32 here i (by omega) (by omega)) (by cases here.testBit i <;> decide) nxi_e (fun hz => ⟨hm8 M w1, ?_⟩) (fun hz => ?_)
  · have hb : here.testBit i = false := by
      cases h9 : here.testBit i
      · rfl
      · rw [h9] at hz; exact absurd hz (by decide)
    exact k0 hb ⟨w1, w2, w3, nxi_lt w4, w5, fun x hx hbx => w6 x hx (subB_t (B2 hb) hx hbx)⟩
  · have hb : here.testBit i = true := by
      cases h9 : here.testBit i
      · rw [h9] at hz; exact absurd hz (by decide)
      · rfl
    refine s_sweep (d := d) hB hO w1 w2 w4 (fun M' z hA' hzz hle hS' hcl => ⟨z, rfl, by rcases hzz with ⟨h9, -⟩ | ⟨h9, -⟩; exact Or.inl h9; exact Or.inr h9, hm8 M' hA', ?_⟩)
    rcases hzz with ⟨rfl, hr⟩ | ⟨rfl, c, hc⟩
    · rw [if_neg (by decide)]
      have g := k1 M' (qi + 1) hb ⟨hA', hS', fun c hc => by have := hle c; have := w3 c hc; omega, nxi_lt w4, by omega, fun x hx hbx => ?_⟩ (Or.inl ⟨rfl, hr⟩) hle hcl
      · rw [Int.natCast_add] at g
        exact g
      · have h9 := subB_t (B1 hb hq) hx hbx
        rw [Nat.testBit_or, Bool.or_eq_true, Nat.testBit_two_pow, decide_eq_true_iff] at h9
        rcases h9 with e | h9
        · rw [← e]; exact hcl
        · rw [hr]
          exact w6 x hx h9
    · rw [if_pos rfl]
      exact k1 M' 1 hb ⟨hA', hS', fun c hc => by have := hle c; have := w3 c hc; omega, nxi_lt w4, by decide, fun x hx hbx => by
        have h9 := subB_t (B3 hb) hx hbx
        rw [Nat.testBit_two_pow, decide_eq_true_iff] at h9
        rw [← h9]; exact hcl⟩ (Or.inr ⟨rfl, c, hc⟩) hle hcl
/-- when nothing falls any more -/
theorem wk_q (hB : Bs w l m cm lv st M0 len f here stay) (hO : okW m (w * l) cm lv st (tkS w l (M0 5) (M0 6) st) A) {X : Int} (hX : ∀ c, A c < 100000000 → A c ≤ X) (hX2 : X ≤ 90000000) (o2 : AV) (kk : ∀ M' i q, WI w l m cm lv st A M0 here M' i q → cnt 4 here.testBit ≤ q → Q [] M') : ∀ (t : Nat) (M : Mem) (i qi : Nat) (ro : Int), WI w l m cm lv st A M0 here M i qi → (∀ c x, Wk m (w * l) cm lv st (tkS w l (M0 5) (M0 6) st) A c x → rdy M c = dsV m (w * l) cm lv st (tkS w l (M0 5) (M0 6) st) A c) → 4 * (cnt 4 here.testBit - qi) + dsx m here 4 i ≤ t → 0 ≤ ro → ro + (t : Int) < 999990 → XL (d + 3) 54 120 [aR 15 0 53, aI st, o2, aI ((cnt 4 here.testBit : Nat) : Int), aI (qi : Int), aI (i : Int), aI ro] [] M Q := by
  intro t
  induction t with
  | zero =>
    intro M i qi ro hW hall ht h0 hb
    have hq : cnt 4 here.testBit ≤ qi := by omega
    rw [wk_4 _ (qi : Int) ro (aI st) o2 (aI (i : Int)) ⟨by omega, by omega, by have := hW.2.2.2.2.1; omega⟩ (by omega) ⟨h0, by omega⟩]
    exact kk M i qi hW hq
  | succ t ih =>
    intro M i qi ro hW hall ht h0 hb
    by_cases hq : cnt 4 here.testBit ≤ qi
    · rw [wk_4 _ (qi : Int) ro (aI st) o2 (aI (i : Int)) ⟨by omega, by omega, by have := hW.2.2.2.2.1; omega⟩ (by omega) ⟨h0, by omega⟩]
      exact kk M i qi hW hq
    · have m4 := hO.1
      have hhm := hB.2.2.2.2.2.2.2.2.2.2.2.1
      have hne : here ≠ 0 := fun e => by
        rw [e] at hq
        exact hq (by
          rw [cnt_z (fun i _ => Nat.zero_testBit i)]
          exact Nat.zero_le _)
      have D := (bkC_e (q := qi) m4 hhm hW.2.2.2.1 hW.2.2.2.2.1).2.2.2.2 hne
      have D2 := (bkC_e (q := qi) m4 hhm (nxi_lt hW.2.2.2.1) hW.2.2.2.2.1).2.2.2.2 hne
      refine wk_r (d := d) hB hO o2 hW (by omega) ro ⟨h0, by omega⟩ (fun hbf hW' => ih M _ qi (ro + 1) hW' hall (by have := D.2 hbf; omega) (by omega) (by omega)) (fun M' q' hbt hW' hcase hle hcl => ?_)
      have hsame : ∀ c, rdy M' c = rdy M c := fn_all hO hX hX2 hW.2.1 hW'.2.1 hle hall
      rcases hcase with ⟨rfl, hr⟩ | ⟨-, c, hc⟩
      · refine ih M' _ (qi + 1) (ro + 1) hW' (fun c x hx => by rw [hsame]; exact hall c x hx) (by omega) (by omega) (by omega)
      · rw [hsame c] at hc
        omega
/-- the rounds come to an end -/
theorem wk_m (hB : Bs w l m cm lv st M0 len f here stay) (hO : okW m (w * l) cm lv st (tkS w l (M0 5) (M0 6) st) A) {X : Int} (hX : ∀ c, A c < 100000000 → A c ≤ X) (hX2 : X ≤ 90000000) (o2 : AV) (kk : ∀ M' i q, WI w l m cm lv st A M0 here M' i q → cnt 4 here.testBit ≤ q → Q [] M') : ∀ (g : Nat) (M : Mem) (i qi : Nat) (ro : Int), WI w l m cm lv st A M0 here M i qi → 4096 - cnt 4096 (fnB m (w * l) cm lv st (tkS w l (M0 5) (M0 6) st) A (rdy M)) ≤ g → 0 ≤ ro → ro + 16 * ((g : Int) + 3) < 999900 → XL (d + 3) 54 120 [aR 15 0 53, aI st, o2, aI ((cnt 4 here.testBit : Nat) : Int), aI (qi : Int), aI (i : Int), aI ro] [] M Q := by
  intro g
  induction g with
  | zero =>
    intro M i qi ro hW hg h0 hb
    have hall : ∀ c x, Wk m (w * l) cm lv st (tkS w l (M0 5) (M0 6) st) A c x → rdy M c = dsV m (w * l) cm lv st (tkS w l (M0 5) (M0 6) st) A c := fun c x hx => by
      apply Classical.byContradiction
      intro h9
      have cl := cnt_lt (p := fnB m (w * l) cm lv st (tkS w l (M0 5) (M0 6) st) A (rdy M)) (q := fun _ => true) (n := 4096) (fun _ _ _ => rfl) ⟨c, (hx.J hO).1.1.1, rfl, by
        cases e : fnB m (w * l) cm lv st (tkS w l (M0 5) (M0 6) st) A (rdy M) c
        · rfl
        · exact absurd (fnB_t.mp e).2 h9⟩
      have c2 := cnt_le (p := fun _ => true) (n := 4096)
      omega
    have c4 := cnt_le (p := here.testBit) (n := 4)
    have m4 := hO.1
    by_cases hne : here = 0
    · have hq : cnt 4 here.testBit ≤ qi := by
        rw [hne, cnt_z (fun i _ => Nat.zero_testBit i)]
        exact Nat.zero_le _
      rw [wk_4 _ (qi : Int) ro (aI st) o2 (aI (i : Int)) ⟨by omega, by omega, by have := hW.2.2.2.2.1; omega⟩ (by omega) ⟨h0, by omega⟩]
      exact kk M i qi hW hq
    · have D := ((bkC_e (q := qi) m4 hB.2.2.2.2.2.2.2.2.2.2.2.1 hW.2.2.2.1 hW.2.2.2.2.1).2.2.2.2 hne).1
      exact wk_q (d := d) hB hO hX hX2 o2 kk 20 M i qi ro hW hall (by omega) h0 (by omega)
  | succ g ih =>
    intro M i qi ro hW hg h0 hb
    have c4 := cnt_le (p := here.testBit) (n := 4)
    have m4 := hO.1
    have hhm := hB.2.2.2.2.2.2.2.2.2.2.2.1
    by_cases hall : ∀ c x, Wk m (w * l) cm lv st (tkS w l (M0 5) (M0 6) st) A c x → rdy M c = dsV m (w * l) cm lv st (tkS w l (M0 5) (M0 6) st) A c
    · by_cases hne : here = 0
      · have hq : cnt 4 here.testBit ≤ qi := by
          rw [hne, cnt_z (fun i _ => Nat.zero_testBit i)]
          exact Nat.zero_le _
        rw [wk_4 _ (qi : Int) ro (aI st) o2 (aI (i : Int)) ⟨by omega, by omega, by have := hW.2.2.2.2.1; omega⟩ (by omega) ⟨h0, by omega⟩]
        exact kk M i qi hW hq
      · have D := ((bkC_e (q := qi) m4 hhm hW.2.2.2.1 hW.2.2.2.2.1).2.2.2.2 hne).1
        exact wk_q (d := d) hB hO hX hX2 o2 kk 20 M i qi ro hW hall (by omega) h0 (by omega)
    · have hE : ∃ c x, Wk m (w * l) cm lv st (tkS w l (M0 5) (M0 6) st) A c x ∧ rdy M c ≠ dsV m (w * l) cm lv st (tkS w l (M0 5) (M0 6) st) A c := by
        apply Classical.byContradiction
        intro hno
        apply hall
        intro c x hx
        apply Classical.byContradiction
        intro h9
        exact hno ⟨c, x, hx, h9⟩
      obtain ⟨c, x, hx, hne⟩ := hE
      obtain ⟨e, u, v, k, he, hu, hed, hSu, hSv, hdv⟩ := ds_edge hO hW.2.2.1 (fun c x hx => snd_ge hO hX hX2 hW.2.1 hx) hx hne
      have hvW := hu.s he hed
      have eh : here.testBit e = true := (hB.2.2.2.2.2.2.2.2.2.2.2.2.2.1 e he).1.mpr (by
        have lt := hO.2.2.1 e he
        have j := (hu.J hO).1.2 e he
        rcases hed with ⟨h1, h2, -⟩ | ⟨j2, h1, -⟩
        · omega
        · exact j.2 (by omega))
      have e2 : (2 : Nat) ^ e < 2 ^ m := Nat.pow_lt_pow_right (by decide) he
      have e2n : (2 : Nat) ^ e ≠ 0 := Nat.pos_iff_ne_zero.mp (Nat.pow_pos (by decide))
      have hdsv := dsV_b hO hX hvW
      -- walk on to that BARGE
      have inner : ∀ (t : Nat) (M2 : Mem) (i2 q2 : Nat) (ro2 : Int), WI w l m cm lv st A M0 here M2 i2 q2 → (∀ c, rdy M2 c ≤ rdy M c) → rdy M2 v ≠ dsV m (w * l) cm lv st (tkS w l (M0 5) (M0 6) st) A v → dsx m (2 ^ e) 4 i2 ≤ t → 0 ≤ ro2 → ro2 + (t : Int) + 1 + 16 * ((g : Int) + 3) < 999900 → XL (d + 3) 54 120 [aR 15 0 53, aI st, o2, aI ((cnt 4 here.testBit : Nat) : Int), aI (q2 : Int), aI (i2 : Int), aI ro2] [] M2 Q := by
        intro t
        induction t with
        | zero =>
          intro M2 i2 q2 ro2 hW2 hle2 hv2 ht h02 hb2
          by_cases hq : cnt 4 here.testBit ≤ q2
          · rw [wk_4 _ (q2 : Int) ro2 (aI st) o2 (aI (i2 : Int)) ⟨by omega, by omega, by have := hW2.2.2.2.2.1; omega⟩ (by omega) ⟨h02, by omega⟩]
            exact kk M2 i2 q2 hW2 hq
          · have D := (bkC_e (q := q2) m4 e2 hW2.2.2.2.1 hW2.2.2.2.2.1).2.2.2.2 e2n
            have ei : i2 = e := by
              apply Classical.byContradiction
              intro h9
              have := D.2 (by rw [Nat.testBit_two_pow, decide_eq_false_iff_not]; exact fun h8 => h9 h8.symm)
              omega
            refine wk_r (d := d) hB hO o2 hW2 (by omega) ro2 ⟨h02, by omega⟩ (fun hbf _ => ?_) (fun M' q' hbt hW' hcase hle hcl => ?_)
            · rw [ei, eh] at hbf
              exact absurd hbf (by decide)
            · rw [ei] at hcl
              have su : rdy M' u = dsV m (w * l) cm lv st (tkS w l (M0 5) (M0 6) st) A u := by
                have g1 := snd_ge hO hX hX2 hW'.2.1 hu
                have g2 := hle u
                have g3 := hle2 u
                omega
              have hub := dsV_b hO hX hu
              have hr0 := hB.2.2.2.2.2.2.2.2.2.2.2.2.2.2.1
              have g4 := hcl u v k (by omega) hed
              have g5 := snd_ge hO hX hX2 hW'.2.1 hvW
              have hg2 := fn_grow (S := rdy M) (S2 := rdy M') hO hX hX2 hW'.2.1 (fun c => by have := hle c; have := hle2 c; omega) (c := v) ⟨⟨_, hvW⟩, by omega⟩ (fun h9 => hSv h9.2)
              exact ih M' _ q' (ro2 + 1) hW' (by omega) (by omega) (by omega)
        | succ t iht =>
          intro M2 i2 q2 ro2 hW2 hle2 hv2 ht h02 hb2
          by_cases hq : cnt 4 here.testBit ≤ q2
          · rw [wk_4 _ (q2 : Int) ro2 (aI st) o2 (aI (i2 : Int)) ⟨by omega, by omega, by have := hW2.2.2.2.2.1; omega⟩ (by omega) ⟨h02, by omega⟩]
            exact kk M2 i2 q2 hW2 hq
          · have D := (bkC_e (q := q2) m4 e2 hW2.2.2.2.1 hW2.2.2.2.2.1).2.2.2.2 e2n
            refine wk_r (d := d) hB hO o2 hW2 (by omega) ro2 ⟨h02, by omega⟩ (fun hbf hW' => ?_) (fun M' q' hbt hW' hcase hle hcl => ?_)
            · have hne2 : i2 ≠ e := fun h9 => by rw [h9, eh] at hbf; exact absurd hbf (by decide)
              have := D.2 (by rw [Nat.testBit_two_pow, decide_eq_false_iff_not]; exact fun h8 => hne2 h8.symm)
              exact iht M2 _ q2 (ro2 + 1) hW' hle2 hv2 (by omega) (by omega) (by omega)
            · have hle3 : ∀ c, rdy M' c ≤ rdy M c := fun c => by have := hle c; have := hle2 c; omega
              by_cases hv3 : rdy M' v = dsV m (w * l) cm lv st (tkS w l (M0 5) (M0 6) st) A v
              · have hg2 := fn_grow (S := rdy M) (S2 := rdy M') hO hX hX2 hW'.2.1 hle3 (c := v) ⟨⟨_, hvW⟩, hv3⟩ (fun h9 => hSv h9.2)
                exact ih M' _ q' (ro2 + 1) hW' (by omega) (by omega) (by omega)
              · have hne2 : i2 ≠ e := fun h9 => by
                  rw [h9] at hcl
                  have su : rdy M' u = dsV m (w * l) cm lv st (tkS w l (M0 5) (M0 6) st) A u := by
                    have g1 := snd_ge hO hX hX2 hW'.2.1 hu
                    have g2 := hle3 u
                    omega
                  have hub := dsV_b hO hX hu
                  have g4 := hcl u v k (by omega) hed
                  have g5 := snd_ge hO hX hX2 hW'.2.1 hvW
                  omega
                have := D.2 (by rw [Nat.testBit_two_pow, decide_eq_false_iff_not]; exact fun h8 => hne2 h8.symm)
                exact iht M' _ q' (ro2 + 1) hW' hle3 hv3 (by omega) (by omega) (by omega)
      have D0 := ((bkC_e (q := qi) m4 e2 hW.2.2.2.1 hW.2.2.2.2.1).2.2.2.2 e2n).1
      exact inner 3 M i qi ro hW (fun c => Int.le_refl _) hSv D0 h0 (by omega)
end WO
