/-! BEST on the class's side: sail -/
theorem dg_32 {c i : Nat} (hc : c < 4096) (hi : i < 4) : and32 (shr32 (c : Int) ((i : Int) * 3)) 7 = ((dg c i : Nat) : Int) := by
  have e1 : (i : Int) * 3 = ((3 * i : Nat) : Int) := by omega
  rw [e1, shr_nat c (3 * i) (by omega) (by omega), show (7 : Int) = ((7 : Nat) : Int) from rfl, and_nat _ 7 (Nat.lt_of_le_of_lt (Nat.div_le_self _ _) (by omega)) (by decide)]
  congr 1
  unfold dg
  rw [show (8 : Nat) ^ i = 2 ^ (3 * i) by rw [Nat.pow_mul]]
  exact Nat.and_two_pow_sub_one_eq_mod _ 3
section SA
variable {d : Nat} {M M0 : Mem} {Q : List AV → Mem → Prop} {w l m : Nat} {wh cm lv : Nat → Int} {len : Nat} {f : Nat → Nat}
theorem s_placeOf (p : Int) (c i : Nat) (hp : 0 ≤ p ∧ p < 1045) (h : M 56 p = (c : Int)) (hc : c < 4096) (hi : i < 4) : XC d 23 [aR 12 0 55, aI p, aI (i : Int)] M Q ↔ Q [aI (((dg c i : Nat) : Int) - 1)] M := by
  have e := dg_32 hc hi
  rw [e_23, k_23_0]
  simp (disch := first | exact nl_i _ | exact nl_r _ | exact Nat.le_of_ble_eq_true rfl | exact Or.inl rfl | exact Or.inr rfl | exact w8_lo _ | exact w8_hi _ | decide | omega) only [v_fall, v_il_0, v_al_0, v_is_0, v_as_0, v_inc_0, v_ll_0, v_ls_0, v_il_1, v_al_1, v_is_1, v_as_1, v_inc_1, v_ll_1, v_ls_1, v_il_2, v_al_2, v_is_2, v_as_2, v_inc_2, v_ll_2, v_ls_2, v_il_3, v_al_3, v_is_3, v_as_3, v_inc_3, v_ll_3, v_ls_3, v_il_4, v_al_4, v_is_4, v_as_4, v_inc_4, v_ll_4, v_ls_4, v_il_5, v_al_5, v_is_5, v_as_5, v_inc_5, v_ll_5, v_ls_5, v_il_6, v_al_6, v_is_6, v_as_6, v_inc_6, v_il_7, v_al_7, v_is_7, v_as_7, v_inc_7, v_il_8, v_al_8, v_is_8, v_as_8, v_inc_8, v_il_9, v_al_9, v_is_9, v_as_9, v_inc_9, v_il_10, v_al_10, v_is_10, v_as_10, v_inc_10, v_il_11, v_al_11, v_is_11, v_as_11, v_inc_11, v_il_12, v_al_12, v_is_12, v_as_12, v_inc_12, v_il_13, v_al_13, v_is_13, v_as_13, v_inc_13, v_c_8, v_c_9, v_c_10, v_c_11, v_c_12, v_c_13, v_c_14, v_b_15, v_b_16, v_b_17, v_b_21, v_b_22, v_b_23, v_b_24, v_b_25, v_b_26, v_b_18, v_b_19, v_b_20, v_b_27, v_b_28, v_b_29, v_b_30, v_b_31, v_dup_i, v_dup_r, v_dup2, v_pop, v_gi, v_gl, v_gr, v_pi, v_pl, v_pz, v_iald, v_lald, v_bald, v_zald, v_aald, v_iast, v_last, v_bast, v_zast, v_alen_0, v_alen_1, v_alen_2, v_alen_3, v_alen_4, v_j_45, v_j_46, v_j_47, v_j_48, v_j_49, v_j_50, v_j_51, v_j_52, v_j_53, v_j_54, v_j_55, v_j_56, v_goto, v_sw, v_ret_i, v_ret_z, v_ret, v_cpy, v_iv_1, v_iv_2, v_iv_3, v_iv_4, v_iv_5, v_iv_6, v_is2_1, v_is2_2, v_is2_3, v_ivJ, List.nil_append, List.cons_append, rf_0_0, rf_0_1, rf_0_2, rf_0_3, rf_0_4, rf_0_5, rf_0_6, rf_0_7, rf_0_8, rf_0_9, rf_1_0, rf_1_2, rf_4_0, rf_4_1, rf_4_2, rf_5_8, rf_5_9, rf_5_10, rf_5_11, rf_5_12, rf_13_0, rf_13_1, rf_14_0, rf_14_1, rf_14_2, rf_15_8, rf_15_9, rf_15_10, rf_15_11, rf_15_12, rf_23_0, rf_23_1, rf_23_2, rf_24_8, rf_24_9, rf_24_10, rf_24_11, rf_24_12, rf_32_6, rf_34_0, rf_34_1, rf_34_2, rf_34_3, rf_35_8, rf_35_9, rf_35_10, rf_35_11, rf_35_12, rf_43_0, rf_43_1, rf_43_2, rf_43_3, rf_45_0, rf_45_1, rf_46_0, rf_46_1, rf_46_2, rf_46_3, rf_46_4, rf_46_5, rf_47_0, rf_47_1, rf_49_0, rf_49_1, rf_49_2, rf_49_3, rf_49_4, rf_49_5, rf_53_0, rf_53_1, rf_53_2, rf_53_3, rf_53_4, rf_53_5, rf_53_6, rf_53_7, rf_53_9, rf_53_10, rf_53_11, rf_53_12, rf_53_13, rf_54_0, rf_54_1, rf_55_1, rf_55_2, rf_55_3, rf_67_1, rf_67_6, rf_67_7, rf_67_8, rf_67_9, rf_67_10, rf_67_22, rf_67_23, rf_67_28, rf_67_30, rf_67_32, rf_67_33, rf_67_38, rf_67_39, rf_67_48, rf_67_49, rf_67_51, rf_67_52, rf_67_53, rf_67_54, rf_67_55, rf_67_60, rf_67_61, rf_67_62, h, e]
theorem sa_0 (p lg mo s0 : Int) (hp : 0 ≤ p ∧ p < 1045) (h : M 63 p = s0) (hb : -1 ≤ s0 ∧ s0 ≤ 1) : XC (d + 1) 59 [aR 15 0 53, aI p, aI lg, aI mo] M Q ↔ (if s0 = -1 then Q [aI (-1)] M else XL (d + 1) 59 23 [aR 15 0 53, aI p, aI lg, aI mo, aI 0, aU] [] (filM M 64 (-1) 0 24) Q) := by
  have p1 : ∀ (M' : Mem) Q', XC d 226 [aR 0 24 64, aI (-1)] M' Q' ↔ Q' [] (filM M' 64 (-1) 0 24) := fun M' Q' => s_fill (n := 24)
  rw [e_59, k_59_0]
  by_cases c : s0 = -1
  · simp (disch := first | exact nl_i _ | exact nl_r _ | exact Nat.le_of_ble_eq_true rfl | exact Or.inl rfl | exact Or.inr rfl | exact w8_lo _ | exact w8_hi _ | decide | omega) only [v_fall, v_il_0, v_al_0, v_is_0, v_as_0, v_inc_0, v_ll_0, v_ls_0, v_il_1, v_al_1, v_is_1, v_as_1, v_inc_1, v_ll_1, v_ls_1, v_il_2, v_al_2, v_is_2, v_as_2, v_inc_2, v_ll_2, v_ls_2, v_il_3, v_al_3, v_is_3, v_as_3, v_inc_3, v_ll_3, v_ls_3, v_il_4, v_al_4, v_is_4, v_as_4, v_inc_4, v_ll_4, v_ls_4, v_il_5, v_al_5, v_is_5, v_as_5, v_inc_5, v_ll_5, v_ls_5, v_il_6, v_al_6, v_is_6, v_as_6, v_inc_6, v_il_7, v_al_7, v_is_7, v_as_7, v_inc_7, v_il_8, v_al_8, v_is_8, v_as_8, v_inc_8, v_il_9, v_al_9, v_is_9, v_as_9, v_inc_9, v_il_10, v_al_10, v_is_10, v_as_10, v_inc_10, v_il_11, v_al_11, v_is_11, v_as_11, v_inc_11, v_il_12, v_al_12, v_is_12, v_as_12, v_inc_12, v_il_13, v_al_13, v_is_13, v_as_13, v_inc_13, v_c_8, v_c_9, v_c_10, v_c_11, v_c_12, v_c_13, v_c_14, v_b_15, v_b_16, v_b_17, v_b_21, v_b_22, v_b_23, v_b_24, v_b_25, v_b_26, v_b_18, v_b_19, v_b_20, v_b_27, v_b_28, v_b_29, v_b_30, v_b_31, v_dup_i, v_dup_r, v_dup2, v_pop, v_gi, v_gl, v_gr, v_pi, v_pl, v_pz, v_iald, v_lald, v_bald, v_zald, v_aald, v_iast, v_last, v_bast, v_zast, v_alen_0, v_alen_1, v_alen_2, v_alen_3, v_alen_4, v_j_45, v_j_46, v_j_47, v_j_48, v_j_49, v_j_50, v_j_51, v_j_52, v_j_53, v_j_54, v_j_55, v_j_56, v_goto, v_sw, v_ret_i, v_ret_z, v_ret, v_cpy, v_iv_1, v_iv_2, v_iv_3, v_iv_4, v_iv_5, v_iv_6, v_is2_1, v_is2_2, v_is2_3, v_ivJ, List.nil_append, List.cons_append, rf_0_0, rf_0_1, rf_0_2, rf_0_3, rf_0_4, rf_0_5, rf_0_6, rf_0_7, rf_0_8, rf_0_9, rf_1_0, rf_1_2, rf_4_0, rf_4_1, rf_4_2, rf_5_8, rf_5_9, rf_5_10, rf_5_11, rf_5_12, rf_13_0, rf_13_1, rf_14_0, rf_14_1, rf_14_2, rf_15_8, rf_15_9, rf_15_10, rf_15_11, rf_15_12, rf_23_0, rf_23_1, rf_23_2, rf_24_8, rf_24_9, rf_24_10, rf_24_11, rf_24_12, rf_32_6, rf_34_0, rf_34_1, rf_34_2, rf_34_3, rf_35_8, rf_35_9, rf_35_10, rf_35_11, rf_35_12, rf_43_0, rf_43_1, rf_43_2, rf_43_3, rf_45_0, rf_45_1, rf_46_0, rf_46_1, rf_46_2, rf_46_3, rf_46_4, rf_46_5, rf_47_0, rf_47_1, rf_49_0, rf_49_1, rf_49_2, rf_49_3, rf_49_4, rf_49_5, rf_53_0, rf_53_1, rf_53_2, rf_53_3, rf_53_4, rf_53_5, rf_53_6, rf_53_7, rf_53_9, rf_53_10, rf_53_11, rf_53_12, rf_53_13, rf_54_0, rf_54_1, rf_55_1, rf_55_2, rf_55_3, rf_67_1, rf_67_6, rf_67_7, rf_67_8, rf_67_9, rf_67_10, rf_67_22, rf_67_23, rf_67_28, rf_67_30, rf_67_32, rf_67_33, rf_67_38, rf_67_39, rf_67_48, rf_67_49, rf_67_51, rf_67_52, rf_67_53, rf_67_54, rf_67_55, rf_67_60, rf_67_61, rf_67_62, up_s, up_b, up_j, b_59_12, k_59_12, b_59_70, k_59_70, b_59_76, k_59_76, b_59_108, k_59_108, b_59_109, k_59_109, b_59_110, k_59_110, b_59_136, k_59_136, b_59_138, k_59_138, w_sm, ↓if_pos, ↓if_neg,  h]
  · simp (disch := first | exact nl_i _ | exact nl_r _ | exact Nat.le_of_ble_eq_true rfl | exact Or.inl rfl | exact Or.inr rfl | exact w8_lo _ | exact w8_hi _ | decide | omega) only [v_fall, v_il_0, v_al_0, v_is_0, v_as_0, v_inc_0, v_ll_0, v_ls_0, v_il_1, v_al_1, v_is_1, v_as_1, v_inc_1, v_ll_1, v_ls_1, v_il_2, v_al_2, v_is_2, v_as_2, v_inc_2, v_ll_2, v_ls_2, v_il_3, v_al_3, v_is_3, v_as_3, v_inc_3, v_ll_3, v_ls_3, v_il_4, v_al_4, v_is_4, v_as_4, v_inc_4, v_ll_4, v_ls_4, v_il_5, v_al_5, v_is_5, v_as_5, v_inc_5, v_ll_5, v_ls_5, v_il_6, v_al_6, v_is_6, v_as_6, v_inc_6, v_il_7, v_al_7, v_is_7, v_as_7, v_inc_7, v_il_8, v_al_8, v_is_8, v_as_8, v_inc_8, v_il_9, v_al_9, v_is_9, v_as_9, v_inc_9, v_il_10, v_al_10, v_is_10, v_as_10, v_inc_10, v_il_11, v_al_11, v_is_11, v_as_11, v_inc_11, v_il_12, v_al_12, v_is_12, v_as_12, v_inc_12, v_il_13, v_al_13, v_is_13, v_as_13, v_inc_13, v_c_8, v_c_9, v_c_10, v_c_11, v_c_12, v_c_13, v_c_14, v_b_15, v_b_16, v_b_17, v_b_21, v_b_22, v_b_23, v_b_24, v_b_25, v_b_26, v_b_18, v_b_19, v_b_20, v_b_27, v_b_28, v_b_29, v_b_30, v_b_31, v_dup_i, v_dup_r, v_dup2, v_pop, v_gi, v_gl, v_gr, v_pi, v_pl, v_pz, v_iald, v_lald, v_bald, v_zald, v_aald, v_iast, v_last, v_bast, v_zast, v_alen_0, v_alen_1, v_alen_2, v_alen_3, v_alen_4, v_j_45, v_j_46, v_j_47, v_j_48, v_j_49, v_j_50, v_j_51, v_j_52, v_j_53, v_j_54, v_j_55, v_j_56, v_goto, v_sw, v_ret_i, v_ret_z, v_ret, v_cpy, v_iv_1, v_iv_2, v_iv_3, v_iv_4, v_iv_5, v_iv_6, v_is2_1, v_is2_2, v_is2_3, v_ivJ, List.nil_append, List.cons_append, rf_0_0, rf_0_1, rf_0_2, rf_0_3, rf_0_4, rf_0_5, rf_0_6, rf_0_7, rf_0_8, rf_0_9, rf_1_0, rf_1_2, rf_4_0, rf_4_1, rf_4_2, rf_5_8, rf_5_9, rf_5_10, rf_5_11, rf_5_12, rf_13_0, rf_13_1, rf_14_0, rf_14_1, rf_14_2, rf_15_8, rf_15_9, rf_15_10, rf_15_11, rf_15_12, rf_23_0, rf_23_1, rf_23_2, rf_24_8, rf_24_9, rf_24_10, rf_24_11, rf_24_12, rf_32_6, rf_34_0, rf_34_1, rf_34_2, rf_34_3, rf_35_8, rf_35_9, rf_35_10, rf_35_11, rf_35_12, rf_43_0, rf_43_1, rf_43_2, rf_43_3, rf_45_0, rf_45_1, rf_46_0, rf_46_1, rf_46_2, rf_46_3, rf_46_4, rf_46_5, rf_47_0, rf_47_1, rf_49_0, rf_49_1, rf_49_2, rf_49_3, rf_49_4, rf_49_5, rf_53_0, rf_53_1, rf_53_2, rf_53_3, rf_53_4, rf_53_5, rf_53_6, rf_53_7, rf_53_9, rf_53_10, rf_53_11, rf_53_12, rf_53_13, rf_54_0, rf_54_1, rf_55_1, rf_55_2, rf_55_3, rf_67_1, rf_67_6, rf_67_7, rf_67_8, rf_67_9, rf_67_10, rf_67_22, rf_67_23, rf_67_28, rf_67_30, rf_67_32, rf_67_33, rf_67_38, rf_67_39, rf_67_48, rf_67_49, rf_67_51, rf_67_52, rf_67_53, rf_67_54, rf_67_55, rf_67_60, rf_67_61, rf_67_62, up_s, up_b, up_j, b_59_12, k_59_12, b_59_70, k_59_70, b_59_76, k_59_76, b_59_108, k_59_108, b_59_109, k_59_109, b_59_110, k_59_110, b_59_136, k_59_136, b_59_138, k_59_138, w_sm, ↓if_pos, ↓if_neg,  h, p1]
theorem sa_1 (p lg mo i m9 n pl x : Int) (o5 : AV) (hm : M 53 8 = m9) (hi : 0 ≤ i ∧ i < m9 ∧ m9 ≤ 4) (hn : M 32 2 = n) (hnb : 0 ≤ n ∧ n ≤ 6) (pp : ∀ Q', XC d 23 [aR 12 0 55, aI p, aI i] M Q' ↔ Q' [aI pl] M) (hpl : -1 ≤ pl ∧ pl < 7) (hx : M 59 i = x) : XL (d + 1) 59 23 [aR 15 0 53, aI p, aI lg, aI mo, aI i, o5] [] M Q ↔ (if 0 ≤ pl ∧ pl < n then XL (d + 1) 59 23 [aR 15 0 53, aI p, aI lg, aI mo, aI (i + 1), aI pl] [] (up M 64 pl x) Q else XL (d + 1) 59 23 [aR 15 0 53, aI p, aI lg, aI mo, aI (i + 1), aI pl] [] M Q) := by
  have ph : ∀ Q', XC d 2 [aR 10 0 32, aI pl] M Q' ↔ Q' [aI (if 0 ≤ pl ∧ pl < n then 1 else 0)] M := fun Q' => by
    rw [s_hasCell pl ⟨by omega, by omega⟩ (by rw [hn]; omega), hn]
    rfl
  rw [b_59_23, k_59_23]
  by_cases c : 0 ≤ pl ∧ pl < n
  · rw [if_pos c] at ph
    rw [if_pos c]
    obtain ⟨c1, c2⟩ := c
    simp (disch := first | exact nl_i _ | exact nl_r _ | exact Nat.le_of_ble_eq_true rfl | exact Or.inl rfl | exact Or.inr rfl | exact w8_lo _ | exact w8_hi _ | decide | omega) only [v_fall, v_il_0, v_al_0, v_is_0, v_as_0, v_inc_0, v_ll_0, v_ls_0, v_il_1, v_al_1, v_is_1, v_as_1, v_inc_1, v_ll_1, v_ls_1, v_il_2, v_al_2, v_is_2, v_as_2, v_inc_2, v_ll_2, v_ls_2, v_il_3, v_al_3, v_is_3, v_as_3, v_inc_3, v_ll_3, v_ls_3, v_il_4, v_al_4, v_is_4, v_as_4, v_inc_4, v_ll_4, v_ls_4, v_il_5, v_al_5, v_is_5, v_as_5, v_inc_5, v_ll_5, v_ls_5, v_il_6, v_al_6, v_is_6, v_as_6, v_inc_6, v_il_7, v_al_7, v_is_7, v_as_7, v_inc_7, v_il_8, v_al_8, v_is_8, v_as_8, v_inc_8, v_il_9, v_al_9, v_is_9, v_as_9, v_inc_9, v_il_10, v_al_10, v_is_10, v_as_10, v_inc_10, v_il_11, v_al_11, v_is_11, v_as_11, v_inc_11, v_il_12, v_al_12, v_is_12, v_as_12, v_inc_12, v_il_13, v_al_13, v_is_13, v_as_13, v_inc_13, v_c_8, v_c_9, v_c_10, v_c_11, v_c_12, v_c_13, v_c_14, v_b_15, v_b_16, v_b_17, v_b_21, v_b_22, v_b_23, v_b_24, v_b_25, v_b_26, v_b_18, v_b_19, v_b_20, v_b_27, v_b_28, v_b_29, v_b_30, v_b_31, v_dup_i, v_dup_r, v_dup2, v_pop, v_gi, v_gl, v_gr, v_pi, v_pl, v_pz, v_iald, v_lald, v_bald, v_zald, v_aald, v_iast, v_last, v_bast, v_zast, v_alen_0, v_alen_1, v_alen_2, v_alen_3, v_alen_4, v_j_45, v_j_46, v_j_47, v_j_48, v_j_49, v_j_50, v_j_51, v_j_52, v_j_53, v_j_54, v_j_55, v_j_56, v_goto, v_sw, v_ret_i, v_ret_z, v_ret, v_cpy, v_iv_1, v_iv_2, v_iv_3, v_iv_4, v_iv_5, v_iv_6, v_is2_1, v_is2_2, v_is2_3, v_ivJ, List.nil_append, List.cons_append, rf_0_0, rf_0_1, rf_0_2, rf_0_3, rf_0_4, rf_0_5, rf_0_6, rf_0_7, rf_0_8, rf_0_9, rf_1_0, rf_1_2, rf_4_0, rf_4_1, rf_4_2, rf_5_8, rf_5_9, rf_5_10, rf_5_11, rf_5_12, rf_13_0, rf_13_1, rf_14_0, rf_14_1, rf_14_2, rf_15_8, rf_15_9, rf_15_10, rf_15_11, rf_15_12, rf_23_0, rf_23_1, rf_23_2, rf_24_8, rf_24_9, rf_24_10, rf_24_11, rf_24_12, rf_32_6, rf_34_0, rf_34_1, rf_34_2, rf_34_3, rf_35_8, rf_35_9, rf_35_10, rf_35_11, rf_35_12, rf_43_0, rf_43_1, rf_43_2, rf_43_3, rf_45_0, rf_45_1, rf_46_0, rf_46_1, rf_46_2, rf_46_3, rf_46_4, rf_46_5, rf_47_0, rf_47_1, rf_49_0, rf_49_1, rf_49_2, rf_49_3, rf_49_4, rf_49_5, rf_53_0, rf_53_1, rf_53_2, rf_53_3, rf_53_4, rf_53_5, rf_53_6, rf_53_7, rf_53_9, rf_53_10, rf_53_11, rf_53_12, rf_53_13, rf_54_0, rf_54_1, rf_55_1, rf_55_2, rf_55_3, rf_67_1, rf_67_6, rf_67_7, rf_67_8, rf_67_9, rf_67_10, rf_67_22, rf_67_23, rf_67_28, rf_67_30, rf_67_32, rf_67_33, rf_67_38, rf_67_39, rf_67_48, rf_67_49, rf_67_51, rf_67_52, rf_67_53, rf_67_54, rf_67_55, rf_67_60, rf_67_61, rf_67_62, up_s, up_b, up_j, b_59_12, k_59_12, b_59_70, k_59_70, b_59_76, k_59_76, b_59_108, k_59_108, b_59_109, k_59_109, b_59_110, k_59_110, b_59_136, k_59_136, b_59_138, k_59_138, w_sm, ↓if_pos, ↓if_neg,  hm, pp, ph, hx]
  · rw [if_neg c] at ph
    rw [if_neg c]
    simp (disch := first | exact nl_i _ | exact nl_r _ | exact Nat.le_of_ble_eq_true rfl | exact Or.inl rfl | exact Or.inr rfl | exact w8_lo _ | exact w8_hi _ | decide | omega) only [v_fall, v_il_0, v_al_0, v_is_0, v_as_0, v_inc_0, v_ll_0, v_ls_0, v_il_1, v_al_1, v_is_1, v_as_1, v_inc_1, v_ll_1, v_ls_1, v_il_2, v_al_2, v_is_2, v_as_2, v_inc_2, v_ll_2, v_ls_2, v_il_3, v_al_3, v_is_3, v_as_3, v_inc_3, v_ll_3, v_ls_3, v_il_4, v_al_4, v_is_4, v_as_4, v_inc_4, v_ll_4, v_ls_4, v_il_5, v_al_5, v_is_5, v_as_5, v_inc_5, v_ll_5, v_ls_5, v_il_6, v_al_6, v_is_6, v_as_6, v_inc_6, v_il_7, v_al_7, v_is_7, v_as_7, v_inc_7, v_il_8, v_al_8, v_is_8, v_as_8, v_inc_8, v_il_9, v_al_9, v_is_9, v_as_9, v_inc_9, v_il_10, v_al_10, v_is_10, v_as_10, v_inc_10, v_il_11, v_al_11, v_is_11, v_as_11, v_inc_11, v_il_12, v_al_12, v_is_12, v_as_12, v_inc_12, v_il_13, v_al_13, v_is_13, v_as_13, v_inc_13, v_c_8, v_c_9, v_c_10, v_c_11, v_c_12, v_c_13, v_c_14, v_b_15, v_b_16, v_b_17, v_b_21, v_b_22, v_b_23, v_b_24, v_b_25, v_b_26, v_b_18, v_b_19, v_b_20, v_b_27, v_b_28, v_b_29, v_b_30, v_b_31, v_dup_i, v_dup_r, v_dup2, v_pop, v_gi, v_gl, v_gr, v_pi, v_pl, v_pz, v_iald, v_lald, v_bald, v_zald, v_aald, v_iast, v_last, v_bast, v_zast, v_alen_0, v_alen_1, v_alen_2, v_alen_3, v_alen_4, v_j_45, v_j_46, v_j_47, v_j_48, v_j_49, v_j_50, v_j_51, v_j_52, v_j_53, v_j_54, v_j_55, v_j_56, v_goto, v_sw, v_ret_i, v_ret_z, v_ret, v_cpy, v_iv_1, v_iv_2, v_iv_3, v_iv_4, v_iv_5, v_iv_6, v_is2_1, v_is2_2, v_is2_3, v_ivJ, List.nil_append, List.cons_append, rf_0_0, rf_0_1, rf_0_2, rf_0_3, rf_0_4, rf_0_5, rf_0_6, rf_0_7, rf_0_8, rf_0_9, rf_1_0, rf_1_2, rf_4_0, rf_4_1, rf_4_2, rf_5_8, rf_5_9, rf_5_10, rf_5_11, rf_5_12, rf_13_0, rf_13_1, rf_14_0, rf_14_1, rf_14_2, rf_15_8, rf_15_9, rf_15_10, rf_15_11, rf_15_12, rf_23_0, rf_23_1, rf_23_2, rf_24_8, rf_24_9, rf_24_10, rf_24_11, rf_24_12, rf_32_6, rf_34_0, rf_34_1, rf_34_2, rf_34_3, rf_35_8, rf_35_9, rf_35_10, rf_35_11, rf_35_12, rf_43_0, rf_43_1, rf_43_2, rf_43_3, rf_45_0, rf_45_1, rf_46_0, rf_46_1, rf_46_2, rf_46_3, rf_46_4, rf_46_5, rf_47_0, rf_47_1, rf_49_0, rf_49_1, rf_49_2, rf_49_3, rf_49_4, rf_49_5, rf_53_0, rf_53_1, rf_53_2, rf_53_3, rf_53_4, rf_53_5, rf_53_6, rf_53_7, rf_53_9, rf_53_10, rf_53_11, rf_53_12, rf_53_13, rf_54_0, rf_54_1, rf_55_1, rf_55_2, rf_55_3, rf_67_1, rf_67_6, rf_67_7, rf_67_8, rf_67_9, rf_67_10, rf_67_22, rf_67_23, rf_67_28, rf_67_30, rf_67_32, rf_67_33, rf_67_38, rf_67_39, rf_67_48, rf_67_49, rf_67_51, rf_67_52, rf_67_53, rf_67_54, rf_67_55, rf_67_60, rf_67_61, rf_67_62, up_s, up_b, up_j, b_59_12, k_59_12, b_59_70, k_59_70, b_59_76, k_59_76, b_59_108, k_59_108, b_59_109, k_59_109, b_59_110, k_59_110, b_59_136, k_59_136, b_59_138, k_59_138, w_sm, ↓if_pos, ↓if_neg,  hm, pp, ph]
theorem sa_2 (p lg mo m9 s0 h s1 bits : Int) (o5 : AV) (hp : 0 ≤ p ∧ p < 1045) (hm : M 53 8 = m9) (hmb : 0 ≤ m9 ∧ m9 ≤ 4) (h0 : M 63 p = s0) (hb : s0 = 0 ∨ s0 = 1) (ph : s0 = 0 → ∀ Q', XC d 44 [aR 14 0 43, aR 0 24 64] M Q' ↔ Q' [aI h] M) (hh : h = 0 ∨ h = 1) (h1 : s1 = if s0 = 0 then (if h = 1 then 1 else -1) else s0) (k0 : s1 = -1 → Q [aI (-1)] (if s0 = 0 then up M 63 p s1 else M)) (T : s1 = 1 → XC d 46 [aR 14 0 43, aR 0 24 64, aI lg, aI mo] (if s0 = 0 then up M 63 p s1 else M) (fun r M3 => ∃ v : Int, r = [aI v] ∧ (v = 0 ∧ Q [aI (-1)] M3 ∨ v = 1 ∧ M3 57 p = bits ∧ XC d 49 [aR 14 0 43, aI bits, aI lg] M3 (fun r M4 => ∃ g : Int, r = [aI g] ∧ Q [aI g] M4)))) : XL (d + 1) 59 23 [aR 15 0 53, aI p, aI lg, aI mo, aI m9, o5] [] M Q := by
  have post : ∀ M2 : Mem, M2 63 p = s1 → (s1 = -1 ∧ Q [aI (-1)] M2 ∨ s1 = 1 ∧ XC d 46 [aR 14 0 43, aR 0 24 64, aI lg, aI mo] M2 (fun r M3 => ∃ v : Int, r = [aI v] ∧ (v = 0 ∧ Q [aI (-1)] M3 ∨ v = 1 ∧ M3 57 p = bits ∧ XC d 49 [aR 14 0 43, aI bits, aI lg] M3 (fun r M4 => ∃ g : Int, r = [aI g] ∧ Q [aI g] M4)))) → XL (d + 1) 59 110 [aR 15 0 53, aI p, aI lg, aI mo, aI m9, o5] [] M2 Q := fun M2 g1 g2 => by
    clear k0 T ph h1
    rw [b_59_110, k_59_110]
    rcases g2 with ⟨e, g2⟩ | ⟨e, g2⟩
    · subst e
      simp (disch := first | exact nl_i _ | exact nl_r _ | exact Nat.le_of_ble_eq_true rfl | exact Or.inl rfl | exact Or.inr rfl | exact w8_lo _ | exact w8_hi _ | decide | omega) only [v_fall, v_il_0, v_al_0, v_is_0, v_as_0, v_inc_0, v_ll_0, v_ls_0, v_il_1, v_al_1, v_is_1, v_as_1, v_inc_1, v_ll_1, v_ls_1, v_il_2, v_al_2, v_is_2, v_as_2, v_inc_2, v_ll_2, v_ls_2, v_il_3, v_al_3, v_is_3, v_as_3, v_inc_3, v_ll_3, v_ls_3, v_il_4, v_al_4, v_is_4, v_as_4, v_inc_4, v_ll_4, v_ls_4, v_il_5, v_al_5, v_is_5, v_as_5, v_inc_5, v_ll_5, v_ls_5, v_il_6, v_al_6, v_is_6, v_as_6, v_inc_6, v_il_7, v_al_7, v_is_7, v_as_7, v_inc_7, v_il_8, v_al_8, v_is_8, v_as_8, v_inc_8, v_il_9, v_al_9, v_is_9, v_as_9, v_inc_9, v_il_10, v_al_10, v_is_10, v_as_10, v_inc_10, v_il_11, v_al_11, v_is_11, v_as_11, v_inc_11, v_il_12, v_al_12, v_is_12, v_as_12, v_inc_12, v_il_13, v_al_13, v_is_13, v_as_13, v_inc_13, v_c_8, v_c_9, v_c_10, v_c_11, v_c_12, v_c_13, v_c_14, v_b_15, v_b_16, v_b_17, v_b_21, v_b_22, v_b_23, v_b_24, v_b_25, v_b_26, v_b_18, v_b_19, v_b_20, v_b_27, v_b_28, v_b_29, v_b_30, v_b_31, v_dup_i, v_dup_r, v_dup2, v_pop, v_gi, v_gl, v_gr, v_pi, v_pl, v_pz, v_iald, v_lald, v_bald, v_zald, v_aald, v_iast, v_last, v_bast, v_zast, v_alen_0, v_alen_1, v_alen_2, v_alen_3, v_alen_4, v_j_45, v_j_46, v_j_47, v_j_48, v_j_49, v_j_50, v_j_51, v_j_52, v_j_53, v_j_54, v_j_55, v_j_56, v_goto, v_sw, v_ret_i, v_ret_z, v_ret, v_cpy, v_iv_1, v_iv_2, v_iv_3, v_iv_4, v_iv_5, v_iv_6, v_is2_1, v_is2_2, v_is2_3, v_ivJ, List.nil_append, List.cons_append, rf_0_0, rf_0_1, rf_0_2, rf_0_3, rf_0_4, rf_0_5, rf_0_6, rf_0_7, rf_0_8, rf_0_9, rf_1_0, rf_1_2, rf_4_0, rf_4_1, rf_4_2, rf_5_8, rf_5_9, rf_5_10, rf_5_11, rf_5_12, rf_13_0, rf_13_1, rf_14_0, rf_14_1, rf_14_2, rf_15_8, rf_15_9, rf_15_10, rf_15_11, rf_15_12, rf_23_0, rf_23_1, rf_23_2, rf_24_8, rf_24_9, rf_24_10, rf_24_11, rf_24_12, rf_32_6, rf_34_0, rf_34_1, rf_34_2, rf_34_3, rf_35_8, rf_35_9, rf_35_10, rf_35_11, rf_35_12, rf_43_0, rf_43_1, rf_43_2, rf_43_3, rf_45_0, rf_45_1, rf_46_0, rf_46_1, rf_46_2, rf_46_3, rf_46_4, rf_46_5, rf_47_0, rf_47_1, rf_49_0, rf_49_1, rf_49_2, rf_49_3, rf_49_4, rf_49_5, rf_53_0, rf_53_1, rf_53_2, rf_53_3, rf_53_4, rf_53_5, rf_53_6, rf_53_7, rf_53_9, rf_53_10, rf_53_11, rf_53_12, rf_53_13, rf_54_0, rf_54_1, rf_55_1, rf_55_2, rf_55_3, rf_67_1, rf_67_6, rf_67_7, rf_67_8, rf_67_9, rf_67_10, rf_67_22, rf_67_23, rf_67_28, rf_67_30, rf_67_32, rf_67_33, rf_67_38, rf_67_39, rf_67_48, rf_67_49, rf_67_51, rf_67_52, rf_67_53, rf_67_54, rf_67_55, rf_67_60, rf_67_61, rf_67_62, up_s, up_b, up_j, b_59_12, k_59_12, b_59_70, k_59_70, b_59_76, k_59_76, b_59_108, k_59_108, b_59_109, k_59_109, b_59_110, k_59_110, b_59_136, k_59_136, b_59_138, k_59_138, w_sm, ↓if_pos, ↓if_neg,  g1]
      exact g2
    · subst e
      simp (disch := first | exact nl_i _ | exact nl_r _ | exact Nat.le_of_ble_eq_true rfl | exact Or.inl rfl | exact Or.inr rfl | exact w8_lo _ | exact w8_hi _ | decide | omega) only [v_fall, v_il_0, v_al_0, v_is_0, v_as_0, v_inc_0, v_ll_0, v_ls_0, v_il_1, v_al_1, v_is_1, v_as_1, v_inc_1, v_ll_1, v_ls_1, v_il_2, v_al_2, v_is_2, v_as_2, v_inc_2, v_ll_2, v_ls_2, v_il_3, v_al_3, v_is_3, v_as_3, v_inc_3, v_ll_3, v_ls_3, v_il_4, v_al_4, v_is_4, v_as_4, v_inc_4, v_ll_4, v_ls_4, v_il_5, v_al_5, v_is_5, v_as_5, v_inc_5, v_ll_5, v_ls_5, v_il_6, v_al_6, v_is_6, v_as_6, v_inc_6, v_il_7, v_al_7, v_is_7, v_as_7, v_inc_7, v_il_8, v_al_8, v_is_8, v_as_8, v_inc_8, v_il_9, v_al_9, v_is_9, v_as_9, v_inc_9, v_il_10, v_al_10, v_is_10, v_as_10, v_inc_10, v_il_11, v_al_11, v_is_11, v_as_11, v_inc_11, v_il_12, v_al_12, v_is_12, v_as_12, v_inc_12, v_il_13, v_al_13, v_is_13, v_as_13, v_inc_13, v_c_8, v_c_9, v_c_10, v_c_11, v_c_12, v_c_13, v_c_14, v_b_15, v_b_16, v_b_17, v_b_21, v_b_22, v_b_23, v_b_24, v_b_25, v_b_26, v_b_18, v_b_19, v_b_20, v_b_27, v_b_28, v_b_29, v_b_30, v_b_31, v_dup_i, v_dup_r, v_dup2, v_pop, v_gi, v_gl, v_gr, v_pi, v_pl, v_pz, v_iald, v_lald, v_bald, v_zald, v_aald, v_iast, v_last, v_bast, v_zast, v_alen_0, v_alen_1, v_alen_2, v_alen_3, v_alen_4, v_j_45, v_j_46, v_j_47, v_j_48, v_j_49, v_j_50, v_j_51, v_j_52, v_j_53, v_j_54, v_j_55, v_j_56, v_goto, v_sw, v_ret_i, v_ret_z, v_ret, v_cpy, v_iv_1, v_iv_2, v_iv_3, v_iv_4, v_iv_5, v_iv_6, v_is2_1, v_is2_2, v_is2_3, v_ivJ, List.nil_append, List.cons_append, rf_0_0, rf_0_1, rf_0_2, rf_0_3, rf_0_4, rf_0_5, rf_0_6, rf_0_7, rf_0_8, rf_0_9, rf_1_0, rf_1_2, rf_4_0, rf_4_1, rf_4_2, rf_5_8, rf_5_9, rf_5_10, rf_5_11, rf_5_12, rf_13_0, rf_13_1, rf_14_0, rf_14_1, rf_14_2, rf_15_8, rf_15_9, rf_15_10, rf_15_11, rf_15_12, rf_23_0, rf_23_1, rf_23_2, rf_24_8, rf_24_9, rf_24_10, rf_24_11, rf_24_12, rf_32_6, rf_34_0, rf_34_1, rf_34_2, rf_34_3, rf_35_8, rf_35_9, rf_35_10, rf_35_11, rf_35_12, rf_43_0, rf_43_1, rf_43_2, rf_43_3, rf_45_0, rf_45_1, rf_46_0, rf_46_1, rf_46_2, rf_46_3, rf_46_4, rf_46_5, rf_47_0, rf_47_1, rf_49_0, rf_49_1, rf_49_2, rf_49_3, rf_49_4, rf_49_5, rf_53_0, rf_53_1, rf_53_2, rf_53_3, rf_53_4, rf_53_5, rf_53_6, rf_53_7, rf_53_9, rf_53_10, rf_53_11, rf_53_12, rf_53_13, rf_54_0, rf_54_1, rf_55_1, rf_55_2, rf_55_3, rf_67_1, rf_67_6, rf_67_7, rf_67_8, rf_67_9, rf_67_10, rf_67_22, rf_67_23, rf_67_28, rf_67_30, rf_67_32, rf_67_33, rf_67_38, rf_67_39, rf_67_48, rf_67_49, rf_67_51, rf_67_52, rf_67_53, rf_67_54, rf_67_55, rf_67_60, rf_67_61, rf_67_62, up_s, up_b, up_j, b_59_12, k_59_12, b_59_70, k_59_70, b_59_76, k_59_76, b_59_108, k_59_108, b_59_109, k_59_109, b_59_110, k_59_110, b_59_136, k_59_136, b_59_138, k_59_138, w_sm, ↓if_pos, ↓if_neg,  g1]
      refine g2.mono (fun r M3 g3 => ?_)
      obtain ⟨v, rfl, ⟨rfl, g3⟩ | ⟨rfl, g4, g3⟩⟩ := g3
      · simp (disch := first | exact nl_i _ | exact nl_r _ | exact Nat.le_of_ble_eq_true rfl | exact Or.inl rfl | exact Or.inr rfl | exact w8_lo _ | exact w8_hi _ | decide | omega) only [v_fall, v_il_0, v_al_0, v_is_0, v_as_0, v_inc_0, v_ll_0, v_ls_0, v_il_1, v_al_1, v_is_1, v_as_1, v_inc_1, v_ll_1, v_ls_1, v_il_2, v_al_2, v_is_2, v_as_2, v_inc_2, v_ll_2, v_ls_2, v_il_3, v_al_3, v_is_3, v_as_3, v_inc_3, v_ll_3, v_ls_3, v_il_4, v_al_4, v_is_4, v_as_4, v_inc_4, v_ll_4, v_ls_4, v_il_5, v_al_5, v_is_5, v_as_5, v_inc_5, v_ll_5, v_ls_5, v_il_6, v_al_6, v_is_6, v_as_6, v_inc_6, v_il_7, v_al_7, v_is_7, v_as_7, v_inc_7, v_il_8, v_al_8, v_is_8, v_as_8, v_inc_8, v_il_9, v_al_9, v_is_9, v_as_9, v_inc_9, v_il_10, v_al_10, v_is_10, v_as_10, v_inc_10, v_il_11, v_al_11, v_is_11, v_as_11, v_inc_11, v_il_12, v_al_12, v_is_12, v_as_12, v_inc_12, v_il_13, v_al_13, v_is_13, v_as_13, v_inc_13, v_c_8, v_c_9, v_c_10, v_c_11, v_c_12, v_c_13, v_c_14, v_b_15, v_b_16, v_b_17, v_b_21, v_b_22, v_b_23, v_b_24, v_b_25, v_b_26, v_b_18, v_b_19, v_b_20, v_b_27, v_b_28, v_b_29, v_b_30, v_b_31, v_dup_i, v_dup_r, v_dup2, v_pop, v_gi, v_gl, v_gr, v_pi, v_pl, v_pz, v_iald, v_lald, v_bald, v_zald, v_aald, v_iast, v_last, v_bast, v_zast, v_alen_0, v_alen_1, v_alen_2, v_alen_3, v_alen_4, v_j_45, v_j_46, v_j_47, v_j_48, v_j_49, v_j_50, v_j_51, v_j_52, v_j_53, v_j_54, v_j_55, v_j_56, v_goto, v_sw, v_ret_i, v_ret_z, v_ret, v_cpy, v_iv_1, v_iv_2, v_iv_3, v_iv_4, v_iv_5, v_iv_6, v_is2_1, v_is2_2, v_is2_3, v_ivJ, List.nil_append, List.cons_append, rf_0_0, rf_0_1, rf_0_2, rf_0_3, rf_0_4, rf_0_5, rf_0_6, rf_0_7, rf_0_8, rf_0_9, rf_1_0, rf_1_2, rf_4_0, rf_4_1, rf_4_2, rf_5_8, rf_5_9, rf_5_10, rf_5_11, rf_5_12, rf_13_0, rf_13_1, rf_14_0, rf_14_1, rf_14_2, rf_15_8, rf_15_9, rf_15_10, rf_15_11, rf_15_12, rf_23_0, rf_23_1, rf_23_2, rf_24_8, rf_24_9, rf_24_10, rf_24_11, rf_24_12, rf_32_6, rf_34_0, rf_34_1, rf_34_2, rf_34_3, rf_35_8, rf_35_9, rf_35_10, rf_35_11, rf_35_12, rf_43_0, rf_43_1, rf_43_2, rf_43_3, rf_45_0, rf_45_1, rf_46_0, rf_46_1, rf_46_2, rf_46_3, rf_46_4, rf_46_5, rf_47_0, rf_47_1, rf_49_0, rf_49_1, rf_49_2, rf_49_3, rf_49_4, rf_49_5, rf_53_0, rf_53_1, rf_53_2, rf_53_3, rf_53_4, rf_53_5, rf_53_6, rf_53_7, rf_53_9, rf_53_10, rf_53_11, rf_53_12, rf_53_13, rf_54_0, rf_54_1, rf_55_1, rf_55_2, rf_55_3, rf_67_1, rf_67_6, rf_67_7, rf_67_8, rf_67_9, rf_67_10, rf_67_22, rf_67_23, rf_67_28, rf_67_30, rf_67_32, rf_67_33, rf_67_38, rf_67_39, rf_67_48, rf_67_49, rf_67_51, rf_67_52, rf_67_53, rf_67_54, rf_67_55, rf_67_60, rf_67_61, rf_67_62, up_s, up_b, up_j, b_59_12, k_59_12, b_59_70, k_59_70, b_59_76, k_59_76, b_59_108, k_59_108, b_59_109, k_59_109, b_59_110, k_59_110, b_59_136, k_59_136, b_59_138, k_59_138, w_sm, ↓if_pos, ↓if_neg,  ]
        exact g3
      · simp (disch := first | exact nl_i _ | exact nl_r _ | exact Nat.le_of_ble_eq_true rfl | exact Or.inl rfl | exact Or.inr rfl | exact w8_lo _ | exact w8_hi _ | decide | omega) only [v_fall, v_il_0, v_al_0, v_is_0, v_as_0, v_inc_0, v_ll_0, v_ls_0, v_il_1, v_al_1, v_is_1, v_as_1, v_inc_1, v_ll_1, v_ls_1, v_il_2, v_al_2, v_is_2, v_as_2, v_inc_2, v_ll_2, v_ls_2, v_il_3, v_al_3, v_is_3, v_as_3, v_inc_3, v_ll_3, v_ls_3, v_il_4, v_al_4, v_is_4, v_as_4, v_inc_4, v_ll_4, v_ls_4, v_il_5, v_al_5, v_is_5, v_as_5, v_inc_5, v_ll_5, v_ls_5, v_il_6, v_al_6, v_is_6, v_as_6, v_inc_6, v_il_7, v_al_7, v_is_7, v_as_7, v_inc_7, v_il_8, v_al_8, v_is_8, v_as_8, v_inc_8, v_il_9, v_al_9, v_is_9, v_as_9, v_inc_9, v_il_10, v_al_10, v_is_10, v_as_10, v_inc_10, v_il_11, v_al_11, v_is_11, v_as_11, v_inc_11, v_il_12, v_al_12, v_is_12, v_as_12, v_inc_12, v_il_13, v_al_13, v_is_13, v_as_13, v_inc_13, v_c_8, v_c_9, v_c_10, v_c_11, v_c_12, v_c_13, v_c_14, v_b_15, v_b_16, v_b_17, v_b_21, v_b_22, v_b_23, v_b_24, v_b_25, v_b_26, v_b_18, v_b_19, v_b_20, v_b_27, v_b_28, v_b_29, v_b_30, v_b_31, v_dup_i, v_dup_r, v_dup2, v_pop, v_gi, v_gl, v_gr, v_pi, v_pl, v_pz, v_iald, v_lald, v_bald, v_zald, v_aald, v_iast, v_last, v_bast, v_zast, v_alen_0, v_alen_1, v_alen_2, v_alen_3, v_alen_4, v_j_45, v_j_46, v_j_47, v_j_48, v_j_49, v_j_50, v_j_51, v_j_52, v_j_53, v_j_54, v_j_55, v_j_56, v_goto, v_sw, v_ret_i, v_ret_z, v_ret, v_cpy, v_iv_1, v_iv_2, v_iv_3, v_iv_4, v_iv_5, v_iv_6, v_is2_1, v_is2_2, v_is2_3, v_ivJ, List.nil_append, List.cons_append, rf_0_0, rf_0_1, rf_0_2, rf_0_3, rf_0_4, rf_0_5, rf_0_6, rf_0_7, rf_0_8, rf_0_9, rf_1_0, rf_1_2, rf_4_0, rf_4_1, rf_4_2, rf_5_8, rf_5_9, rf_5_10, rf_5_11, rf_5_12, rf_13_0, rf_13_1, rf_14_0, rf_14_1, rf_14_2, rf_15_8, rf_15_9, rf_15_10, rf_15_11, rf_15_12, rf_23_0, rf_23_1, rf_23_2, rf_24_8, rf_24_9, rf_24_10, rf_24_11, rf_24_12, rf_32_6, rf_34_0, rf_34_1, rf_34_2, rf_34_3, rf_35_8, rf_35_9, rf_35_10, rf_35_11, rf_35_12, rf_43_0, rf_43_1, rf_43_2, rf_43_3, rf_45_0, rf_45_1, rf_46_0, rf_46_1, rf_46_2, rf_46_3, rf_46_4, rf_46_5, rf_47_0, rf_47_1, rf_49_0, rf_49_1, rf_49_2, rf_49_3, rf_49_4, rf_49_5, rf_53_0, rf_53_1, rf_53_2, rf_53_3, rf_53_4, rf_53_5, rf_53_6, rf_53_7, rf_53_9, rf_53_10, rf_53_11, rf_53_12, rf_53_13, rf_54_0, rf_54_1, rf_55_1, rf_55_2, rf_55_3, rf_67_1, rf_67_6, rf_67_7, rf_67_8, rf_67_9, rf_67_10, rf_67_22, rf_67_23, rf_67_28, rf_67_30, rf_67_32, rf_67_33, rf_67_38, rf_67_39, rf_67_48, rf_67_49, rf_67_51, rf_67_52, rf_67_53, rf_67_54, rf_67_55, rf_67_60, rf_67_61, rf_67_62, up_s, up_b, up_j, b_59_12, k_59_12, b_59_70, k_59_70, b_59_76, k_59_76, b_59_108, k_59_108, b_59_109, k_59_109, b_59_110, k_59_110, b_59_136, k_59_136, b_59_138, k_59_138, w_sm, ↓if_pos, ↓if_neg,  g4]
        refine g3.mono (fun r M4 g5 => ?_)
        obtain ⟨g, rfl, g5⟩ := g5
        simp (disch := first | exact nl_i _ | exact nl_r _ | exact Nat.le_of_ble_eq_true rfl | exact Or.inl rfl | exact Or.inr rfl | exact w8_lo _ | exact w8_hi _ | decide | omega) only [v_fall, v_il_0, v_al_0, v_is_0, v_as_0, v_inc_0, v_ll_0, v_ls_0, v_il_1, v_al_1, v_is_1, v_as_1, v_inc_1, v_ll_1, v_ls_1, v_il_2, v_al_2, v_is_2, v_as_2, v_inc_2, v_ll_2, v_ls_2, v_il_3, v_al_3, v_is_3, v_as_3, v_inc_3, v_ll_3, v_ls_3, v_il_4, v_al_4, v_is_4, v_as_4, v_inc_4, v_ll_4, v_ls_4, v_il_5, v_al_5, v_is_5, v_as_5, v_inc_5, v_ll_5, v_ls_5, v_il_6, v_al_6, v_is_6, v_as_6, v_inc_6, v_il_7, v_al_7, v_is_7, v_as_7, v_inc_7, v_il_8, v_al_8, v_is_8, v_as_8, v_inc_8, v_il_9, v_al_9, v_is_9, v_as_9, v_inc_9, v_il_10, v_al_10, v_is_10, v_as_10, v_inc_10, v_il_11, v_al_11, v_is_11, v_as_11, v_inc_11, v_il_12, v_al_12, v_is_12, v_as_12, v_inc_12, v_il_13, v_al_13, v_is_13, v_as_13, v_inc_13, v_c_8, v_c_9, v_c_10, v_c_11, v_c_12, v_c_13, v_c_14, v_b_15, v_b_16, v_b_17, v_b_21, v_b_22, v_b_23, v_b_24, v_b_25, v_b_26, v_b_18, v_b_19, v_b_20, v_b_27, v_b_28, v_b_29, v_b_30, v_b_31, v_dup_i, v_dup_r, v_dup2, v_pop, v_gi, v_gl, v_gr, v_pi, v_pl, v_pz, v_iald, v_lald, v_bald, v_zald, v_aald, v_iast, v_last, v_bast, v_zast, v_alen_0, v_alen_1, v_alen_2, v_alen_3, v_alen_4, v_j_45, v_j_46, v_j_47, v_j_48, v_j_49, v_j_50, v_j_51, v_j_52, v_j_53, v_j_54, v_j_55, v_j_56, v_goto, v_sw, v_ret_i, v_ret_z, v_ret, v_cpy, v_iv_1, v_iv_2, v_iv_3, v_iv_4, v_iv_5, v_iv_6, v_is2_1, v_is2_2, v_is2_3, v_ivJ, List.nil_append, List.cons_append, rf_0_0, rf_0_1, rf_0_2, rf_0_3, rf_0_4, rf_0_5, rf_0_6, rf_0_7, rf_0_8, rf_0_9, rf_1_0, rf_1_2, rf_4_0, rf_4_1, rf_4_2, rf_5_8, rf_5_9, rf_5_10, rf_5_11, rf_5_12, rf_13_0, rf_13_1, rf_14_0, rf_14_1, rf_14_2, rf_15_8, rf_15_9, rf_15_10, rf_15_11, rf_15_12, rf_23_0, rf_23_1, rf_23_2, rf_24_8, rf_24_9, rf_24_10, rf_24_11, rf_24_12, rf_32_6, rf_34_0, rf_34_1, rf_34_2, rf_34_3, rf_35_8, rf_35_9, rf_35_10, rf_35_11, rf_35_12, rf_43_0, rf_43_1, rf_43_2, rf_43_3, rf_45_0, rf_45_1, rf_46_0, rf_46_1, rf_46_2, rf_46_3, rf_46_4, rf_46_5, rf_47_0, rf_47_1, rf_49_0, rf_49_1, rf_49_2, rf_49_3, rf_49_4, rf_49_5, rf_53_0, rf_53_1, rf_53_2, rf_53_3, rf_53_4, rf_53_5, rf_53_6, rf_53_7, rf_53_9, rf_53_10, rf_53_11, rf_53_12, rf_53_13, rf_54_0, rf_54_1, rf_55_1, rf_55_2, rf_55_3, rf_67_1, rf_67_6, rf_67_7, rf_67_8, rf_67_9, rf_67_10, rf_67_22, rf_67_23, rf_67_28, rf_67_30, rf_67_32, rf_67_33, rf_67_38, rf_67_39, rf_67_48, rf_67_49, rf_67_51, rf_67_52, rf_67_53, rf_67_54, rf_67_55, rf_67_60, rf_67_61, rf_67_62, up_s, up_b, up_j, b_59_12, k_59_12, b_59_70, k_59_70, b_59_76, k_59_76, b_59_108, k_59_108, b_59_109, k_59_109, b_59_110, k_59_110, b_59_136, k_59_136, b_59_138, k_59_138, w_sm, ↓if_pos, ↓if_neg,  ]
        exact g5
  rw [b_59_23, k_59_23]
  rcases hb with rfl | rfl
  · have ph' := ph rfl
    rw [if_pos rfl] at h1 k0 T
    have P := post (up M 63 p s1) up_s
    clear post ph
    rcases hh with rfl | rfl
    · rw [if_neg (by decide)] at h1
      subst h1
      have g := P (Or.inl ⟨rfl, k0 rfl⟩)
      clear P k0 T
      simp (disch := first | exact nl_i _ | exact nl_r _ | exact Nat.le_of_ble_eq_true rfl | exact Or.inl rfl | exact Or.inr rfl | exact w8_lo _ | exact w8_hi _ | decide | omega) only [v_fall, v_il_0, v_al_0, v_is_0, v_as_0, v_inc_0, v_ll_0, v_ls_0, v_il_1, v_al_1, v_is_1, v_as_1, v_inc_1, v_ll_1, v_ls_1, v_il_2, v_al_2, v_is_2, v_as_2, v_inc_2, v_ll_2, v_ls_2, v_il_3, v_al_3, v_is_3, v_as_3, v_inc_3, v_ll_3, v_ls_3, v_il_4, v_al_4, v_is_4, v_as_4, v_inc_4, v_ll_4, v_ls_4, v_il_5, v_al_5, v_is_5, v_as_5, v_inc_5, v_ll_5, v_ls_5, v_il_6, v_al_6, v_is_6, v_as_6, v_inc_6, v_il_7, v_al_7, v_is_7, v_as_7, v_inc_7, v_il_8, v_al_8, v_is_8, v_as_8, v_inc_8, v_il_9, v_al_9, v_is_9, v_as_9, v_inc_9, v_il_10, v_al_10, v_is_10, v_as_10, v_inc_10, v_il_11, v_al_11, v_is_11, v_as_11, v_inc_11, v_il_12, v_al_12, v_is_12, v_as_12, v_inc_12, v_il_13, v_al_13, v_is_13, v_as_13, v_inc_13, v_c_8, v_c_9, v_c_10, v_c_11, v_c_12, v_c_13, v_c_14, v_b_15, v_b_16, v_b_17, v_b_21, v_b_22, v_b_23, v_b_24, v_b_25, v_b_26, v_b_18, v_b_19, v_b_20, v_b_27, v_b_28, v_b_29, v_b_30, v_b_31, v_dup_i, v_dup_r, v_dup2, v_pop, v_gi, v_gl, v_gr, v_pi, v_pl, v_pz, v_iald, v_lald, v_bald, v_zald, v_aald, v_iast, v_last, v_bast, v_zast, v_alen_0, v_alen_1, v_alen_2, v_alen_3, v_alen_4, v_j_45, v_j_46, v_j_47, v_j_48, v_j_49, v_j_50, v_j_51, v_j_52, v_j_53, v_j_54, v_j_55, v_j_56, v_goto, v_sw, v_ret_i, v_ret_z, v_ret, v_cpy, v_iv_1, v_iv_2, v_iv_3, v_iv_4, v_iv_5, v_iv_6, v_is2_1, v_is2_2, v_is2_3, v_ivJ, List.nil_append, List.cons_append, rf_0_0, rf_0_1, rf_0_2, rf_0_3, rf_0_4, rf_0_5, rf_0_6, rf_0_7, rf_0_8, rf_0_9, rf_1_0, rf_1_2, rf_4_0, rf_4_1, rf_4_2, rf_5_8, rf_5_9, rf_5_10, rf_5_11, rf_5_12, rf_13_0, rf_13_1, rf_14_0, rf_14_1, rf_14_2, rf_15_8, rf_15_9, rf_15_10, rf_15_11, rf_15_12, rf_23_0, rf_23_1, rf_23_2, rf_24_8, rf_24_9, rf_24_10, rf_24_11, rf_24_12, rf_32_6, rf_34_0, rf_34_1, rf_34_2, rf_34_3, rf_35_8, rf_35_9, rf_35_10, rf_35_11, rf_35_12, rf_43_0, rf_43_1, rf_43_2, rf_43_3, rf_45_0, rf_45_1, rf_46_0, rf_46_1, rf_46_2, rf_46_3, rf_46_4, rf_46_5, rf_47_0, rf_47_1, rf_49_0, rf_49_1, rf_49_2, rf_49_3, rf_49_4, rf_49_5, rf_53_0, rf_53_1, rf_53_2, rf_53_3, rf_53_4, rf_53_5, rf_53_6, rf_53_7, rf_53_9, rf_53_10, rf_53_11, rf_53_12, rf_53_13, rf_54_0, rf_54_1, rf_55_1, rf_55_2, rf_55_3, rf_67_1, rf_67_6, rf_67_7, rf_67_8, rf_67_9, rf_67_10, rf_67_22, rf_67_23, rf_67_28, rf_67_30, rf_67_32, rf_67_33, rf_67_38, rf_67_39, rf_67_48, rf_67_49, rf_67_51, rf_67_52, rf_67_53, rf_67_54, rf_67_55, rf_67_60, rf_67_61, rf_67_62, up_s, up_b, up_j, w_sm, ↓if_pos, ↓if_neg, hm, h0, ph', b_59_76, k_59_76, b_59_108, k_59_108, b_59_109, k_59_109]
      exact g
    · rw [if_pos rfl] at h1
      subst h1
      have g := P (Or.inr ⟨rfl, T rfl⟩)
      clear P k0 T
      simp (disch := first | exact nl_i _ | exact nl_r _ | exact Nat.le_of_ble_eq_true rfl | exact Or.inl rfl | exact Or.inr rfl | exact w8_lo _ | exact w8_hi _ | decide | omega) only [v_fall, v_il_0, v_al_0, v_is_0, v_as_0, v_inc_0, v_ll_0, v_ls_0, v_il_1, v_al_1, v_is_1, v_as_1, v_inc_1, v_ll_1, v_ls_1, v_il_2, v_al_2, v_is_2, v_as_2, v_inc_2, v_ll_2, v_ls_2, v_il_3, v_al_3, v_is_3, v_as_3, v_inc_3, v_ll_3, v_ls_3, v_il_4, v_al_4, v_is_4, v_as_4, v_inc_4, v_ll_4, v_ls_4, v_il_5, v_al_5, v_is_5, v_as_5, v_inc_5, v_ll_5, v_ls_5, v_il_6, v_al_6, v_is_6, v_as_6, v_inc_6, v_il_7, v_al_7, v_is_7, v_as_7, v_inc_7, v_il_8, v_al_8, v_is_8, v_as_8, v_inc_8, v_il_9, v_al_9, v_is_9, v_as_9, v_inc_9, v_il_10, v_al_10, v_is_10, v_as_10, v_inc_10, v_il_11, v_al_11, v_is_11, v_as_11, v_inc_11, v_il_12, v_al_12, v_is_12, v_as_12, v_inc_12, v_il_13, v_al_13, v_is_13, v_as_13, v_inc_13, v_c_8, v_c_9, v_c_10, v_c_11, v_c_12, v_c_13, v_c_14, v_b_15, v_b_16, v_b_17, v_b_21, v_b_22, v_b_23, v_b_24, v_b_25, v_b_26, v_b_18, v_b_19, v_b_20, v_b_27, v_b_28, v_b_29, v_b_30, v_b_31, v_dup_i, v_dup_r, v_dup2, v_pop, v_gi, v_gl, v_gr, v_pi, v_pl, v_pz, v_iald, v_lald, v_bald, v_zald, v_aald, v_iast, v_last, v_bast, v_zast, v_alen_0, v_alen_1, v_alen_2, v_alen_3, v_alen_4, v_j_45, v_j_46, v_j_47, v_j_48, v_j_49, v_j_50, v_j_51, v_j_52, v_j_53, v_j_54, v_j_55, v_j_56, v_goto, v_sw, v_ret_i, v_ret_z, v_ret, v_cpy, v_iv_1, v_iv_2, v_iv_3, v_iv_4, v_iv_5, v_iv_6, v_is2_1, v_is2_2, v_is2_3, v_ivJ, List.nil_append, List.cons_append, rf_0_0, rf_0_1, rf_0_2, rf_0_3, rf_0_4, rf_0_5, rf_0_6, rf_0_7, rf_0_8, rf_0_9, rf_1_0, rf_1_2, rf_4_0, rf_4_1, rf_4_2, rf_5_8, rf_5_9, rf_5_10, rf_5_11, rf_5_12, rf_13_0, rf_13_1, rf_14_0, rf_14_1, rf_14_2, rf_15_8, rf_15_9, rf_15_10, rf_15_11, rf_15_12, rf_23_0, rf_23_1, rf_23_2, rf_24_8, rf_24_9, rf_24_10, rf_24_11, rf_24_12, rf_32_6, rf_34_0, rf_34_1, rf_34_2, rf_34_3, rf_35_8, rf_35_9, rf_35_10, rf_35_11, rf_35_12, rf_43_0, rf_43_1, rf_43_2, rf_43_3, rf_45_0, rf_45_1, rf_46_0, rf_46_1, rf_46_2, rf_46_3, rf_46_4, rf_46_5, rf_47_0, rf_47_1, rf_49_0, rf_49_1, rf_49_2, rf_49_3, rf_49_4, rf_49_5, rf_53_0, rf_53_1, rf_53_2, rf_53_3, rf_53_4, rf_53_5, rf_53_6, rf_53_7, rf_53_9, rf_53_10, rf_53_11, rf_53_12, rf_53_13, rf_54_0, rf_54_1, rf_55_1, rf_55_2, rf_55_3, rf_67_1, rf_67_6, rf_67_7, rf_67_8, rf_67_9, rf_67_10, rf_67_22, rf_67_23, rf_67_28, rf_67_30, rf_67_32, rf_67_33, rf_67_38, rf_67_39, rf_67_48, rf_67_49, rf_67_51, rf_67_52, rf_67_53, rf_67_54, rf_67_55, rf_67_60, rf_67_61, rf_67_62, up_s, up_b, up_j, w_sm, ↓if_pos, ↓if_neg, hm, h0, ph', b_59_76, k_59_76, b_59_108, k_59_108, b_59_109, k_59_109]
      exact g
  · rw [if_neg (by decide)] at h1 k0 T
    subst h1
    have g := post M h0 (Or.inr ⟨rfl, T rfl⟩)
    clear post k0 T ph
    simp (disch := first | exact nl_i _ | exact nl_r _ | exact Nat.le_of_ble_eq_true rfl | exact Or.inl rfl | exact Or.inr rfl | exact w8_lo _ | exact w8_hi _ | decide | omega) only [v_fall, v_il_0, v_al_0, v_is_0, v_as_0, v_inc_0, v_ll_0, v_ls_0, v_il_1, v_al_1, v_is_1, v_as_1, v_inc_1, v_ll_1, v_ls_1, v_il_2, v_al_2, v_is_2, v_as_2, v_inc_2, v_ll_2, v_ls_2, v_il_3, v_al_3, v_is_3, v_as_3, v_inc_3, v_ll_3, v_ls_3, v_il_4, v_al_4, v_is_4, v_as_4, v_inc_4, v_ll_4, v_ls_4, v_il_5, v_al_5, v_is_5, v_as_5, v_inc_5, v_ll_5, v_ls_5, v_il_6, v_al_6, v_is_6, v_as_6, v_inc_6, v_il_7, v_al_7, v_is_7, v_as_7, v_inc_7, v_il_8, v_al_8, v_is_8, v_as_8, v_inc_8, v_il_9, v_al_9, v_is_9, v_as_9, v_inc_9, v_il_10, v_al_10, v_is_10, v_as_10, v_inc_10, v_il_11, v_al_11, v_is_11, v_as_11, v_inc_11, v_il_12, v_al_12, v_is_12, v_as_12, v_inc_12, v_il_13, v_al_13, v_is_13, v_as_13, v_inc_13, v_c_8, v_c_9, v_c_10, v_c_11, v_c_12, v_c_13, v_c_14, v_b_15, v_b_16, v_b_17, v_b_21, v_b_22, v_b_23, v_b_24, v_b_25, v_b_26, v_b_18, v_b_19, v_b_20, v_b_27, v_b_28, v_b_29, v_b_30, v_b_31, v_dup_i, v_dup_r, v_dup2, v_pop, v_gi, v_gl, v_gr, v_pi, v_pl, v_pz, v_iald, v_lald, v_bald, v_zald, v_aald, v_iast, v_last, v_bast, v_zast, v_alen_0, v_alen_1, v_alen_2, v_alen_3, v_alen_4, v_j_45, v_j_46, v_j_47, v_j_48, v_j_49, v_j_50, v_j_51, v_j_52, v_j_53, v_j_54, v_j_55, v_j_56, v_goto, v_sw, v_ret_i, v_ret_z, v_ret, v_cpy, v_iv_1, v_iv_2, v_iv_3, v_iv_4, v_iv_5, v_iv_6, v_is2_1, v_is2_2, v_is2_3, v_ivJ, List.nil_append, List.cons_append, rf_0_0, rf_0_1, rf_0_2, rf_0_3, rf_0_4, rf_0_5, rf_0_6, rf_0_7, rf_0_8, rf_0_9, rf_1_0, rf_1_2, rf_4_0, rf_4_1, rf_4_2, rf_5_8, rf_5_9, rf_5_10, rf_5_11, rf_5_12, rf_13_0, rf_13_1, rf_14_0, rf_14_1, rf_14_2, rf_15_8, rf_15_9, rf_15_10, rf_15_11, rf_15_12, rf_23_0, rf_23_1, rf_23_2, rf_24_8, rf_24_9, rf_24_10, rf_24_11, rf_24_12, rf_32_6, rf_34_0, rf_34_1, rf_34_2, rf_34_3, rf_35_8, rf_35_9, rf_35_10, rf_35_11, rf_35_12, rf_43_0, rf_43_1, rf_43_2, rf_43_3, rf_45_0, rf_45_1, rf_46_0, rf_46_1, rf_46_2, rf_46_3, rf_46_4, rf_46_5, rf_47_0, rf_47_1, rf_49_0, rf_49_1, rf_49_2, rf_49_3, rf_49_4, rf_49_5, rf_53_0, rf_53_1, rf_53_2, rf_53_3, rf_53_4, rf_53_5, rf_53_6, rf_53_7, rf_53_9, rf_53_10, rf_53_11, rf_53_12, rf_53_13, rf_54_0, rf_54_1, rf_55_1, rf_55_2, rf_55_3, rf_67_1, rf_67_6, rf_67_7, rf_67_8, rf_67_9, rf_67_10, rf_67_22, rf_67_23, rf_67_28, rf_67_30, rf_67_32, rf_67_33, rf_67_38, rf_67_39, rf_67_48, rf_67_49, rf_67_51, rf_67_52, rf_67_53, rf_67_54, rf_67_55, rf_67_60, rf_67_61, rf_67_62, up_s, up_b, up_j, w_sm, ↓if_pos, ↓if_neg, hm, h0, b_59_76, k_59_76]
    exact g
/-- SOUND, of a code -/
def soC (w l : Nat) (b : Int → Int) (wh : Nat → Int) (c : Nat) : Prop := Conn w (w * l) (pR (w * l) (RFc wh c)) ∧ noAp w (w * l) b (RFc wh c)
def SM (w l : Nat) (b : Int → Int) (wh : Nat → Int) (M : Mem) (len : Nat) (f : Nat → Nat) : Prop := ∀ a : Nat, a < len → M 63 (a : Int) = 0 ∨ (M 63 (a : Int) = 1 ∧ soC w l b wh (f a)) ∨ (M 63 (a : Int) = -1 ∧ ¬ soC w l b wh (f a))
def saX (b : Nat) (j : Int) : Prop := b = 43 ∨ b = 44 ∨ b = 63 ∨ b = 64
theorem RFc_b {n : Nat} {r2 : Int} {c : Nat} (hv : vcd m n c) (hw : ∀ i, i < m → 0 ≤ wh i ∧ wh i < r2) (h0 : 0 ≤ r2) (j : Int) : (-1 ≤ RFc wh c j ∧ RFc wh c j < r2) ∧ ((n : Int) ≤ j → RFc wh c j = -1) ∧ (RFc wh c j ≠ -1 → 0 ≤ RFc wh c j ∧ 0 ≤ j ∧ j < (n : Int)) := by
  unfold RFc
  by_cases h : 0 ≤ j ∧ occ c j.toNat < 4
  · rw [if_pos h]
    have v := vcd_occ hv h.2
    have g := hw _ v.2
    exact ⟨by omega, fun _ => by omega, fun _ => by omega⟩
  · rw [if_neg h]
    exact ⟨by omega, fun _ => rfl, fun h9 => absurd rfl h9⟩
theorem bn_pR {n : Nat} {r2 : Int} {c : Nat} (hv : vcd m n c) (hn : n ≤ 6) (hw : ∀ i, i < m → 0 ≤ wh i ∧ wh i < r2) : (bn c).testBit = pR n (RFc wh c) := by
  funext k
  apply Bool.eq_iff_iff.mpr
  rw [bn_t, pR_lt]
  unfold RFc
  rw [show ((k : Int)).toNat = k by omega]
  constructor
  · rintro ⟨h1, h2⟩
    have v := vcd_occ hv h2
    have g := hw _ v.2
    rw [if_pos ⟨by omega, h2⟩]
    exact ⟨v.1, by omega⟩
  · rintro ⟨h1, h2⟩
    refine ⟨by omega, ?_⟩
    apply Classical.byContradiction
    intro h9
    exact h2 (if_neg (fun h8 => h9 h8.2))
theorem sa_l (hP : PW w l m wh cm lv M0 len f) {a : Nat} (ha : a < len) (lg mo : Int) (hw : ∀ i, i < m → 0 ≤ wh i) (kk : ∀ M' o5, AgX (fun b _ => b = 64) M0 M' → (∀ j, 0 ≤ j → j < 24 → M' 64 j = RFc wh (f a) j) → XL (d + 1) 59 23 [aR 15 0 53, aI (a : Int), aI lg, aI mo, aI (m : Int), o5] [] M' Q) : ∀ (t i : Nat) (M : Mem) (o5 : AV), i + t = m → AgX (fun b _ => b = 64) M0 M → (∀ j, 0 ≤ j → j < 24 → M 64 j = if occ (f a) j.toNat < i then wh (occ (f a) j.toNat) else -1) → XL (d + 1) 59 23 [aR 15 0 53, aI (a : Int), aI lg, aI mo, aI (i : Int), o5] [] M Q
  | 0, i, M, o5, h, hA, hT => by
    have e : i = m := by omega
    rw [e] at hT ⊢
    have hv := hP.2.2.2.2.2.1.2.2.1 a ha
    have m4 := hP.2.2.1
    refine kk M o5 hA (fun j j0 j1 => ?_)
    rw [hT j j0 j1]
    unfold RFc
    by_cases c : occ (f a) j.toNat < 4
    · have v := vcd_occ hv c
      rw [if_pos v.2, if_pos ⟨j0, c⟩]
    · rw [if_neg (by omega), if_neg (fun h9 => c h9.2)]
  | t + 1, i, M, o5, h, hA, hT => by
    have hv := hP.2.2.2.2.2.1.2.2.1 a ha
    have hl := hP.2.2.2.2.2.1.2.1
    have hn6 := hP.2.1
    have m4 := hP.2.2.1
    have hi4 : i < 4 := by omega
    have dl := dg_lt (c := f a) (i := i)
    have rec9 := sa_l hP ha lg mo hw kk t (i + 1)
    have e6 := (hP.2.2.2.2.2.1.1.2.1 a ha).1
    rw [sa_1 (d := d) (a : Int) lg mo (i : Int) (m : Int) ((w * l : Nat) : Int) (((dg (f a) i : Nat) : Int) - 1) (wh i) o5 ((hA 53 8 (by simp)).trans hP.2.2.2.1) ⟨by omega, by omega, by omega⟩ ((hA 32 2 (by simp)).trans hP.1.1.2.2.2.2.1) ⟨by omega, by omega⟩ (fun Q' => s_placeOf (a : Int) (f a) i ⟨by omega, by omega⟩ ((hA 56 _ (by simp)).trans e6) hv.1 hi4) ⟨by omega, by omega⟩ ((hA 59 _ (by simp)).trans (hP.2.2.2.2.1 i (by omega)).1)]
    have hle := hv.2.2.1 i hi4
    by_cases c : dg (f a) i = 0
    · rw [if_neg (by omega)]
      have g := rec9 M (aI (((dg (f a) i : Nat) : Int) - 1)) (by omega) hA (fun j j0 j1 => by
        rw [hT j j0 j1]
        have hne : occ (f a) j.toNat ≠ i := fun h9 => by
          rcases occ_sp (f a) j.toNat with ⟨h1, -⟩ | ⟨-, h2⟩
          · omega
          · rw [h9, c] at h2
            omega
        by_cases c9 : occ (f a) j.toNat < i
        · rw [if_pos c9, if_pos (by omega)]
        · rw [if_neg c9, if_neg (by omega)])
      rw [Int.natCast_add] at g
      exact g
    · obtain ⟨k, hk⟩ : ∃ k, dg (f a) i = k + 1 := ⟨dg (f a) i - 1, by omega⟩
      have oc := occ_is hv hi4 hk
      rw [hk, show ((k + 1 : Nat) : Int) - 1 = (k : Int) by omega, if_pos ⟨by omega, by omega⟩]
      have g := rec9 (up M 64 (k : Int) (wh i)) (aI (k : Int)) (by omega) (fun b j hb => by rw [up_b hb]; exact hA b j hb) (fun j j0 j1 => by
        by_cases e : j = (k : Int)
        · rw [e, up_s, show ((k : Int)).toNat = k by omega, oc, if_pos (Nat.lt_succ_self i)]
        · rw [up_j e, hT j j0 j1]
          have hne : occ (f a) j.toNat ≠ i := fun h9 => by
            rcases occ_sp (f a) j.toNat with ⟨h1, -⟩ | ⟨-, h2⟩
            · omega
            · rw [h9, hk] at h2
              omega
          by_cases c9 : occ (f a) j.toNat < i
          · rw [if_pos c9, if_pos (by omega)]
          · rw [if_neg c9, if_neg (by omega)])
      rw [Int.natCast_add] at g
      exact g
theorem s_sail (hP : PW w l m wh cm lv M len f) (hok : okB w l m (M 5) (M 6) (M 7) (M 8) (M 4 4) wh cm lv) (hS : SM w l (M 8) wh M len f) {a : Nat} (ha : a < len) (k mo : Int) (hk : 0 ≤ k ∧ k < M 5 1) (hmo : 0 ≤ mo ∧ mo ≤ 1) (kk : ∀ M' v, AgX saX M M' → SM w l (M 8) wh M' len f → ((legA w l (M 5) (M 7) (M 8) (M 4 4) (RFc wh (f a)) k mo < 0 ∧ v = -1) ∨ (0 ≤ legA w l (M 5) (M 7) (M 8) (M 4 4) (RFc wh (f a)) k mo ∧ v = legA w l (M 5) (M 7) (M 8) (M 4 4) (RFc wh (f a)) k mo ∧ v ≤ 10000)) → Q [aI v] M') : XC (d + 3) 59 [aR 15 0 53, aI (a : Int), aI k, aI mo] M Q := by
  have hv := hP.2.2.2.2.2.1.2.2.1 a ha
  have hl := hP.2.2.2.2.2.1.2.1
  have hn6 := hP.2.1
  have m4 := hP.2.2.1
  have r2 := hok.2.2.2.2.1.2.2.1
  have r1 := hok.2.2.2.2.1.2.1
  have r5 := hok.2.2.2.2.1.2.2.2.2.2.1
  have hww : ∀ i, i < m → 0 ≤ wh i ∧ wh i < M 5 2 := fun i hi => (hok.2.2.2.2.2.2.2.2.1 i hi).2
  have hLE := hok.2.2.2.2.2.1.2 k hk.1 hk.2
  have RB := fun j => RFc_b hv hww r2.1 j
  have bP := bn_pR hv hn6 hww
  have hSa := hS a ha
  have gb := goV_b (w := w) (l := l) (P := pR (w * l) (RFc wh (f a))) (t := M 7 (7 * k + 5)) (mi := M 7 (7 * k + 2)) (ea := M 7 (7 * k + 6)) (kn := M 5 5) hok.1 hok.2.1 hLE.2.2.2.2.2.1.1 hLE.2.2.1 hLE.2.2.2.2.2.2 ⟨by omega, by omega⟩
  unfold legA legV at kk
  rw [sa_0 (d := d + 2) (a : Int) k mo (M 63 (a : Int)) ⟨by omega, by omega⟩ rfl (by rcases hSa with h | ⟨h, -⟩ | ⟨h, -⟩ <;> omega)]
  by_cases c0 : M 63 (a : Int) = -1
  · rw [if_pos c0]
    have hns : ¬ soC w l (M 8) wh (f a) := by
      rcases hSa with h | ⟨h, -⟩ | ⟨-, h⟩
      · omega
      · omega
      · exact h
    refine kk M (-1) (fun _ _ _ => rfl) hS (Or.inl ⟨?_, rfl⟩)
    have : cb (Conn w (w * l) (pR (w * l) (RFc wh (f a))) ∧ noAp w (w * l) (M 8) (RFc wh (f a))) = 0 := cb_f hns
    rw [this, if_pos rfl]
    decide
  · rw [if_neg c0]
    refine sa_l (d := d + 2) hP ha k mo (fun i hi => (hww i hi).1) (fun M1 o5 hA1 hT1 => ?_) m 0 _ aU (by omega) (fun b j hb => by rw [filM_r hb]) (fun j j0 j1 => by rw [filM_at j0 j1, if_neg (Nat.not_lt_zero _)])
    have e8 : M1 8 = M 8 := hA1.fn (fun j => by simp)
    have e7 : M1 7 = M 7 := hA1.fn (fun j => by simp)
    have e5 : M1 5 = M 5 := hA1.fn (fun j => by simp)
    have e4 : M1 4 = M 4 := hA1.fn (fun j => by simp)
    have e63 : M1 63 (a : Int) = M 63 (a : Int) := hA1 63 _ (by simp)
    have hG1 : GS M1 w l := hP.1.1.cg (hA1.fn (fun j => by simp)) (hA1.fn (fun j => by simp))
    have hc : ∀ j, 0 ≤ j → j < 24 → -1 ≤ M1 64 j ∧ M1 64 j < 9 := fun j j0 j1 => by
      rw [hT1 j j0 j1]
      have := (RB j).1
      omega
    have cR : ∀ i : Nat, i < w * l → M1 64 (i : Int) = RFc wh (f a) (i : Int) := fun i hi => hT1 (i : Int) (by omega) (by omega)
    have hp1 : (setN (w * l) (fun i => decide (M1 64 (i : Int) ≠ -1))).testBit = pR (w * l) (RFc wh (f a)) := pR_cg (R := M1 64) cR
    have soE : (Conn w (w * l) (setN (w * l) (fun i => decide (M1 64 (i : Int) ≠ -1))).testBit ∧ noAp w (w * l) (M1 8) (M1 64)) ↔ soC w l (M 8) wh (f a) := by
      unfold soC
      rw [hp1, e8]
      exact and_congr_right (fun _ => noAp_cg cR (fun _ _ _ => rfl))
    have s01 : M 63 (a : Int) = 0 ∨ M 63 (a : Int) = 1 := by rcases hSa with h | ⟨h, -⟩ | ⟨h, -⟩; exact Or.inl h; exact Or.inr h; exact absurd h c0
    obtain ⟨s1, hs1⟩ : ∃ s1 : Int, s1 = if M 63 (a : Int) = 0 then (if cb (soC w l (M 8) wh (f a)) = 1 then 1 else -1) else M 63 (a : Int) := ⟨_, rfl⟩
    have s1E : (s1 = 1 ∧ soC w l (M 8) wh (f a)) ∨ (s1 = -1 ∧ ¬ soC w l (M 8) wh (f a)) := by
      rcases hSa with h | ⟨h, h2⟩ | ⟨h, -⟩
      · rw [if_pos h] at hs1
        by_cases hso : soC w l (M 8) wh (f a)
        · rw [cb_t hso, if_pos rfl] at hs1
          exact Or.inl ⟨hs1, hso⟩
        · rw [cb_f hso, if_neg (by decide)] at hs1
          exact Or.inr ⟨hs1, hso⟩
      · rw [if_neg (by omega), h] at hs1
        exact Or.inl ⟨hs1, h2⟩
      · exact absurd h c0
    obtain ⟨M2, hM2⟩ : ∃ M2, M2 = if M 63 (a : Int) = 0 then up M1 63 (a : Int) s1 else M1 := ⟨_, rfl⟩
    have o2 : ∀ x, x ≠ 63 → M2 x = M1 x := fun x hx => by
      rw [hM2]
      by_cases h : M 63 (a : Int) = 0
      · rw [if_pos h]; exact up_r hx
      · rw [if_neg h]
    have A2 : AgX saX M M2 := fun b j hb => by
      unfold saX at hb
      rw [o2 b (by omega)]
      exact hA1 b j (by simp; omega)
    have S2 : SM w l (M 8) wh M2 len f := fun a' ha' => by
      by_cases e : a' = a
      · have : M2 63 ((a' : Nat) : Int) = s1 := by
          rw [hM2, e]
          by_cases h : M 63 (a : Int) = 0
          · rw [if_pos h, up_s]
          · rw [if_neg h, e63, hs1, if_neg h]
        rw [this, e]
        exact Or.inr s1E
      · have : M2 63 ((a' : Nat) : Int) = M 63 ((a' : Nat) : Int) := by
          rw [hM2]
          by_cases h : M 63 (a : Int) = 0
          · rw [if_pos h, up_j (by omega), hA1 63 _ (by simp)]
          · rw [if_neg h, hA1 63 _ (by simp)]
        rw [this]
        exact hS a' ha'
    have hG2 : GS M2 w l := hG1.cg (o2 32 (by decide)) (o2 33 (by decide))
    refine sa_2 (d := d + 2) (a : Int) k mo (m : Int) (M 63 (a : Int)) (cb (soC w l (M 8) wh (f a))) s1 ((bn (f a) : Nat) : Int) o5 ⟨by omega, by omega⟩ ((hA1 53 8 (by simp)).trans hP.2.2.2.1) ⟨by omega, by omega⟩ e63 s01 (fun _ Q' => by rw [s_holds (d := d) hG1 64 hc, cb_cg soE]) cb_01 hs1 (fun h1 => ?_) (fun h1 => ?_)
    · rw [← hM2]
      have hns : ¬ soC w l (M 8) wh (f a) := by
        rcases s1E with ⟨h, -⟩ | ⟨-, h⟩
        · omega
        · exact h
      refine kk M2 (-1) A2 S2 (Or.inl ⟨?_, rfl⟩)
      have : cb (Conn w (w * l) (pR (w * l) (RFc wh (f a))) ∧ noAp w (w * l) (M 8) (RFc wh (f a))) = 0 := cb_f hns
      rw [this, if_pos rfl]
      decide
    · rw [← hM2]
      have hso : soC w l (M 8) wh (f a) := by
        rcases s1E with ⟨-, h⟩ | ⟨h, -⟩
        · exact h
        · omega
      have hsc : cb (Conn w (w * l) (pR (w * l) (RFc wh (f a))) ∧ noAp w (w * l) (M 8) (RFc wh (f a))) = 1 := cb_t hso
      rw [hsc, if_neg (by decide)] at kk
      have g64 : M2 64 = M1 64 := o2 64 (by decide)
      refine s_hasRoom (d := d) hG2 64 (by decide) (by rw [g64]; exact hc) (fun j j0 j1 hne => ?_) k mo (M 7 (7 * k)) (M 7 (7 * k + 1)) (M 7 (7 * k + 3)) (M 7 (7 * k + 4)) (M 4 4) ⟨by omega, by omega⟩ hmo (by rw [o2 7 (by decide), e7]) (by rw [o2 7 (by decide), e7]) (by rw [o2 7 (by decide), e7]) (by rw [o2 7 (by decide), e7]) (by rw [o2 4 (by decide), e4]) ?_ (fitP w (w * l) (RFc wh (f a)) (fun x => M 8 (4 * x + 2)) (M 7 (7 * k) + mo) (M 7 (7 * k + 1) + mo) (M 7 (7 * k + 3) - M 4 4) (M 7 (7 * k + 4) - M 4 4)) ?_ (fun M3 hO3 => ?_)
      · rw [g64, hT1 j j0 j1] at hne ⊢
        rw [o2 8 (by decide), e8]
        have h1 := RB j
        exact (hok.2.2.2.2.1.2.2.2.2.2.2.2.2.2 _ (h1.2.2 hne).1 h1.1.2).2.2.2.1
      · have f4 := hok.2.2.2.2.2.2.1
        omega
      · rw [g64, o2 8 (by decide), e8]
        exact fitP_cg (fun i hi => (cR i hi).symm) (fun _ _ _ => rfl)
      · refine ⟨_, rfl, ?_⟩
        have A3 : AgX saX M M3 := fun b j hb => by
          rw [hO3 b (fun e => hb (Or.inl e))]
          exact A2 b j hb
        have S3 : SM w l (M 8) wh M3 len f := fun a' ha' => by rw [hO3 63 (by decide)]; exact S2 a' ha'
        by_cases hf : fitP w (w * l) (RFc wh (f a)) (fun x => M 8 (4 * x + 2)) (M 7 (7 * k) + mo) (M 7 (7 * k + 1) + mo) (M 7 (7 * k + 3) - M 4 4) (M 7 (7 * k + 4) - M 4 4)
        · right
          rw [cb_t hf, if_neg (by decide)] at kk
          have hG3 : GS M3 w l := hG2.cg (hO3 32 (by decide)) (hO3 33 (by decide))
          have bl := bn_lt hv hn6
          have bp : (2 : Nat) ^ (w * l) ≤ 2 ^ 6 := Nat.pow_le_pow_right (by decide) hn6
          refine ⟨cb_t hf, ?_, ?_⟩
          · rw [hO3 57 (by decide), o2 57 (by decide), hA1 57 _ (by simp)]
            exact (hP.2.2.2.2.2.1.1.2.1 a ha).2.1
          · refine s_goMinutes (d := d) hG3 (bn (f a)) (by omega) k (M 7 (7 * k + 2)) (M 7 (7 * k + 5)) (M 7 (7 * k + 6)) (M 5 5) ⟨by omega, by omega⟩ (by rw [hO3 7 (by decide), o2 7 (by decide), e7]) (by rw [hO3 7 (by decide), o2 7 (by decide), e7]) (by rw [hO3 7 (by decide), o2 7 (by decide), e7]) (by rw [hO3 5 (by decide), o2 5 (by decide), e5]) hLE.2.2.2.2.2.1 _ rfl (fun M4 hA4 => ⟨_, rfl, ?_⟩)
            rw [bP]
            refine kk M4 _ (fun b j hb => ?_) (fun a' ha' => ?_) ?_
            · unfold saX at hb
              rw [hA4 b j (by omega)]
              exact A3 b j hb
            · rw [hA4 63 _ (by simp)]; exact S3 a' ha'
            · generalize goV w l (pR (w * l) (RFc wh (f a))) (M 7 (7 * k + 5)) (M 7 (7 * k + 2)) (M 7 (7 * k + 6)) (M 5 5) = g at gb ⊢
              by_cases hg : g = -1
              · rw [if_pos hg]
                exact Or.inl ⟨by decide, hg⟩
              · rw [if_neg hg]
                exact Or.inr ⟨by omega, rfl, by omega⟩
        · left
          rw [cb_f hf, if_pos rfl] at kk
          exact ⟨cb_f hf, kk M3 (-1) A3 S3 (Or.inl ⟨by decide, rfl⟩)⟩
end SA
