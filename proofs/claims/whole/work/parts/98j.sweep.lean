/-! BEST on the class's side: sweep -/
section SW
variable {d : Nat} {M M0 : Mem} {Q : List AV → Mem → Prop} {w l : Nat}
theorem sw_0 (i st h s may must : Int) (hi : 0 ≤ i ∧ i < 4) (hh : M 53 14 = h) (hs : M 53 15 = s) (h1 : and32 h (xor32 (shl32 1 i) (-1)) = may) (h2 : and32 s (xor32 (shl32 1 i) (-1)) = must) : XC d 56 [aR 15 0 53, aI i, aI st] M Q ↔ XL d 56 29 [aR 15 0 53, aI i, aI st, aI may, aI must, aI 0, aI 0, aU] [] M Q := by
  rw [e_56, k_56_0]
  simp (disch := first | exact nl_i _ | exact nl_r _ | exact Nat.le_of_ble_eq_true rfl | exact Or.inl rfl | exact Or.inr rfl | exact w8_lo _ | exact w8_hi _ | decide | omega) only [v_fall, v_il_0, v_al_0, v_is_0, v_as_0, v_inc_0, v_ll_0, v_ls_0, v_il_1, v_al_1, v_is_1, v_as_1, v_inc_1, v_ll_1, v_ls_1, v_il_2, v_al_2, v_is_2, v_as_2, v_inc_2, v_ll_2, v_ls_2, v_il_3, v_al_3, v_is_3, v_as_3, v_inc_3, v_ll_3, v_ls_3, v_il_4, v_al_4, v_is_4, v_as_4, v_inc_4, v_ll_4, v_ls_4, v_il_5, v_al_5, v_is_5, v_as_5, v_inc_5, v_ll_5, v_ls_5, v_il_6, v_al_6, v_is_6, v_as_6, v_inc_6, v_il_7, v_al_7, v_is_7, v_as_7, v_inc_7, v_il_8, v_al_8, v_is_8, v_as_8, v_inc_8, v_il_9, v_al_9, v_is_9, v_as_9, v_inc_9, v_il_10, v_al_10, v_is_10, v_as_10, v_inc_10, v_il_11, v_al_11, v_is_11, v_as_11, v_inc_11, v_il_12, v_al_12, v_is_12, v_as_12, v_inc_12, v_il_13, v_al_13, v_is_13, v_as_13, v_inc_13, v_c_8, v_c_9, v_c_10, v_c_11, v_c_12, v_c_13, v_c_14, v_b_15, v_b_16, v_b_17, v_b_21, v_b_22, v_b_23, v_b_24, v_b_25, v_b_26, v_b_18, v_b_19, v_b_20, v_b_27, v_b_28, v_b_29, v_b_30, v_b_31, v_dup_i, v_dup_r, v_dup2, v_pop, v_gi, v_gl, v_gr, v_pi, v_pl, v_pz, v_iald, v_lald, v_bald, v_zald, v_aald, v_iast, v_last, v_bast, v_zast, v_alen_0, v_alen_1, v_alen_2, v_alen_3, v_alen_4, v_j_45, v_j_46, v_j_47, v_j_48, v_j_49, v_j_50, v_j_51, v_j_52, v_j_53, v_j_54, v_j_55, v_j_56, v_goto, v_sw, v_ret_i, v_ret_z, v_ret, v_cpy, v_iv_1, v_iv_2, v_iv_3, v_iv_4, v_iv_5, v_iv_6, v_is2_1, v_is2_2, v_is2_3, v_ivJ, List.nil_append, List.cons_append, rf_0_0, rf_0_1, rf_0_2, rf_0_3, rf_0_4, rf_0_5, rf_0_6, rf_0_7, rf_0_8, rf_0_9, rf_1_0, rf_1_2, rf_4_0, rf_4_1, rf_4_2, rf_5_8, rf_5_9, rf_5_10, rf_5_11, rf_5_12, rf_13_0, rf_13_1, rf_14_0, rf_14_1, rf_14_2, rf_15_8, rf_15_9, rf_15_10, rf_15_11, rf_15_12, rf_23_0, rf_23_1, rf_23_2, rf_24_8, rf_24_9, rf_24_10, rf_24_11, rf_24_12, rf_32_6, rf_34_0, rf_34_1, rf_34_2, rf_34_3, rf_35_8, rf_35_9, rf_35_10, rf_35_11, rf_35_12, rf_43_0, rf_43_1, rf_43_2, rf_43_3, rf_45_0, rf_45_1, rf_46_0, rf_46_1, rf_46_2, rf_46_3, rf_46_4, rf_46_5, rf_47_0, rf_47_1, rf_49_0, rf_49_1, rf_49_2, rf_49_3, rf_49_4, rf_49_5, rf_53_0, rf_53_1, rf_53_2, rf_53_3, rf_53_4, rf_53_5, rf_53_6, rf_53_7, rf_53_9, rf_53_10, rf_53_11, rf_53_12, rf_53_13, rf_54_0, rf_54_1, rf_55_1, rf_55_2, rf_55_3, rf_67_1, rf_67_6, rf_67_7, rf_67_8, rf_67_9, rf_67_10, rf_67_22, rf_67_23, rf_67_28, rf_67_30, rf_67_32, rf_67_33, rf_67_38, rf_67_39, rf_67_48, rf_67_49, rf_67_51, rf_67_52, rf_67_53, rf_67_54, rf_67_55, rf_67_60, rf_67_61, rf_67_62, up_s, up_b, up_j, b_56_86, k_56_86, b_56_92, k_56_92, w_sm, ↓if_pos, ↓if_neg,  hh, hs, h1, h2]
theorem sw_1 (i st may must be p N ab z1 z2 : Int) (o7 : AV) (hN : M 55 0 = N) (hp : 0 ≤ p ∧ p < N ∧ N ≤ 1045) (ha : M 58 p = ab) (h1 : and32 ab (xor32 may (-1)) = z1) (h2 : and32 ab must = z2) (hb : (0 ≤ z1 ∧ z1 ≤ 100) ∧ (0 ≤ z2 ∧ z2 ≤ 100) ∧ 0 ≤ must ∧ must ≤ 100) (k0 : ¬ (z1 = 0 ∧ z2 = must) → XL (d + 1) 56 29 [aR 15 0 53, aI i, aI st, aI may, aI must, aI be, aI (p + 1), aI ab] [] M Q) (T : z1 = 0 → z2 = must → XC d 57 [aR 15 0 53, aI p, aI i, aI st] M (fun r M1 => ∃ z : Int, r = [aI z] ∧ (z = 0 ∨ z = 1) ∧ XL (d + 1) 56 29 [aR 15 0 53, aI i, aI st, aI may, aI must, aI (if z = 1 then 1 else be), aI (p + 1), aI ab] [] M1 Q)) : XL (d + 1) 56 29 [aR 15 0 53, aI i, aI st, aI may, aI must, aI be, aI p, o7] [] M Q := by
  rw [b_56_29, k_56_29]
  by_cases c1 : z1 = 0
  · by_cases c2 : z2 = must
    · have T' := T c1 c2
      clear k0 T
      simp (disch := first | exact nl_i _ | exact nl_r _ | exact Nat.le_of_ble_eq_true rfl | exact Or.inl rfl | exact Or.inr rfl | exact w8_lo _ | exact w8_hi _ | decide | omega) only [v_fall, v_il_0, v_al_0, v_is_0, v_as_0, v_inc_0, v_ll_0, v_ls_0, v_il_1, v_al_1, v_is_1, v_as_1, v_inc_1, v_ll_1, v_ls_1, v_il_2, v_al_2, v_is_2, v_as_2, v_inc_2, v_ll_2, v_ls_2, v_il_3, v_al_3, v_is_3, v_as_3, v_inc_3, v_ll_3, v_ls_3, v_il_4, v_al_4, v_is_4, v_as_4, v_inc_4, v_ll_4, v_ls_4, v_il_5, v_al_5, v_is_5, v_as_5, v_inc_5, v_ll_5, v_ls_5, v_il_6, v_al_6, v_is_6, v_as_6, v_inc_6, v_il_7, v_al_7, v_is_7, v_as_7, v_inc_7, v_il_8, v_al_8, v_is_8, v_as_8, v_inc_8, v_il_9, v_al_9, v_is_9, v_as_9, v_inc_9, v_il_10, v_al_10, v_is_10, v_as_10, v_inc_10, v_il_11, v_al_11, v_is_11, v_as_11, v_inc_11, v_il_12, v_al_12, v_is_12, v_as_12, v_inc_12, v_il_13, v_al_13, v_is_13, v_as_13, v_inc_13, v_c_8, v_c_9, v_c_10, v_c_11, v_c_12, v_c_13, v_c_14, v_b_15, v_b_16, v_b_17, v_b_21, v_b_22, v_b_23, v_b_24, v_b_25, v_b_26, v_b_18, v_b_19, v_b_20, v_b_27, v_b_28, v_b_29, v_b_30, v_b_31, v_dup_i, v_dup_r, v_dup2, v_pop, v_gi, v_gl, v_gr, v_pi, v_pl, v_pz, v_iald, v_lald, v_bald, v_zald, v_aald, v_iast, v_last, v_bast, v_zast, v_alen_0, v_alen_1, v_alen_2, v_alen_3, v_alen_4, v_j_45, v_j_46, v_j_47, v_j_48, v_j_49, v_j_50, v_j_51, v_j_52, v_j_53, v_j_54, v_j_55, v_j_56, v_goto, v_sw, v_ret_i, v_ret_z, v_ret, v_cpy, v_iv_1, v_iv_2, v_iv_3, v_iv_4, v_iv_5, v_iv_6, v_is2_1, v_is2_2, v_is2_3, v_ivJ, List.nil_append, List.cons_append, rf_0_0, rf_0_1, rf_0_2, rf_0_3, rf_0_4, rf_0_5, rf_0_6, rf_0_7, rf_0_8, rf_0_9, rf_1_0, rf_1_2, rf_4_0, rf_4_1, rf_4_2, rf_5_8, rf_5_9, rf_5_10, rf_5_11, rf_5_12, rf_13_0, rf_13_1, rf_14_0, rf_14_1, rf_14_2, rf_15_8, rf_15_9, rf_15_10, rf_15_11, rf_15_12, rf_23_0, rf_23_1, rf_23_2, rf_24_8, rf_24_9, rf_24_10, rf_24_11, rf_24_12, rf_32_6, rf_34_0, rf_34_1, rf_34_2, rf_34_3, rf_35_8, rf_35_9, rf_35_10, rf_35_11, rf_35_12, rf_43_0, rf_43_1, rf_43_2, rf_43_3, rf_45_0, rf_45_1, rf_46_0, rf_46_1, rf_46_2, rf_46_3, rf_46_4, rf_46_5, rf_47_0, rf_47_1, rf_49_0, rf_49_1, rf_49_2, rf_49_3, rf_49_4, rf_49_5, rf_53_0, rf_53_1, rf_53_2, rf_53_3, rf_53_4, rf_53_5, rf_53_6, rf_53_7, rf_53_9, rf_53_10, rf_53_11, rf_53_12, rf_53_13, rf_54_0, rf_54_1, rf_55_1, rf_55_2, rf_55_3, rf_67_1, rf_67_6, rf_67_7, rf_67_8, rf_67_9, rf_67_10, rf_67_22, rf_67_23, rf_67_28, rf_67_30, rf_67_32, rf_67_33, rf_67_38, rf_67_39, rf_67_48, rf_67_49, rf_67_51, rf_67_52, rf_67_53, rf_67_54, rf_67_55, rf_67_60, rf_67_61, rf_67_62, up_s, up_b, up_j, b_56_86, k_56_86, b_56_92, k_56_92, w_sm, ↓if_pos, ↓if_neg,  hN, ha, h1, h2]
      refine T'.mono (fun r M1 hh => ?_)
      obtain ⟨z, rfl, rfl | rfl, hh⟩ := hh
      · rw [if_neg (by decide)] at hh
        simp (disch := first | exact nl_i _ | exact nl_r _ | exact Nat.le_of_ble_eq_true rfl | exact Or.inl rfl | exact Or.inr rfl | exact w8_lo _ | exact w8_hi _ | decide | omega) only [v_fall, v_il_0, v_al_0, v_is_0, v_as_0, v_inc_0, v_ll_0, v_ls_0, v_il_1, v_al_1, v_is_1, v_as_1, v_inc_1, v_ll_1, v_ls_1, v_il_2, v_al_2, v_is_2, v_as_2, v_inc_2, v_ll_2, v_ls_2, v_il_3, v_al_3, v_is_3, v_as_3, v_inc_3, v_ll_3, v_ls_3, v_il_4, v_al_4, v_is_4, v_as_4, v_inc_4, v_ll_4, v_ls_4, v_il_5, v_al_5, v_is_5, v_as_5, v_inc_5, v_ll_5, v_ls_5, v_il_6, v_al_6, v_is_6, v_as_6, v_inc_6, v_il_7, v_al_7, v_is_7, v_as_7, v_inc_7, v_il_8, v_al_8, v_is_8, v_as_8, v_inc_8, v_il_9, v_al_9, v_is_9, v_as_9, v_inc_9, v_il_10, v_al_10, v_is_10, v_as_10, v_inc_10, v_il_11, v_al_11, v_is_11, v_as_11, v_inc_11, v_il_12, v_al_12, v_is_12, v_as_12, v_inc_12, v_il_13, v_al_13, v_is_13, v_as_13, v_inc_13, v_c_8, v_c_9, v_c_10, v_c_11, v_c_12, v_c_13, v_c_14, v_b_15, v_b_16, v_b_17, v_b_21, v_b_22, v_b_23, v_b_24, v_b_25, v_b_26, v_b_18, v_b_19, v_b_20, v_b_27, v_b_28, v_b_29, v_b_30, v_b_31, v_dup_i, v_dup_r, v_dup2, v_pop, v_gi, v_gl, v_gr, v_pi, v_pl, v_pz, v_iald, v_lald, v_bald, v_zald, v_aald, v_iast, v_last, v_bast, v_zast, v_alen_0, v_alen_1, v_alen_2, v_alen_3, v_alen_4, v_j_45, v_j_46, v_j_47, v_j_48, v_j_49, v_j_50, v_j_51, v_j_52, v_j_53, v_j_54, v_j_55, v_j_56, v_goto, v_sw, v_ret_i, v_ret_z, v_ret, v_cpy, v_iv_1, v_iv_2, v_iv_3, v_iv_4, v_iv_5, v_iv_6, v_is2_1, v_is2_2, v_is2_3, v_ivJ, List.nil_append, List.cons_append, rf_0_0, rf_0_1, rf_0_2, rf_0_3, rf_0_4, rf_0_5, rf_0_6, rf_0_7, rf_0_8, rf_0_9, rf_1_0, rf_1_2, rf_4_0, rf_4_1, rf_4_2, rf_5_8, rf_5_9, rf_5_10, rf_5_11, rf_5_12, rf_13_0, rf_13_1, rf_14_0, rf_14_1, rf_14_2, rf_15_8, rf_15_9, rf_15_10, rf_15_11, rf_15_12, rf_23_0, rf_23_1, rf_23_2, rf_24_8, rf_24_9, rf_24_10, rf_24_11, rf_24_12, rf_32_6, rf_34_0, rf_34_1, rf_34_2, rf_34_3, rf_35_8, rf_35_9, rf_35_10, rf_35_11, rf_35_12, rf_43_0, rf_43_1, rf_43_2, rf_43_3, rf_45_0, rf_45_1, rf_46_0, rf_46_1, rf_46_2, rf_46_3, rf_46_4, rf_46_5, rf_47_0, rf_47_1, rf_49_0, rf_49_1, rf_49_2, rf_49_3, rf_49_4, rf_49_5, rf_53_0, rf_53_1, rf_53_2, rf_53_3, rf_53_4, rf_53_5, rf_53_6, rf_53_7, rf_53_9, rf_53_10, rf_53_11, rf_53_12, rf_53_13, rf_54_0, rf_54_1, rf_55_1, rf_55_2, rf_55_3, rf_67_1, rf_67_6, rf_67_7, rf_67_8, rf_67_9, rf_67_10, rf_67_22, rf_67_23, rf_67_28, rf_67_30, rf_67_32, rf_67_33, rf_67_38, rf_67_39, rf_67_48, rf_67_49, rf_67_51, rf_67_52, rf_67_53, rf_67_54, rf_67_55, rf_67_60, rf_67_61, rf_67_62, up_s, up_b, up_j, b_56_86, k_56_86, b_56_92, k_56_92, w_sm, ↓if_pos, ↓if_neg,  ]
        exact hh
      · rw [if_pos rfl] at hh
        simp (disch := first | exact nl_i _ | exact nl_r _ | exact Nat.le_of_ble_eq_true rfl | exact Or.inl rfl | exact Or.inr rfl | exact w8_lo _ | exact w8_hi _ | decide | omega) only [v_fall, v_il_0, v_al_0, v_is_0, v_as_0, v_inc_0, v_ll_0, v_ls_0, v_il_1, v_al_1, v_is_1, v_as_1, v_inc_1, v_ll_1, v_ls_1, v_il_2, v_al_2, v_is_2, v_as_2, v_inc_2, v_ll_2, v_ls_2, v_il_3, v_al_3, v_is_3, v_as_3, v_inc_3, v_ll_3, v_ls_3, v_il_4, v_al_4, v_is_4, v_as_4, v_inc_4, v_ll_4, v_ls_4, v_il_5, v_al_5, v_is_5, v_as_5, v_inc_5, v_ll_5, v_ls_5, v_il_6, v_al_6, v_is_6, v_as_6, v_inc_6, v_il_7, v_al_7, v_is_7, v_as_7, v_inc_7, v_il_8, v_al_8, v_is_8, v_as_8, v_inc_8, v_il_9, v_al_9, v_is_9, v_as_9, v_inc_9, v_il_10, v_al_10, v_is_10, v_as_10, v_inc_10, v_il_11, v_al_11, v_is_11, v_as_11, v_inc_11, v_il_12, v_al_12, v_is_12, v_as_12, v_inc_12, v_il_13, v_al_13, v_is_13, v_as_13, v_inc_13, v_c_8, v_c_9, v_c_10, v_c_11, v_c_12, v_c_13, v_c_14, v_b_15, v_b_16, v_b_17, v_b_21, v_b_22, v_b_23, v_b_24, v_b_25, v_b_26, v_b_18, v_b_19, v_b_20, v_b_27, v_b_28, v_b_29, v_b_30, v_b_31, v_dup_i, v_dup_r, v_dup2, v_pop, v_gi, v_gl, v_gr, v_pi, v_pl, v_pz, v_iald, v_lald, v_bald, v_zald, v_aald, v_iast, v_last, v_bast, v_zast, v_alen_0, v_alen_1, v_alen_2, v_alen_3, v_alen_4, v_j_45, v_j_46, v_j_47, v_j_48, v_j_49, v_j_50, v_j_51, v_j_52, v_j_53, v_j_54, v_j_55, v_j_56, v_goto, v_sw, v_ret_i, v_ret_z, v_ret, v_cpy, v_iv_1, v_iv_2, v_iv_3, v_iv_4, v_iv_5, v_iv_6, v_is2_1, v_is2_2, v_is2_3, v_ivJ, List.nil_append, List.cons_append, rf_0_0, rf_0_1, rf_0_2, rf_0_3, rf_0_4, rf_0_5, rf_0_6, rf_0_7, rf_0_8, rf_0_9, rf_1_0, rf_1_2, rf_4_0, rf_4_1, rf_4_2, rf_5_8, rf_5_9, rf_5_10, rf_5_11, rf_5_12, rf_13_0, rf_13_1, rf_14_0, rf_14_1, rf_14_2, rf_15_8, rf_15_9, rf_15_10, rf_15_11, rf_15_12, rf_23_0, rf_23_1, rf_23_2, rf_24_8, rf_24_9, rf_24_10, rf_24_11, rf_24_12, rf_32_6, rf_34_0, rf_34_1, rf_34_2, rf_34_3, rf_35_8, rf_35_9, rf_35_10, rf_35_11, rf_35_12, rf_43_0, rf_43_1, rf_43_2, rf_43_3, rf_45_0, rf_45_1, rf_46_0, rf_46_1, rf_46_2, rf_46_3, rf_46_4, rf_46_5, rf_47_0, rf_47_1, rf_49_0, rf_49_1, rf_49_2, rf_49_3, rf_49_4, rf_49_5, rf_53_0, rf_53_1, rf_53_2, rf_53_3, rf_53_4, rf_53_5, rf_53_6, rf_53_7, rf_53_9, rf_53_10, rf_53_11, rf_53_12, rf_53_13, rf_54_0, rf_54_1, rf_55_1, rf_55_2, rf_55_3, rf_67_1, rf_67_6, rf_67_7, rf_67_8, rf_67_9, rf_67_10, rf_67_22, rf_67_23, rf_67_28, rf_67_30, rf_67_32, rf_67_33, rf_67_38, rf_67_39, rf_67_48, rf_67_49, rf_67_51, rf_67_52, rf_67_53, rf_67_54, rf_67_55, rf_67_60, rf_67_61, rf_67_62, up_s, up_b, up_j, b_56_86, k_56_86, b_56_92, k_56_92, w_sm, ↓if_pos, ↓if_neg,  ]
        exact hh
    · have g := k0 (fun h => c2 h.2)
      clear k0 T
      simp (disch := first | exact nl_i _ | exact nl_r _ | exact Nat.le_of_ble_eq_true rfl | exact Or.inl rfl | exact Or.inr rfl | exact w8_lo _ | exact w8_hi _ | decide | omega) only [v_fall, v_il_0, v_al_0, v_is_0, v_as_0, v_inc_0, v_ll_0, v_ls_0, v_il_1, v_al_1, v_is_1, v_as_1, v_inc_1, v_ll_1, v_ls_1, v_il_2, v_al_2, v_is_2, v_as_2, v_inc_2, v_ll_2, v_ls_2, v_il_3, v_al_3, v_is_3, v_as_3, v_inc_3, v_ll_3, v_ls_3, v_il_4, v_al_4, v_is_4, v_as_4, v_inc_4, v_ll_4, v_ls_4, v_il_5, v_al_5, v_is_5, v_as_5, v_inc_5, v_ll_5, v_ls_5, v_il_6, v_al_6, v_is_6, v_as_6, v_inc_6, v_il_7, v_al_7, v_is_7, v_as_7, v_inc_7, v_il_8, v_al_8, v_is_8, v_as_8, v_inc_8, v_il_9, v_al_9, v_is_9, v_as_9, v_inc_9, v_il_10, v_al_10, v_is_10, v_as_10, v_inc_10, v_il_11, v_al_11, v_is_11, v_as_11, v_inc_11, v_il_12, v_al_12, v_is_12, v_as_12, v_inc_12, v_il_13, v_al_13, v_is_13, v_as_13, v_inc_13, v_c_8, v_c_9, v_c_10, v_c_11, v_c_12, v_c_13, v_c_14, v_b_15, v_b_16, v_b_17, v_b_21, v_b_22, v_b_23, v_b_24, v_b_25, v_b_26, v_b_18, v_b_19, v_b_20, v_b_27, v_b_28, v_b_29, v_b_30, v_b_31, v_dup_i, v_dup_r, v_dup2, v_pop, v_gi, v_gl, v_gr, v_pi, v_pl, v_pz, v_iald, v_lald, v_bald, v_zald, v_aald, v_iast, v_last, v_bast, v_zast, v_alen_0, v_alen_1, v_alen_2, v_alen_3, v_alen_4, v_j_45, v_j_46, v_j_47, v_j_48, v_j_49, v_j_50, v_j_51, v_j_52, v_j_53, v_j_54, v_j_55, v_j_56, v_goto, v_sw, v_ret_i, v_ret_z, v_ret, v_cpy, v_iv_1, v_iv_2, v_iv_3, v_iv_4, v_iv_5, v_iv_6, v_is2_1, v_is2_2, v_is2_3, v_ivJ, List.nil_append, List.cons_append, rf_0_0, rf_0_1, rf_0_2, rf_0_3, rf_0_4, rf_0_5, rf_0_6, rf_0_7, rf_0_8, rf_0_9, rf_1_0, rf_1_2, rf_4_0, rf_4_1, rf_4_2, rf_5_8, rf_5_9, rf_5_10, rf_5_11, rf_5_12, rf_13_0, rf_13_1, rf_14_0, rf_14_1, rf_14_2, rf_15_8, rf_15_9, rf_15_10, rf_15_11, rf_15_12, rf_23_0, rf_23_1, rf_23_2, rf_24_8, rf_24_9, rf_24_10, rf_24_11, rf_24_12, rf_32_6, rf_34_0, rf_34_1, rf_34_2, rf_34_3, rf_35_8, rf_35_9, rf_35_10, rf_35_11, rf_35_12, rf_43_0, rf_43_1, rf_43_2, rf_43_3, rf_45_0, rf_45_1, rf_46_0, rf_46_1, rf_46_2, rf_46_3, rf_46_4, rf_46_5, rf_47_0, rf_47_1, rf_49_0, rf_49_1, rf_49_2, rf_49_3, rf_49_4, rf_49_5, rf_53_0, rf_53_1, rf_53_2, rf_53_3, rf_53_4, rf_53_5, rf_53_6, rf_53_7, rf_53_9, rf_53_10, rf_53_11, rf_53_12, rf_53_13, rf_54_0, rf_54_1, rf_55_1, rf_55_2, rf_55_3, rf_67_1, rf_67_6, rf_67_7, rf_67_8, rf_67_9, rf_67_10, rf_67_22, rf_67_23, rf_67_28, rf_67_30, rf_67_32, rf_67_33, rf_67_38, rf_67_39, rf_67_48, rf_67_49, rf_67_51, rf_67_52, rf_67_53, rf_67_54, rf_67_55, rf_67_60, rf_67_61, rf_67_62, up_s, up_b, up_j, b_56_86, k_56_86, b_56_92, k_56_92, w_sm, ↓if_pos, ↓if_neg,  hN, ha, h1, h2]
      exact g
  · have g := k0 (fun h => c1 h.1)
    clear k0 T
    simp (disch := first | exact nl_i _ | exact nl_r _ | exact Nat.le_of_ble_eq_true rfl | exact Or.inl rfl | exact Or.inr rfl | exact w8_lo _ | exact w8_hi _ | decide | omega) only [v_fall, v_il_0, v_al_0, v_is_0, v_as_0, v_inc_0, v_ll_0, v_ls_0, v_il_1, v_al_1, v_is_1, v_as_1, v_inc_1, v_ll_1, v_ls_1, v_il_2, v_al_2, v_is_2, v_as_2, v_inc_2, v_ll_2, v_ls_2, v_il_3, v_al_3, v_is_3, v_as_3, v_inc_3, v_ll_3, v_ls_3, v_il_4, v_al_4, v_is_4, v_as_4, v_inc_4, v_ll_4, v_ls_4, v_il_5, v_al_5, v_is_5, v_as_5, v_inc_5, v_ll_5, v_ls_5, v_il_6, v_al_6, v_is_6, v_as_6, v_inc_6, v_il_7, v_al_7, v_is_7, v_as_7, v_inc_7, v_il_8, v_al_8, v_is_8, v_as_8, v_inc_8, v_il_9, v_al_9, v_is_9, v_as_9, v_inc_9, v_il_10, v_al_10, v_is_10, v_as_10, v_inc_10, v_il_11, v_al_11, v_is_11, v_as_11, v_inc_11, v_il_12, v_al_12, v_is_12, v_as_12, v_inc_12, v_il_13, v_al_13, v_is_13, v_as_13, v_inc_13, v_c_8, v_c_9, v_c_10, v_c_11, v_c_12, v_c_13, v_c_14, v_b_15, v_b_16, v_b_17, v_b_21, v_b_22, v_b_23, v_b_24, v_b_25, v_b_26, v_b_18, v_b_19, v_b_20, v_b_27, v_b_28, v_b_29, v_b_30, v_b_31, v_dup_i, v_dup_r, v_dup2, v_pop, v_gi, v_gl, v_gr, v_pi, v_pl, v_pz, v_iald, v_lald, v_bald, v_zald, v_aald, v_iast, v_last, v_bast, v_zast, v_alen_0, v_alen_1, v_alen_2, v_alen_3, v_alen_4, v_j_45, v_j_46, v_j_47, v_j_48, v_j_49, v_j_50, v_j_51, v_j_52, v_j_53, v_j_54, v_j_55, v_j_56, v_goto, v_sw, v_ret_i, v_ret_z, v_ret, v_cpy, v_iv_1, v_iv_2, v_iv_3, v_iv_4, v_iv_5, v_iv_6, v_is2_1, v_is2_2, v_is2_3, v_ivJ, List.nil_append, List.cons_append, rf_0_0, rf_0_1, rf_0_2, rf_0_3, rf_0_4, rf_0_5, rf_0_6, rf_0_7, rf_0_8, rf_0_9, rf_1_0, rf_1_2, rf_4_0, rf_4_1, rf_4_2, rf_5_8, rf_5_9, rf_5_10, rf_5_11, rf_5_12, rf_13_0, rf_13_1, rf_14_0, rf_14_1, rf_14_2, rf_15_8, rf_15_9, rf_15_10, rf_15_11, rf_15_12, rf_23_0, rf_23_1, rf_23_2, rf_24_8, rf_24_9, rf_24_10, rf_24_11, rf_24_12, rf_32_6, rf_34_0, rf_34_1, rf_34_2, rf_34_3, rf_35_8, rf_35_9, rf_35_10, rf_35_11, rf_35_12, rf_43_0, rf_43_1, rf_43_2, rf_43_3, rf_45_0, rf_45_1, rf_46_0, rf_46_1, rf_46_2, rf_46_3, rf_46_4, rf_46_5, rf_47_0, rf_47_1, rf_49_0, rf_49_1, rf_49_2, rf_49_3, rf_49_4, rf_49_5, rf_53_0, rf_53_1, rf_53_2, rf_53_3, rf_53_4, rf_53_5, rf_53_6, rf_53_7, rf_53_9, rf_53_10, rf_53_11, rf_53_12, rf_53_13, rf_54_0, rf_54_1, rf_55_1, rf_55_2, rf_55_3, rf_67_1, rf_67_6, rf_67_7, rf_67_8, rf_67_9, rf_67_10, rf_67_22, rf_67_23, rf_67_28, rf_67_30, rf_67_32, rf_67_33, rf_67_38, rf_67_39, rf_67_48, rf_67_49, rf_67_51, rf_67_52, rf_67_53, rf_67_54, rf_67_55, rf_67_60, rf_67_61, rf_67_62, up_s, up_b, up_j, b_56_86, k_56_86, b_56_92, k_56_92, w_sm, ↓if_pos, ↓if_neg,  hN, ha, h1]
    exact g
theorem sw_2 (i st may must be N : Int) (o7 : AV) (hN : M 55 0 = N) (hNb : 0 ≤ N ∧ N ≤ 1045) (hbe : be = 0 ∨ be = 1) : XL d 56 29 [aR 15 0 53, aI i, aI st, aI may, aI must, aI be, aI N, o7] [] M Q ↔ Q [aI be] M := by
  rw [b_56_29, k_56_29]
  rcases hbe with rfl | rfl
  · simp (disch := first | exact nl_i _ | exact nl_r _ | exact Nat.le_of_ble_eq_true rfl | exact Or.inl rfl | exact Or.inr rfl | exact w8_lo _ | exact w8_hi _ | decide | omega) only [v_fall, v_il_0, v_al_0, v_is_0, v_as_0, v_inc_0, v_ll_0, v_ls_0, v_il_1, v_al_1, v_is_1, v_as_1, v_inc_1, v_ll_1, v_ls_1, v_il_2, v_al_2, v_is_2, v_as_2, v_inc_2, v_ll_2, v_ls_2, v_il_3, v_al_3, v_is_3, v_as_3, v_inc_3, v_ll_3, v_ls_3, v_il_4, v_al_4, v_is_4, v_as_4, v_inc_4, v_ll_4, v_ls_4, v_il_5, v_al_5, v_is_5, v_as_5, v_inc_5, v_ll_5, v_ls_5, v_il_6, v_al_6, v_is_6, v_as_6, v_inc_6, v_il_7, v_al_7, v_is_7, v_as_7, v_inc_7, v_il_8, v_al_8, v_is_8, v_as_8, v_inc_8, v_il_9, v_al_9, v_is_9, v_as_9, v_inc_9, v_il_10, v_al_10, v_is_10, v_as_10, v_inc_10, v_il_11, v_al_11, v_is_11, v_as_11, v_inc_11, v_il_12, v_al_12, v_is_12, v_as_12, v_inc_12, v_il_13, v_al_13, v_is_13, v_as_13, v_inc_13, v_c_8, v_c_9, v_c_10, v_c_11, v_c_12, v_c_13, v_c_14, v_b_15, v_b_16, v_b_17, v_b_21, v_b_22, v_b_23, v_b_24, v_b_25, v_b_26, v_b_18, v_b_19, v_b_20, v_b_27, v_b_28, v_b_29, v_b_30, v_b_31, v_dup_i, v_dup_r, v_dup2, v_pop, v_gi, v_gl, v_gr, v_pi, v_pl, v_pz, v_iald, v_lald, v_bald, v_zald, v_aald, v_iast, v_last, v_bast, v_zast, v_alen_0, v_alen_1, v_alen_2, v_alen_3, v_alen_4, v_j_45, v_j_46, v_j_47, v_j_48, v_j_49, v_j_50, v_j_51, v_j_52, v_j_53, v_j_54, v_j_55, v_j_56, v_goto, v_sw, v_ret_i, v_ret_z, v_ret, v_cpy, v_iv_1, v_iv_2, v_iv_3, v_iv_4, v_iv_5, v_iv_6, v_is2_1, v_is2_2, v_is2_3, v_ivJ, List.nil_append, List.cons_append, rf_0_0, rf_0_1, rf_0_2, rf_0_3, rf_0_4, rf_0_5, rf_0_6, rf_0_7, rf_0_8, rf_0_9, rf_1_0, rf_1_2, rf_4_0, rf_4_1, rf_4_2, rf_5_8, rf_5_9, rf_5_10, rf_5_11, rf_5_12, rf_13_0, rf_13_1, rf_14_0, rf_14_1, rf_14_2, rf_15_8, rf_15_9, rf_15_10, rf_15_11, rf_15_12, rf_23_0, rf_23_1, rf_23_2, rf_24_8, rf_24_9, rf_24_10, rf_24_11, rf_24_12, rf_32_6, rf_34_0, rf_34_1, rf_34_2, rf_34_3, rf_35_8, rf_35_9, rf_35_10, rf_35_11, rf_35_12, rf_43_0, rf_43_1, rf_43_2, rf_43_3, rf_45_0, rf_45_1, rf_46_0, rf_46_1, rf_46_2, rf_46_3, rf_46_4, rf_46_5, rf_47_0, rf_47_1, rf_49_0, rf_49_1, rf_49_2, rf_49_3, rf_49_4, rf_49_5, rf_53_0, rf_53_1, rf_53_2, rf_53_3, rf_53_4, rf_53_5, rf_53_6, rf_53_7, rf_53_9, rf_53_10, rf_53_11, rf_53_12, rf_53_13, rf_54_0, rf_54_1, rf_55_1, rf_55_2, rf_55_3, rf_67_1, rf_67_6, rf_67_7, rf_67_8, rf_67_9, rf_67_10, rf_67_22, rf_67_23, rf_67_28, rf_67_30, rf_67_32, rf_67_33, rf_67_38, rf_67_39, rf_67_48, rf_67_49, rf_67_51, rf_67_52, rf_67_53, rf_67_54, rf_67_55, rf_67_60, rf_67_61, rf_67_62, up_s, up_b, up_j, b_56_86, k_56_86, b_56_92, k_56_92, w_sm, ↓if_pos, ↓if_neg,  hN]
  · simp (disch := first | exact nl_i _ | exact nl_r _ | exact Nat.le_of_ble_eq_true rfl | exact Or.inl rfl | exact Or.inr rfl | exact w8_lo _ | exact w8_hi _ | decide | omega) only [v_fall, v_il_0, v_al_0, v_is_0, v_as_0, v_inc_0, v_ll_0, v_ls_0, v_il_1, v_al_1, v_is_1, v_as_1, v_inc_1, v_ll_1, v_ls_1, v_il_2, v_al_2, v_is_2, v_as_2, v_inc_2, v_ll_2, v_ls_2, v_il_3, v_al_3, v_is_3, v_as_3, v_inc_3, v_ll_3, v_ls_3, v_il_4, v_al_4, v_is_4, v_as_4, v_inc_4, v_ll_4, v_ls_4, v_il_5, v_al_5, v_is_5, v_as_5, v_inc_5, v_ll_5, v_ls_5, v_il_6, v_al_6, v_is_6, v_as_6, v_inc_6, v_il_7, v_al_7, v_is_7, v_as_7, v_inc_7, v_il_8, v_al_8, v_is_8, v_as_8, v_inc_8, v_il_9, v_al_9, v_is_9, v_as_9, v_inc_9, v_il_10, v_al_10, v_is_10, v_as_10, v_inc_10, v_il_11, v_al_11, v_is_11, v_as_11, v_inc_11, v_il_12, v_al_12, v_is_12, v_as_12, v_inc_12, v_il_13, v_al_13, v_is_13, v_as_13, v_inc_13, v_c_8, v_c_9, v_c_10, v_c_11, v_c_12, v_c_13, v_c_14, v_b_15, v_b_16, v_b_17, v_b_21, v_b_22, v_b_23, v_b_24, v_b_25, v_b_26, v_b_18, v_b_19, v_b_20, v_b_27, v_b_28, v_b_29, v_b_30, v_b_31, v_dup_i, v_dup_r, v_dup2, v_pop, v_gi, v_gl, v_gr, v_pi, v_pl, v_pz, v_iald, v_lald, v_bald, v_zald, v_aald, v_iast, v_last, v_bast, v_zast, v_alen_0, v_alen_1, v_alen_2, v_alen_3, v_alen_4, v_j_45, v_j_46, v_j_47, v_j_48, v_j_49, v_j_50, v_j_51, v_j_52, v_j_53, v_j_54, v_j_55, v_j_56, v_goto, v_sw, v_ret_i, v_ret_z, v_ret, v_cpy, v_iv_1, v_iv_2, v_iv_3, v_iv_4, v_iv_5, v_iv_6, v_is2_1, v_is2_2, v_is2_3, v_ivJ, List.nil_append, List.cons_append, rf_0_0, rf_0_1, rf_0_2, rf_0_3, rf_0_4, rf_0_5, rf_0_6, rf_0_7, rf_0_8, rf_0_9, rf_1_0, rf_1_2, rf_4_0, rf_4_1, rf_4_2, rf_5_8, rf_5_9, rf_5_10, rf_5_11, rf_5_12, rf_13_0, rf_13_1, rf_14_0, rf_14_1, rf_14_2, rf_15_8, rf_15_9, rf_15_10, rf_15_11, rf_15_12, rf_23_0, rf_23_1, rf_23_2, rf_24_8, rf_24_9, rf_24_10, rf_24_11, rf_24_12, rf_32_6, rf_34_0, rf_34_1, rf_34_2, rf_34_3, rf_35_8, rf_35_9, rf_35_10, rf_35_11, rf_35_12, rf_43_0, rf_43_1, rf_43_2, rf_43_3, rf_45_0, rf_45_1, rf_46_0, rf_46_1, rf_46_2, rf_46_3, rf_46_4, rf_46_5, rf_47_0, rf_47_1, rf_49_0, rf_49_1, rf_49_2, rf_49_3, rf_49_4, rf_49_5, rf_53_0, rf_53_1, rf_53_2, rf_53_3, rf_53_4, rf_53_5, rf_53_6, rf_53_7, rf_53_9, rf_53_10, rf_53_11, rf_53_12, rf_53_13, rf_54_0, rf_54_1, rf_55_1, rf_55_2, rf_55_3, rf_67_1, rf_67_6, rf_67_7, rf_67_8, rf_67_9, rf_67_10, rf_67_22, rf_67_23, rf_67_28, rf_67_30, rf_67_32, rf_67_33, rf_67_38, rf_67_39, rf_67_48, rf_67_49, rf_67_51, rf_67_52, rf_67_53, rf_67_54, rf_67_55, rf_67_60, rf_67_61, rf_67_62, up_s, up_b, up_j, b_56_86, k_56_86, b_56_92, k_56_92, w_sm, ↓if_pos, ↓if_neg,  hN]
variable {m : Nat} {cm lv : Nat → Int} {st : Int} {len here stay : Nat} {f : Nat → Nat} {A : Nat → Int}
/-- the RAFTS of others that are looked at -/
def flt (m : Nat) (cm lv : Nat → Int) (st : Int) (i p : Nat) : Prop := dg p i = 0 ∧ ∀ j, j < m → (dg p j ≠ 0 → j ≠ i ∧ cm j ≤ st ∧ st ≤ lv j) ∧ (j ≠ i → cm j < st → st < lv j → dg p j ≠ 0)
theorem flt_b (hB : Bs w l m cm lv st M0 len f here stay) {i p : Nat} (hi : i < m) (hp : vcd m (w * l) p) : (andN (an p) (andN here (2 ^ i)) = 0 ∧ an p &&& andN stay (2 ^ i) = andN stay (2 ^ i)) ↔ flt m cm lv st i p := by
  obtain ⟨b1, b2, b3, b4, b5, b6, b7, b8, b9, b10, b11, b12, b13, b14, b15, b16⟩ := hB
  have mt : ∀ j, (andN here (2 ^ i)).testBit j = true ↔ here.testBit j = true ∧ j ≠ i := fun j => by
    rw [andN_t, Nat.testBit_two_pow, Bool.and_eq_true, Bool.not_eq_true', decide_eq_false_iff_not]
    exact ⟨fun h => ⟨h.1, fun e => h.2 e.symm⟩, fun h => ⟨h.1, fun e => h.2 e.symm⟩⟩
  have ut : ∀ j, (andN stay (2 ^ i)).testBit j = true ↔ stay.testBit j = true ∧ j ≠ i := fun j => by
    rw [andN_t, Nat.testBit_two_pow, Bool.and_eq_true, Bool.not_eq_true', decide_eq_false_iff_not]
    exact ⟨fun h => ⟨h.1, fun e => h.2 e.symm⟩, fun h => ⟨h.1, fun e => h.2 e.symm⟩⟩
  have lt : ∀ {x j : Nat}, x < 2 ^ m → x.testBit j = true → j < m := fun {x j} hx hj => by
    apply Classical.byContradiction
    intro h9
    rw [tb_hi hx (by omega)] at hj
    exact absurd hj (by decide)
  constructor
  · rintro ⟨h1, h2⟩
    have h1' : ∀ j, (an p).testBit j = true → here.testBit j = true ∧ j ≠ i := fun j hj => by
      apply (mt j).mp
      have := andN_t (an p) (andN here (2 ^ i)) j
      rw [h1, Nat.zero_testBit, hj, Bool.true_and] at this
      cases hx : (andN here (2 ^ i)).testBit j
      · rw [hx] at this; exact absurd this (by decide)
      · rfl
    have h2' : ∀ j, stay.testBit j = true → j ≠ i → (an p).testBit j = true := fun j hj hne => by
      have h3 := (ut j).mpr ⟨hj, hne⟩
      rw [← h2, Nat.testBit_and, Bool.and_eq_true] at h3
      exact h3.1
    refine ⟨?_, fun j hj => ⟨fun hd => ?_, fun hne c1 c2 => ?_⟩⟩
    · apply Classical.byContradiction
      intro h9
      exact (h1' i (an_t.mpr ⟨by omega, h9⟩)).2 rfl
    · have h3 := h1' j (an_t.mpr ⟨by omega, hd⟩)
      exact ⟨h3.2, (b14 j hj).1.mp h3.1⟩
    · exact (an_t.mp (h2' j ((b14 j hj).2.mpr ⟨c1, c2⟩) hne)).2
  · rintro ⟨h1, h2⟩
    refine ⟨?_, ?_⟩
    · apply Nat.eq_of_testBit_eq
      intro j
      rw [andN_t, Nat.zero_testBit]
      cases hx : (an p).testBit j
      · rfl
      · obtain ⟨q1, q2⟩ := an_t.mp hx
        have hj : j < m := by
          apply Classical.byContradiction
          intro h9
          exact q2 (hp.2.1 j q1 (by omega))
        have q3 := (h2 j hj).1 q2
        rw [(mt j).mpr ⟨(b14 j hj).1.mpr q3.2, q3.1⟩]
        rfl
    · apply Nat.eq_of_testBit_eq
      intro j
      rw [Nat.testBit_and]
      cases hx : (andN stay (2 ^ i)).testBit j
      · rw [Bool.and_false]
      · obtain ⟨q1, q2⟩ := (ut j).mp hx
        have hj := lt b13 q1
        have q3 := (b14 j hj).2.mp q1
        rw [an_t.mpr ⟨by omega, (h2 j hj).2 q2 q3.1 q3.2⟩]
        rfl
theorem sw_l (hB : Bs w l m cm lv st M0 len f here stay) (hO : okW m (w * l) cm lv st (tkS w l (M0 5) (M0 6) st) A) {i : Nat} (hi : i < m) (S0 : Nat → Int) (kk : ∀ M' z, AgX (fun b _ => b = 66) M0 M' → (z = 0 ∧ rdy M' = S0 ∨ z = 1 ∧ ∃ c, rdy M' c < S0 c) → (∀ c, rdy M' c ≤ S0 c) → sndS m (w * l) cm lv st (tkS w l (M0 5) (M0 6) st) A (rdy M') → (∀ a, a < len → flt m cm lv st i (f a) → tgt (w * l) cm lv st (tkS w l (M0 5) (M0 6) st) (rdy M') (f a) i) → Q [aI z] M') : ∀ (t a : Nat) (M : Mem) (z : Int) (o7 : AV), a + t = len → AgX (fun b _ => b = 66) M0 M → (z = 0 ∧ rdy M = S0 ∨ z = 1 ∧ ∃ c, rdy M c < S0 c) → (∀ c, rdy M c ≤ S0 c) → sndS m (w * l) cm lv st (tkS w l (M0 5) (M0 6) st) A (rdy M) → (∀ a', a' < a → flt m cm lv st i (f a') → tgt (w * l) cm lv st (tkS w l (M0 5) (M0 6) st) (rdy M) (f a') i) → XL (d + 2) 56 29 [aR 15 0 53, aI (i : Int), aI st, aI ((andN here (2 ^ i) : Nat) : Int), aI ((andN stay (2 ^ i) : Nat) : Int), aI z, aI (a : Int), o7] [] M Q
  | 0, a, M, z, o7, h, hA, hz, hle, hS, hT => by
    have e : a = len := by omega
    rw [e] at hT ⊢
    have hl := hB.2.2.2.2.2.1.2.1
    rw [sw_2 (i : Int) st _ _ z (len : Int) o7 ((hA 55 0 (by simp)).trans hB.2.2.2.2.2.1.1.1) ⟨by omega, by omega⟩ (by rcases hz with ⟨h9, -⟩ | ⟨h9, -⟩; exact Or.inl h9; exact Or.inr h9)]
    exact kk M z hA hz hle hS hT
  | t + 1, a, M, z, o7, h, hA, hz, hle, hS, hT => by
    have hF := hB.2.2.2.2.2.1
    have hl := hF.2.1
    have hp := hF.2.2.1 a (by omega)
    have ea := (hF.1.2.1 a (by omega)).2.2
    have m4 := hO.1
    have al : an (f a) < 2 ^ 4 := setN_lt _
    have hh : here < 2 ^ 4 := Nat.lt_of_lt_of_le hB.2.2.2.2.2.2.2.2.2.2.2.1 (Nat.pow_le_pow_right (by decide) m4)
    have hs : stay < 2 ^ 4 := Nat.lt_of_lt_of_le hB.2.2.2.2.2.2.2.2.2.2.2.2.1 (Nat.pow_le_pow_right (by decide) m4)
    have n1 : andN here (2 ^ i) < 2 ^ 4 := andN_lt hh
    have n2 : andN stay (2 ^ i) < 2 ^ 4 := andN_lt hs
    have n3 : andN (an (f a)) (andN here (2 ^ i)) < 2 ^ 4 := andN_lt al
    have n4 : an (f a) &&& andN stay (2 ^ i) < 2 ^ 4 := Nat.lt_of_le_of_lt Nat.and_le_left al
    have rec9 := sw_l hB hO hi S0 kk t (a + 1)
    have FB := flt_b hB hi hp
    have cI : ∀ x y : Nat, (x : Int) = (y : Int) → x = y := fun x y h => by omega
    refine sw_1 (d := d + 1) (i : Int) st _ _ z (a : Int) (len : Int) ((an (f a) : Nat) : Int) _ _ o7 ((hA 55 0 (by simp)).trans hF.1.1) ⟨by omega, by omega, by omega⟩ ((hA 58 _ (by simp)).trans ea) (andn32 _ _ (by omega) (by omega)) (and_nat _ _ (by omega) (by omega)) ⟨⟨by omega, by omega⟩, ⟨by omega, by omega⟩, by omega, by omega⟩ (fun hno => ?_) (fun h1 h2 => ?_)
    · have g := rec9 M z (aI ((an (f a) : Nat) : Int)) (by omega) hA hz hle hS (fun a' ha' hf => by
        by_cases e : a' = a
        · rw [e] at hf
          have := FB.mpr hf
          exact absurd ⟨by rw [this.1]; rfl, by rw [this.2]⟩ hno
        · exact hT a' (by omega) hf)
      rw [Int.natCast_add] at g
      exact g
    · have hf : flt m cm lv st i (f a) := FB.mp ⟨by have := cI _ 0 h1; exact this, cI _ _ h2⟩
      refine s_move (d := d) hB hO hA hS (show a < len by omega) hi hf.1 (fun M' hA' hr => ?_)
      have sp := mvE_sp hO hi hp hf.1 hS _ rfl
      rw [← hr] at sp
      obtain ⟨s1, s2, s3, s4, s5⟩ := sp
      refine ⟨_, rfl, by rcases s1 with ⟨h9, -⟩ | ⟨h9, -⟩; exact Or.inl h9; exact Or.inr h9, ?_⟩
      have hz2 : ((if (mvE (w * l) cm lv st (tkS w l (M0 5) (M0 6) st) (rdy M) (f a) i).2 = 1 then 1 else z) = 0 ∧ rdy M' = S0 ∨ (if (mvE (w * l) cm lv st (tkS w l (M0 5) (M0 6) st) (rdy M) (f a) i).2 = 1 then 1 else z) = 1 ∧ ∃ c, rdy M' c < S0 c) := by
        rcases s1 with ⟨h9, h8⟩ | ⟨h9, c, h8⟩
        · rw [h9, if_neg (by decide), h8]; exact hz
        · rw [h9, if_pos rfl]
          exact Or.inr ⟨rfl, c, by have := hle c; omega⟩
      have g := rec9 M' _ (aI ((an (f a) : Nat) : Int)) (by omega) hA' hz2 (fun c => by have := s2 c; have := hle c; omega) s3 (fun a' ha' hf' => by
        by_cases e : a' = a
        · rw [e]; exact s4
        · refine tgt_cg (S := rdy M) (by omega) hB.2.1 hf'.1 (hT a' (by omega) hf') (fun c hc => s5 c (fun h9 => e ?_))
          exact hF.1.2.2 a' a (by omega) (by omega) (by rw [← hc, h9]))
      rw [Int.natCast_add] at g
      exact g
theorem s_sweep (hB : Bs w l m cm lv st M0 len f here stay) (hO : okW m (w * l) cm lv st (tkS w l (M0 5) (M0 6) st) A) (hA : AgX (fun b _ => b = 66) M0 M) (hS : sndS m (w * l) cm lv st (tkS w l (M0 5) (M0 6) st) A (rdy M)) {i : Nat} (hi : i < m) (kk : ∀ M' z, AgX (fun b _ => b = 66) M0 M' → (z = 0 ∧ rdy M' = rdy M ∨ z = 1 ∧ ∃ c, rdy M' c < rdy M c) → (∀ c, rdy M' c ≤ rdy M c) → sndS m (w * l) cm lv st (tkS w l (M0 5) (M0 6) st) A (rdy M') → cloS (w * l) cm lv st (tkS w l (M0 5) (M0 6) st) (rdy M') i → Q [aI z] M') : XC (d + 2) 56 [aR 15 0 53, aI (i : Int), aI st] M Q := by
  have m4 := hO.1
  have hF := hB.2.2.2.2.2.1
  have hh : here < 2 ^ 4 := Nat.lt_of_lt_of_le hB.2.2.2.2.2.2.2.2.2.2.2.1 (Nat.pow_le_pow_right (by decide) m4)
  have hs : stay < 2 ^ 4 := Nat.lt_of_lt_of_le hB.2.2.2.2.2.2.2.2.2.2.2.2.1 (Nat.pow_le_pow_right (by decide) m4)
  have p2 : (2 : Nat) ^ i ≤ 2 ^ 4 := Nat.pow_le_pow_right (by decide) (by omega)
  have e1 : and32 (here : Int) (xor32 (shl32 1 (i : Int)) (-1)) = ((andN here (2 ^ i) : Nat) : Int) := by rw [shl_1 i (by omega), andn32 _ _ (by omega) (by omega)]
  have e2 : and32 (stay : Int) (xor32 (shl32 1 (i : Int)) (-1)) = ((andN stay (2 ^ i) : Nat) : Int) := by rw [shl_1 i (by omega), andn32 _ _ (by omega) (by omega)]
  rw [sw_0 (d := d + 2) (i : Int) st (here : Int) (stay : Int) _ _ ⟨by omega, by omega⟩ ((hA 53 14 (by simp)).trans hB.2.2.2.2.2.2.2.2.2.1) ((hA 53 15 (by simp)).trans hB.2.2.2.2.2.2.2.2.2.2.1) e1 e2]
  exact sw_l (d := d) (Q := Q) hB hO hi (rdy M) (fun M' z hA' hz hle hS' hT => kk M' z hA' hz hle hS' (cloS_of hO hi hS' (fun p hv hd hfl => by
    obtain ⟨a, a1, a2⟩ := hF.2.2.2 p hv
    have := hT a a1 (by rw [a2]; exact ⟨hd, hfl⟩)
    rw [a2] at this
    exact this))) len 0 M 0 aU (by omega) hA (Or.inl ⟨rfl, rfl⟩) (fun c => Int.le_refl _) hS (fun a' ha' => absurd ha' (Nat.not_lt_zero a'))
end SW
