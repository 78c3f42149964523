/-! SOUND on the reference's side -/
section MS
variable {d : Nat} {M : Mem} {Q : List AV → Mem → Prop}
/-- no BARGE's number is too high -/
def gB9 (M : Mem) : Prop := ∀ j, 0 ≤ j → j < 24 → 0 ≤ M 74 j ∧ M 74 j ≤ 9
theorem gB9.b (h : gB9 M) : gB M := fun j h0 h1 => by have := h j h0 h1; omega
theorem so_0 (fi al k n a : Int) (o4 o5 o6 : AV) (hk : 0 ≤ k ∧ k < n ∧ n ≤ 24) (p0 : ∀ Q', XC d 167 [aR 22 0 67] M Q' ↔ Q' [aI n] M) (ha : M 74 k = a) (hab : 0 ≤ a ∧ a ≤ 9) (hfb : -1 ≤ fi ∧ fi < 24) : XL (d + 1) 178 6 [aR 22 0 67, aI fi, aI al, aI k, o4, o5, o6] [] M Q ↔ XL (d + 1) 178 60 [aR 22 0 67, aI (if fi < 0 ∧ 0 < a then k else fi), aI (al + (if 0 < a then 1 else 0)), aI k, aI 0, o5, o6] [] (up M 77 k 0) Q := by
  have e1 : w32 k = k := w_sm (by omega)
  have e2 : w32 n = n := w_sm (by omega)
  have e3 : w32 a = a := w_sm (by omega)
  have e4 : w32 fi = fi := w_sm (by omega)
  have h0 : 0 ≤ k := hk.1
  have h1 : k < ((24 : Nat) : Int) := by omega
  have ha' : up M 77 k 0 74 k = a := (up_b (by decide)).trans ha
  rw [b_178_6, k_178_6]
  by_cases c1 : 0 < a
  · by_cases c2 : fi < 0
    · rw [if_pos ⟨c2, c1⟩, if_pos c1]
      simp (disch := first | exact nl_i _ | exact nl_r _ | exact Nat.le_of_ble_eq_true rfl | exact Or.inl rfl | exact Or.inr rfl | exact w8_lo _ | exact w8_hi _ | decide | omega) only [v_fall, v_il_0, v_al_0, v_is_0, v_as_0, v_inc_0, v_ll_0, v_ls_0, v_il_1, v_al_1, v_is_1, v_as_1, v_inc_1, v_ll_1, v_ls_1, v_il_2, v_al_2, v_is_2, v_as_2, v_inc_2, v_ll_2, v_ls_2, v_il_3, v_al_3, v_is_3, v_as_3, v_inc_3, v_ll_3, v_ls_3, v_il_4, v_al_4, v_is_4, v_as_4, v_inc_4, v_ll_4, v_ls_4, v_il_5, v_al_5, v_is_5, v_as_5, v_inc_5, v_ll_5, v_ls_5, v_il_6, v_al_6, v_is_6, v_as_6, v_inc_6, v_il_7, v_al_7, v_is_7, v_as_7, v_inc_7, v_il_8, v_al_8, v_is_8, v_as_8, v_inc_8, v_il_9, v_al_9, v_is_9, v_as_9, v_inc_9, v_il_10, v_al_10, v_is_10, v_as_10, v_inc_10, v_il_11, v_al_11, v_is_11, v_as_11, v_inc_11, v_il_12, v_al_12, v_is_12, v_as_12, v_inc_12, v_il_13, v_al_13, v_is_13, v_as_13, v_inc_13, v_c_8, v_c_9, v_c_10, v_c_11, v_c_12, v_c_13, v_c_14, v_b_15, v_b_16, v_b_17, v_b_21, v_b_22, v_b_23, v_b_24, v_b_25, v_b_26, v_b_18, v_b_19, v_b_20, v_b_27, v_b_28, v_b_29, v_b_30, v_b_31, v_dup_i, v_dup_r, v_dup2, v_pop, v_gi, v_gl, v_gr, v_pi, v_pl, v_pz, v_iald, v_lald, v_bald, v_zald, v_aald, v_iast, v_last, v_bast, v_zast, v_alen_0, v_alen_1, v_alen_2, v_alen_3, v_alen_4, v_j_45, v_j_46, v_j_47, v_j_48, v_j_49, v_j_50, v_j_51, v_j_52, v_j_53, v_j_54, v_j_55, v_j_56, v_goto, v_sw, v_ret_i, v_ret_z, v_ret, v_cpy, v_iv_1, v_iv_2, v_iv_3, v_iv_4, v_iv_5, v_iv_6, v_is2_1, v_is2_2, v_is2_3, v_ivJ, List.nil_append, List.cons_append, rf_0_0, rf_0_1, rf_0_2, rf_0_3, rf_0_4, rf_0_5, rf_0_6, rf_0_7, rf_0_8, rf_0_9, rf_1_0, rf_1_2, rf_4_0, rf_4_1, rf_4_2, rf_5_8, rf_5_9, rf_5_10, rf_5_11, rf_5_12, rf_13_0, rf_13_1, rf_14_0, rf_14_1, rf_14_2, rf_15_8, rf_15_9, rf_15_10, rf_15_11, rf_15_12, rf_23_0, rf_23_1, rf_23_2, rf_24_8, rf_24_9, rf_24_10, rf_24_11, rf_24_12, rf_32_6, rf_34_0, rf_34_1, rf_34_2, rf_34_3, rf_35_8, rf_35_9, rf_35_10, rf_35_11, rf_35_12, rf_43_0, rf_43_1, rf_43_2, rf_43_3, rf_45_0, rf_45_1, rf_46_0, rf_46_1, rf_46_2, rf_46_3, rf_46_4, rf_46_5, rf_47_0, rf_47_1, rf_49_0, rf_49_1, rf_49_2, rf_49_3, rf_49_4, rf_49_5, rf_53_0, rf_53_1, rf_53_2, rf_53_3, rf_53_4, rf_53_5, rf_53_6, rf_53_7, rf_53_9, rf_53_10, rf_53_11, rf_53_12, rf_53_13, rf_54_0, rf_54_1, rf_55_1, rf_55_2, rf_55_3, rf_67_1, rf_67_6, rf_67_7, rf_67_8, rf_67_9, rf_67_10, rf_67_22, rf_67_23, rf_67_28, rf_67_30, rf_67_32, rf_67_33, rf_67_38, rf_67_39, rf_67_48, rf_67_49, rf_67_51, rf_67_52, rf_67_53, rf_67_54, rf_67_55, rf_67_60, rf_67_61, rf_67_62, p0, ha', e1, e2, e3, e4, if_neg (show ¬ n ≤ k by omega), if_neg (show ¬ a ≤ 0 by omega), if_neg (show ¬ 0 ≤ fi by omega), b_178_36, k_178_36, b_178_56, k_178_56]
    · rw [if_neg (fun h => c2 h.1), if_pos c1]
      simp (disch := first | exact nl_i _ | exact nl_r _ | exact Nat.le_of_ble_eq_true rfl | exact Or.inl rfl | exact Or.inr rfl | exact w8_lo _ | exact w8_hi _ | decide | omega) only [v_fall, v_il_0, v_al_0, v_is_0, v_as_0, v_inc_0, v_ll_0, v_ls_0, v_il_1, v_al_1, v_is_1, v_as_1, v_inc_1, v_ll_1, v_ls_1, v_il_2, v_al_2, v_is_2, v_as_2, v_inc_2, v_ll_2, v_ls_2, v_il_3, v_al_3, v_is_3, v_as_3, v_inc_3, v_ll_3, v_ls_3, v_il_4, v_al_4, v_is_4, v_as_4, v_inc_4, v_ll_4, v_ls_4, v_il_5, v_al_5, v_is_5, v_as_5, v_inc_5, v_ll_5, v_ls_5, v_il_6, v_al_6, v_is_6, v_as_6, v_inc_6, v_il_7, v_al_7, v_is_7, v_as_7, v_inc_7, v_il_8, v_al_8, v_is_8, v_as_8, v_inc_8, v_il_9, v_al_9, v_is_9, v_as_9, v_inc_9, v_il_10, v_al_10, v_is_10, v_as_10, v_inc_10, v_il_11, v_al_11, v_is_11, v_as_11, v_inc_11, v_il_12, v_al_12, v_is_12, v_as_12, v_inc_12, v_il_13, v_al_13, v_is_13, v_as_13, v_inc_13, v_c_8, v_c_9, v_c_10, v_c_11, v_c_12, v_c_13, v_c_14, v_b_15, v_b_16, v_b_17, v_b_21, v_b_22, v_b_23, v_b_24, v_b_25, v_b_26, v_b_18, v_b_19, v_b_20, v_b_27, v_b_28, v_b_29, v_b_30, v_b_31, v_dup_i, v_dup_r, v_dup2, v_pop, v_gi, v_gl, v_gr, v_pi, v_pl, v_pz, v_iald, v_lald, v_bald, v_zald, v_aald, v_iast, v_last, v_bast, v_zast, v_alen_0, v_alen_1, v_alen_2, v_alen_3, v_alen_4, v_j_45, v_j_46, v_j_47, v_j_48, v_j_49, v_j_50, v_j_51, v_j_52, v_j_53, v_j_54, v_j_55, v_j_56, v_goto, v_sw, v_ret_i, v_ret_z, v_ret, v_cpy, v_iv_1, v_iv_2, v_iv_3, v_iv_4, v_iv_5, v_iv_6, v_is2_1, v_is2_2, v_is2_3, v_ivJ, List.nil_append, List.cons_append, rf_0_0, rf_0_1, rf_0_2, rf_0_3, rf_0_4, rf_0_5, rf_0_6, rf_0_7, rf_0_8, rf_0_9, rf_1_0, rf_1_2, rf_4_0, rf_4_1, rf_4_2, rf_5_8, rf_5_9, rf_5_10, rf_5_11, rf_5_12, rf_13_0, rf_13_1, rf_14_0, rf_14_1, rf_14_2, rf_15_8, rf_15_9, rf_15_10, rf_15_11, rf_15_12, rf_23_0, rf_23_1, rf_23_2, rf_24_8, rf_24_9, rf_24_10, rf_24_11, rf_24_12, rf_32_6, rf_34_0, rf_34_1, rf_34_2, rf_34_3, rf_35_8, rf_35_9, rf_35_10, rf_35_11, rf_35_12, rf_43_0, rf_43_1, rf_43_2, rf_43_3, rf_45_0, rf_45_1, rf_46_0, rf_46_1, rf_46_2, rf_46_3, rf_46_4, rf_46_5, rf_47_0, rf_47_1, rf_49_0, rf_49_1, rf_49_2, rf_49_3, rf_49_4, rf_49_5, rf_53_0, rf_53_1, rf_53_2, rf_53_3, rf_53_4, rf_53_5, rf_53_6, rf_53_7, rf_53_9, rf_53_10, rf_53_11, rf_53_12, rf_53_13, rf_54_0, rf_54_1, rf_55_1, rf_55_2, rf_55_3, rf_67_1, rf_67_6, rf_67_7, rf_67_8, rf_67_9, rf_67_10, rf_67_22, rf_67_23, rf_67_28, rf_67_30, rf_67_32, rf_67_33, rf_67_38, rf_67_39, rf_67_48, rf_67_49, rf_67_51, rf_67_52, rf_67_53, rf_67_54, rf_67_55, rf_67_60, rf_67_61, rf_67_62, p0, ha', e1, e2, e3, e4, if_neg (show ¬ n ≤ k by omega), if_neg (show ¬ a ≤ 0 by omega), if_pos (show 0 ≤ fi by omega), b_178_36, k_178_36, b_178_55, k_178_55, b_178_56, k_178_56]
  · rw [if_neg (fun h => c1 h.2), if_neg c1]
    by_cases c2 : fi < 0
    · simp (disch := first | exact nl_i _ | exact nl_r _ | exact Nat.le_of_ble_eq_true rfl | exact Or.inl rfl | exact Or.inr rfl | exact w8_lo _ | exact w8_hi _ | decide | omega) only [v_fall, v_il_0, v_al_0, v_is_0, v_as_0, v_inc_0, v_ll_0, v_ls_0, v_il_1, v_al_1, v_is_1, v_as_1, v_inc_1, v_ll_1, v_ls_1, v_il_2, v_al_2, v_is_2, v_as_2, v_inc_2, v_ll_2, v_ls_2, v_il_3, v_al_3, v_is_3, v_as_3, v_inc_3, v_ll_3, v_ls_3, v_il_4, v_al_4, v_is_4, v_as_4, v_inc_4, v_ll_4, v_ls_4, v_il_5, v_al_5, v_is_5, v_as_5, v_inc_5, v_ll_5, v_ls_5, v_il_6, v_al_6, v_is_6, v_as_6, v_inc_6, v_il_7, v_al_7, v_is_7, v_as_7, v_inc_7, v_il_8, v_al_8, v_is_8, v_as_8, v_inc_8, v_il_9, v_al_9, v_is_9, v_as_9, v_inc_9, v_il_10, v_al_10, v_is_10, v_as_10, v_inc_10, v_il_11, v_al_11, v_is_11, v_as_11, v_inc_11, v_il_12, v_al_12, v_is_12, v_as_12, v_inc_12, v_il_13, v_al_13, v_is_13, v_as_13, v_inc_13, v_c_8, v_c_9, v_c_10, v_c_11, v_c_12, v_c_13, v_c_14, v_b_15, v_b_16, v_b_17, v_b_21, v_b_22, v_b_23, v_b_24, v_b_25, v_b_26, v_b_18, v_b_19, v_b_20, v_b_27, v_b_28, v_b_29, v_b_30, v_b_31, v_dup_i, v_dup_r, v_dup2, v_pop, v_gi, v_gl, v_gr, v_pi, v_pl, v_pz, v_iald, v_lald, v_bald, v_zald, v_aald, v_iast, v_last, v_bast, v_zast, v_alen_0, v_alen_1, v_alen_2, v_alen_3, v_alen_4, v_j_45, v_j_46, v_j_47, v_j_48, v_j_49, v_j_50, v_j_51, v_j_52, v_j_53, v_j_54, v_j_55, v_j_56, v_goto, v_sw, v_ret_i, v_ret_z, v_ret, v_cpy, v_iv_1, v_iv_2, v_iv_3, v_iv_4, v_iv_5, v_iv_6, v_is2_1, v_is2_2, v_is2_3, v_ivJ, List.nil_append, List.cons_append, rf_0_0, rf_0_1, rf_0_2, rf_0_3, rf_0_4, rf_0_5, rf_0_6, rf_0_7, rf_0_8, rf_0_9, rf_1_0, rf_1_2, rf_4_0, rf_4_1, rf_4_2, rf_5_8, rf_5_9, rf_5_10, rf_5_11, rf_5_12, rf_13_0, rf_13_1, rf_14_0, rf_14_1, rf_14_2, rf_15_8, rf_15_9, rf_15_10, rf_15_11, rf_15_12, rf_23_0, rf_23_1, rf_23_2, rf_24_8, rf_24_9, rf_24_10, rf_24_11, rf_24_12, rf_32_6, rf_34_0, rf_34_1, rf_34_2, rf_34_3, rf_35_8, rf_35_9, rf_35_10, rf_35_11, rf_35_12, rf_43_0, rf_43_1, rf_43_2, rf_43_3, rf_45_0, rf_45_1, rf_46_0, rf_46_1, rf_46_2, rf_46_3, rf_46_4, rf_46_5, rf_47_0, rf_47_1, rf_49_0, rf_49_1, rf_49_2, rf_49_3, rf_49_4, rf_49_5, rf_53_0, rf_53_1, rf_53_2, rf_53_3, rf_53_4, rf_53_5, rf_53_6, rf_53_7, rf_53_9, rf_53_10, rf_53_11, rf_53_12, rf_53_13, rf_54_0, rf_54_1, rf_55_1, rf_55_2, rf_55_3, rf_67_1, rf_67_6, rf_67_7, rf_67_8, rf_67_9, rf_67_10, rf_67_22, rf_67_23, rf_67_28, rf_67_30, rf_67_32, rf_67_33, rf_67_38, rf_67_39, rf_67_48, rf_67_49, rf_67_51, rf_67_52, rf_67_53, rf_67_54, rf_67_55, rf_67_60, rf_67_61, rf_67_62, p0, ha', e1, e2, e3, e4, if_neg (show ¬ n ≤ k by omega), if_pos (show a ≤ 0 by omega), if_neg (show ¬ 0 ≤ fi by omega), b_178_35, k_178_35, b_178_36, k_178_36, b_178_55, k_178_55, b_178_56, k_178_56]
    · simp (disch := first | exact nl_i _ | exact nl_r _ | exact Nat.le_of_ble_eq_true rfl | exact Or.inl rfl | exact Or.inr rfl | exact w8_lo _ | exact w8_hi _ | decide | omega) only [v_fall, v_il_0, v_al_0, v_is_0, v_as_0, v_inc_0, v_ll_0, v_ls_0, v_il_1, v_al_1, v_is_1, v_as_1, v_inc_1, v_ll_1, v_ls_1, v_il_2, v_al_2, v_is_2, v_as_2, v_inc_2, v_ll_2, v_ls_2, v_il_3, v_al_3, v_is_3, v_as_3, v_inc_3, v_ll_3, v_ls_3, v_il_4, v_al_4, v_is_4, v_as_4, v_inc_4, v_ll_4, v_ls_4, v_il_5, v_al_5, v_is_5, v_as_5, v_inc_5, v_ll_5, v_ls_5, v_il_6, v_al_6, v_is_6, v_as_6, v_inc_6, v_il_7, v_al_7, v_is_7, v_as_7, v_inc_7, v_il_8, v_al_8, v_is_8, v_as_8, v_inc_8, v_il_9, v_al_9, v_is_9, v_as_9, v_inc_9, v_il_10, v_al_10, v_is_10, v_as_10, v_inc_10, v_il_11, v_al_11, v_is_11, v_as_11, v_inc_11, v_il_12, v_al_12, v_is_12, v_as_12, v_inc_12, v_il_13, v_al_13, v_is_13, v_as_13, v_inc_13, v_c_8, v_c_9, v_c_10, v_c_11, v_c_12, v_c_13, v_c_14, v_b_15, v_b_16, v_b_17, v_b_21, v_b_22, v_b_23, v_b_24, v_b_25, v_b_26, v_b_18, v_b_19, v_b_20, v_b_27, v_b_28, v_b_29, v_b_30, v_b_31, v_dup_i, v_dup_r, v_dup2, v_pop, v_gi, v_gl, v_gr, v_pi, v_pl, v_pz, v_iald, v_lald, v_bald, v_zald, v_aald, v_iast, v_last, v_bast, v_zast, v_alen_0, v_alen_1, v_alen_2, v_alen_3, v_alen_4, v_j_45, v_j_46, v_j_47, v_j_48, v_j_49, v_j_50, v_j_51, v_j_52, v_j_53, v_j_54, v_j_55, v_j_56, v_goto, v_sw, v_ret_i, v_ret_z, v_ret, v_cpy, v_iv_1, v_iv_2, v_iv_3, v_iv_4, v_iv_5, v_iv_6, v_is2_1, v_is2_2, v_is2_3, v_ivJ, List.nil_append, List.cons_append, rf_0_0, rf_0_1, rf_0_2, rf_0_3, rf_0_4, rf_0_5, rf_0_6, rf_0_7, rf_0_8, rf_0_9, rf_1_0, rf_1_2, rf_4_0, rf_4_1, rf_4_2, rf_5_8, rf_5_9, rf_5_10, rf_5_11, rf_5_12, rf_13_0, rf_13_1, rf_14_0, rf_14_1, rf_14_2, rf_15_8, rf_15_9, rf_15_10, rf_15_11, rf_15_12, rf_23_0, rf_23_1, rf_23_2, rf_24_8, rf_24_9, rf_24_10, rf_24_11, rf_24_12, rf_32_6, rf_34_0, rf_34_1, rf_34_2, rf_34_3, rf_35_8, rf_35_9, rf_35_10, rf_35_11, rf_35_12, rf_43_0, rf_43_1, rf_43_2, rf_43_3, rf_45_0, rf_45_1, rf_46_0, rf_46_1, rf_46_2, rf_46_3, rf_46_4, rf_46_5, rf_47_0, rf_47_1, rf_49_0, rf_49_1, rf_49_2, rf_49_3, rf_49_4, rf_49_5, rf_53_0, rf_53_1, rf_53_2, rf_53_3, rf_53_4, rf_53_5, rf_53_6, rf_53_7, rf_53_9, rf_53_10, rf_53_11, rf_53_12, rf_53_13, rf_54_0, rf_54_1, rf_55_1, rf_55_2, rf_55_3, rf_67_1, rf_67_6, rf_67_7, rf_67_8, rf_67_9, rf_67_10, rf_67_22, rf_67_23, rf_67_28, rf_67_30, rf_67_32, rf_67_33, rf_67_38, rf_67_39, rf_67_48, rf_67_49, rf_67_51, rf_67_52, rf_67_53, rf_67_54, rf_67_55, rf_67_60, rf_67_61, rf_67_62, p0, ha', e1, e2, e3, e4, if_neg (show ¬ n ≤ k by omega), if_pos (show a ≤ 0 by omega), if_pos (show 0 ≤ fi by omega), b_178_35, k_178_35, b_178_36, k_178_36, b_178_55, k_178_55, b_178_56, k_178_56]
/-- a CELL and one side of it: no KNOT, or one of two that are not apart, or of two that are -/
theorem so_n (k z : Int) (o1 o2 o5 o6 : AV) (hz : 0 ≤ z ∧ z < 2) (p1 : ∀ Q', XC d 172 [aR 22 0 67, aI k, aI z] M Q' ↔ Q' [aI 0] M) : XL (d + 1) 178 60 [aR 22 0 67, o1, o2, aI k, aI z, o5, o6] [] M Q ↔ XL (d + 1) 178 60 [aR 22 0 67, o1, o2, aI k, aI (z + 1), o5, o6] [] M Q := by
  have e1 : w32 z = z := w_sm (by omega)
  have e2 : w32 2 = 2 := rfl
  have e3 : w32 0 = 0 := rfl
  rw [b_178_60, k_178_60]
  simp (disch := first | exact nl_i _ | exact nl_r _ | exact Nat.le_of_ble_eq_true rfl | exact Or.inl rfl | exact Or.inr rfl | exact w8_lo _ | exact w8_hi _ | decide | omega) only [v_fall, v_il_0, v_al_0, v_is_0, v_as_0, v_inc_0, v_ll_0, v_ls_0, v_il_1, v_al_1, v_is_1, v_as_1, v_inc_1, v_ll_1, v_ls_1, v_il_2, v_al_2, v_is_2, v_as_2, v_inc_2, v_ll_2, v_ls_2, v_il_3, v_al_3, v_is_3, v_as_3, v_inc_3, v_ll_3, v_ls_3, v_il_4, v_al_4, v_is_4, v_as_4, v_inc_4, v_ll_4, v_ls_4, v_il_5, v_al_5, v_is_5, v_as_5, v_inc_5, v_ll_5, v_ls_5, v_il_6, v_al_6, v_is_6, v_as_6, v_inc_6, v_il_7, v_al_7, v_is_7, v_as_7, v_inc_7, v_il_8, v_al_8, v_is_8, v_as_8, v_inc_8, v_il_9, v_al_9, v_is_9, v_as_9, v_inc_9, v_il_10, v_al_10, v_is_10, v_as_10, v_inc_10, v_il_11, v_al_11, v_is_11, v_as_11, v_inc_11, v_il_12, v_al_12, v_is_12, v_as_12, v_inc_12, v_il_13, v_al_13, v_is_13, v_as_13, v_inc_13, v_c_8, v_c_9, v_c_10, v_c_11, v_c_12, v_c_13, v_c_14, v_b_15, v_b_16, v_b_17, v_b_21, v_b_22, v_b_23, v_b_24, v_b_25, v_b_26, v_b_18, v_b_19, v_b_20, v_b_27, v_b_28, v_b_29, v_b_30, v_b_31, v_dup_i, v_dup_r, v_dup2, v_pop, v_gi, v_gl, v_gr, v_pi, v_pl, v_pz, v_iald, v_lald, v_bald, v_zald, v_aald, v_iast, v_last, v_bast, v_zast, v_alen_0, v_alen_1, v_alen_2, v_alen_3, v_alen_4, v_j_45, v_j_46, v_j_47, v_j_48, v_j_49, v_j_50, v_j_51, v_j_52, v_j_53, v_j_54, v_j_55, v_j_56, v_goto, v_sw, v_ret_i, v_ret_z, v_ret, v_cpy, v_iv_1, v_iv_2, v_iv_3, v_iv_4, v_iv_5, v_iv_6, v_is2_1, v_is2_2, v_is2_3, v_ivJ, List.nil_append, List.cons_append, rf_0_0, rf_0_1, rf_0_2, rf_0_3, rf_0_4, rf_0_5, rf_0_6, rf_0_7, rf_0_8, rf_0_9, rf_1_0, rf_1_2, rf_4_0, rf_4_1, rf_4_2, rf_5_8, rf_5_9, rf_5_10, rf_5_11, rf_5_12, rf_13_0, rf_13_1, rf_14_0, rf_14_1, rf_14_2, rf_15_8, rf_15_9, rf_15_10, rf_15_11, rf_15_12, rf_23_0, rf_23_1, rf_23_2, rf_24_8, rf_24_9, rf_24_10, rf_24_11, rf_24_12, rf_32_6, rf_34_0, rf_34_1, rf_34_2, rf_34_3, rf_35_8, rf_35_9, rf_35_10, rf_35_11, rf_35_12, rf_43_0, rf_43_1, rf_43_2, rf_43_3, rf_45_0, rf_45_1, rf_46_0, rf_46_1, rf_46_2, rf_46_3, rf_46_4, rf_46_5, rf_47_0, rf_47_1, rf_49_0, rf_49_1, rf_49_2, rf_49_3, rf_49_4, rf_49_5, rf_53_0, rf_53_1, rf_53_2, rf_53_3, rf_53_4, rf_53_5, rf_53_6, rf_53_7, rf_53_9, rf_53_10, rf_53_11, rf_53_12, rf_53_13, rf_54_0, rf_54_1, rf_55_1, rf_55_2, rf_55_3, rf_67_1, rf_67_6, rf_67_7, rf_67_8, rf_67_9, rf_67_10, rf_67_22, rf_67_23, rf_67_28, rf_67_30, rf_67_32, rf_67_33, rf_67_38, rf_67_39, rf_67_48, rf_67_49, rf_67_51, rf_67_52, rf_67_53, rf_67_54, rf_67_55, rf_67_60, rf_67_61, rf_67_62, p1, e1, e2, e3, if_neg (show ¬ (2 : Int) ≤ z by omega), if_true, b_178_119, k_178_119]
theorem so_y (k z q a c v : Int) (o1 o2 o5 o6 : AV) (hk : 0 ≤ k ∧ k < 24) (hz : 0 ≤ z ∧ z < 2) (p1 : ∀ Q', XC d 172 [aR 22 0 67, aI k, aI z] M Q' ↔ Q' [aI 1] M) (hq : 0 ≤ q ∧ q < 24) (p2 : ∀ Q', XC d 171 [aR 22 0 67, aI k, aI z] M Q' ↔ Q' [aI q] M) (ha : M 74 k = a) (hab : 1 ≤ a ∧ a ≤ 9) (hc : M 74 q = c) (hv : and32 (shr32 (M 69 (81 + 4 * (a - 1) + 3)) (c - 1)) 1 = v) : XL (d + 1) 178 60 [aR 22 0 67, o1, o2, aI k, aI z, o5, o6] [] M Q ↔ (if v = 1 then Q [aI 0] M else XL (d + 1) 178 60 [aR 22 0 67, o1, o2, aI k, aI (z + 1), o5, o6] [] M Q) := by
  have e1 : w32 z = z := w_sm (by omega)
  have e2 : w32 2 = 2 := rfl
  have e3 : w32 1 = 1 := rfl
  have h0 : 0 ≤ k := hk.1
  have h1 : k < ((24 : Nat) : Int) := by omega
  have h2 : 0 ≤ q := hq.1
  have h3 : q < ((24 : Nat) : Int) := by omega
  have h4 : 0 ≤ 81 + 4 * (a - 1) + 3 := by omega
  have h5 : 81 + 4 * (a - 1) + 3 < ((383 : Nat) : Int) := by omega
  have e4 : w32 v = v := by rw [← hv]; exact and32_w _ _
  rw [b_178_60, k_178_60]
  by_cases h : v = 1
  · rw [if_pos h]
    simp (disch := first | exact nl_i _ | exact nl_r _ | exact Nat.le_of_ble_eq_true rfl | exact Or.inl rfl | exact Or.inr rfl | exact w8_lo _ | exact w8_hi _ | decide | omega) only [v_fall, v_il_0, v_al_0, v_is_0, v_as_0, v_inc_0, v_ll_0, v_ls_0, v_il_1, v_al_1, v_is_1, v_as_1, v_inc_1, v_ll_1, v_ls_1, v_il_2, v_al_2, v_is_2, v_as_2, v_inc_2, v_ll_2, v_ls_2, v_il_3, v_al_3, v_is_3, v_as_3, v_inc_3, v_ll_3, v_ls_3, v_il_4, v_al_4, v_is_4, v_as_4, v_inc_4, v_ll_4, v_ls_4, v_il_5, v_al_5, v_is_5, v_as_5, v_inc_5, v_ll_5, v_ls_5, v_il_6, v_al_6, v_is_6, v_as_6, v_inc_6, v_il_7, v_al_7, v_is_7, v_as_7, v_inc_7, v_il_8, v_al_8, v_is_8, v_as_8, v_inc_8, v_il_9, v_al_9, v_is_9, v_as_9, v_inc_9, v_il_10, v_al_10, v_is_10, v_as_10, v_inc_10, v_il_11, v_al_11, v_is_11, v_as_11, v_inc_11, v_il_12, v_al_12, v_is_12, v_as_12, v_inc_12, v_il_13, v_al_13, v_is_13, v_as_13, v_inc_13, v_c_8, v_c_9, v_c_10, v_c_11, v_c_12, v_c_13, v_c_14, v_b_15, v_b_16, v_b_17, v_b_21, v_b_22, v_b_23, v_b_24, v_b_25, v_b_26, v_b_18, v_b_19, v_b_20, v_b_27, v_b_28, v_b_29, v_b_30, v_b_31, v_dup_i, v_dup_r, v_dup2, v_pop, v_gi, v_gl, v_gr, v_pi, v_pl, v_pz, v_iald, v_lald, v_bald, v_zald, v_aald, v_iast, v_last, v_bast, v_zast, v_alen_0, v_alen_1, v_alen_2, v_alen_3, v_alen_4, v_j_45, v_j_46, v_j_47, v_j_48, v_j_49, v_j_50, v_j_51, v_j_52, v_j_53, v_j_54, v_j_55, v_j_56, v_goto, v_sw, v_ret_i, v_ret_z, v_ret, v_cpy, v_iv_1, v_iv_2, v_iv_3, v_iv_4, v_iv_5, v_iv_6, v_is2_1, v_is2_2, v_is2_3, v_ivJ, List.nil_append, List.cons_append, rf_0_0, rf_0_1, rf_0_2, rf_0_3, rf_0_4, rf_0_5, rf_0_6, rf_0_7, rf_0_8, rf_0_9, rf_1_0, rf_1_2, rf_4_0, rf_4_1, rf_4_2, rf_5_8, rf_5_9, rf_5_10, rf_5_11, rf_5_12, rf_13_0, rf_13_1, rf_14_0, rf_14_1, rf_14_2, rf_15_8, rf_15_9, rf_15_10, rf_15_11, rf_15_12, rf_23_0, rf_23_1, rf_23_2, rf_24_8, rf_24_9, rf_24_10, rf_24_11, rf_24_12, rf_32_6, rf_34_0, rf_34_1, rf_34_2, rf_34_3, rf_35_8, rf_35_9, rf_35_10, rf_35_11, rf_35_12, rf_43_0, rf_43_1, rf_43_2, rf_43_3, rf_45_0, rf_45_1, rf_46_0, rf_46_1, rf_46_2, rf_46_3, rf_46_4, rf_46_5, rf_47_0, rf_47_1, rf_49_0, rf_49_1, rf_49_2, rf_49_3, rf_49_4, rf_49_5, rf_53_0, rf_53_1, rf_53_2, rf_53_3, rf_53_4, rf_53_5, rf_53_6, rf_53_7, rf_53_9, rf_53_10, rf_53_11, rf_53_12, rf_53_13, rf_54_0, rf_54_1, rf_55_1, rf_55_2, rf_55_3, rf_67_1, rf_67_6, rf_67_7, rf_67_8, rf_67_9, rf_67_10, rf_67_22, rf_67_23, rf_67_28, rf_67_30, rf_67_32, rf_67_33, rf_67_38, rf_67_39, rf_67_48, rf_67_49, rf_67_51, rf_67_52, rf_67_53, rf_67_54, rf_67_55, rf_67_60, rf_67_61, rf_67_62, p1, p2, ha, hc, hv, e1, e2, e3, e4, if_neg (show ¬ (2 : Int) ≤ z by omega), if_neg (show ¬ (1 : Int) = 0 by omega), if_neg (show ¬ v ≠ 1 from fun h9 => h9 h)]
  · rw [if_neg h]
    simp (disch := first | exact nl_i _ | exact nl_r _ | exact Nat.le_of_ble_eq_true rfl | exact Or.inl rfl | exact Or.inr rfl | exact w8_lo _ | exact w8_hi _ | decide | omega) only [v_fall, v_il_0, v_al_0, v_is_0, v_as_0, v_inc_0, v_ll_0, v_ls_0, v_il_1, v_al_1, v_is_1, v_as_1, v_inc_1, v_ll_1, v_ls_1, v_il_2, v_al_2, v_is_2, v_as_2, v_inc_2, v_ll_2, v_ls_2, v_il_3, v_al_3, v_is_3, v_as_3, v_inc_3, v_ll_3, v_ls_3, v_il_4, v_al_4, v_is_4, v_as_4, v_inc_4, v_ll_4, v_ls_4, v_il_5, v_al_5, v_is_5, v_as_5, v_inc_5, v_ll_5, v_ls_5, v_il_6, v_al_6, v_is_6, v_as_6, v_inc_6, v_il_7, v_al_7, v_is_7, v_as_7, v_inc_7, v_il_8, v_al_8, v_is_8, v_as_8, v_inc_8, v_il_9, v_al_9, v_is_9, v_as_9, v_inc_9, v_il_10, v_al_10, v_is_10, v_as_10, v_inc_10, v_il_11, v_al_11, v_is_11, v_as_11, v_inc_11, v_il_12, v_al_12, v_is_12, v_as_12, v_inc_12, v_il_13, v_al_13, v_is_13, v_as_13, v_inc_13, v_c_8, v_c_9, v_c_10, v_c_11, v_c_12, v_c_13, v_c_14, v_b_15, v_b_16, v_b_17, v_b_21, v_b_22, v_b_23, v_b_24, v_b_25, v_b_26, v_b_18, v_b_19, v_b_20, v_b_27, v_b_28, v_b_29, v_b_30, v_b_31, v_dup_i, v_dup_r, v_dup2, v_pop, v_gi, v_gl, v_gr, v_pi, v_pl, v_pz, v_iald, v_lald, v_bald, v_zald, v_aald, v_iast, v_last, v_bast, v_zast, v_alen_0, v_alen_1, v_alen_2, v_alen_3, v_alen_4, v_j_45, v_j_46, v_j_47, v_j_48, v_j_49, v_j_50, v_j_51, v_j_52, v_j_53, v_j_54, v_j_55, v_j_56, v_goto, v_sw, v_ret_i, v_ret_z, v_ret, v_cpy, v_iv_1, v_iv_2, v_iv_3, v_iv_4, v_iv_5, v_iv_6, v_is2_1, v_is2_2, v_is2_3, v_ivJ, List.nil_append, List.cons_append, rf_0_0, rf_0_1, rf_0_2, rf_0_3, rf_0_4, rf_0_5, rf_0_6, rf_0_7, rf_0_8, rf_0_9, rf_1_0, rf_1_2, rf_4_0, rf_4_1, rf_4_2, rf_5_8, rf_5_9, rf_5_10, rf_5_11, rf_5_12, rf_13_0, rf_13_1, rf_14_0, rf_14_1, rf_14_2, rf_15_8, rf_15_9, rf_15_10, rf_15_11, rf_15_12, rf_23_0, rf_23_1, rf_23_2, rf_24_8, rf_24_9, rf_24_10, rf_24_11, rf_24_12, rf_32_6, rf_34_0, rf_34_1, rf_34_2, rf_34_3, rf_35_8, rf_35_9, rf_35_10, rf_35_11, rf_35_12, rf_43_0, rf_43_1, rf_43_2, rf_43_3, rf_45_0, rf_45_1, rf_46_0, rf_46_1, rf_46_2, rf_46_3, rf_46_4, rf_46_5, rf_47_0, rf_47_1, rf_49_0, rf_49_1, rf_49_2, rf_49_3, rf_49_4, rf_49_5, rf_53_0, rf_53_1, rf_53_2, rf_53_3, rf_53_4, rf_53_5, rf_53_6, rf_53_7, rf_53_9, rf_53_10, rf_53_11, rf_53_12, rf_53_13, rf_54_0, rf_54_1, rf_55_1, rf_55_2, rf_55_3, rf_67_1, rf_67_6, rf_67_7, rf_67_8, rf_67_9, rf_67_10, rf_67_22, rf_67_23, rf_67_28, rf_67_30, rf_67_32, rf_67_33, rf_67_38, rf_67_39, rf_67_48, rf_67_49, rf_67_51, rf_67_52, rf_67_53, rf_67_54, rf_67_55, rf_67_60, rf_67_61, rf_67_62, p1, p2, ha, hc, hv, e1, e2, e3, e4, if_neg (show ¬ (2 : Int) ≤ z by omega), if_neg (show ¬ (1 : Int) = 0 by omega), if_pos (show v ≠ 1 from h), b_178_119, k_178_119]
theorem so_1 (k : Int) (o1 o2 o5 o6 : AV) : XL d 178 60 [aR 22 0 67, o1, o2, aI k, aI 2, o5, o6] [] M Q ↔ XL d 178 6 [aR 22 0 67, o1, o2, aI (k + 1), aI 2, o5, o6] [] M Q := by
  have e2 : w32 2 = 2 := rfl
  rw [b_178_60, k_178_60]
  simp (disch := first | exact nl_i _ | exact nl_r _ | exact Nat.le_of_ble_eq_true rfl | exact Or.inl rfl | exact Or.inr rfl | exact w8_lo _ | exact w8_hi _ | decide | omega) only [v_fall, v_il_0, v_al_0, v_is_0, v_as_0, v_inc_0, v_ll_0, v_ls_0, v_il_1, v_al_1, v_is_1, v_as_1, v_inc_1, v_ll_1, v_ls_1, v_il_2, v_al_2, v_is_2, v_as_2, v_inc_2, v_ll_2, v_ls_2, v_il_3, v_al_3, v_is_3, v_as_3, v_inc_3, v_ll_3, v_ls_3, v_il_4, v_al_4, v_is_4, v_as_4, v_inc_4, v_ll_4, v_ls_4, v_il_5, v_al_5, v_is_5, v_as_5, v_inc_5, v_ll_5, v_ls_5, v_il_6, v_al_6, v_is_6, v_as_6, v_inc_6, v_il_7, v_al_7, v_is_7, v_as_7, v_inc_7, v_il_8, v_al_8, v_is_8, v_as_8, v_inc_8, v_il_9, v_al_9, v_is_9, v_as_9, v_inc_9, v_il_10, v_al_10, v_is_10, v_as_10, v_inc_10, v_il_11, v_al_11, v_is_11, v_as_11, v_inc_11, v_il_12, v_al_12, v_is_12, v_as_12, v_inc_12, v_il_13, v_al_13, v_is_13, v_as_13, v_inc_13, v_c_8, v_c_9, v_c_10, v_c_11, v_c_12, v_c_13, v_c_14, v_b_15, v_b_16, v_b_17, v_b_21, v_b_22, v_b_23, v_b_24, v_b_25, v_b_26, v_b_18, v_b_19, v_b_20, v_b_27, v_b_28, v_b_29, v_b_30, v_b_31, v_dup_i, v_dup_r, v_dup2, v_pop, v_gi, v_gl, v_gr, v_pi, v_pl, v_pz, v_iald, v_lald, v_bald, v_zald, v_aald, v_iast, v_last, v_bast, v_zast, v_alen_0, v_alen_1, v_alen_2, v_alen_3, v_alen_4, v_j_45, v_j_46, v_j_47, v_j_48, v_j_49, v_j_50, v_j_51, v_j_52, v_j_53, v_j_54, v_j_55, v_j_56, v_goto, v_sw, v_ret_i, v_ret_z, v_ret, v_cpy, v_iv_1, v_iv_2, v_iv_3, v_iv_4, v_iv_5, v_iv_6, v_is2_1, v_is2_2, v_is2_3, v_ivJ, List.nil_append, List.cons_append, rf_0_0, rf_0_1, rf_0_2, rf_0_3, rf_0_4, rf_0_5, rf_0_6, rf_0_7, rf_0_8, rf_0_9, rf_1_0, rf_1_2, rf_4_0, rf_4_1, rf_4_2, rf_5_8, rf_5_9, rf_5_10, rf_5_11, rf_5_12, rf_13_0, rf_13_1, rf_14_0, rf_14_1, rf_14_2, rf_15_8, rf_15_9, rf_15_10, rf_15_11, rf_15_12, rf_23_0, rf_23_1, rf_23_2, rf_24_8, rf_24_9, rf_24_10, rf_24_11, rf_24_12, rf_32_6, rf_34_0, rf_34_1, rf_34_2, rf_34_3, rf_35_8, rf_35_9, rf_35_10, rf_35_11, rf_35_12, rf_43_0, rf_43_1, rf_43_2, rf_43_3, rf_45_0, rf_45_1, rf_46_0, rf_46_1, rf_46_2, rf_46_3, rf_46_4, rf_46_5, rf_47_0, rf_47_1, rf_49_0, rf_49_1, rf_49_2, rf_49_3, rf_49_4, rf_49_5, rf_53_0, rf_53_1, rf_53_2, rf_53_3, rf_53_4, rf_53_5, rf_53_6, rf_53_7, rf_53_9, rf_53_10, rf_53_11, rf_53_12, rf_53_13, rf_54_0, rf_54_1, rf_55_1, rf_55_2, rf_55_3, rf_67_1, rf_67_6, rf_67_7, rf_67_8, rf_67_9, rf_67_10, rf_67_22, rf_67_23, rf_67_28, rf_67_30, rf_67_32, rf_67_33, rf_67_38, rf_67_39, rf_67_48, rf_67_49, rf_67_51, rf_67_52, rf_67_53, rf_67_54, rf_67_55, rf_67_60, rf_67_61, rf_67_62, e2, if_pos (show (2 : Int) ≤ 2 by omega), b_178_125, k_178_125]
theorem so_2 (fi n : Int) (o2 o4 o5 o6 : AV) (hn : 0 ≤ n ∧ n ≤ 24) (hf : -1 ≤ fi ∧ fi < 24) (p0 : ∀ Q', XC d 167 [aR 22 0 67] M Q' ↔ Q' [aI n] M) : XL (d + 1) 178 6 [aR 22 0 67, aI fi, o2, aI n, o4, o5, o6] [] M Q ↔ (if fi < 0 then Q [aI 1] M else XL (d + 1) 178 149 [aR 22 0 67, aI fi, o2, aI 1, aI 0, o5, o6] [] (up M 77 fi 1) Q) := by
  have e1 : w32 n = n := w_sm (by omega)
  have e2 : w32 fi = fi := w_sm (by omega)
  rw [b_178_6, k_178_6]
  by_cases h : fi < 0
  · rw [if_pos h]
    simp (disch := first | exact nl_i _ | exact nl_r _ | exact Nat.le_of_ble_eq_true rfl | exact Or.inl rfl | exact Or.inr rfl | exact w8_lo _ | exact w8_hi _ | decide | omega) only [v_fall, v_il_0, v_al_0, v_is_0, v_as_0, v_inc_0, v_ll_0, v_ls_0, v_il_1, v_al_1, v_is_1, v_as_1, v_inc_1, v_ll_1, v_ls_1, v_il_2, v_al_2, v_is_2, v_as_2, v_inc_2, v_ll_2, v_ls_2, v_il_3, v_al_3, v_is_3, v_as_3, v_inc_3, v_ll_3, v_ls_3, v_il_4, v_al_4, v_is_4, v_as_4, v_inc_4, v_ll_4, v_ls_4, v_il_5, v_al_5, v_is_5, v_as_5, v_inc_5, v_ll_5, v_ls_5, v_il_6, v_al_6, v_is_6, v_as_6, v_inc_6, v_il_7, v_al_7, v_is_7, v_as_7, v_inc_7, v_il_8, v_al_8, v_is_8, v_as_8, v_inc_8, v_il_9, v_al_9, v_is_9, v_as_9, v_inc_9, v_il_10, v_al_10, v_is_10, v_as_10, v_inc_10, v_il_11, v_al_11, v_is_11, v_as_11, v_inc_11, v_il_12, v_al_12, v_is_12, v_as_12, v_inc_12, v_il_13, v_al_13, v_is_13, v_as_13, v_inc_13, v_c_8, v_c_9, v_c_10, v_c_11, v_c_12, v_c_13, v_c_14, v_b_15, v_b_16, v_b_17, v_b_21, v_b_22, v_b_23, v_b_24, v_b_25, v_b_26, v_b_18, v_b_19, v_b_20, v_b_27, v_b_28, v_b_29, v_b_30, v_b_31, v_dup_i, v_dup_r, v_dup2, v_pop, v_gi, v_gl, v_gr, v_pi, v_pl, v_pz, v_iald, v_lald, v_bald, v_zald, v_aald, v_iast, v_last, v_bast, v_zast, v_alen_0, v_alen_1, v_alen_2, v_alen_3, v_alen_4, v_j_45, v_j_46, v_j_47, v_j_48, v_j_49, v_j_50, v_j_51, v_j_52, v_j_53, v_j_54, v_j_55, v_j_56, v_goto, v_sw, v_ret_i, v_ret_z, v_ret, v_cpy, v_iv_1, v_iv_2, v_iv_3, v_iv_4, v_iv_5, v_iv_6, v_is2_1, v_is2_2, v_is2_3, v_ivJ, List.nil_append, List.cons_append, rf_0_0, rf_0_1, rf_0_2, rf_0_3, rf_0_4, rf_0_5, rf_0_6, rf_0_7, rf_0_8, rf_0_9, rf_1_0, rf_1_2, rf_4_0, rf_4_1, rf_4_2, rf_5_8, rf_5_9, rf_5_10, rf_5_11, rf_5_12, rf_13_0, rf_13_1, rf_14_0, rf_14_1, rf_14_2, rf_15_8, rf_15_9, rf_15_10, rf_15_11, rf_15_12, rf_23_0, rf_23_1, rf_23_2, rf_24_8, rf_24_9, rf_24_10, rf_24_11, rf_24_12, rf_32_6, rf_34_0, rf_34_1, rf_34_2, rf_34_3, rf_35_8, rf_35_9, rf_35_10, rf_35_11, rf_35_12, rf_43_0, rf_43_1, rf_43_2, rf_43_3, rf_45_0, rf_45_1, rf_46_0, rf_46_1, rf_46_2, rf_46_3, rf_46_4, rf_46_5, rf_47_0, rf_47_1, rf_49_0, rf_49_1, rf_49_2, rf_49_3, rf_49_4, rf_49_5, rf_53_0, rf_53_1, rf_53_2, rf_53_3, rf_53_4, rf_53_5, rf_53_6, rf_53_7, rf_53_9, rf_53_10, rf_53_11, rf_53_12, rf_53_13, rf_54_0, rf_54_1, rf_55_1, rf_55_2, rf_55_3, rf_67_1, rf_67_6, rf_67_7, rf_67_8, rf_67_9, rf_67_10, rf_67_22, rf_67_23, rf_67_28, rf_67_30, rf_67_32, rf_67_33, rf_67_38, rf_67_39, rf_67_48, rf_67_49, rf_67_51, rf_67_52, rf_67_53, rf_67_54, rf_67_55, rf_67_60, rf_67_61, rf_67_62, p0, e1, e2, if_pos (show n ≤ n by omega), if_neg (show ¬ 0 ≤ fi by omega), b_178_131, k_178_131]
    try exact v_ret_z (Or.inr rfl)
  · rw [if_neg h]
    have h0 : 0 ≤ fi := by omega
    have h1 : fi < ((24 : Nat) : Int) := by omega
    simp (disch := first | exact nl_i _ | exact nl_r _ | exact Nat.le_of_ble_eq_true rfl | exact Or.inl rfl | exact Or.inr rfl | exact w8_lo _ | exact w8_hi _ | decide | omega) only [v_fall, v_il_0, v_al_0, v_is_0, v_as_0, v_inc_0, v_ll_0, v_ls_0, v_il_1, v_al_1, v_is_1, v_as_1, v_inc_1, v_ll_1, v_ls_1, v_il_2, v_al_2, v_is_2, v_as_2, v_inc_2, v_ll_2, v_ls_2, v_il_3, v_al_3, v_is_3, v_as_3, v_inc_3, v_ll_3, v_ls_3, v_il_4, v_al_4, v_is_4, v_as_4, v_inc_4, v_ll_4, v_ls_4, v_il_5, v_al_5, v_is_5, v_as_5, v_inc_5, v_ll_5, v_ls_5, v_il_6, v_al_6, v_is_6, v_as_6, v_inc_6, v_il_7, v_al_7, v_is_7, v_as_7, v_inc_7, v_il_8, v_al_8, v_is_8, v_as_8, v_inc_8, v_il_9, v_al_9, v_is_9, v_as_9, v_inc_9, v_il_10, v_al_10, v_is_10, v_as_10, v_inc_10, v_il_11, v_al_11, v_is_11, v_as_11, v_inc_11, v_il_12, v_al_12, v_is_12, v_as_12, v_inc_12, v_il_13, v_al_13, v_is_13, v_as_13, v_inc_13, v_c_8, v_c_9, v_c_10, v_c_11, v_c_12, v_c_13, v_c_14, v_b_15, v_b_16, v_b_17, v_b_21, v_b_22, v_b_23, v_b_24, v_b_25, v_b_26, v_b_18, v_b_19, v_b_20, v_b_27, v_b_28, v_b_29, v_b_30, v_b_31, v_dup_i, v_dup_r, v_dup2, v_pop, v_gi, v_gl, v_gr, v_pi, v_pl, v_pz, v_iald, v_lald, v_bald, v_zald, v_aald, v_iast, v_last, v_bast, v_zast, v_alen_0, v_alen_1, v_alen_2, v_alen_3, v_alen_4, v_j_45, v_j_46, v_j_47, v_j_48, v_j_49, v_j_50, v_j_51, v_j_52, v_j_53, v_j_54, v_j_55, v_j_56, v_goto, v_sw, v_ret_i, v_ret_z, v_ret, v_cpy, v_iv_1, v_iv_2, v_iv_3, v_iv_4, v_iv_5, v_iv_6, v_is2_1, v_is2_2, v_is2_3, v_ivJ, List.nil_append, List.cons_append, rf_0_0, rf_0_1, rf_0_2, rf_0_3, rf_0_4, rf_0_5, rf_0_6, rf_0_7, rf_0_8, rf_0_9, rf_1_0, rf_1_2, rf_4_0, rf_4_1, rf_4_2, rf_5_8, rf_5_9, rf_5_10, rf_5_11, rf_5_12, rf_13_0, rf_13_1, rf_14_0, rf_14_1, rf_14_2, rf_15_8, rf_15_9, rf_15_10, rf_15_11, rf_15_12, rf_23_0, rf_23_1, rf_23_2, rf_24_8, rf_24_9, rf_24_10, rf_24_11, rf_24_12, rf_32_6, rf_34_0, rf_34_1, rf_34_2, rf_34_3, rf_35_8, rf_35_9, rf_35_10, rf_35_11, rf_35_12, rf_43_0, rf_43_1, rf_43_2, rf_43_3, rf_45_0, rf_45_1, rf_46_0, rf_46_1, rf_46_2, rf_46_3, rf_46_4, rf_46_5, rf_47_0, rf_47_1, rf_49_0, rf_49_1, rf_49_2, rf_49_3, rf_49_4, rf_49_5, rf_53_0, rf_53_1, rf_53_2, rf_53_3, rf_53_4, rf_53_5, rf_53_6, rf_53_7, rf_53_9, rf_53_10, rf_53_11, rf_53_12, rf_53_13, rf_54_0, rf_54_1, rf_55_1, rf_55_2, rf_55_3, rf_67_1, rf_67_6, rf_67_7, rf_67_8, rf_67_9, rf_67_10, rf_67_22, rf_67_23, rf_67_28, rf_67_30, rf_67_32, rf_67_33, rf_67_38, rf_67_39, rf_67_48, rf_67_49, rf_67_51, rf_67_52, rf_67_53, rf_67_54, rf_67_55, rf_67_60, rf_67_61, rf_67_62, p0, e1, e2, if_pos (show n ≤ n by omega), if_pos (show 0 ≤ fi by omega), b_178_131, k_178_131, b_178_137, k_178_137]
theorem so_4 (n was al : Int) (o1 o5 o6 : AV) (hn : 0 ≤ n ∧ n ≤ 24) (hw : 0 ≤ was ∧ was ≤ 24) (hl : 0 ≤ al ∧ al ≤ 24) : XL d 178 149 [aR 22 0 67, o1, aI al, aI n, aI was, o5, o6] [] M Q ↔ (if n ≤ was then Q [aI (cb (n = al))] M else XL d 178 161 [aR 22 0 67, o1, aI al, aI n, aI n, aI 0, o6] [] M Q) := by
  have e1 : w32 n = n := w_sm (by omega)
  have e2 : w32 was = was := w_sm (by omega)
  have e3 : w32 al = al := w_sm (by omega)
  rw [b_178_149, k_178_149]
  by_cases h : n ≤ was
  · rw [if_pos h]
    by_cases h2 : n = al
    · rw [cb_t h2]
      simp (disch := first | exact nl_i _ | exact nl_r _ | exact Nat.le_of_ble_eq_true rfl | exact Or.inl rfl | exact Or.inr rfl | exact w8_lo _ | exact w8_hi _ | decide | omega) only [v_fall, v_il_0, v_al_0, v_is_0, v_as_0, v_inc_0, v_ll_0, v_ls_0, v_il_1, v_al_1, v_is_1, v_as_1, v_inc_1, v_ll_1, v_ls_1, v_il_2, v_al_2, v_is_2, v_as_2, v_inc_2, v_ll_2, v_ls_2, v_il_3, v_al_3, v_is_3, v_as_3, v_inc_3, v_ll_3, v_ls_3, v_il_4, v_al_4, v_is_4, v_as_4, v_inc_4, v_ll_4, v_ls_4, v_il_5, v_al_5, v_is_5, v_as_5, v_inc_5, v_ll_5, v_ls_5, v_il_6, v_al_6, v_is_6, v_as_6, v_inc_6, v_il_7, v_al_7, v_is_7, v_as_7, v_inc_7, v_il_8, v_al_8, v_is_8, v_as_8, v_inc_8, v_il_9, v_al_9, v_is_9, v_as_9, v_inc_9, v_il_10, v_al_10, v_is_10, v_as_10, v_inc_10, v_il_11, v_al_11, v_is_11, v_as_11, v_inc_11, v_il_12, v_al_12, v_is_12, v_as_12, v_inc_12, v_il_13, v_al_13, v_is_13, v_as_13, v_inc_13, v_c_8, v_c_9, v_c_10, v_c_11, v_c_12, v_c_13, v_c_14, v_b_15, v_b_16, v_b_17, v_b_21, v_b_22, v_b_23, v_b_24, v_b_25, v_b_26, v_b_18, v_b_19, v_b_20, v_b_27, v_b_28, v_b_29, v_b_30, v_b_31, v_dup_i, v_dup_r, v_dup2, v_pop, v_gi, v_gl, v_gr, v_pi, v_pl, v_pz, v_iald, v_lald, v_bald, v_zald, v_aald, v_iast, v_last, v_bast, v_zast, v_alen_0, v_alen_1, v_alen_2, v_alen_3, v_alen_4, v_j_45, v_j_46, v_j_47, v_j_48, v_j_49, v_j_50, v_j_51, v_j_52, v_j_53, v_j_54, v_j_55, v_j_56, v_goto, v_sw, v_ret_i, v_ret_z, v_ret, v_cpy, v_iv_1, v_iv_2, v_iv_3, v_iv_4, v_iv_5, v_iv_6, v_is2_1, v_is2_2, v_is2_3, v_ivJ, List.nil_append, List.cons_append, rf_0_0, rf_0_1, rf_0_2, rf_0_3, rf_0_4, rf_0_5, rf_0_6, rf_0_7, rf_0_8, rf_0_9, rf_1_0, rf_1_2, rf_4_0, rf_4_1, rf_4_2, rf_5_8, rf_5_9, rf_5_10, rf_5_11, rf_5_12, rf_13_0, rf_13_1, rf_14_0, rf_14_1, rf_14_2, rf_15_8, rf_15_9, rf_15_10, rf_15_11, rf_15_12, rf_23_0, rf_23_1, rf_23_2, rf_24_8, rf_24_9, rf_24_10, rf_24_11, rf_24_12, rf_32_6, rf_34_0, rf_34_1, rf_34_2, rf_34_3, rf_35_8, rf_35_9, rf_35_10, rf_35_11, rf_35_12, rf_43_0, rf_43_1, rf_43_2, rf_43_3, rf_45_0, rf_45_1, rf_46_0, rf_46_1, rf_46_2, rf_46_3, rf_46_4, rf_46_5, rf_47_0, rf_47_1, rf_49_0, rf_49_1, rf_49_2, rf_49_3, rf_49_4, rf_49_5, rf_53_0, rf_53_1, rf_53_2, rf_53_3, rf_53_4, rf_53_5, rf_53_6, rf_53_7, rf_53_9, rf_53_10, rf_53_11, rf_53_12, rf_53_13, rf_54_0, rf_54_1, rf_55_1, rf_55_2, rf_55_3, rf_67_1, rf_67_6, rf_67_7, rf_67_8, rf_67_9, rf_67_10, rf_67_22, rf_67_23, rf_67_28, rf_67_30, rf_67_32, rf_67_33, rf_67_38, rf_67_39, rf_67_48, rf_67_49, rf_67_51, rf_67_52, rf_67_53, rf_67_54, rf_67_55, rf_67_60, rf_67_61, rf_67_62, e1, e2, e3, if_pos h, if_neg (show ¬ n ≠ al from fun h9 => h9 h2), b_178_256, k_178_256, b_178_266, k_178_266]
    · rw [cb_f h2]
      simp (disch := first | exact nl_i _ | exact nl_r _ | exact Nat.le_of_ble_eq_true rfl | exact Or.inl rfl | exact Or.inr rfl | exact w8_lo _ | exact w8_hi _ | decide | omega) only [v_fall, v_il_0, v_al_0, v_is_0, v_as_0, v_inc_0, v_ll_0, v_ls_0, v_il_1, v_al_1, v_is_1, v_as_1, v_inc_1, v_ll_1, v_ls_1, v_il_2, v_al_2, v_is_2, v_as_2, v_inc_2, v_ll_2, v_ls_2, v_il_3, v_al_3, v_is_3, v_as_3, v_inc_3, v_ll_3, v_ls_3, v_il_4, v_al_4, v_is_4, v_as_4, v_inc_4, v_ll_4, v_ls_4, v_il_5, v_al_5, v_is_5, v_as_5, v_inc_5, v_ll_5, v_ls_5, v_il_6, v_al_6, v_is_6, v_as_6, v_inc_6, v_il_7, v_al_7, v_is_7, v_as_7, v_inc_7, v_il_8, v_al_8, v_is_8, v_as_8, v_inc_8, v_il_9, v_al_9, v_is_9, v_as_9, v_inc_9, v_il_10, v_al_10, v_is_10, v_as_10, v_inc_10, v_il_11, v_al_11, v_is_11, v_as_11, v_inc_11, v_il_12, v_al_12, v_is_12, v_as_12, v_inc_12, v_il_13, v_al_13, v_is_13, v_as_13, v_inc_13, v_c_8, v_c_9, v_c_10, v_c_11, v_c_12, v_c_13, v_c_14, v_b_15, v_b_16, v_b_17, v_b_21, v_b_22, v_b_23, v_b_24, v_b_25, v_b_26, v_b_18, v_b_19, v_b_20, v_b_27, v_b_28, v_b_29, v_b_30, v_b_31, v_dup_i, v_dup_r, v_dup2, v_pop, v_gi, v_gl, v_gr, v_pi, v_pl, v_pz, v_iald, v_lald, v_bald, v_zald, v_aald, v_iast, v_last, v_bast, v_zast, v_alen_0, v_alen_1, v_alen_2, v_alen_3, v_alen_4, v_j_45, v_j_46, v_j_47, v_j_48, v_j_49, v_j_50, v_j_51, v_j_52, v_j_53, v_j_54, v_j_55, v_j_56, v_goto, v_sw, v_ret_i, v_ret_z, v_ret, v_cpy, v_iv_1, v_iv_2, v_iv_3, v_iv_4, v_iv_5, v_iv_6, v_is2_1, v_is2_2, v_is2_3, v_ivJ, List.nil_append, List.cons_append, rf_0_0, rf_0_1, rf_0_2, rf_0_3, rf_0_4, rf_0_5, rf_0_6, rf_0_7, rf_0_8, rf_0_9, rf_1_0, rf_1_2, rf_4_0, rf_4_1, rf_4_2, rf_5_8, rf_5_9, rf_5_10, rf_5_11, rf_5_12, rf_13_0, rf_13_1, rf_14_0, rf_14_1, rf_14_2, rf_15_8, rf_15_9, rf_15_10, rf_15_11, rf_15_12, rf_23_0, rf_23_1, rf_23_2, rf_24_8, rf_24_9, rf_24_10, rf_24_11, rf_24_12, rf_32_6, rf_34_0, rf_34_1, rf_34_2, rf_34_3, rf_35_8, rf_35_9, rf_35_10, rf_35_11, rf_35_12, rf_43_0, rf_43_1, rf_43_2, rf_43_3, rf_45_0, rf_45_1, rf_46_0, rf_46_1, rf_46_2, rf_46_3, rf_46_4, rf_46_5, rf_47_0, rf_47_1, rf_49_0, rf_49_1, rf_49_2, rf_49_3, rf_49_4, rf_49_5, rf_53_0, rf_53_1, rf_53_2, rf_53_3, rf_53_4, rf_53_5, rf_53_6, rf_53_7, rf_53_9, rf_53_10, rf_53_11, rf_53_12, rf_53_13, rf_54_0, rf_54_1, rf_55_1, rf_55_2, rf_55_3, rf_67_1, rf_67_6, rf_67_7, rf_67_8, rf_67_9, rf_67_10, rf_67_22, rf_67_23, rf_67_28, rf_67_30, rf_67_32, rf_67_33, rf_67_38, rf_67_39, rf_67_48, rf_67_49, rf_67_51, rf_67_52, rf_67_53, rf_67_54, rf_67_55, rf_67_60, rf_67_61, rf_67_62, e1, e2, e3, if_pos h, if_pos (show n ≠ al from h2), b_178_256, k_178_256, b_178_265, k_178_265, b_178_266, k_178_266]
  · rw [if_neg h]
    simp (disch := first | exact nl_i _ | exact nl_r _ | exact Nat.le_of_ble_eq_true rfl | exact Or.inl rfl | exact Or.inr rfl | exact w8_lo _ | exact w8_hi _ | decide | omega) only [v_fall, v_il_0, v_al_0, v_is_0, v_as_0, v_inc_0, v_ll_0, v_ls_0, v_il_1, v_al_1, v_is_1, v_as_1, v_inc_1, v_ll_1, v_ls_1, v_il_2, v_al_2, v_is_2, v_as_2, v_inc_2, v_ll_2, v_ls_2, v_il_3, v_al_3, v_is_3, v_as_3, v_inc_3, v_ll_3, v_ls_3, v_il_4, v_al_4, v_is_4, v_as_4, v_inc_4, v_ll_4, v_ls_4, v_il_5, v_al_5, v_is_5, v_as_5, v_inc_5, v_ll_5, v_ls_5, v_il_6, v_al_6, v_is_6, v_as_6, v_inc_6, v_il_7, v_al_7, v_is_7, v_as_7, v_inc_7, v_il_8, v_al_8, v_is_8, v_as_8, v_inc_8, v_il_9, v_al_9, v_is_9, v_as_9, v_inc_9, v_il_10, v_al_10, v_is_10, v_as_10, v_inc_10, v_il_11, v_al_11, v_is_11, v_as_11, v_inc_11, v_il_12, v_al_12, v_is_12, v_as_12, v_inc_12, v_il_13, v_al_13, v_is_13, v_as_13, v_inc_13, v_c_8, v_c_9, v_c_10, v_c_11, v_c_12, v_c_13, v_c_14, v_b_15, v_b_16, v_b_17, v_b_21, v_b_22, v_b_23, v_b_24, v_b_25, v_b_26, v_b_18, v_b_19, v_b_20, v_b_27, v_b_28, v_b_29, v_b_30, v_b_31, v_dup_i, v_dup_r, v_dup2, v_pop, v_gi, v_gl, v_gr, v_pi, v_pl, v_pz, v_iald, v_lald, v_bald, v_zald, v_aald, v_iast, v_last, v_bast, v_zast, v_alen_0, v_alen_1, v_alen_2, v_alen_3, v_alen_4, v_j_45, v_j_46, v_j_47, v_j_48, v_j_49, v_j_50, v_j_51, v_j_52, v_j_53, v_j_54, v_j_55, v_j_56, v_goto, v_sw, v_ret_i, v_ret_z, v_ret, v_cpy, v_iv_1, v_iv_2, v_iv_3, v_iv_4, v_iv_5, v_iv_6, v_is2_1, v_is2_2, v_is2_3, v_ivJ, List.nil_append, List.cons_append, rf_0_0, rf_0_1, rf_0_2, rf_0_3, rf_0_4, rf_0_5, rf_0_6, rf_0_7, rf_0_8, rf_0_9, rf_1_0, rf_1_2, rf_4_0, rf_4_1, rf_4_2, rf_5_8, rf_5_9, rf_5_10, rf_5_11, rf_5_12, rf_13_0, rf_13_1, rf_14_0, rf_14_1, rf_14_2, rf_15_8, rf_15_9, rf_15_10, rf_15_11, rf_15_12, rf_23_0, rf_23_1, rf_23_2, rf_24_8, rf_24_9, rf_24_10, rf_24_11, rf_24_12, rf_32_6, rf_34_0, rf_34_1, rf_34_2, rf_34_3, rf_35_8, rf_35_9, rf_35_10, rf_35_11, rf_35_12, rf_43_0, rf_43_1, rf_43_2, rf_43_3, rf_45_0, rf_45_1, rf_46_0, rf_46_1, rf_46_2, rf_46_3, rf_46_4, rf_46_5, rf_47_0, rf_47_1, rf_49_0, rf_49_1, rf_49_2, rf_49_3, rf_49_4, rf_49_5, rf_53_0, rf_53_1, rf_53_2, rf_53_3, rf_53_4, rf_53_5, rf_53_6, rf_53_7, rf_53_9, rf_53_10, rf_53_11, rf_53_12, rf_53_13, rf_54_0, rf_54_1, rf_55_1, rf_55_2, rf_55_3, rf_67_1, rf_67_6, rf_67_7, rf_67_8, rf_67_9, rf_67_10, rf_67_22, rf_67_23, rf_67_28, rf_67_30, rf_67_32, rf_67_33, rf_67_38, rf_67_39, rf_67_48, rf_67_49, rf_67_51, rf_67_52, rf_67_53, rf_67_54, rf_67_55, rf_67_60, rf_67_61, rf_67_62, e1, e2, e3, if_neg h]
theorem so_5 (k n : Int) (o1 o2 o3 o4 o6 : AV) (hk : 0 ≤ k ∧ k ≤ n ∧ n ≤ 24) (p0 : ∀ Q', XC d 167 [aR 22 0 67] M Q' ↔ Q' [aI n] M) : XL (d + 1) 178 161 [aR 22 0 67, o1, o2, o3, o4, aI k, o6] [] M Q ↔ (if k < n then XL (d + 1) 178 173 [aR 22 0 67, o1, o2, o3, o4, aI k, aI 0] [] M Q else XL (d + 1) 178 149 [aR 22 0 67, o1, o2, o3, o4, aI k, o6] [] M Q) := by
  have e1 : w32 n = n := w_sm (by omega)
  have e2 : w32 k = k := w_sm (by omega)
  rw [b_178_161, k_178_161]
  by_cases h : k < n
  · rw [if_pos h]
    simp (disch := first | exact nl_i _ | exact nl_r _ | exact Nat.le_of_ble_eq_true rfl | exact Or.inl rfl | exact Or.inr rfl | exact w8_lo _ | exact w8_hi _ | decide | omega) only [v_fall, v_il_0, v_al_0, v_is_0, v_as_0, v_inc_0, v_ll_0, v_ls_0, v_il_1, v_al_1, v_is_1, v_as_1, v_inc_1, v_ll_1, v_ls_1, v_il_2, v_al_2, v_is_2, v_as_2, v_inc_2, v_ll_2, v_ls_2, v_il_3, v_al_3, v_is_3, v_as_3, v_inc_3, v_ll_3, v_ls_3, v_il_4, v_al_4, v_is_4, v_as_4, v_inc_4, v_ll_4, v_ls_4, v_il_5, v_al_5, v_is_5, v_as_5, v_inc_5, v_ll_5, v_ls_5, v_il_6, v_al_6, v_is_6, v_as_6, v_inc_6, v_il_7, v_al_7, v_is_7, v_as_7, v_inc_7, v_il_8, v_al_8, v_is_8, v_as_8, v_inc_8, v_il_9, v_al_9, v_is_9, v_as_9, v_inc_9, v_il_10, v_al_10, v_is_10, v_as_10, v_inc_10, v_il_11, v_al_11, v_is_11, v_as_11, v_inc_11, v_il_12, v_al_12, v_is_12, v_as_12, v_inc_12, v_il_13, v_al_13, v_is_13, v_as_13, v_inc_13, v_c_8, v_c_9, v_c_10, v_c_11, v_c_12, v_c_13, v_c_14, v_b_15, v_b_16, v_b_17, v_b_21, v_b_22, v_b_23, v_b_24, v_b_25, v_b_26, v_b_18, v_b_19, v_b_20, v_b_27, v_b_28, v_b_29, v_b_30, v_b_31, v_dup_i, v_dup_r, v_dup2, v_pop, v_gi, v_gl, v_gr, v_pi, v_pl, v_pz, v_iald, v_lald, v_bald, v_zald, v_aald, v_iast, v_last, v_bast, v_zast, v_alen_0, v_alen_1, v_alen_2, v_alen_3, v_alen_4, v_j_45, v_j_46, v_j_47, v_j_48, v_j_49, v_j_50, v_j_51, v_j_52, v_j_53, v_j_54, v_j_55, v_j_56, v_goto, v_sw, v_ret_i, v_ret_z, v_ret, v_cpy, v_iv_1, v_iv_2, v_iv_3, v_iv_4, v_iv_5, v_iv_6, v_is2_1, v_is2_2, v_is2_3, v_ivJ, List.nil_append, List.cons_append, rf_0_0, rf_0_1, rf_0_2, rf_0_3, rf_0_4, rf_0_5, rf_0_6, rf_0_7, rf_0_8, rf_0_9, rf_1_0, rf_1_2, rf_4_0, rf_4_1, rf_4_2, rf_5_8, rf_5_9, rf_5_10, rf_5_11, rf_5_12, rf_13_0, rf_13_1, rf_14_0, rf_14_1, rf_14_2, rf_15_8, rf_15_9, rf_15_10, rf_15_11, rf_15_12, rf_23_0, rf_23_1, rf_23_2, rf_24_8, rf_24_9, rf_24_10, rf_24_11, rf_24_12, rf_32_6, rf_34_0, rf_34_1, rf_34_2, rf_34_3, rf_35_8, rf_35_9, rf_35_10, rf_35_11, rf_35_12, rf_43_0, rf_43_1, rf_43_2, rf_43_3, rf_45_0, rf_45_1, rf_46_0, rf_46_1, rf_46_2, rf_46_3, rf_46_4, rf_46_5, rf_47_0, rf_47_1, rf_49_0, rf_49_1, rf_49_2, rf_49_3, rf_49_4, rf_49_5, rf_53_0, rf_53_1, rf_53_2, rf_53_3, rf_53_4, rf_53_5, rf_53_6, rf_53_7, rf_53_9, rf_53_10, rf_53_11, rf_53_12, rf_53_13, rf_54_0, rf_54_1, rf_55_1, rf_55_2, rf_55_3, rf_67_1, rf_67_6, rf_67_7, rf_67_8, rf_67_9, rf_67_10, rf_67_22, rf_67_23, rf_67_28, rf_67_30, rf_67_32, rf_67_33, rf_67_38, rf_67_39, rf_67_48, rf_67_49, rf_67_51, rf_67_52, rf_67_53, rf_67_54, rf_67_55, rf_67_60, rf_67_61, rf_67_62, p0, e1, e2, if_neg (show ¬ n ≤ k by omega)]
  · rw [if_neg h]
    simp (disch := first | exact nl_i _ | exact nl_r _ | exact Nat.le_of_ble_eq_true rfl | exact Or.inl rfl | exact Or.inr rfl | exact w8_lo _ | exact w8_hi _ | decide | omega) only [v_fall, v_il_0, v_al_0, v_is_0, v_as_0, v_inc_0, v_ll_0, v_ls_0, v_il_1, v_al_1, v_is_1, v_as_1, v_inc_1, v_ll_1, v_ls_1, v_il_2, v_al_2, v_is_2, v_as_2, v_inc_2, v_ll_2, v_ls_2, v_il_3, v_al_3, v_is_3, v_as_3, v_inc_3, v_ll_3, v_ls_3, v_il_4, v_al_4, v_is_4, v_as_4, v_inc_4, v_ll_4, v_ls_4, v_il_5, v_al_5, v_is_5, v_as_5, v_inc_5, v_ll_5, v_ls_5, v_il_6, v_al_6, v_is_6, v_as_6, v_inc_6, v_il_7, v_al_7, v_is_7, v_as_7, v_inc_7, v_il_8, v_al_8, v_is_8, v_as_8, v_inc_8, v_il_9, v_al_9, v_is_9, v_as_9, v_inc_9, v_il_10, v_al_10, v_is_10, v_as_10, v_inc_10, v_il_11, v_al_11, v_is_11, v_as_11, v_inc_11, v_il_12, v_al_12, v_is_12, v_as_12, v_inc_12, v_il_13, v_al_13, v_is_13, v_as_13, v_inc_13, v_c_8, v_c_9, v_c_10, v_c_11, v_c_12, v_c_13, v_c_14, v_b_15, v_b_16, v_b_17, v_b_21, v_b_22, v_b_23, v_b_24, v_b_25, v_b_26, v_b_18, v_b_19, v_b_20, v_b_27, v_b_28, v_b_29, v_b_30, v_b_31, v_dup_i, v_dup_r, v_dup2, v_pop, v_gi, v_gl, v_gr, v_pi, v_pl, v_pz, v_iald, v_lald, v_bald, v_zald, v_aald, v_iast, v_last, v_bast, v_zast, v_alen_0, v_alen_1, v_alen_2, v_alen_3, v_alen_4, v_j_45, v_j_46, v_j_47, v_j_48, v_j_49, v_j_50, v_j_51, v_j_52, v_j_53, v_j_54, v_j_55, v_j_56, v_goto, v_sw, v_ret_i, v_ret_z, v_ret, v_cpy, v_iv_1, v_iv_2, v_iv_3, v_iv_4, v_iv_5, v_iv_6, v_is2_1, v_is2_2, v_is2_3, v_ivJ, List.nil_append, List.cons_append, rf_0_0, rf_0_1, rf_0_2, rf_0_3, rf_0_4, rf_0_5, rf_0_6, rf_0_7, rf_0_8, rf_0_9, rf_1_0, rf_1_2, rf_4_0, rf_4_1, rf_4_2, rf_5_8, rf_5_9, rf_5_10, rf_5_11, rf_5_12, rf_13_0, rf_13_1, rf_14_0, rf_14_1, rf_14_2, rf_15_8, rf_15_9, rf_15_10, rf_15_11, rf_15_12, rf_23_0, rf_23_1, rf_23_2, rf_24_8, rf_24_9, rf_24_10, rf_24_11, rf_24_12, rf_32_6, rf_34_0, rf_34_1, rf_34_2, rf_34_3, rf_35_8, rf_35_9, rf_35_10, rf_35_11, rf_35_12, rf_43_0, rf_43_1, rf_43_2, rf_43_3, rf_45_0, rf_45_1, rf_46_0, rf_46_1, rf_46_2, rf_46_3, rf_46_4, rf_46_5, rf_47_0, rf_47_1, rf_49_0, rf_49_1, rf_49_2, rf_49_3, rf_49_4, rf_49_5, rf_53_0, rf_53_1, rf_53_2, rf_53_3, rf_53_4, rf_53_5, rf_53_6, rf_53_7, rf_53_9, rf_53_10, rf_53_11, rf_53_12, rf_53_13, rf_54_0, rf_54_1, rf_55_1, rf_55_2, rf_55_3, rf_67_1, rf_67_6, rf_67_7, rf_67_8, rf_67_9, rf_67_10, rf_67_22, rf_67_23, rf_67_28, rf_67_30, rf_67_32, rf_67_33, rf_67_38, rf_67_39, rf_67_48, rf_67_49, rf_67_51, rf_67_52, rf_67_53, rf_67_54, rf_67_55, rf_67_60, rf_67_61, rf_67_62, p0, e1, e2, if_pos (show n ≤ k by omega), b_178_253, k_178_253]
theorem so_6n (k z : Int) (o1 o2 o3 o4 : AV) (hz : 0 ≤ z ∧ z < 2) (p1 : ∀ Q', XC d 172 [aR 22 0 67, aI k, aI z] M Q' ↔ Q' [aI 0] M) : XL (d + 1) 178 173 [aR 22 0 67, o1, o2, o3, o4, aI k, aI z] [] M Q ↔ XL (d + 1) 178 173 [aR 22 0 67, o1, o2, o3, o4, aI k, aI (z + 1)] [] M Q := by
  have e1 : w32 z = z := w_sm (by omega)
  have e2 : w32 2 = 2 := rfl
  have e3 : w32 0 = 0 := rfl
  rw [b_178_173, k_178_173]
  simp (disch := first | exact nl_i _ | exact nl_r _ | exact Nat.le_of_ble_eq_true rfl | exact Or.inl rfl | exact Or.inr rfl | exact w8_lo _ | exact w8_hi _ | decide | omega) only [v_fall, v_il_0, v_al_0, v_is_0, v_as_0, v_inc_0, v_ll_0, v_ls_0, v_il_1, v_al_1, v_is_1, v_as_1, v_inc_1, v_ll_1, v_ls_1, v_il_2, v_al_2, v_is_2, v_as_2, v_inc_2, v_ll_2, v_ls_2, v_il_3, v_al_3, v_is_3, v_as_3, v_inc_3, v_ll_3, v_ls_3, v_il_4, v_al_4, v_is_4, v_as_4, v_inc_4, v_ll_4, v_ls_4, v_il_5, v_al_5, v_is_5, v_as_5, v_inc_5, v_ll_5, v_ls_5, v_il_6, v_al_6, v_is_6, v_as_6, v_inc_6, v_il_7, v_al_7, v_is_7, v_as_7, v_inc_7, v_il_8, v_al_8, v_is_8, v_as_8, v_inc_8, v_il_9, v_al_9, v_is_9, v_as_9, v_inc_9, v_il_10, v_al_10, v_is_10, v_as_10, v_inc_10, v_il_11, v_al_11, v_is_11, v_as_11, v_inc_11, v_il_12, v_al_12, v_is_12, v_as_12, v_inc_12, v_il_13, v_al_13, v_is_13, v_as_13, v_inc_13, v_c_8, v_c_9, v_c_10, v_c_11, v_c_12, v_c_13, v_c_14, v_b_15, v_b_16, v_b_17, v_b_21, v_b_22, v_b_23, v_b_24, v_b_25, v_b_26, v_b_18, v_b_19, v_b_20, v_b_27, v_b_28, v_b_29, v_b_30, v_b_31, v_dup_i, v_dup_r, v_dup2, v_pop, v_gi, v_gl, v_gr, v_pi, v_pl, v_pz, v_iald, v_lald, v_bald, v_zald, v_aald, v_iast, v_last, v_bast, v_zast, v_alen_0, v_alen_1, v_alen_2, v_alen_3, v_alen_4, v_j_45, v_j_46, v_j_47, v_j_48, v_j_49, v_j_50, v_j_51, v_j_52, v_j_53, v_j_54, v_j_55, v_j_56, v_goto, v_sw, v_ret_i, v_ret_z, v_ret, v_cpy, v_iv_1, v_iv_2, v_iv_3, v_iv_4, v_iv_5, v_iv_6, v_is2_1, v_is2_2, v_is2_3, v_ivJ, List.nil_append, List.cons_append, rf_0_0, rf_0_1, rf_0_2, rf_0_3, rf_0_4, rf_0_5, rf_0_6, rf_0_7, rf_0_8, rf_0_9, rf_1_0, rf_1_2, rf_4_0, rf_4_1, rf_4_2, rf_5_8, rf_5_9, rf_5_10, rf_5_11, rf_5_12, rf_13_0, rf_13_1, rf_14_0, rf_14_1, rf_14_2, rf_15_8, rf_15_9, rf_15_10, rf_15_11, rf_15_12, rf_23_0, rf_23_1, rf_23_2, rf_24_8, rf_24_9, rf_24_10, rf_24_11, rf_24_12, rf_32_6, rf_34_0, rf_34_1, rf_34_2, rf_34_3, rf_35_8, rf_35_9, rf_35_10, rf_35_11, rf_35_12, rf_43_0, rf_43_1, rf_43_2, rf_43_3, rf_45_0, rf_45_1, rf_46_0, rf_46_1, rf_46_2, rf_46_3, rf_46_4, rf_46_5, rf_47_0, rf_47_1, rf_49_0, rf_49_1, rf_49_2, rf_49_3, rf_49_4, rf_49_5, rf_53_0, rf_53_1, rf_53_2, rf_53_3, rf_53_4, rf_53_5, rf_53_6, rf_53_7, rf_53_9, rf_53_10, rf_53_11, rf_53_12, rf_53_13, rf_54_0, rf_54_1, rf_55_1, rf_55_2, rf_55_3, rf_67_1, rf_67_6, rf_67_7, rf_67_8, rf_67_9, rf_67_10, rf_67_22, rf_67_23, rf_67_28, rf_67_30, rf_67_32, rf_67_33, rf_67_38, rf_67_39, rf_67_48, rf_67_49, rf_67_51, rf_67_52, rf_67_53, rf_67_54, rf_67_55, rf_67_60, rf_67_61, rf_67_62, p1, e1, e2, e3, if_neg (show ¬ (2 : Int) ≤ z by omega), if_true, b_178_241, k_178_241]
theorem so_6y (k z q a c n : Int) (o1 o2 o4 : AV) (hk : 0 ≤ k ∧ k < 24) (hz : 0 ≤ z ∧ z < 2) (p1 : ∀ Q', XC d 172 [aR 22 0 67, aI k, aI z] M Q' ↔ Q' [aI 1] M) (hq : 0 ≤ q ∧ q < 24) (p2 : ∀ (M' : Mem) Q', M' 69 = M 69 → (XC d 171 [aR 22 0 67, aI k, aI z] M' Q' ↔ Q' [aI q] M')) (ha : M 77 k = a) (hab : 0 ≤ a ∧ a ≤ 1) (hc : M 77 q = c) (hcb : 0 ≤ c ∧ c ≤ 1) : XL (d + 1) 178 173 [aR 22 0 67, o1, o2, aI n, o4, aI k, aI z] [] M Q ↔ (if a = c then XL (d + 1) 178 173 [aR 22 0 67, o1, o2, aI n, o4, aI k, aI (z + 1)] [] M Q else XL (d + 1) 178 173 [aR 22 0 67, o1, o2, aI (n + 1), o4, aI k, aI (z + 1)] [] (up (up M 77 k 1) 77 q 1) Q) := by
  have e1 : w32 z = z := w_sm (by omega)
  have e2 : w32 2 = 2 := rfl
  have e3 : w32 1 = 1 := rfl
  have e4 : w32 a = a := w_sm (by omega)
  have e5 : w32 c = c := w_sm (by omega)
  have h0 : 0 ≤ k := hk.1
  have h1 : k < ((24 : Nat) : Int) := by omega
  have h2 : 0 ≤ q := hq.1
  have h3 : q < ((24 : Nat) : Int) := by omega
  have p3 := fun Q' => p2 M Q' rfl
  have p4 := fun Q' => p2 (up M 77 k 1) Q' (up_r (by decide))
  rw [b_178_173, k_178_173]
  by_cases h : a = c
  · rw [if_pos h]
    simp (disch := first | exact nl_i _ | exact nl_r _ | exact Nat.le_of_ble_eq_true rfl | exact Or.inl rfl | exact Or.inr rfl | exact w8_lo _ | exact w8_hi _ | decide | omega) only [v_fall, v_il_0, v_al_0, v_is_0, v_as_0, v_inc_0, v_ll_0, v_ls_0, v_il_1, v_al_1, v_is_1, v_as_1, v_inc_1, v_ll_1, v_ls_1, v_il_2, v_al_2, v_is_2, v_as_2, v_inc_2, v_ll_2, v_ls_2, v_il_3, v_al_3, v_is_3, v_as_3, v_inc_3, v_ll_3, v_ls_3, v_il_4, v_al_4, v_is_4, v_as_4, v_inc_4, v_ll_4, v_ls_4, v_il_5, v_al_5, v_is_5, v_as_5, v_inc_5, v_ll_5, v_ls_5, v_il_6, v_al_6, v_is_6, v_as_6, v_inc_6, v_il_7, v_al_7, v_is_7, v_as_7, v_inc_7, v_il_8, v_al_8, v_is_8, v_as_8, v_inc_8, v_il_9, v_al_9, v_is_9, v_as_9, v_inc_9, v_il_10, v_al_10, v_is_10, v_as_10, v_inc_10, v_il_11, v_al_11, v_is_11, v_as_11, v_inc_11, v_il_12, v_al_12, v_is_12, v_as_12, v_inc_12, v_il_13, v_al_13, v_is_13, v_as_13, v_inc_13, v_c_8, v_c_9, v_c_10, v_c_11, v_c_12, v_c_13, v_c_14, v_b_15, v_b_16, v_b_17, v_b_21, v_b_22, v_b_23, v_b_24, v_b_25, v_b_26, v_b_18, v_b_19, v_b_20, v_b_27, v_b_28, v_b_29, v_b_30, v_b_31, v_dup_i, v_dup_r, v_dup2, v_pop, v_gi, v_gl, v_gr, v_pi, v_pl, v_pz, v_iald, v_lald, v_bald, v_zald, v_aald, v_iast, v_last, v_bast, v_zast, v_alen_0, v_alen_1, v_alen_2, v_alen_3, v_alen_4, v_j_45, v_j_46, v_j_47, v_j_48, v_j_49, v_j_50, v_j_51, v_j_52, v_j_53, v_j_54, v_j_55, v_j_56, v_goto, v_sw, v_ret_i, v_ret_z, v_ret, v_cpy, v_iv_1, v_iv_2, v_iv_3, v_iv_4, v_iv_5, v_iv_6, v_is2_1, v_is2_2, v_is2_3, v_ivJ, List.nil_append, List.cons_append, rf_0_0, rf_0_1, rf_0_2, rf_0_3, rf_0_4, rf_0_5, rf_0_6, rf_0_7, rf_0_8, rf_0_9, rf_1_0, rf_1_2, rf_4_0, rf_4_1, rf_4_2, rf_5_8, rf_5_9, rf_5_10, rf_5_11, rf_5_12, rf_13_0, rf_13_1, rf_14_0, rf_14_1, rf_14_2, rf_15_8, rf_15_9, rf_15_10, rf_15_11, rf_15_12, rf_23_0, rf_23_1, rf_23_2, rf_24_8, rf_24_9, rf_24_10, rf_24_11, rf_24_12, rf_32_6, rf_34_0, rf_34_1, rf_34_2, rf_34_3, rf_35_8, rf_35_9, rf_35_10, rf_35_11, rf_35_12, rf_43_0, rf_43_1, rf_43_2, rf_43_3, rf_45_0, rf_45_1, rf_46_0, rf_46_1, rf_46_2, rf_46_3, rf_46_4, rf_46_5, rf_47_0, rf_47_1, rf_49_0, rf_49_1, rf_49_2, rf_49_3, rf_49_4, rf_49_5, rf_53_0, rf_53_1, rf_53_2, rf_53_3, rf_53_4, rf_53_5, rf_53_6, rf_53_7, rf_53_9, rf_53_10, rf_53_11, rf_53_12, rf_53_13, rf_54_0, rf_54_1, rf_55_1, rf_55_2, rf_55_3, rf_67_1, rf_67_6, rf_67_7, rf_67_8, rf_67_9, rf_67_10, rf_67_22, rf_67_23, rf_67_28, rf_67_30, rf_67_32, rf_67_33, rf_67_38, rf_67_39, rf_67_48, rf_67_49, rf_67_51, rf_67_52, rf_67_53, rf_67_54, rf_67_55, rf_67_60, rf_67_61, rf_67_62, p1, p3, ha, hc, e1, e2, e3, e4, e5, if_neg (show ¬ (2 : Int) ≤ z by omega), if_neg (show ¬ (1 : Int) = 0 by omega), if_neg (show ¬ a ≠ c from fun h9 => h9 h), b_178_241, k_178_241]
  · rw [if_neg h]
    simp (disch := first | exact nl_i _ | exact nl_r _ | exact Nat.le_of_ble_eq_true rfl | exact Or.inl rfl | exact Or.inr rfl | exact w8_lo _ | exact w8_hi _ | decide | omega) only [v_fall, v_il_0, v_al_0, v_is_0, v_as_0, v_inc_0, v_ll_0, v_ls_0, v_il_1, v_al_1, v_is_1, v_as_1, v_inc_1, v_ll_1, v_ls_1, v_il_2, v_al_2, v_is_2, v_as_2, v_inc_2, v_ll_2, v_ls_2, v_il_3, v_al_3, v_is_3, v_as_3, v_inc_3, v_ll_3, v_ls_3, v_il_4, v_al_4, v_is_4, v_as_4, v_inc_4, v_ll_4, v_ls_4, v_il_5, v_al_5, v_is_5, v_as_5, v_inc_5, v_ll_5, v_ls_5, v_il_6, v_al_6, v_is_6, v_as_6, v_inc_6, v_il_7, v_al_7, v_is_7, v_as_7, v_inc_7, v_il_8, v_al_8, v_is_8, v_as_8, v_inc_8, v_il_9, v_al_9, v_is_9, v_as_9, v_inc_9, v_il_10, v_al_10, v_is_10, v_as_10, v_inc_10, v_il_11, v_al_11, v_is_11, v_as_11, v_inc_11, v_il_12, v_al_12, v_is_12, v_as_12, v_inc_12, v_il_13, v_al_13, v_is_13, v_as_13, v_inc_13, v_c_8, v_c_9, v_c_10, v_c_11, v_c_12, v_c_13, v_c_14, v_b_15, v_b_16, v_b_17, v_b_21, v_b_22, v_b_23, v_b_24, v_b_25, v_b_26, v_b_18, v_b_19, v_b_20, v_b_27, v_b_28, v_b_29, v_b_30, v_b_31, v_dup_i, v_dup_r, v_dup2, v_pop, v_gi, v_gl, v_gr, v_pi, v_pl, v_pz, v_iald, v_lald, v_bald, v_zald, v_aald, v_iast, v_last, v_bast, v_zast, v_alen_0, v_alen_1, v_alen_2, v_alen_3, v_alen_4, v_j_45, v_j_46, v_j_47, v_j_48, v_j_49, v_j_50, v_j_51, v_j_52, v_j_53, v_j_54, v_j_55, v_j_56, v_goto, v_sw, v_ret_i, v_ret_z, v_ret, v_cpy, v_iv_1, v_iv_2, v_iv_3, v_iv_4, v_iv_5, v_iv_6, v_is2_1, v_is2_2, v_is2_3, v_ivJ, List.nil_append, List.cons_append, rf_0_0, rf_0_1, rf_0_2, rf_0_3, rf_0_4, rf_0_5, rf_0_6, rf_0_7, rf_0_8, rf_0_9, rf_1_0, rf_1_2, rf_4_0, rf_4_1, rf_4_2, rf_5_8, rf_5_9, rf_5_10, rf_5_11, rf_5_12, rf_13_0, rf_13_1, rf_14_0, rf_14_1, rf_14_2, rf_15_8, rf_15_9, rf_15_10, rf_15_11, rf_15_12, rf_23_0, rf_23_1, rf_23_2, rf_24_8, rf_24_9, rf_24_10, rf_24_11, rf_24_12, rf_32_6, rf_34_0, rf_34_1, rf_34_2, rf_34_3, rf_35_8, rf_35_9, rf_35_10, rf_35_11, rf_35_12, rf_43_0, rf_43_1, rf_43_2, rf_43_3, rf_45_0, rf_45_1, rf_46_0, rf_46_1, rf_46_2, rf_46_3, rf_46_4, rf_46_5, rf_47_0, rf_47_1, rf_49_0, rf_49_1, rf_49_2, rf_49_3, rf_49_4, rf_49_5, rf_53_0, rf_53_1, rf_53_2, rf_53_3, rf_53_4, rf_53_5, rf_53_6, rf_53_7, rf_53_9, rf_53_10, rf_53_11, rf_53_12, rf_53_13, rf_54_0, rf_54_1, rf_55_1, rf_55_2, rf_55_3, rf_67_1, rf_67_6, rf_67_7, rf_67_8, rf_67_9, rf_67_10, rf_67_22, rf_67_23, rf_67_28, rf_67_30, rf_67_32, rf_67_33, rf_67_38, rf_67_39, rf_67_48, rf_67_49, rf_67_51, rf_67_52, rf_67_53, rf_67_54, rf_67_55, rf_67_60, rf_67_61, rf_67_62, p1, p3, p4, ha, hc, e1, e2, e3, e4, e5, if_neg (show ¬ (2 : Int) ≤ z by omega), if_neg (show ¬ (1 : Int) = 0 by omega), if_pos (show a ≠ c from h), b_178_216, k_178_216, b_178_241, k_178_241]
theorem so_7 (k : Int) (o1 o2 o3 o4 : AV) : XL d 178 173 [aR 22 0 67, o1, o2, o3, o4, aI k, aI 2] [] M Q ↔ XL d 178 161 [aR 22 0 67, o1, o2, o3, o4, aI (k + 1), aI 2] [] M Q := by
  have e2 : w32 2 = 2 := rfl
  rw [b_178_173, k_178_173]
  simp (disch := first | exact nl_i _ | exact nl_r _ | exact Nat.le_of_ble_eq_true rfl | exact Or.inl rfl | exact Or.inr rfl | exact w8_lo _ | exact w8_hi _ | decide | omega) only [v_fall, v_il_0, v_al_0, v_is_0, v_as_0, v_inc_0, v_ll_0, v_ls_0, v_il_1, v_al_1, v_is_1, v_as_1, v_inc_1, v_ll_1, v_ls_1, v_il_2, v_al_2, v_is_2, v_as_2, v_inc_2, v_ll_2, v_ls_2, v_il_3, v_al_3, v_is_3, v_as_3, v_inc_3, v_ll_3, v_ls_3, v_il_4, v_al_4, v_is_4, v_as_4, v_inc_4, v_ll_4, v_ls_4, v_il_5, v_al_5, v_is_5, v_as_5, v_inc_5, v_ll_5, v_ls_5, v_il_6, v_al_6, v_is_6, v_as_6, v_inc_6, v_il_7, v_al_7, v_is_7, v_as_7, v_inc_7, v_il_8, v_al_8, v_is_8, v_as_8, v_inc_8, v_il_9, v_al_9, v_is_9, v_as_9, v_inc_9, v_il_10, v_al_10, v_is_10, v_as_10, v_inc_10, v_il_11, v_al_11, v_is_11, v_as_11, v_inc_11, v_il_12, v_al_12, v_is_12, v_as_12, v_inc_12, v_il_13, v_al_13, v_is_13, v_as_13, v_inc_13, v_c_8, v_c_9, v_c_10, v_c_11, v_c_12, v_c_13, v_c_14, v_b_15, v_b_16, v_b_17, v_b_21, v_b_22, v_b_23, v_b_24, v_b_25, v_b_26, v_b_18, v_b_19, v_b_20, v_b_27, v_b_28, v_b_29, v_b_30, v_b_31, v_dup_i, v_dup_r, v_dup2, v_pop, v_gi, v_gl, v_gr, v_pi, v_pl, v_pz, v_iald, v_lald, v_bald, v_zald, v_aald, v_iast, v_last, v_bast, v_zast, v_alen_0, v_alen_1, v_alen_2, v_alen_3, v_alen_4, v_j_45, v_j_46, v_j_47, v_j_48, v_j_49, v_j_50, v_j_51, v_j_52, v_j_53, v_j_54, v_j_55, v_j_56, v_goto, v_sw, v_ret_i, v_ret_z, v_ret, v_cpy, v_iv_1, v_iv_2, v_iv_3, v_iv_4, v_iv_5, v_iv_6, v_is2_1, v_is2_2, v_is2_3, v_ivJ, List.nil_append, List.cons_append, rf_0_0, rf_0_1, rf_0_2, rf_0_3, rf_0_4, rf_0_5, rf_0_6, rf_0_7, rf_0_8, rf_0_9, rf_1_0, rf_1_2, rf_4_0, rf_4_1, rf_4_2, rf_5_8, rf_5_9, rf_5_10, rf_5_11, rf_5_12, rf_13_0, rf_13_1, rf_14_0, rf_14_1, rf_14_2, rf_15_8, rf_15_9, rf_15_10, rf_15_11, rf_15_12, rf_23_0, rf_23_1, rf_23_2, rf_24_8, rf_24_9, rf_24_10, rf_24_11, rf_24_12, rf_32_6, rf_34_0, rf_34_1, rf_34_2, rf_34_3, rf_35_8, rf_35_9, rf_35_10, rf_35_11, rf_35_12, rf_43_0, rf_43_1, rf_43_2, rf_43_3, rf_45_0, rf_45_1, rf_46_0, rf_46_1, rf_46_2, rf_46_3, rf_46_4, rf_46_5, rf_47_0, rf_47_1, rf_49_0, rf_49_1, rf_49_2, rf_49_3, rf_49_4, rf_49_5, rf_53_0, rf_53_1, rf_53_2, rf_53_3, rf_53_4, rf_53_5, rf_53_6, rf_53_7, rf_53_9, rf_53_10, rf_53_11, rf_53_12, rf_53_13, rf_54_0, rf_54_1, rf_55_1, rf_55_2, rf_55_3, rf_67_1, rf_67_6, rf_67_7, rf_67_8, rf_67_9, rf_67_10, rf_67_22, rf_67_23, rf_67_28, rf_67_30, rf_67_32, rf_67_33, rf_67_38, rf_67_39, rf_67_48, rf_67_49, rf_67_51, rf_67_52, rf_67_53, rf_67_54, rf_67_55, rf_67_60, rf_67_61, rf_67_62, e2, if_pos (show (2 : Int) ≤ 2 by omega), b_178_247, k_178_247]
end MS
/-- the reference's RAFT as the class has it -/
def gR (M : Mem) : Int → Int := fun k => M 74 k - 1
def bM (M : Mem) : Int → Int := fun j => M 69 (81 + j)
/-- a KNOT, by kind: what lies beside -/
def kZ (w : Nat) (P : Nat → Bool) (z : Nat) (i : Nat) : Bool := if z = 0 then k0 w P i else k1 w P i
def kQ (w z k : Nat) : Nat := if z = 0 then k + 1 else k + w
section MT
variable {d : Nat} {M : Mem} {Q : List AV → Mem → Prop}
theorem s_isKnotZ {w l : Nat} (hG : GM M w l) (hg : gB M) (k z : Nat) (hz : z < 2) (hk : k < w * l) : XC (d + 2) 172 [aR 22 0 67, aI (k : Int), aI (z : Int)] M Q ↔ Q [aI (((kZ w (gP M (w * l)) z k).toNat : Nat) : Int)] M := by
  rcases (show z = 0 ∨ z = 1 by omega) with rfl | rfl
  · exact s_isKnot0 (d := d + 1) hG hg k hk
  · exact s_isKnot1 (d := d) hG hg k hk
theorem kZ_d {w n : Nat} {z k : Nat} (hz : z < 2) (hw : 1 ≤ w) (h : kZ w (gP M n) z k = true) : k < n ∧ kQ w z k < n ∧ 0 < M 74 (k : Int) ∧ 0 < M 74 ((kQ w z k : Nat) : Int) ∧ (z = 0 → k % w + 1 < w) := by
  unfold kZ at h
  unfold kQ
  rcases (show z = 0 ∨ z = 1 by omega) with rfl | rfl
  · rw [if_pos rfl] at h ⊢
    unfold k0 at h
    rw [Bool.and_eq_true, Bool.and_eq_true] at h
    obtain ⟨⟨h1, h2⟩, h3⟩ := h
    have a1 := of_decide_eq_true h1
    have a3 := of_decide_eq_true h3
    exact ⟨a1.1, a3.1, a1.2, a3.2, fun _ => of_decide_eq_true h2⟩
  · rw [if_neg (by decide)] at h ⊢
    unfold k1 at h
    rw [Bool.and_eq_true] at h
    have a1 := of_decide_eq_true h.1
    have a3 := of_decide_eq_true h.2
    exact ⟨a1.1, a3.1, a1.2, a3.2, fun h9 => absurd h9 (by decide)⟩
theorem kZ_i {w n : Nat} {z k : Nat} (h0 : z = 0 → k % w + 1 < w) (hk : k < n) (hq : kQ w z k < n) (h1 : 0 < M 74 (k : Int)) (h2 : 0 < M 74 ((kQ w z k : Nat) : Int)) (hz : z < 2) : kZ w (gP M n) z k = true := by
  unfold kZ
  unfold kQ at hq h2
  rcases (show z = 0 ∨ z = 1 by omega) with rfl | rfl
  · rw [if_pos rfl] at hq h2 ⊢
    unfold k0
    rw [Bool.and_eq_true, Bool.and_eq_true]
    exact ⟨⟨decide_eq_true ⟨hk, h1⟩, decide_eq_true (h0 rfl)⟩, decide_eq_true ⟨hq, h2⟩⟩
  · rw [if_neg (by decide)] at hq h2 ⊢
    unfold k1
    rw [Bool.and_eq_true]
    exact ⟨decide_eq_true ⟨hk, h1⟩, decide_eq_true ⟨hq, h2⟩⟩
theorem s_besideZ {w l : Nat} (hG : GM M w l) (k z : Nat) (hz : z < 2) (hk : k < w * l) (hq : kQ w z k < w * l) (h0 : z = 0 → k % w + 1 < w) : XC (d + 1) 171 [aR 22 0 67, aI (k : Int), aI (z : Int)] M Q ↔ Q [aI ((kQ w z k : Nat) : Int)] M := by
  have hn := hG.n
  have w4 := hG.1
  have hm : k % w < w := Nat.mod_lt _ (by omega)
  unfold kQ at hq ⊢
  rcases (show z = 0 ∨ z = 1 by omega) with rfl | rfl
  · rw [if_pos rfl, show ((0 : Nat) : Int) = 0 from rfl, be_0 (k : Int) (w : Int) ((k % w : Nat) : Int) hG.2.2.1 ⟨by omega, by omega⟩ (rem_nat k w (by omega) (by omega)) ⟨Int.natCast_nonneg _, by omega⟩, if_pos (by have := h0 rfl; omega)]
    rfl
  · rw [if_neg (by decide)] at hq ⊢
    have hcc : M 69 3 * M 69 4 = ((w * l : Nat) : Int) := by rw [hG.2.2.1, hG.2.2.2, Int.natCast_mul]
    rw [show ((1 : Nat) : Int) = 1 from rfl, be_1 (k : Int) (w : Int) ((w * l : Nat) : Int) hG.2.2.1 ⟨by omega, by omega⟩ ⟨by omega, by omega⟩ hcc ⟨by omega, by omega⟩, if_pos (by omega), Int.natCast_add]
/-- two that are apart beside each other -/
def apZ (w n : Nat) (B R : Int → Int) (z k : Nat) : Prop := (z = 0 → k % w + 1 < w) ∧ kQ w z k < n ∧ R (k : Int) ≠ -1 ∧ R ((kQ w z k : Nat) : Int) ≠ -1 ∧ apA B (R (k : Int)) (R ((kQ w z k : Nat) : Int))
theorem noAp_z {w n : Nat} {B R : Int → Int} (hw : 1 ≤ w) : noAp w n B R ↔ ∀ k z, k < n → z < 2 → ¬ apZ w n B R z k := by
  constructor
  · intro h k z hk hz h9
    unfold apZ kQ at h9
    rcases (show z = 0 ∨ z = 1 by omega) with rfl | rfl
    · rw [if_pos rfl] at h9
      exact h.1 k h9.2.1 (h9.1 rfl) h9.2.2.1 h9.2.2.2.1 h9.2.2.2.2
    · rw [if_neg (by decide)] at h9
      have e : ((k + w : Nat) : Int) = (k : Int) + (w : Int) := Int.natCast_add k w
      rw [e] at h9
      exact h.2 k h9.2.1 h9.2.2.1 h9.2.2.2.1 h9.2.2.2.2
  · intro h
    constructor
    · intro i h1 h2 h3 h4 h5
      refine h i 0 (by omega) (by decide) ⟨fun _ => h2, ?_⟩
      unfold kQ
      rw [if_pos rfl]
      exact ⟨h1, h3, h4, h5⟩
    · intro i h1 h3 h4 h5
      refine h i 1 (by omega) (by decide) ⟨fun h9 => absurd h9 (by decide), ?_⟩
      unfold kQ
      rw [if_neg (by decide), Int.natCast_add]
      exact ⟨h1, h3, h4, h5⟩
/-- one side of a CELL, ahead of the walk -/
theorem so_z {w l : Nat} (hG : GM M w l) (hg : gB9 M) (k z : Nat) (hz : z < 2) (hk : k < w * l) (o1 o2 o5 o6 : AV) (h0 : apZ w (w * l) (bM M) (gR M) z k → Q [aI 0] M) (h1 : ¬ apZ w (w * l) (bM M) (gR M) z k → XL (d + 3) 178 60 [aR 22 0 67, o1, o2, aI (k : Int), aI ((z : Int) + 1), o5, o6] [] M Q) : XL (d + 3) 178 60 [aR 22 0 67, o1, o2, aI (k : Int), aI (z : Int), o5, o6] [] M Q := by
  have hn := hG.n
  have p1 : ∀ Q', XC (d + 2) 172 [aR 22 0 67, aI (k : Int), aI (z : Int)] M Q' ↔ _ := fun Q' => s_isKnotZ hG hg.b k z hz hk
  by_cases c : kZ w (gP M (w * l)) z k = true
  · obtain ⟨d1, d2, d3, d4, d5⟩ := kZ_d hz hG.1.1 c
    rw [c] at p1
    have ga := hg (k : Int) (by omega) (by omega)
    have gq := hg ((kQ w z k : Nat) : Int) (by omega) (by omega)
    rw [so_y (d := d + 2) (k : Int) (z : Int) ((kQ w z k : Nat) : Int) _ _ _ o1 o2 o5 o6 ⟨by omega, by omega⟩ ⟨by omega, by omega⟩ p1 ⟨by omega, by omega⟩ (fun Q' => s_besideZ hG k z hz hk d2 d5) rfl ⟨by omega, by omega⟩ rfl rfl]
    have e : apA (bM M) (gR M (k : Int)) (gR M ((kQ w z k : Nat) : Int)) ↔ and32 (shr32 (M 69 (81 + 4 * (M 74 (k : Int) - 1) + 3)) (M 74 ((kQ w z k : Nat) : Int) - 1)) 1 = 1 := by
      unfold apA bM gR
      rw [show 81 + (4 * (M 74 (k : Int) - 1) + 3) = 81 + 4 * (M 74 (k : Int) - 1) + 3 by omega]
    by_cases c2 : and32 (shr32 (M 69 (81 + 4 * (M 74 (k : Int) - 1) + 3)) (M 74 ((kQ w z k : Nat) : Int) - 1)) 1 = 1
    · rw [if_pos c2]
      refine h0 ⟨d5, d2, ?_, ?_, e.mpr c2⟩
      · unfold gR; omega
      · unfold gR; omega
    · rw [if_neg c2]
      exact h1 (fun h9 => c2 (e.mp h9.2.2.2.2))
  · have c' : kZ w (gP M (w * l)) z k = false := by simpa using c
    rw [c'] at p1
    rw [so_n (d := d + 2) (k : Int) (z : Int) o1 o2 o5 o6 ⟨by omega, by omega⟩ p1]
    refine h1 (fun h9 => c ?_)
    obtain ⟨a1, a2, a3, a4, a5⟩ := h9
    have ga := hg (k : Int) (by omega) (by omega)
    have gq := hg ((kQ w z k : Nat) : Int) (by omega) (by omega)
    unfold gR at a3 a4
    exact kZ_i a1 hk a2 (by omega) (by omega) hz
/-- M is M0 but for the reach -/
def Only (a : Nat) (M0 M : Mem) : Prop := ∀ b, b ≠ a → M b = M0 b
theorem Only.up {a : Nat} {M0 : Mem} {i x : Int} (h : Only a M0 M) : Only a M0 (up M a i x) := fun b hb => by rw [up_r hb]; exact h b hb
theorem GM.of {M0 : Mem} {w l : Nat} (h : GM M0 w l) (h2 : M 69 = M0 69) : GM M w l := h.cg (by rw [h2]) (by rw [h2])
def firstOf (n : Nat) (P : Nat → Bool) (fi : Int) : Prop := (fi = -1 ∧ ∀ i, i < n → P i = false) ∨ ∃ f : Nat, f < n ∧ fi = (f : Int) ∧ P f = true
theorem so_walk {M0 : Mem} {w l : Nat} (hG : GM M0 w l) (hg : gB9 M0) (o5 o6 : AV) (h0 : ∀ M, Only 77 M0 M → ¬ noAp w (w * l) (bM M0) (gR M0) → Q [aI 0] M) (kk : ∀ (M : Mem) (fi : Int) (o4 : AV), Only 77 M0 M → (∀ k z, k < w * l → z < 2 → ¬ apZ w (w * l) (bM M0) (gR M0) z k) → firstOf (w * l) (gP M0 (w * l)) fi → (∀ i : Nat, i < w * l → M 77 (i : Int) = 0) → XL (d + 3) 178 6 [aR 22 0 67, aI fi, aI ((cnt (w * l) (gP M0 (w * l)) : Nat) : Int), aI ((w * l : Nat) : Int), o4, o5, o6] [] M Q) : ∀ (t k : Nat) (M : Mem) (fi : Int) (o4 : AV), k + t = w * l → Only 77 M0 M → (∀ k' z, k' < k → z < 2 → ¬ apZ w (w * l) (bM M0) (gR M0) z k') → firstOf k (gP M0 (w * l)) fi → (∀ i : Nat, i < k → M 77 (i : Int) = 0) → XL (d + 3) 178 6 [aR 22 0 67, aI fi, aI ((cnt k (gP M0 (w * l)) : Nat) : Int), aI (k : Int), o4, o5, o6] [] M Q
  | 0, k, M, fi, o4, h, hO, hA, hf, hr => by
    have e : k = w * l := by omega
    rw [e] at hA hf hr ⊢
    exact kk M fi o4 hO hA hf hr
  | t + 1, k, M, fi, o4, h, hO, hA, hf, hr => by
    have hn := hG.n
    have hk : k < w * l := by omega
    have hGM : GM M w l := hG.of (hO 69 (by decide))
    have ga := hg (k : Int) (by omega) (by omega)
    have fb : -1 ≤ fi ∧ fi < (k : Int) := by
      rcases hf with ⟨h1, _⟩ | ⟨f, h1, h2, _⟩ <;> omega
    rw [so_0 (d := d + 2) fi _ (k : Int) ((w * l : Nat) : Int) (M0 74 (k : Int)) o4 o5 o6 ⟨by omega, by omega, by omega⟩ (fun Q' => s_m_cells' hGM) (by rw [hO 74 (by decide)]) ga ⟨by omega, by omega⟩]
    have hO2 : Only 77 M0 (up M 77 (k : Int) 0) := hO.up
    generalize hM2 : up M 77 (k : Int) 0 = M2 at hO2 ⊢
    have hG2 : GM M2 w l := hG.of (hO2 69 (by decide))
    have h74 := hO2 74 (by decide)
    have h69 := hO2 69 (by decide)
    have hg2 : gB9 M2 := fun j j0 j1 => by rw [h74]; exact hg j j0 j1
    have eB : bM M2 = bM M0 := by unfold bM; rw [h69]
    have eR : gR M2 = gR M0 := by unfold gR; rw [h74]
    have gp : gP M0 (w * l) k = decide (0 < M0 74 (k : Int)) := decide_eq_decide.mpr ⟨fun h => h.2, fun h => ⟨hk, h⟩⟩
    have ec : ((cnt k (gP M0 (w * l)) : Nat) : Int) + (if 0 < M0 74 (k : Int) then 1 else 0) = ((cnt (k + 1) (gP M0 (w * l)) : Nat) : Int) := by
      rw [show cnt (k + 1) (gP M0 (w * l)) = cnt k (gP M0 (w * l)) + (gP M0 (w * l) k).toNat from rfl, gp]
      by_cases c : 0 < M0 74 (k : Int)
      · rw [if_pos c, decide_eq_true c]; rfl
      · rw [if_neg c, decide_eq_false c]; rfl
    rw [ec]
    have hf2 : firstOf (k + 1) (gP M0 (w * l)) (if fi < 0 ∧ 0 < M0 74 (k : Int) then (k : Int) else fi) := by
      by_cases c : 0 < M0 74 (k : Int)
      · rcases hf with ⟨h1, h2⟩ | ⟨f, h1, h2, h3⟩
        · rw [if_pos ⟨by omega, c⟩]
          exact Or.inr ⟨k, by omega, rfl, by rw [gp]; exact decide_eq_true c⟩
        · rw [if_neg (by omega)]
          exact Or.inr ⟨f, by omega, h2, h3⟩
      · rw [if_neg (fun h9 => c h9.2)]
        rcases hf with ⟨h1, h2⟩ | ⟨f, h1, h2, h3⟩
        · refine Or.inl ⟨h1, fun i hi => ?_⟩
          by_cases e : i = k
          · rw [e, gp]; exact decide_eq_false c
          · exact h2 i (by omega)
        · exact Or.inr ⟨f, by omega, h2, h3⟩
    have hr2 : ∀ i : Nat, i < k + 1 → M2 77 (i : Int) = 0 := fun i hi => by
      rw [← hM2]
      by_cases e : i = k
      · rw [e, up_s]
      · rw [up_j (by omega)]
        exact hr i (by omega)
    generalize (if fi < 0 ∧ 0 < M0 74 (k : Int) then (k : Int) else fi) = fi2 at hf2 ⊢
    have bad : ∀ z, z < 2 → apZ w (w * l) (bM M2) (gR M2) z k → Q [aI 0] M2 := fun z hz h9 => by
      rw [eB, eR] at h9
      refine h0 M2 hO2 (fun h8 => ?_)
      rw [noAp_z hG.1.1] at h8
      exact h8 k z hk hz h9
    refine so_z hG2 hg2 k 0 (by decide) hk _ _ _ _ (bad 0 (by decide)) (fun n0 => ?_)
    refine so_z hG2 hg2 k 1 (by decide) hk _ _ _ _ (bad 1 (by decide)) (fun n1 => ?_)
    show XL (d + 3) 178 60 [aR 22 0 67, aI fi2, aI ((cnt (k + 1) (gP M0 (w * l)) : Nat) : Int), aI (k : Int), aI 2, o5, o6] [] M2 Q
    rw [so_1]
    have g := so_walk hG hg o5 o6 h0 kk t (k + 1) M2 fi2 (aI 2) (by omega) hO2 (fun k' z hk' hz h9 => ?_) hf2 hr2
    · rw [show ((k + 1 : Nat) : Int) = (k : Int) + 1 from Int.natCast_add k 1] at g
      exact g
    · by_cases e : k' = k
      · rw [e] at h9
        rw [eB, eR] at n0 n1
        rcases (show z = 0 ∨ z = 1 by omega) with rfl | rfl
        · exact n0 h9
        · exact n1 h9
      · exact hA k' z (by omega) hz h9
/-- what is reached -/
def rP (M : Mem) (n : Nat) (i : Nat) : Bool := decide (i < n ∧ M 77 (i : Int) = 1)
/-- what the spreading keeps -/
def rFl (w n : Nat) (P : Nat → Bool) (f : Nat) (M : Mem) : Prop := (∀ i : Nat, i < n → M 77 (i : Int) = 0 ∨ M 77 (i : Int) = 1) ∧ M 77 (f : Int) = 1 ∧ (∀ i : Nat, i < n → M 77 (i : Int) = 1 → P i = true) ∧ ∀ C, kInv w n P C → ∀ i : Nat, i < n → M 77 (i : Int) = 1 → C i = C f
/-- a side at which both are reached, or none -/
def eqZ (w : Nat) (P : Nat → Bool) (M : Mem) (z k : Nat) : Prop := kZ w P z k = true → M 77 (k : Int) = M 77 ((kQ w z k : Nat) : Int)
theorem kInv_z {w n : Nat} {C : Nat → Bool} {z k : Nat} (hz : z < 2) (hC : kInv w n (gP M n) C) (h : kZ w (gP M n) z k = true) (hw : 1 ≤ w) : C k = C (kQ w z k) := by
  obtain ⟨d1, d2, d3, d4, d5⟩ := kZ_d hz hw h
  have a1 : gP M n k = true := decide_eq_true ⟨d1, d3⟩
  have a2 : gP M n (kQ w z k) = true := decide_eq_true ⟨d2, d4⟩
  unfold kQ at d2 a2 ⊢
  rcases (show z = 0 ∨ z = 1 by omega) with rfl | rfl
  · rw [if_pos rfl] at d2 a2 ⊢
    exact hC.1 k d2 (d5 rfl) a1 a2
  · rw [if_neg (by decide)] at d2 a2 ⊢
    exact hC.2 k d2 a1 a2
theorem cnt_set1 {p q : Nat → Bool} {a : Nat} : ∀ {n : Nat}, a < n → p a = false → q a = true → (∀ i, i < n → i ≠ a → q i = p i) → cnt n q = cnt n p + 1
  | 0, h, _, _, _ => absurd h (Nat.not_lt_zero a)
  | n + 1, h, hp, hq, he => by
    unfold cnt
    by_cases e : a = n
    · subst e
      rw [hp, hq, cnt_cg (fun i hi => he i (by omega) (by omega))]
      rfl
    · rw [cnt_set1 (n := n) (by omega) hp hq (fun i hi hne => he i (by omega) hne), he n (by omega) (fun h => e h.symm)]
      omega
/-- one side of a CELL, spreading -/
theorem so_sp {M0 : Mem} {w l : Nat} (hG : GM M0 w l) (hg : gB9 M0) (f k z was : Nat) (hz : z < 2) (hk : k < w * l) (hO : Only 77 M0 M) (hF : rFl w (w * l) (gP M0 (w * l)) f M) (hw : was ≤ cnt (w * l) (rP M (w * l))) (hE : cnt (w * l) (rP M (w * l)) = was → ∀ k' z', z' < 2 → (k' < k ∨ k' = k ∧ z' < z) → eqZ w (gP M0 (w * l)) M z' k') (o1 o2 o4 : AV) (kk : ∀ M2, Only 77 M0 M2 → rFl w (w * l) (gP M0 (w * l)) f M2 → was ≤ cnt (w * l) (rP M2 (w * l)) → (cnt (w * l) (rP M2 (w * l)) = was → ∀ k' z', z' < 2 → (k' < k ∨ k' = k ∧ z' < z + 1) → eqZ w (gP M0 (w * l)) M2 z' k') → XL (d + 3) 178 173 [aR 22 0 67, o1, o2, aI ((cnt (w * l) (rP M2 (w * l)) : Nat) : Int), o4, aI (k : Int), aI ((z : Int) + 1)] [] M2 Q) : XL (d + 3) 178 173 [aR 22 0 67, o1, o2, aI ((cnt (w * l) (rP M (w * l)) : Nat) : Int), o4, aI (k : Int), aI (z : Int)] [] M Q := by
  have hn := hG.n
  have hGM : GM M w l := hG.of (hO 69 (by decide))
  have h74 := hO 74 (by decide)
  have hgM : gB9 M := fun j j0 j1 => by rw [h74]; exact hg j j0 j1
  have hP : gP M (w * l) = gP M0 (w * l) := gP_cg h74
  have p1 : ∀ Q', XC (d + 2) 172 [aR 22 0 67, aI (k : Int), aI (z : Int)] M Q' ↔ _ := fun Q' => s_isKnotZ hGM hgM.b k z hz hk
  rw [hP] at p1
  by_cases c : kZ w (gP M0 (w * l)) z k = true
  · obtain ⟨d1, d2, d3, d4, d5⟩ := kZ_d hz hG.1.1 c
    have aP : gP M0 (w * l) k = true := decide_eq_true ⟨d1, d3⟩
    have qP : gP M0 (w * l) (kQ w z k) = true := decide_eq_true ⟨d2, d4⟩
    rw [c] at p1
    have ra := hF.1 k hk
    have rq := hF.1 (kQ w z k) d2
    have nk : kQ w z k ≠ k := by
      have := hG.1
      unfold kQ
      by_cases e : z = 0
      · rw [if_pos e]; omega
      · rw [if_neg e]; omega
    rw [so_6y (d := d + 2) (k : Int) (z : Int) ((kQ w z k : Nat) : Int) _ _ _ o1 o2 o4 ⟨by omega, by omega⟩ ⟨by omega, by omega⟩ p1 ⟨by omega, by omega⟩ (fun M' Q' hM' => s_besideZ (d := d + 1) (hGM.of hM') k z hz hk d2 d5) rfl (by omega) rfl (by omega)]
    by_cases c2 : M 77 (k : Int) = M 77 ((kQ w z k : Nat) : Int)
    · rw [if_pos c2]
      refine kk M hO hF hw (fun he k' z' hz' hh => ?_)
      by_cases e : k' = k ∧ z' = z
      · rw [e.1, e.2]; exact fun _ => c2
      · exact hE he k' z' hz' (by omega)
    · rw [if_neg c2]
      have hC : ∀ C, kInv w (w * l) (gP M0 (w * l)) C → C k = C f ∧ C (kQ w z k) = C f := fun C hC => by
        have e := kInv_z hz hC c hG.1.1
        rcases ra with r0 | r1
        · have r2 : M 77 ((kQ w z k : Nat) : Int) = 1 := by omega
          have := hF.2.2.2 C hC _ d2 r2
          exact ⟨e.trans this, this⟩
        · have := hF.2.2.2 C hC _ hk r1
          exact ⟨this, e.symm.trans this⟩
      have hc : cnt (w * l) (rP (up (up M 77 (k : Int) 1) 77 ((kQ w z k : Nat) : Int) 1) (w * l)) = cnt (w * l) (rP M (w * l)) + 1 := by
        rcases ra with r0 | r1
        · have r2 : M 77 ((kQ w z k : Nat) : Int) = 1 := by omega
          refine cnt_set1 (a := k) hk ?_ ?_ (fun i hi hne => ?_)
          · exact decide_eq_false (fun h => by have := h.2; omega)
          · refine decide_eq_true ⟨hk, ?_⟩
            rw [up_j (by omega), up_s]
          · refine decide_eq_decide.mpr (and_congr_right fun _ => ?_)
            by_cases e : i = kQ w z k
            · rw [e, up_s]; exact ⟨fun _ => r2, fun _ => rfl⟩
            · rw [up_j (by omega), up_j (by omega)]
        · have r2 : M 77 ((kQ w z k : Nat) : Int) = 0 := by omega
          refine cnt_set1 (a := kQ w z k) d2 ?_ ?_ (fun i hi hne => ?_)
          · exact decide_eq_false (fun h => by have := h.2; omega)
          · refine decide_eq_true ⟨d2, ?_⟩
            rw [up_s]
          · refine decide_eq_decide.mpr (and_congr_right fun _ => ?_)
            by_cases e : i = k
            · rw [e, up_j (by omega), up_s]; exact ⟨fun _ => r1, fun _ => rfl⟩
            · rw [up_j (by omega), up_j (by omega)]
      have hv : ∀ i : Nat, up (up M 77 (k : Int) 1) 77 ((kQ w z k : Nat) : Int) 1 77 (i : Int) = if i = k ∨ i = kQ w z k then 1 else M 77 (i : Int) := fun i => by
        by_cases e : i = kQ w z k
        · rw [if_pos (Or.inr e), e, up_s]
        · by_cases e2 : i = k
          · rw [if_pos (Or.inl e2), up_j (by omega), e2, up_s]
          · rw [if_neg (by omega), up_j (by omega), up_j (by omega)]
      have hO2 : Only 77 M0 (up (up M 77 (k : Int) 1) 77 ((kQ w z k : Nat) : Int) 1) := hO.up.up
      generalize up (up M 77 (k : Int) 1) 77 ((kQ w z k : Nat) : Int) 1 = M2 at hc hv hO2 ⊢
      have g := kk M2 hO2 ⟨fun i hi => ?_, ?_, fun i hi h1 => ?_, fun C hC1 i hi h1 => ?_⟩ (by omega) (fun he => by omega)
      · rw [hc, Int.natCast_add] at g
        exact g
      · rw [hv]
        by_cases e : i = k ∨ i = kQ w z k
        · rw [if_pos e]; exact Or.inr rfl
        · rw [if_neg e]; exact hF.1 i hi
      · rw [hv]
        by_cases e : f = k ∨ f = kQ w z k
        · rw [if_pos e]
        · rw [if_neg e]; exact hF.2.1
      · rw [hv] at h1
        by_cases e : i = k ∨ i = kQ w z k
        · rcases e with e | e
          · rw [e]; exact aP
          · rw [e]; exact qP
        · rw [if_neg e] at h1; exact hF.2.2.1 i hi h1
      · rw [hv] at h1
        by_cases e : i = k ∨ i = kQ w z k
        · rcases e with e | e
          · rw [e]; exact (hC C hC1).1
          · rw [e]; exact (hC C hC1).2
        · rw [if_neg e] at h1; exact hF.2.2.2 C hC1 i hi h1
  · have c' : kZ w (gP M0 (w * l)) z k = false := by simpa using c
    rw [c'] at p1
    rw [so_6n (d := d + 2) (k : Int) (z : Int) o1 o2 _ o4 ⟨by omega, by omega⟩ p1]
    refine kk M hO hF hw (fun he k' z' hz' hh => ?_)
    by_cases e : k' = k ∧ z' = z
    · rw [e.1, e.2]; exact fun h => absurd h c
    · exact hE he k' z' hz' (by omega)
/-- once through all CELLS -/
theorem so_pass {M0 : Mem} {w l : Nat} (hG : GM M0 w l) (hg : gB9 M0) (f was : Nat) (o1 o2 o4 : AV) (kk : ∀ M2 o5 o6, Only 77 M0 M2 → rFl w (w * l) (gP M0 (w * l)) f M2 → was ≤ cnt (w * l) (rP M2 (w * l)) → (cnt (w * l) (rP M2 (w * l)) = was → ∀ k' z', z' < 2 → k' < w * l → eqZ w (gP M0 (w * l)) M2 z' k') → XL (d + 3) 178 149 [aR 22 0 67, o1, o2, aI ((cnt (w * l) (rP M2 (w * l)) : Nat) : Int), o4, o5, o6] [] M2 Q) : ∀ (t k : Nat) (M : Mem) (o6 : AV), k + t = w * l → Only 77 M0 M → rFl w (w * l) (gP M0 (w * l)) f M → was ≤ cnt (w * l) (rP M (w * l)) → (cnt (w * l) (rP M (w * l)) = was → ∀ k' z', z' < 2 → k' < k → eqZ w (gP M0 (w * l)) M z' k') → XL (d + 3) 178 161 [aR 22 0 67, o1, o2, aI ((cnt (w * l) (rP M (w * l)) : Nat) : Int), o4, aI (k : Int), o6] [] M Q
  | 0, k, M, o6, h, hO, hF, hw, hE => by
    have hn := hG.n
    have e : k = w * l := by omega
    rw [so_5 (d := d + 2) (k : Int) ((w * l : Nat) : Int) _ _ _ _ _ ⟨by omega, by omega, by omega⟩ (fun Q' => s_m_cells' (hG.of (hO 69 (by decide)))), if_neg (by omega)]
    exact kk M _ _ hO hF hw (fun he k' z' hz' hk' => hE he k' z' hz' (by omega))
  | t + 1, k, M, o6, h, hO, hF, hw, hE => by
    have hn := hG.n
    have hk : k < w * l := by omega
    rw [so_5 (d := d + 2) (k : Int) ((w * l : Nat) : Int) _ _ _ _ _ ⟨by omega, by omega, by omega⟩ (fun Q' => s_m_cells' (hG.of (hO 69 (by decide)))), if_pos (by omega)]
    refine so_sp hG hg f k 0 was (by decide) hk hO hF hw (fun he k' z' hz' hh => hE he k' z' hz' (by omega)) _ _ _ (fun M2 hO2 hF2 hw2 hE2 => ?_)
    refine so_sp hG hg f k 1 was (by decide) hk hO2 hF2 hw2 (fun he k' z' hz' hh => hE2 he k' z' hz' (by omega)) _ _ _ (fun M3 hO3 hF3 hw3 hE3 => ?_)
    show XL (d + 3) 178 173 [aR 22 0 67, o1, o2, aI ((cnt (w * l) (rP M3 (w * l)) : Nat) : Int), o4, aI (k : Int), aI 2] [] M3 Q
    rw [so_7]
    have g := so_pass hG hg f was o1 o2 o4 kk t (k + 1) M3 (aI 2) (by omega) hO3 hF3 hw3 (fun he k' z' hz' hk' => hE3 he k' z' hz' (by omega))
    rw [show ((k + 1 : Nat) : Int) = (k : Int) + 1 from Int.natCast_add k 1] at g
    exact g
theorem so_conn {M0 : Mem} {w n f : Nat} (hw : 1 ≤ w) (hf : f < n) (hPf : gP M0 n f = true) (hF : rFl w n (gP M0 n) f M) (hE : ∀ k' z', z' < 2 → k' < n → eqZ w (gP M0 n) M z' k') : (cnt n (rP M n) = cnt n (gP M0 n)) ↔ Conn w n (gP M0 n) := by
  have hR : ∀ i, i < n → (rP M n i = true ↔ M 77 (i : Int) = 1) := fun i hi => ⟨fun h => (of_decide_eq_true h).2, fun h => decide_eq_true ⟨hi, h⟩⟩
  have eqr : ∀ i j, i < n → j < n → M 77 (i : Int) = M 77 (j : Int) → rP M n i = rP M n j := fun i j hi hj h => by
    rw [Bool.eq_iff_iff, hR i hi, hR j hj, h]
  have hcl : kInv w n (gP M0 n) (rP M n) := by
    constructor
    · intro i hi hm hp hp1
      refine eqr i (i + 1) (by omega) hi ?_
      have := hE i 0 (by decide) (by omega)
      unfold eqZ kZ kQ at this
      rw [if_pos rfl, if_pos rfl] at this
      refine this ?_
      unfold k0
      rw [hp, hp1, decide_eq_true hm]
      rfl
    · intro i hi hp hp1
      refine eqr i (i + w) (by omega) hi ?_
      have := hE i 1 (by decide) (by omega)
      unfold eqZ kZ kQ at this
      rw [if_neg (by decide), if_neg (by decide)] at this
      refine this ?_
      unfold k1
      rw [hp, hp1]
      rfl
  rw [conn_of (R := rP M n) hf hPf ((hR f hf).mpr hF.2.1) (fun C hC i hi hr => hF.2.2.2 C hC i hi ((hR i hi).mp hr)) hcl]
  exact cnt_eqA (fun i hi hr => hF.2.2.1 i hi ((hR i hi).mp hr))
theorem so_rounds {M0 : Mem} {w l : Nat} (hG : GM M0 w l) (hg : gB9 M0) (f : Nat) (hf : f < w * l) (hPf : gP M0 (w * l) f = true) (o1 : AV) (kk : ∀ M2, Only 77 M0 M2 → Q [aI (cb (Conn w (w * l) (gP M0 (w * l))))] M2) : ∀ (t was : Nat) (M : Mem) (o5 o6 : AV), t + was = 24 → Only 77 M0 M → rFl w (w * l) (gP M0 (w * l)) f M → was ≤ cnt (w * l) (rP M (w * l)) → (cnt (w * l) (rP M (w * l)) = was → ∀ k' z', z' < 2 → k' < w * l → eqZ w (gP M0 (w * l)) M z' k') → XL (d + 3) 178 149 [aR 22 0 67, o1, aI ((cnt (w * l) (gP M0 (w * l)) : Nat) : Int), aI ((cnt (w * l) (rP M (w * l)) : Nat) : Int), aI (was : Int), o5, o6] [] M Q := by
  intro t
  induction t using Nat.strongRecOn with
  | ind t ih =>
    intro was M o5 o6 h hO hF hw hE
    have hn := hG.n
    have c1 := cnt_le (p := rP M (w * l)) (n := w * l)
    have c2 := cnt_le (p := gP M0 (w * l)) (n := w * l)
    rw [so_4 _ _ _ _ _ _ ⟨by omega, by omega⟩ ⟨by omega, by omega⟩ ⟨by omega, by omega⟩]
    by_cases e : cnt (w * l) (rP M (w * l)) = was
    · rw [if_pos (by omega)]
      have g := so_conn hG.1.1 hf hPf hF (hE e)
      have g2 := kk M hO
      rw [cb_cg (show (((cnt (w * l) (rP M (w * l)) : Nat) : Int) = ((cnt (w * l) (gP M0 (w * l)) : Nat) : Int)) ↔ Conn w (w * l) (gP M0 (w * l)) by rw [← g]; omega)]
      exact g2
    · rw [if_neg (by omega)]
      have g := so_pass (d := d) (Q := Q) hG hg f (cnt (w * l) (rP M (w * l))) o1 (aI ((cnt (w * l) (gP M0 (w * l)) : Nat) : Int)) (aI ((cnt (w * l) (rP M (w * l)) : Nat) : Int)) (fun M2 o5 o6 hO2 hF2 hw2 hE2 => ih (24 - cnt (w * l) (rP M (w * l))) (by omega) _ M2 o5 o6 (by omega) hO2 hF2 hw2 hE2) (w * l) 0 M o6 (by omega) hO hF (by omega) (fun _ k' z' _ hk' => absurd hk' (Nat.not_lt_zero _))
      exact g
theorem s_isSound {w l : Nat} (hG : GM M w l) (hg : gB9 M) (kk : ∀ M2, Only 77 M M2 → Q [aI (cb (Conn w (w * l) (gP M (w * l)) ∧ noAp w (w * l) (bM M) (gR M)))] M2) : XC (d + 3) 178 [aR 22 0 67] M Q := by
  have hn := hG.n
  have g := so_walk (d := d) (Q := Q) hG hg aU aU (fun M2 hO h => by
    have := kk M2 hO
    rw [cb_f (fun h9 => h h9.2)] at this
    exact this) (fun M2 fi o4 hO hA hf hr => by
    have hna := (noAp_z (w := w) (n := w * l) (B := bM M) (R := gR M) hG.1.1).mpr hA
    have fb : -1 ≤ fi ∧ fi < 24 := by
      rcases hf with ⟨h1, _⟩ | ⟨f, h1, h2, _⟩ <;> omega
    rw [so_2 (d := d + 2) fi ((w * l : Nat) : Int) _ _ _ _ ⟨by omega, by omega⟩ fb (fun Q' => s_m_cells' (hG.of (hO 69 (by decide))))]
    rcases hf with ⟨h1, h2⟩ | ⟨f, h1, h2, h3⟩
    · rw [if_pos (by omega)]
      have := kk M2 hO
      rw [cb_t ⟨fun C _ i j hi _ hp _ => by rw [h2 i hi] at hp; exact absurd hp (by decide), hna⟩] at this
      exact this
    · rw [if_neg (by omega), h2]
      have hc1 : cnt (w * l) (rP (up M2 77 (f : Int) 1) (w * l)) = 1 := by
        have z : cnt (w * l) (fun _ => false) = 0 := cnt_z (fun _ _ => rfl)
        have g9 := cnt_set1 (p := fun _ => false) (q := rP (up M2 77 (f : Int) 1) (w * l)) (a := f) h1 rfl (decide_eq_true ⟨h1, up_s⟩) (fun i hi hne => decide_eq_false (fun h9 => by
          have h8 := h9.2
          rw [up_j (by omega), hr i hi] at h8
          exact absurd h8 (by decide)))
        rw [g9, z]
      have g2 := so_rounds (d := d) (Q := Q) hG hg f h1 h3 (aI (f : Int)) (fun M3 hO3 => by
        have := kk M3 hO3
        rw [cb_cg (show (Conn w (w * l) (gP M (w * l)) ∧ noAp w (w * l) (bM M) (gR M)) ↔ Conn w (w * l) (gP M (w * l)) from ⟨fun h => h.1, fun h => ⟨h, hna⟩⟩)] at this
        exact this) 24 0 (up M2 77 (f : Int) 1) aU aU (by omega) hO.up ⟨fun i hi => by
          by_cases e : i = f
          · rw [e, up_s]; exact Or.inr rfl
          · rw [up_j (by omega)]; exact Or.inl (hr i hi), up_s, fun i hi h9 => by
          by_cases e : i = f
          · rw [e]; exact h3
          · rw [up_j (by omega), hr i hi] at h9; exact absurd h9 (by decide), fun C _ i hi h9 => by
          by_cases e : i = f
          · rw [e]
          · rw [up_j (by omega), hr i hi] at h9; exact absurd h9 (by decide)⟩ (by omega) (fun h9 => by omega)
      rw [hc1] at g2
      exact g2) (w * l) 0 M (-1) aU (by omega) (fun _ _ => rfl) (fun k' z hk' => absurd hk' (Nat.not_lt_zero _)) (Or.inl ⟨rfl, fun i hi => absurd hi (Nat.not_lt_zero _)⟩) (fun i hi => absurd hi (Nat.not_lt_zero _))
  rw [e_178, k_178_0]
  simp (disch := first | exact nl_i _ | exact nl_r _ | exact Nat.le_of_ble_eq_true rfl | exact Or.inl rfl | exact Or.inr rfl | exact w8_lo _ | exact w8_hi _ | decide | omega) only [v_fall, v_il_0, v_al_0, v_is_0, v_as_0, v_inc_0, v_ll_0, v_ls_0, v_il_1, v_al_1, v_is_1, v_as_1, v_inc_1, v_ll_1, v_ls_1, v_il_2, v_al_2, v_is_2, v_as_2, v_inc_2, v_ll_2, v_ls_2, v_il_3, v_al_3, v_is_3, v_as_3, v_inc_3, v_ll_3, v_ls_3, v_il_4, v_al_4, v_is_4, v_as_4, v_inc_4, v_ll_4, v_ls_4, v_il_5, v_al_5, v_is_5, v_as_5, v_inc_5, v_ll_5, v_ls_5, v_il_6, v_al_6, v_is_6, v_as_6, v_inc_6, v_il_7, v_al_7, v_is_7, v_as_7, v_inc_7, v_il_8, v_al_8, v_is_8, v_as_8, v_inc_8, v_il_9, v_al_9, v_is_9, v_as_9, v_inc_9, v_il_10, v_al_10, v_is_10, v_as_10, v_inc_10, v_il_11, v_al_11, v_is_11, v_as_11, v_inc_11, v_il_12, v_al_12, v_is_12, v_as_12, v_inc_12, v_il_13, v_al_13, v_is_13, v_as_13, v_inc_13, v_c_8, v_c_9, v_c_10, v_c_11, v_c_12, v_c_13, v_c_14, v_b_15, v_b_16, v_b_17, v_b_21, v_b_22, v_b_23, v_b_24, v_b_25, v_b_26, v_b_18, v_b_19, v_b_20, v_b_27, v_b_28, v_b_29, v_b_30, v_b_31, v_dup_i, v_dup_r, v_dup2, v_pop, v_gi, v_gl, v_gr, v_pi, v_pl, v_pz, v_iald, v_lald, v_bald, v_zald, v_aald, v_iast, v_last, v_bast, v_zast, v_alen_0, v_alen_1, v_alen_2, v_alen_3, v_alen_4, v_j_45, v_j_46, v_j_47, v_j_48, v_j_49, v_j_50, v_j_51, v_j_52, v_j_53, v_j_54, v_j_55, v_j_56, v_goto, v_sw, v_ret_i, v_ret_z, v_ret, v_cpy, v_iv_1, v_iv_2, v_iv_3, v_iv_4, v_iv_5, v_iv_6, v_is2_1, v_is2_2, v_is2_3, v_ivJ, List.nil_append, List.cons_append, rf_0_0, rf_0_1, rf_0_2, rf_0_3, rf_0_4, rf_0_5, rf_0_6, rf_0_7, rf_0_8, rf_0_9, rf_1_0, rf_1_2, rf_4_0, rf_4_1, rf_4_2, rf_5_8, rf_5_9, rf_5_10, rf_5_11, rf_5_12, rf_13_0, rf_13_1, rf_14_0, rf_14_1, rf_14_2, rf_15_8, rf_15_9, rf_15_10, rf_15_11, rf_15_12, rf_23_0, rf_23_1, rf_23_2, rf_24_8, rf_24_9, rf_24_10, rf_24_11, rf_24_12, rf_32_6, rf_34_0, rf_34_1, rf_34_2, rf_34_3, rf_35_8, rf_35_9, rf_35_10, rf_35_11, rf_35_12, rf_43_0, rf_43_1, rf_43_2, rf_43_3, rf_45_0, rf_45_1, rf_46_0, rf_46_1, rf_46_2, rf_46_3, rf_46_4, rf_46_5, rf_47_0, rf_47_1, rf_49_0, rf_49_1, rf_49_2, rf_49_3, rf_49_4, rf_49_5, rf_53_0, rf_53_1, rf_53_2, rf_53_3, rf_53_4, rf_53_5, rf_53_6, rf_53_7, rf_53_9, rf_53_10, rf_53_11, rf_53_12, rf_53_13, rf_54_0, rf_54_1, rf_55_1, rf_55_2, rf_55_3, rf_67_1, rf_67_6, rf_67_7, rf_67_8, rf_67_9, rf_67_10, rf_67_22, rf_67_23, rf_67_28, rf_67_30, rf_67_32, rf_67_33, rf_67_38, rf_67_39, rf_67_48, rf_67_49, rf_67_51, rf_67_52, rf_67_53, rf_67_54, rf_67_55, rf_67_60, rf_67_61, rf_67_62]
  exact g
end MT
