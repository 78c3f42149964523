/-! BEST on the class's side: all RAFTS -/
def orB : Bool := (List.range 4).all (fun i => (List.range 7).all (fun k => (List.range 4096).all (fun c => !decide (dg c i = 0) || decide (c ||| (k + 1) * 2 ^ (3 * i) = adc c i k))))
theorem orB_t : orB = true := by decide +kernel
theorem orC {c i k : Nat} (hc : c < 4096) (hi : i < 4) (hk : k < 7) (h : dg c i = 0) : c ||| (k + 1) * 2 ^ (3 * i) = adc c i k := by
  have h1 := orB_t
  unfold orB at h1
  rw [List.all_eq_true] at h1
  have h2 := h1 i (List.mem_range.mpr hi)
  rw [List.all_eq_true] at h2
  have h3 := h2 k (List.mem_range.mpr hk)
  rw [List.all_eq_true] at h3
  have h4 := h3 c (List.mem_range.mpr hc)
  rw [decide_eq_true h] at h4
  simpa using h4
section RA
variable {d : Nat} {M M0 : Mem} {Q : List AV → Mem → Prop}
theorem s_codeWith (c i k : Nat) (hc : c < 4096) (hi : i < 4) (hk : k < 7) (h : dg c i = 0) : XC d 22 [aI (c : Int), aI (i : Int), aI (k : Int)] M Q ↔ Q [aI ((adc c i k : Nat) : Int)] M := by
  have hp : (2 : Nat) ^ (3 * i) ≤ 2 ^ 9 := Nat.pow_le_pow_right (by decide) (by omega)
  have hm : (k + 1) * 2 ^ (3 * i) ≤ 7 * 2 ^ 9 := Nat.mul_le_mul (by omega) hp
  have e1 : (i : Int) * 3 = ((3 * i : Nat) : Int) := by omega
  have e2 : (k : Int) + 1 = ((k + 1 : Nat) : Int) := by omega
  have g : or32 (c : Int) (shl32 ((k : Int) + 1) ((i : Int) * 3)) = ((adc c i k : Nat) : Int) := by
    rw [e1, e2, shl_nat (k + 1) (3 * i) (by omega) (by omega), or_nat _ _ (by omega) (by omega), orC hc hi hk h]
  rw [e_22, k_22_0]
  simp (disch := first | exact nl_i _ | exact nl_r _ | exact Nat.le_of_ble_eq_true rfl | exact Or.inl rfl | exact Or.inr rfl | exact w8_lo _ | exact w8_hi _ | decide | omega) only [v_fall, v_il_0, v_al_0, v_is_0, v_as_0, v_inc_0, v_ll_0, v_ls_0, v_il_1, v_al_1, v_is_1, v_as_1, v_inc_1, v_ll_1, v_ls_1, v_il_2, v_al_2, v_is_2, v_as_2, v_inc_2, v_ll_2, v_ls_2, v_il_3, v_al_3, v_is_3, v_as_3, v_inc_3, v_ll_3, v_ls_3, v_il_4, v_al_4, v_is_4, v_as_4, v_inc_4, v_ll_4, v_ls_4, v_il_5, v_al_5, v_is_5, v_as_5, v_inc_5, v_ll_5, v_ls_5, v_il_6, v_al_6, v_is_6, v_as_6, v_inc_6, v_il_7, v_al_7, v_is_7, v_as_7, v_inc_7, v_il_8, v_al_8, v_is_8, v_as_8, v_inc_8, v_il_9, v_al_9, v_is_9, v_as_9, v_inc_9, v_il_10, v_al_10, v_is_10, v_as_10, v_inc_10, v_il_11, v_al_11, v_is_11, v_as_11, v_inc_11, v_il_12, v_al_12, v_is_12, v_as_12, v_inc_12, v_il_13, v_al_13, v_is_13, v_as_13, v_inc_13, v_c_8, v_c_9, v_c_10, v_c_11, v_c_12, v_c_13, v_c_14, v_b_15, v_b_16, v_b_17, v_b_21, v_b_22, v_b_23, v_b_24, v_b_25, v_b_26, v_b_18, v_b_19, v_b_20, v_b_27, v_b_28, v_b_29, v_b_30, v_b_31, v_dup_i, v_dup_r, v_dup2, v_pop, v_gi, v_gl, v_gr, v_pi, v_pl, v_pz, v_iald, v_lald, v_bald, v_zald, v_aald, v_iast, v_last, v_bast, v_zast, v_alen_0, v_alen_1, v_alen_2, v_alen_3, v_alen_4, v_j_45, v_j_46, v_j_47, v_j_48, v_j_49, v_j_50, v_j_51, v_j_52, v_j_53, v_j_54, v_j_55, v_j_56, v_goto, v_sw, v_ret_i, v_ret_z, v_ret, v_cpy, v_iv_1, v_iv_2, v_iv_3, v_iv_4, v_iv_5, v_iv_6, v_is2_1, v_is2_2, v_is2_3, v_ivJ, List.nil_append, List.cons_append, rf_0_0, rf_0_1, rf_0_2, rf_0_3, rf_0_4, rf_0_5, rf_0_6, rf_0_7, rf_0_8, rf_0_9, rf_1_0, rf_1_2, rf_4_0, rf_4_1, rf_4_2, rf_5_8, rf_5_9, rf_5_10, rf_5_11, rf_5_12, rf_13_0, rf_13_1, rf_14_0, rf_14_1, rf_14_2, rf_15_8, rf_15_9, rf_15_10, rf_15_11, rf_15_12, rf_23_0, rf_23_1, rf_23_2, rf_24_8, rf_24_9, rf_24_10, rf_24_11, rf_24_12, rf_32_6, rf_34_0, rf_34_1, rf_34_2, rf_34_3, rf_35_8, rf_35_9, rf_35_10, rf_35_11, rf_35_12, rf_43_0, rf_43_1, rf_43_2, rf_43_3, rf_45_0, rf_45_1, rf_46_0, rf_46_1, rf_46_2, rf_46_3, rf_46_4, rf_46_5, rf_47_0, rf_47_1, rf_49_0, rf_49_1, rf_49_2, rf_49_3, rf_49_4, rf_49_5, rf_53_0, rf_53_1, rf_53_2, rf_53_3, rf_53_4, rf_53_5, rf_53_6, rf_53_7, rf_53_9, rf_53_10, rf_53_11, rf_53_12, rf_53_13, rf_54_0, rf_54_1, rf_55_1, rf_55_2, rf_55_3, rf_67_1, rf_67_6, rf_67_7, rf_67_8, rf_67_9, rf_67_10, rf_67_22, rf_67_23, rf_67_28, rf_67_30, rf_67_32, rf_67_33, rf_67_38, rf_67_39, rf_67_48, rf_67_49, rf_67_51, rf_67_52, rf_67_53, rf_67_54, rf_67_55, rf_67_60, rf_67_61, rf_67_62, g]
theorem aw_1 (p i c N code bits abd z code2 bits2 abd2 : Int) (hN : M 55 0 = N) (hNb : 0 ≤ N ∧ N ≤ 1045) (hp : 0 ≤ p ∧ p < 1045) (h6 : M 56 p = code) (h7 : M 57 p = bits) (h8 : M 58 p = abd) (hz : and32 (shr32 bits c) 1 = z) (hzb : z = 0 ∨ z = 1) (pc : ∀ (M' : Mem) Q', z = 0 → (XC d 22 [aI code, aI i, aI c] M' Q' ↔ Q' [aI code2] M')) (hb : or32 bits (shl32 1 c) = bits2) (ha : or32 abd (shl32 1 i) = abd2) : XC (d + 1) 21 [aR 12 0 55, aI p, aI i, aI c] M Q ↔ (if z = 1 ∨ N = 1045 then Q [] M else Q [] (up (up (up (up M 56 N code2) 57 N bits2) 58 N abd2) 55 0 (N + 1))) := by
  rw [e_21, k_21_0]
  rcases hzb with rfl | rfl
  · have pc' := fun M' Q' => pc M' Q' rfl
    by_cases c2 : N = 1045
    · simp (disch := first | exact nl_i _ | exact nl_r _ | exact Nat.le_of_ble_eq_true rfl | exact Or.inl rfl | exact Or.inr rfl | exact w8_lo _ | exact w8_hi _ | decide | omega) only [v_fall, v_il_0, v_al_0, v_is_0, v_as_0, v_inc_0, v_ll_0, v_ls_0, v_il_1, v_al_1, v_is_1, v_as_1, v_inc_1, v_ll_1, v_ls_1, v_il_2, v_al_2, v_is_2, v_as_2, v_inc_2, v_ll_2, v_ls_2, v_il_3, v_al_3, v_is_3, v_as_3, v_inc_3, v_ll_3, v_ls_3, v_il_4, v_al_4, v_is_4, v_as_4, v_inc_4, v_ll_4, v_ls_4, v_il_5, v_al_5, v_is_5, v_as_5, v_inc_5, v_ll_5, v_ls_5, v_il_6, v_al_6, v_is_6, v_as_6, v_inc_6, v_il_7, v_al_7, v_is_7, v_as_7, v_inc_7, v_il_8, v_al_8, v_is_8, v_as_8, v_inc_8, v_il_9, v_al_9, v_is_9, v_as_9, v_inc_9, v_il_10, v_al_10, v_is_10, v_as_10, v_inc_10, v_il_11, v_al_11, v_is_11, v_as_11, v_inc_11, v_il_12, v_al_12, v_is_12, v_as_12, v_inc_12, v_il_13, v_al_13, v_is_13, v_as_13, v_inc_13, v_c_8, v_c_9, v_c_10, v_c_11, v_c_12, v_c_13, v_c_14, v_b_15, v_b_16, v_b_17, v_b_21, v_b_22, v_b_23, v_b_24, v_b_25, v_b_26, v_b_18, v_b_19, v_b_20, v_b_27, v_b_28, v_b_29, v_b_30, v_b_31, v_dup_i, v_dup_r, v_dup2, v_pop, v_gi, v_gl, v_gr, v_pi, v_pl, v_pz, v_iald, v_lald, v_bald, v_zald, v_aald, v_iast, v_last, v_bast, v_zast, v_alen_0, v_alen_1, v_alen_2, v_alen_3, v_alen_4, v_j_45, v_j_46, v_j_47, v_j_48, v_j_49, v_j_50, v_j_51, v_j_52, v_j_53, v_j_54, v_j_55, v_j_56, v_goto, v_sw, v_ret_i, v_ret_z, v_ret, v_cpy, v_iv_1, v_iv_2, v_iv_3, v_iv_4, v_iv_5, v_iv_6, v_is2_1, v_is2_2, v_is2_3, v_ivJ, List.nil_append, List.cons_append, rf_0_0, rf_0_1, rf_0_2, rf_0_3, rf_0_4, rf_0_5, rf_0_6, rf_0_7, rf_0_8, rf_0_9, rf_1_0, rf_1_2, rf_4_0, rf_4_1, rf_4_2, rf_5_8, rf_5_9, rf_5_10, rf_5_11, rf_5_12, rf_13_0, rf_13_1, rf_14_0, rf_14_1, rf_14_2, rf_15_8, rf_15_9, rf_15_10, rf_15_11, rf_15_12, rf_23_0, rf_23_1, rf_23_2, rf_24_8, rf_24_9, rf_24_10, rf_24_11, rf_24_12, rf_32_6, rf_34_0, rf_34_1, rf_34_2, rf_34_3, rf_35_8, rf_35_9, rf_35_10, rf_35_11, rf_35_12, rf_43_0, rf_43_1, rf_43_2, rf_43_3, rf_45_0, rf_45_1, rf_46_0, rf_46_1, rf_46_2, rf_46_3, rf_46_4, rf_46_5, rf_47_0, rf_47_1, rf_49_0, rf_49_1, rf_49_2, rf_49_3, rf_49_4, rf_49_5, rf_53_0, rf_53_1, rf_53_2, rf_53_3, rf_53_4, rf_53_5, rf_53_6, rf_53_7, rf_53_9, rf_53_10, rf_53_11, rf_53_12, rf_53_13, rf_54_0, rf_54_1, rf_55_1, rf_55_2, rf_55_3, rf_67_1, rf_67_6, rf_67_7, rf_67_8, rf_67_9, rf_67_10, rf_67_22, rf_67_23, rf_67_28, rf_67_30, rf_67_32, rf_67_33, rf_67_38, rf_67_39, rf_67_48, rf_67_49, rf_67_51, rf_67_52, rf_67_53, rf_67_54, rf_67_55, rf_67_60, rf_67_61, rf_67_62, up_s, up_b, up_j, b_21_24, k_21_24, b_21_25, k_21_25, w_sm, ↓if_pos, ↓if_neg,  hN, hz, h7]
    · simp (disch := first | exact nl_i _ | exact nl_r _ | exact Nat.le_of_ble_eq_true rfl | exact Or.inl rfl | exact Or.inr rfl | exact w8_lo _ | exact w8_hi _ | decide | omega) only [v_fall, v_il_0, v_al_0, v_is_0, v_as_0, v_inc_0, v_ll_0, v_ls_0, v_il_1, v_al_1, v_is_1, v_as_1, v_inc_1, v_ll_1, v_ls_1, v_il_2, v_al_2, v_is_2, v_as_2, v_inc_2, v_ll_2, v_ls_2, v_il_3, v_al_3, v_is_3, v_as_3, v_inc_3, v_ll_3, v_ls_3, v_il_4, v_al_4, v_is_4, v_as_4, v_inc_4, v_ll_4, v_ls_4, v_il_5, v_al_5, v_is_5, v_as_5, v_inc_5, v_ll_5, v_ls_5, v_il_6, v_al_6, v_is_6, v_as_6, v_inc_6, v_il_7, v_al_7, v_is_7, v_as_7, v_inc_7, v_il_8, v_al_8, v_is_8, v_as_8, v_inc_8, v_il_9, v_al_9, v_is_9, v_as_9, v_inc_9, v_il_10, v_al_10, v_is_10, v_as_10, v_inc_10, v_il_11, v_al_11, v_is_11, v_as_11, v_inc_11, v_il_12, v_al_12, v_is_12, v_as_12, v_inc_12, v_il_13, v_al_13, v_is_13, v_as_13, v_inc_13, v_c_8, v_c_9, v_c_10, v_c_11, v_c_12, v_c_13, v_c_14, v_b_15, v_b_16, v_b_17, v_b_21, v_b_22, v_b_23, v_b_24, v_b_25, v_b_26, v_b_18, v_b_19, v_b_20, v_b_27, v_b_28, v_b_29, v_b_30, v_b_31, v_dup_i, v_dup_r, v_dup2, v_pop, v_gi, v_gl, v_gr, v_pi, v_pl, v_pz, v_iald, v_lald, v_bald, v_zald, v_aald, v_iast, v_last, v_bast, v_zast, v_alen_0, v_alen_1, v_alen_2, v_alen_3, v_alen_4, v_j_45, v_j_46, v_j_47, v_j_48, v_j_49, v_j_50, v_j_51, v_j_52, v_j_53, v_j_54, v_j_55, v_j_56, v_goto, v_sw, v_ret_i, v_ret_z, v_ret, v_cpy, v_iv_1, v_iv_2, v_iv_3, v_iv_4, v_iv_5, v_iv_6, v_is2_1, v_is2_2, v_is2_3, v_ivJ, List.nil_append, List.cons_append, rf_0_0, rf_0_1, rf_0_2, rf_0_3, rf_0_4, rf_0_5, rf_0_6, rf_0_7, rf_0_8, rf_0_9, rf_1_0, rf_1_2, rf_4_0, rf_4_1, rf_4_2, rf_5_8, rf_5_9, rf_5_10, rf_5_11, rf_5_12, rf_13_0, rf_13_1, rf_14_0, rf_14_1, rf_14_2, rf_15_8, rf_15_9, rf_15_10, rf_15_11, rf_15_12, rf_23_0, rf_23_1, rf_23_2, rf_24_8, rf_24_9, rf_24_10, rf_24_11, rf_24_12, rf_32_6, rf_34_0, rf_34_1, rf_34_2, rf_34_3, rf_35_8, rf_35_9, rf_35_10, rf_35_11, rf_35_12, rf_43_0, rf_43_1, rf_43_2, rf_43_3, rf_45_0, rf_45_1, rf_46_0, rf_46_1, rf_46_2, rf_46_3, rf_46_4, rf_46_5, rf_47_0, rf_47_1, rf_49_0, rf_49_1, rf_49_2, rf_49_3, rf_49_4, rf_49_5, rf_53_0, rf_53_1, rf_53_2, rf_53_3, rf_53_4, rf_53_5, rf_53_6, rf_53_7, rf_53_9, rf_53_10, rf_53_11, rf_53_12, rf_53_13, rf_54_0, rf_54_1, rf_55_1, rf_55_2, rf_55_3, rf_67_1, rf_67_6, rf_67_7, rf_67_8, rf_67_9, rf_67_10, rf_67_22, rf_67_23, rf_67_28, rf_67_30, rf_67_32, rf_67_33, rf_67_38, rf_67_39, rf_67_48, rf_67_49, rf_67_51, rf_67_52, rf_67_53, rf_67_54, rf_67_55, rf_67_60, rf_67_61, rf_67_62, up_s, up_b, up_j, b_21_24, k_21_24, b_21_25, k_21_25, w_sm, ↓if_pos, ↓if_neg,  hN, hz, h6, h7, h8, pc', hb, ha]
  · simp (disch := first | exact nl_i _ | exact nl_r _ | exact Nat.le_of_ble_eq_true rfl | exact Or.inl rfl | exact Or.inr rfl | exact w8_lo _ | exact w8_hi _ | decide | omega) only [v_fall, v_il_0, v_al_0, v_is_0, v_as_0, v_inc_0, v_ll_0, v_ls_0, v_il_1, v_al_1, v_is_1, v_as_1, v_inc_1, v_ll_1, v_ls_1, v_il_2, v_al_2, v_is_2, v_as_2, v_inc_2, v_ll_2, v_ls_2, v_il_3, v_al_3, v_is_3, v_as_3, v_inc_3, v_ll_3, v_ls_3, v_il_4, v_al_4, v_is_4, v_as_4, v_inc_4, v_ll_4, v_ls_4, v_il_5, v_al_5, v_is_5, v_as_5, v_inc_5, v_ll_5, v_ls_5, v_il_6, v_al_6, v_is_6, v_as_6, v_inc_6, v_il_7, v_al_7, v_is_7, v_as_7, v_inc_7, v_il_8, v_al_8, v_is_8, v_as_8, v_inc_8, v_il_9, v_al_9, v_is_9, v_as_9, v_inc_9, v_il_10, v_al_10, v_is_10, v_as_10, v_inc_10, v_il_11, v_al_11, v_is_11, v_as_11, v_inc_11, v_il_12, v_al_12, v_is_12, v_as_12, v_inc_12, v_il_13, v_al_13, v_is_13, v_as_13, v_inc_13, v_c_8, v_c_9, v_c_10, v_c_11, v_c_12, v_c_13, v_c_14, v_b_15, v_b_16, v_b_17, v_b_21, v_b_22, v_b_23, v_b_24, v_b_25, v_b_26, v_b_18, v_b_19, v_b_20, v_b_27, v_b_28, v_b_29, v_b_30, v_b_31, v_dup_i, v_dup_r, v_dup2, v_pop, v_gi, v_gl, v_gr, v_pi, v_pl, v_pz, v_iald, v_lald, v_bald, v_zald, v_aald, v_iast, v_last, v_bast, v_zast, v_alen_0, v_alen_1, v_alen_2, v_alen_3, v_alen_4, v_j_45, v_j_46, v_j_47, v_j_48, v_j_49, v_j_50, v_j_51, v_j_52, v_j_53, v_j_54, v_j_55, v_j_56, v_goto, v_sw, v_ret_i, v_ret_z, v_ret, v_cpy, v_iv_1, v_iv_2, v_iv_3, v_iv_4, v_iv_5, v_iv_6, v_is2_1, v_is2_2, v_is2_3, v_ivJ, List.nil_append, List.cons_append, rf_0_0, rf_0_1, rf_0_2, rf_0_3, rf_0_4, rf_0_5, rf_0_6, rf_0_7, rf_0_8, rf_0_9, rf_1_0, rf_1_2, rf_4_0, rf_4_1, rf_4_2, rf_5_8, rf_5_9, rf_5_10, rf_5_11, rf_5_12, rf_13_0, rf_13_1, rf_14_0, rf_14_1, rf_14_2, rf_15_8, rf_15_9, rf_15_10, rf_15_11, rf_15_12, rf_23_0, rf_23_1, rf_23_2, rf_24_8, rf_24_9, rf_24_10, rf_24_11, rf_24_12, rf_32_6, rf_34_0, rf_34_1, rf_34_2, rf_34_3, rf_35_8, rf_35_9, rf_35_10, rf_35_11, rf_35_12, rf_43_0, rf_43_1, rf_43_2, rf_43_3, rf_45_0, rf_45_1, rf_46_0, rf_46_1, rf_46_2, rf_46_3, rf_46_4, rf_46_5, rf_47_0, rf_47_1, rf_49_0, rf_49_1, rf_49_2, rf_49_3, rf_49_4, rf_49_5, rf_53_0, rf_53_1, rf_53_2, rf_53_3, rf_53_4, rf_53_5, rf_53_6, rf_53_7, rf_53_9, rf_53_10, rf_53_11, rf_53_12, rf_53_13, rf_54_0, rf_54_1, rf_55_1, rf_55_2, rf_55_3, rf_67_1, rf_67_6, rf_67_7, rf_67_8, rf_67_9, rf_67_10, rf_67_22, rf_67_23, rf_67_28, rf_67_30, rf_67_32, rf_67_33, rf_67_38, rf_67_39, rf_67_48, rf_67_49, rf_67_51, rf_67_52, rf_67_53, rf_67_54, rf_67_55, rf_67_60, rf_67_61, rf_67_62, up_s, up_b, up_j, b_21_24, k_21_24, b_21_25, k_21_25, w_sm, ↓if_pos, ↓if_neg,  hN, hz, h7]
theorem la_1 (m n i K p k : Int) (hn : 0 ≤ n ∧ n ≤ 6) (hk : 0 ≤ k ∧ k < n) (T : XC d 21 [aR 12 0 55, aI p, aI i, aI k] M (fun r M1 => r = [] ∧ XL (d + 1) 20 57 [aR 12 0 55, aI m, aI n, aI i, aI K, aI p, aI (k + 1)] [] M1 Q)) : XL (d + 1) 20 57 [aR 12 0 55, aI m, aI n, aI i, aI K, aI p, aI k] [] M Q := by
  rw [b_20_57, k_20_57]
  simp (disch := first | exact nl_i _ | exact nl_r _ | exact Nat.le_of_ble_eq_true rfl | exact Or.inl rfl | exact Or.inr rfl | exact w8_lo _ | exact w8_hi _ | decide | omega) only [v_fall, v_il_0, v_al_0, v_is_0, v_as_0, v_inc_0, v_ll_0, v_ls_0, v_il_1, v_al_1, v_is_1, v_as_1, v_inc_1, v_ll_1, v_ls_1, v_il_2, v_al_2, v_is_2, v_as_2, v_inc_2, v_ll_2, v_ls_2, v_il_3, v_al_3, v_is_3, v_as_3, v_inc_3, v_ll_3, v_ls_3, v_il_4, v_al_4, v_is_4, v_as_4, v_inc_4, v_ll_4, v_ls_4, v_il_5, v_al_5, v_is_5, v_as_5, v_inc_5, v_ll_5, v_ls_5, v_il_6, v_al_6, v_is_6, v_as_6, v_inc_6, v_il_7, v_al_7, v_is_7, v_as_7, v_inc_7, v_il_8, v_al_8, v_is_8, v_as_8, v_inc_8, v_il_9, v_al_9, v_is_9, v_as_9, v_inc_9, v_il_10, v_al_10, v_is_10, v_as_10, v_inc_10, v_il_11, v_al_11, v_is_11, v_as_11, v_inc_11, v_il_12, v_al_12, v_is_12, v_as_12, v_inc_12, v_il_13, v_al_13, v_is_13, v_as_13, v_inc_13, v_c_8, v_c_9, v_c_10, v_c_11, v_c_12, v_c_13, v_c_14, v_b_15, v_b_16, v_b_17, v_b_21, v_b_22, v_b_23, v_b_24, v_b_25, v_b_26, v_b_18, v_b_19, v_b_20, v_b_27, v_b_28, v_b_29, v_b_30, v_b_31, v_dup_i, v_dup_r, v_dup2, v_pop, v_gi, v_gl, v_gr, v_pi, v_pl, v_pz, v_iald, v_lald, v_bald, v_zald, v_aald, v_iast, v_last, v_bast, v_zast, v_alen_0, v_alen_1, v_alen_2, v_alen_3, v_alen_4, v_j_45, v_j_46, v_j_47, v_j_48, v_j_49, v_j_50, v_j_51, v_j_52, v_j_53, v_j_54, v_j_55, v_j_56, v_goto, v_sw, v_ret_i, v_ret_z, v_ret, v_cpy, v_iv_1, v_iv_2, v_iv_3, v_iv_4, v_iv_5, v_iv_6, v_is2_1, v_is2_2, v_is2_3, v_ivJ, List.nil_append, List.cons_append, rf_0_0, rf_0_1, rf_0_2, rf_0_3, rf_0_4, rf_0_5, rf_0_6, rf_0_7, rf_0_8, rf_0_9, rf_1_0, rf_1_2, rf_4_0, rf_4_1, rf_4_2, rf_5_8, rf_5_9, rf_5_10, rf_5_11, rf_5_12, rf_13_0, rf_13_1, rf_14_0, rf_14_1, rf_14_2, rf_15_8, rf_15_9, rf_15_10, rf_15_11, rf_15_12, rf_23_0, rf_23_1, rf_23_2, rf_24_8, rf_24_9, rf_24_10, rf_24_11, rf_24_12, rf_32_6, rf_34_0, rf_34_1, rf_34_2, rf_34_3, rf_35_8, rf_35_9, rf_35_10, rf_35_11, rf_35_12, rf_43_0, rf_43_1, rf_43_2, rf_43_3, rf_45_0, rf_45_1, rf_46_0, rf_46_1, rf_46_2, rf_46_3, rf_46_4, rf_46_5, rf_47_0, rf_47_1, rf_49_0, rf_49_1, rf_49_2, rf_49_3, rf_49_4, rf_49_5, rf_53_0, rf_53_1, rf_53_2, rf_53_3, rf_53_4, rf_53_5, rf_53_6, rf_53_7, rf_53_9, rf_53_10, rf_53_11, rf_53_12, rf_53_13, rf_54_0, rf_54_1, rf_55_1, rf_55_2, rf_55_3, rf_67_1, rf_67_6, rf_67_7, rf_67_8, rf_67_9, rf_67_10, rf_67_22, rf_67_23, rf_67_28, rf_67_30, rf_67_32, rf_67_33, rf_67_38, rf_67_39, rf_67_48, rf_67_49, rf_67_51, rf_67_52, rf_67_53, rf_67_54, rf_67_55, rf_67_60, rf_67_61, rf_67_62, up_s, up_b, up_j, b_20_85, k_20_85, b_20_91, k_20_91, b_20_97, k_20_97, w_sm, ↓if_pos, ↓if_neg,  ]
  refine T.mono (fun r M1 h => ?_)
  obtain ⟨rfl, h⟩ := h
  simp (disch := first | exact nl_i _ | exact nl_r _ | exact Nat.le_of_ble_eq_true rfl | exact Or.inl rfl | exact Or.inr rfl | exact w8_lo _ | exact w8_hi _ | decide | omega) only [v_fall, v_il_0, v_al_0, v_is_0, v_as_0, v_inc_0, v_ll_0, v_ls_0, v_il_1, v_al_1, v_is_1, v_as_1, v_inc_1, v_ll_1, v_ls_1, v_il_2, v_al_2, v_is_2, v_as_2, v_inc_2, v_ll_2, v_ls_2, v_il_3, v_al_3, v_is_3, v_as_3, v_inc_3, v_ll_3, v_ls_3, v_il_4, v_al_4, v_is_4, v_as_4, v_inc_4, v_ll_4, v_ls_4, v_il_5, v_al_5, v_is_5, v_as_5, v_inc_5, v_ll_5, v_ls_5, v_il_6, v_al_6, v_is_6, v_as_6, v_inc_6, v_il_7, v_al_7, v_is_7, v_as_7, v_inc_7, v_il_8, v_al_8, v_is_8, v_as_8, v_inc_8, v_il_9, v_al_9, v_is_9, v_as_9, v_inc_9, v_il_10, v_al_10, v_is_10, v_as_10, v_inc_10, v_il_11, v_al_11, v_is_11, v_as_11, v_inc_11, v_il_12, v_al_12, v_is_12, v_as_12, v_inc_12, v_il_13, v_al_13, v_is_13, v_as_13, v_inc_13, v_c_8, v_c_9, v_c_10, v_c_11, v_c_12, v_c_13, v_c_14, v_b_15, v_b_16, v_b_17, v_b_21, v_b_22, v_b_23, v_b_24, v_b_25, v_b_26, v_b_18, v_b_19, v_b_20, v_b_27, v_b_28, v_b_29, v_b_30, v_b_31, v_dup_i, v_dup_r, v_dup2, v_pop, v_gi, v_gl, v_gr, v_pi, v_pl, v_pz, v_iald, v_lald, v_bald, v_zald, v_aald, v_iast, v_last, v_bast, v_zast, v_alen_0, v_alen_1, v_alen_2, v_alen_3, v_alen_4, v_j_45, v_j_46, v_j_47, v_j_48, v_j_49, v_j_50, v_j_51, v_j_52, v_j_53, v_j_54, v_j_55, v_j_56, v_goto, v_sw, v_ret_i, v_ret_z, v_ret, v_cpy, v_iv_1, v_iv_2, v_iv_3, v_iv_4, v_iv_5, v_iv_6, v_is2_1, v_is2_2, v_is2_3, v_ivJ, List.nil_append, List.cons_append, rf_0_0, rf_0_1, rf_0_2, rf_0_3, rf_0_4, rf_0_5, rf_0_6, rf_0_7, rf_0_8, rf_0_9, rf_1_0, rf_1_2, rf_4_0, rf_4_1, rf_4_2, rf_5_8, rf_5_9, rf_5_10, rf_5_11, rf_5_12, rf_13_0, rf_13_1, rf_14_0, rf_14_1, rf_14_2, rf_15_8, rf_15_9, rf_15_10, rf_15_11, rf_15_12, rf_23_0, rf_23_1, rf_23_2, rf_24_8, rf_24_9, rf_24_10, rf_24_11, rf_24_12, rf_32_6, rf_34_0, rf_34_1, rf_34_2, rf_34_3, rf_35_8, rf_35_9, rf_35_10, rf_35_11, rf_35_12, rf_43_0, rf_43_1, rf_43_2, rf_43_3, rf_45_0, rf_45_1, rf_46_0, rf_46_1, rf_46_2, rf_46_3, rf_46_4, rf_46_5, rf_47_0, rf_47_1, rf_49_0, rf_49_1, rf_49_2, rf_49_3, rf_49_4, rf_49_5, rf_53_0, rf_53_1, rf_53_2, rf_53_3, rf_53_4, rf_53_5, rf_53_6, rf_53_7, rf_53_9, rf_53_10, rf_53_11, rf_53_12, rf_53_13, rf_54_0, rf_54_1, rf_55_1, rf_55_2, rf_55_3, rf_67_1, rf_67_6, rf_67_7, rf_67_8, rf_67_9, rf_67_10, rf_67_22, rf_67_23, rf_67_28, rf_67_30, rf_67_32, rf_67_33, rf_67_38, rf_67_39, rf_67_48, rf_67_49, rf_67_51, rf_67_52, rf_67_53, rf_67_54, rf_67_55, rf_67_60, rf_67_61, rf_67_62, up_s, up_b, up_j, b_20_85, k_20_85, b_20_91, k_20_91, b_20_97, k_20_97, w_sm, ↓if_pos, ↓if_neg,  ]
  exact h
theorem la_2 (m n i K p : Int) (hn : 0 ≤ n ∧ n ≤ 6) : XL d 20 57 [aR 12 0 55, aI m, aI n, aI i, aI K, aI p, aI n] [] M Q ↔ XL d 20 47 [aR 12 0 55, aI m, aI n, aI i, aI K, aI (p + 1), aI n] [] M Q := by
  rw [b_20_57, k_20_57]
  simp (disch := first | exact nl_i _ | exact nl_r _ | exact Nat.le_of_ble_eq_true rfl | exact Or.inl rfl | exact Or.inr rfl | exact w8_lo _ | exact w8_hi _ | decide | omega) only [v_fall, v_il_0, v_al_0, v_is_0, v_as_0, v_inc_0, v_ll_0, v_ls_0, v_il_1, v_al_1, v_is_1, v_as_1, v_inc_1, v_ll_1, v_ls_1, v_il_2, v_al_2, v_is_2, v_as_2, v_inc_2, v_ll_2, v_ls_2, v_il_3, v_al_3, v_is_3, v_as_3, v_inc_3, v_ll_3, v_ls_3, v_il_4, v_al_4, v_is_4, v_as_4, v_inc_4, v_ll_4, v_ls_4, v_il_5, v_al_5, v_is_5, v_as_5, v_inc_5, v_ll_5, v_ls_5, v_il_6, v_al_6, v_is_6, v_as_6, v_inc_6, v_il_7, v_al_7, v_is_7, v_as_7, v_inc_7, v_il_8, v_al_8, v_is_8, v_as_8, v_inc_8, v_il_9, v_al_9, v_is_9, v_as_9, v_inc_9, v_il_10, v_al_10, v_is_10, v_as_10, v_inc_10, v_il_11, v_al_11, v_is_11, v_as_11, v_inc_11, v_il_12, v_al_12, v_is_12, v_as_12, v_inc_12, v_il_13, v_al_13, v_is_13, v_as_13, v_inc_13, v_c_8, v_c_9, v_c_10, v_c_11, v_c_12, v_c_13, v_c_14, v_b_15, v_b_16, v_b_17, v_b_21, v_b_22, v_b_23, v_b_24, v_b_25, v_b_26, v_b_18, v_b_19, v_b_20, v_b_27, v_b_28, v_b_29, v_b_30, v_b_31, v_dup_i, v_dup_r, v_dup2, v_pop, v_gi, v_gl, v_gr, v_pi, v_pl, v_pz, v_iald, v_lald, v_bald, v_zald, v_aald, v_iast, v_last, v_bast, v_zast, v_alen_0, v_alen_1, v_alen_2, v_alen_3, v_alen_4, v_j_45, v_j_46, v_j_47, v_j_48, v_j_49, v_j_50, v_j_51, v_j_52, v_j_53, v_j_54, v_j_55, v_j_56, v_goto, v_sw, v_ret_i, v_ret_z, v_ret, v_cpy, v_iv_1, v_iv_2, v_iv_3, v_iv_4, v_iv_5, v_iv_6, v_is2_1, v_is2_2, v_is2_3, v_ivJ, List.nil_append, List.cons_append, rf_0_0, rf_0_1, rf_0_2, rf_0_3, rf_0_4, rf_0_5, rf_0_6, rf_0_7, rf_0_8, rf_0_9, rf_1_0, rf_1_2, rf_4_0, rf_4_1, rf_4_2, rf_5_8, rf_5_9, rf_5_10, rf_5_11, rf_5_12, rf_13_0, rf_13_1, rf_14_0, rf_14_1, rf_14_2, rf_15_8, rf_15_9, rf_15_10, rf_15_11, rf_15_12, rf_23_0, rf_23_1, rf_23_2, rf_24_8, rf_24_9, rf_24_10, rf_24_11, rf_24_12, rf_32_6, rf_34_0, rf_34_1, rf_34_2, rf_34_3, rf_35_8, rf_35_9, rf_35_10, rf_35_11, rf_35_12, rf_43_0, rf_43_1, rf_43_2, rf_43_3, rf_45_0, rf_45_1, rf_46_0, rf_46_1, rf_46_2, rf_46_3, rf_46_4, rf_46_5, rf_47_0, rf_47_1, rf_49_0, rf_49_1, rf_49_2, rf_49_3, rf_49_4, rf_49_5, rf_53_0, rf_53_1, rf_53_2, rf_53_3, rf_53_4, rf_53_5, rf_53_6, rf_53_7, rf_53_9, rf_53_10, rf_53_11, rf_53_12, rf_53_13, rf_54_0, rf_54_1, rf_55_1, rf_55_2, rf_55_3, rf_67_1, rf_67_6, rf_67_7, rf_67_8, rf_67_9, rf_67_10, rf_67_22, rf_67_23, rf_67_28, rf_67_30, rf_67_32, rf_67_33, rf_67_38, rf_67_39, rf_67_48, rf_67_49, rf_67_51, rf_67_52, rf_67_53, rf_67_54, rf_67_55, rf_67_60, rf_67_61, rf_67_62, up_s, up_b, up_j, b_20_85, k_20_85, b_20_91, k_20_91, b_20_97, k_20_97, w_sm, ↓if_pos, ↓if_neg,  ]
theorem la_3 (m n i K p : Int) (o : AV) (hK : 0 ≤ K ∧ K ≤ 1045) (hp : 0 ≤ p ∧ p ≤ K) : XL d 20 47 [aR 12 0 55, aI m, aI n, aI i, aI K, aI p, o] [] M Q ↔ (if p < K then XL d 20 57 [aR 12 0 55, aI m, aI n, aI i, aI K, aI p, aI 0] [] M Q else XL d 20 28 [aR 12 0 55, aI m, aI n, aI (i + 1), aI K, aI p, o] [] M Q) := by
  rw [b_20_47, k_20_47]
  by_cases c : p < K
  · simp (disch := first | exact nl_i _ | exact nl_r _ | exact Nat.le_of_ble_eq_true rfl | exact Or.inl rfl | exact Or.inr rfl | exact w8_lo _ | exact w8_hi _ | decide | omega) only [v_fall, v_il_0, v_al_0, v_is_0, v_as_0, v_inc_0, v_ll_0, v_ls_0, v_il_1, v_al_1, v_is_1, v_as_1, v_inc_1, v_ll_1, v_ls_1, v_il_2, v_al_2, v_is_2, v_as_2, v_inc_2, v_ll_2, v_ls_2, v_il_3, v_al_3, v_is_3, v_as_3, v_inc_3, v_ll_3, v_ls_3, v_il_4, v_al_4, v_is_4, v_as_4, v_inc_4, v_ll_4, v_ls_4, v_il_5, v_al_5, v_is_5, v_as_5, v_inc_5, v_ll_5, v_ls_5, v_il_6, v_al_6, v_is_6, v_as_6, v_inc_6, v_il_7, v_al_7, v_is_7, v_as_7, v_inc_7, v_il_8, v_al_8, v_is_8, v_as_8, v_inc_8, v_il_9, v_al_9, v_is_9, v_as_9, v_inc_9, v_il_10, v_al_10, v_is_10, v_as_10, v_inc_10, v_il_11, v_al_11, v_is_11, v_as_11, v_inc_11, v_il_12, v_al_12, v_is_12, v_as_12, v_inc_12, v_il_13, v_al_13, v_is_13, v_as_13, v_inc_13, v_c_8, v_c_9, v_c_10, v_c_11, v_c_12, v_c_13, v_c_14, v_b_15, v_b_16, v_b_17, v_b_21, v_b_22, v_b_23, v_b_24, v_b_25, v_b_26, v_b_18, v_b_19, v_b_20, v_b_27, v_b_28, v_b_29, v_b_30, v_b_31, v_dup_i, v_dup_r, v_dup2, v_pop, v_gi, v_gl, v_gr, v_pi, v_pl, v_pz, v_iald, v_lald, v_bald, v_zald, v_aald, v_iast, v_last, v_bast, v_zast, v_alen_0, v_alen_1, v_alen_2, v_alen_3, v_alen_4, v_j_45, v_j_46, v_j_47, v_j_48, v_j_49, v_j_50, v_j_51, v_j_52, v_j_53, v_j_54, v_j_55, v_j_56, v_goto, v_sw, v_ret_i, v_ret_z, v_ret, v_cpy, v_iv_1, v_iv_2, v_iv_3, v_iv_4, v_iv_5, v_iv_6, v_is2_1, v_is2_2, v_is2_3, v_ivJ, List.nil_append, List.cons_append, rf_0_0, rf_0_1, rf_0_2, rf_0_3, rf_0_4, rf_0_5, rf_0_6, rf_0_7, rf_0_8, rf_0_9, rf_1_0, rf_1_2, rf_4_0, rf_4_1, rf_4_2, rf_5_8, rf_5_9, rf_5_10, rf_5_11, rf_5_12, rf_13_0, rf_13_1, rf_14_0, rf_14_1, rf_14_2, rf_15_8, rf_15_9, rf_15_10, rf_15_11, rf_15_12, rf_23_0, rf_23_1, rf_23_2, rf_24_8, rf_24_9, rf_24_10, rf_24_11, rf_24_12, rf_32_6, rf_34_0, rf_34_1, rf_34_2, rf_34_3, rf_35_8, rf_35_9, rf_35_10, rf_35_11, rf_35_12, rf_43_0, rf_43_1, rf_43_2, rf_43_3, rf_45_0, rf_45_1, rf_46_0, rf_46_1, rf_46_2, rf_46_3, rf_46_4, rf_46_5, rf_47_0, rf_47_1, rf_49_0, rf_49_1, rf_49_2, rf_49_3, rf_49_4, rf_49_5, rf_53_0, rf_53_1, rf_53_2, rf_53_3, rf_53_4, rf_53_5, rf_53_6, rf_53_7, rf_53_9, rf_53_10, rf_53_11, rf_53_12, rf_53_13, rf_54_0, rf_54_1, rf_55_1, rf_55_2, rf_55_3, rf_67_1, rf_67_6, rf_67_7, rf_67_8, rf_67_9, rf_67_10, rf_67_22, rf_67_23, rf_67_28, rf_67_30, rf_67_32, rf_67_33, rf_67_38, rf_67_39, rf_67_48, rf_67_49, rf_67_51, rf_67_52, rf_67_53, rf_67_54, rf_67_55, rf_67_60, rf_67_61, rf_67_62, up_s, up_b, up_j, b_20_85, k_20_85, b_20_91, k_20_91, b_20_97, k_20_97, w_sm, ↓if_pos, ↓if_neg,  ]
  · simp (disch := first | exact nl_i _ | exact nl_r _ | exact Nat.le_of_ble_eq_true rfl | exact Or.inl rfl | exact Or.inr rfl | exact w8_lo _ | exact w8_hi _ | decide | omega) only [v_fall, v_il_0, v_al_0, v_is_0, v_as_0, v_inc_0, v_ll_0, v_ls_0, v_il_1, v_al_1, v_is_1, v_as_1, v_inc_1, v_ll_1, v_ls_1, v_il_2, v_al_2, v_is_2, v_as_2, v_inc_2, v_ll_2, v_ls_2, v_il_3, v_al_3, v_is_3, v_as_3, v_inc_3, v_ll_3, v_ls_3, v_il_4, v_al_4, v_is_4, v_as_4, v_inc_4, v_ll_4, v_ls_4, v_il_5, v_al_5, v_is_5, v_as_5, v_inc_5, v_ll_5, v_ls_5, v_il_6, v_al_6, v_is_6, v_as_6, v_inc_6, v_il_7, v_al_7, v_is_7, v_as_7, v_inc_7, v_il_8, v_al_8, v_is_8, v_as_8, v_inc_8, v_il_9, v_al_9, v_is_9, v_as_9, v_inc_9, v_il_10, v_al_10, v_is_10, v_as_10, v_inc_10, v_il_11, v_al_11, v_is_11, v_as_11, v_inc_11, v_il_12, v_al_12, v_is_12, v_as_12, v_inc_12, v_il_13, v_al_13, v_is_13, v_as_13, v_inc_13, v_c_8, v_c_9, v_c_10, v_c_11, v_c_12, v_c_13, v_c_14, v_b_15, v_b_16, v_b_17, v_b_21, v_b_22, v_b_23, v_b_24, v_b_25, v_b_26, v_b_18, v_b_19, v_b_20, v_b_27, v_b_28, v_b_29, v_b_30, v_b_31, v_dup_i, v_dup_r, v_dup2, v_pop, v_gi, v_gl, v_gr, v_pi, v_pl, v_pz, v_iald, v_lald, v_bald, v_zald, v_aald, v_iast, v_last, v_bast, v_zast, v_alen_0, v_alen_1, v_alen_2, v_alen_3, v_alen_4, v_j_45, v_j_46, v_j_47, v_j_48, v_j_49, v_j_50, v_j_51, v_j_52, v_j_53, v_j_54, v_j_55, v_j_56, v_goto, v_sw, v_ret_i, v_ret_z, v_ret, v_cpy, v_iv_1, v_iv_2, v_iv_3, v_iv_4, v_iv_5, v_iv_6, v_is2_1, v_is2_2, v_is2_3, v_ivJ, List.nil_append, List.cons_append, rf_0_0, rf_0_1, rf_0_2, rf_0_3, rf_0_4, rf_0_5, rf_0_6, rf_0_7, rf_0_8, rf_0_9, rf_1_0, rf_1_2, rf_4_0, rf_4_1, rf_4_2, rf_5_8, rf_5_9, rf_5_10, rf_5_11, rf_5_12, rf_13_0, rf_13_1, rf_14_0, rf_14_1, rf_14_2, rf_15_8, rf_15_9, rf_15_10, rf_15_11, rf_15_12, rf_23_0, rf_23_1, rf_23_2, rf_24_8, rf_24_9, rf_24_10, rf_24_11, rf_24_12, rf_32_6, rf_34_0, rf_34_1, rf_34_2, rf_34_3, rf_35_8, rf_35_9, rf_35_10, rf_35_11, rf_35_12, rf_43_0, rf_43_1, rf_43_2, rf_43_3, rf_45_0, rf_45_1, rf_46_0, rf_46_1, rf_46_2, rf_46_3, rf_46_4, rf_46_5, rf_47_0, rf_47_1, rf_49_0, rf_49_1, rf_49_2, rf_49_3, rf_49_4, rf_49_5, rf_53_0, rf_53_1, rf_53_2, rf_53_3, rf_53_4, rf_53_5, rf_53_6, rf_53_7, rf_53_9, rf_53_10, rf_53_11, rf_53_12, rf_53_13, rf_54_0, rf_54_1, rf_55_1, rf_55_2, rf_55_3, rf_67_1, rf_67_6, rf_67_7, rf_67_8, rf_67_9, rf_67_10, rf_67_22, rf_67_23, rf_67_28, rf_67_30, rf_67_32, rf_67_33, rf_67_38, rf_67_39, rf_67_48, rf_67_49, rf_67_51, rf_67_52, rf_67_53, rf_67_54, rf_67_55, rf_67_60, rf_67_61, rf_67_62, up_s, up_b, up_j, b_20_85, k_20_85, b_20_91, k_20_91, b_20_97, k_20_97, w_sm, ↓if_pos, ↓if_neg,  ]
theorem la_4 (m n i N : Int) (o1 o2 o3 : AV) (hm : 0 ≤ m ∧ m ≤ 4) (hi : 0 ≤ i ∧ i ≤ m) (hN : M 55 0 = N) : XL d 20 28 [aR 12 0 55, aI m, aI n, aI i, o1, o2, o3] [] M Q ↔ (if i < m then XL d 20 47 [aR 12 0 55, aI m, aI n, aI i, aI N, aI 0, o3] [] M Q else Q [] M) := by
  rw [b_20_28, k_20_28]
  by_cases c : i < m
  · simp (disch := first | exact nl_i _ | exact nl_r _ | exact Nat.le_of_ble_eq_true rfl | exact Or.inl rfl | exact Or.inr rfl | exact w8_lo _ | exact w8_hi _ | decide | omega) only [v_fall, v_il_0, v_al_0, v_is_0, v_as_0, v_inc_0, v_ll_0, v_ls_0, v_il_1, v_al_1, v_is_1, v_as_1, v_inc_1, v_ll_1, v_ls_1, v_il_2, v_al_2, v_is_2, v_as_2, v_inc_2, v_ll_2, v_ls_2, v_il_3, v_al_3, v_is_3, v_as_3, v_inc_3, v_ll_3, v_ls_3, v_il_4, v_al_4, v_is_4, v_as_4, v_inc_4, v_ll_4, v_ls_4, v_il_5, v_al_5, v_is_5, v_as_5, v_inc_5, v_ll_5, v_ls_5, v_il_6, v_al_6, v_is_6, v_as_6, v_inc_6, v_il_7, v_al_7, v_is_7, v_as_7, v_inc_7, v_il_8, v_al_8, v_is_8, v_as_8, v_inc_8, v_il_9, v_al_9, v_is_9, v_as_9, v_inc_9, v_il_10, v_al_10, v_is_10, v_as_10, v_inc_10, v_il_11, v_al_11, v_is_11, v_as_11, v_inc_11, v_il_12, v_al_12, v_is_12, v_as_12, v_inc_12, v_il_13, v_al_13, v_is_13, v_as_13, v_inc_13, v_c_8, v_c_9, v_c_10, v_c_11, v_c_12, v_c_13, v_c_14, v_b_15, v_b_16, v_b_17, v_b_21, v_b_22, v_b_23, v_b_24, v_b_25, v_b_26, v_b_18, v_b_19, v_b_20, v_b_27, v_b_28, v_b_29, v_b_30, v_b_31, v_dup_i, v_dup_r, v_dup2, v_pop, v_gi, v_gl, v_gr, v_pi, v_pl, v_pz, v_iald, v_lald, v_bald, v_zald, v_aald, v_iast, v_last, v_bast, v_zast, v_alen_0, v_alen_1, v_alen_2, v_alen_3, v_alen_4, v_j_45, v_j_46, v_j_47, v_j_48, v_j_49, v_j_50, v_j_51, v_j_52, v_j_53, v_j_54, v_j_55, v_j_56, v_goto, v_sw, v_ret_i, v_ret_z, v_ret, v_cpy, v_iv_1, v_iv_2, v_iv_3, v_iv_4, v_iv_5, v_iv_6, v_is2_1, v_is2_2, v_is2_3, v_ivJ, List.nil_append, List.cons_append, rf_0_0, rf_0_1, rf_0_2, rf_0_3, rf_0_4, rf_0_5, rf_0_6, rf_0_7, rf_0_8, rf_0_9, rf_1_0, rf_1_2, rf_4_0, rf_4_1, rf_4_2, rf_5_8, rf_5_9, rf_5_10, rf_5_11, rf_5_12, rf_13_0, rf_13_1, rf_14_0, rf_14_1, rf_14_2, rf_15_8, rf_15_9, rf_15_10, rf_15_11, rf_15_12, rf_23_0, rf_23_1, rf_23_2, rf_24_8, rf_24_9, rf_24_10, rf_24_11, rf_24_12, rf_32_6, rf_34_0, rf_34_1, rf_34_2, rf_34_3, rf_35_8, rf_35_9, rf_35_10, rf_35_11, rf_35_12, rf_43_0, rf_43_1, rf_43_2, rf_43_3, rf_45_0, rf_45_1, rf_46_0, rf_46_1, rf_46_2, rf_46_3, rf_46_4, rf_46_5, rf_47_0, rf_47_1, rf_49_0, rf_49_1, rf_49_2, rf_49_3, rf_49_4, rf_49_5, rf_53_0, rf_53_1, rf_53_2, rf_53_3, rf_53_4, rf_53_5, rf_53_6, rf_53_7, rf_53_9, rf_53_10, rf_53_11, rf_53_12, rf_53_13, rf_54_0, rf_54_1, rf_55_1, rf_55_2, rf_55_3, rf_67_1, rf_67_6, rf_67_7, rf_67_8, rf_67_9, rf_67_10, rf_67_22, rf_67_23, rf_67_28, rf_67_30, rf_67_32, rf_67_33, rf_67_38, rf_67_39, rf_67_48, rf_67_49, rf_67_51, rf_67_52, rf_67_53, rf_67_54, rf_67_55, rf_67_60, rf_67_61, rf_67_62, up_s, up_b, up_j, b_20_85, k_20_85, b_20_91, k_20_91, b_20_97, k_20_97, w_sm, ↓if_pos, ↓if_neg,  hN]
  · simp (disch := first | exact nl_i _ | exact nl_r _ | exact Nat.le_of_ble_eq_true rfl | exact Or.inl rfl | exact Or.inr rfl | exact w8_lo _ | exact w8_hi _ | decide | omega) only [v_fall, v_il_0, v_al_0, v_is_0, v_as_0, v_inc_0, v_ll_0, v_ls_0, v_il_1, v_al_1, v_is_1, v_as_1, v_inc_1, v_ll_1, v_ls_1, v_il_2, v_al_2, v_is_2, v_as_2, v_inc_2, v_ll_2, v_ls_2, v_il_3, v_al_3, v_is_3, v_as_3, v_inc_3, v_ll_3, v_ls_3, v_il_4, v_al_4, v_is_4, v_as_4, v_inc_4, v_ll_4, v_ls_4, v_il_5, v_al_5, v_is_5, v_as_5, v_inc_5, v_ll_5, v_ls_5, v_il_6, v_al_6, v_is_6, v_as_6, v_inc_6, v_il_7, v_al_7, v_is_7, v_as_7, v_inc_7, v_il_8, v_al_8, v_is_8, v_as_8, v_inc_8, v_il_9, v_al_9, v_is_9, v_as_9, v_inc_9, v_il_10, v_al_10, v_is_10, v_as_10, v_inc_10, v_il_11, v_al_11, v_is_11, v_as_11, v_inc_11, v_il_12, v_al_12, v_is_12, v_as_12, v_inc_12, v_il_13, v_al_13, v_is_13, v_as_13, v_inc_13, v_c_8, v_c_9, v_c_10, v_c_11, v_c_12, v_c_13, v_c_14, v_b_15, v_b_16, v_b_17, v_b_21, v_b_22, v_b_23, v_b_24, v_b_25, v_b_26, v_b_18, v_b_19, v_b_20, v_b_27, v_b_28, v_b_29, v_b_30, v_b_31, v_dup_i, v_dup_r, v_dup2, v_pop, v_gi, v_gl, v_gr, v_pi, v_pl, v_pz, v_iald, v_lald, v_bald, v_zald, v_aald, v_iast, v_last, v_bast, v_zast, v_alen_0, v_alen_1, v_alen_2, v_alen_3, v_alen_4, v_j_45, v_j_46, v_j_47, v_j_48, v_j_49, v_j_50, v_j_51, v_j_52, v_j_53, v_j_54, v_j_55, v_j_56, v_goto, v_sw, v_ret_i, v_ret_z, v_ret, v_cpy, v_iv_1, v_iv_2, v_iv_3, v_iv_4, v_iv_5, v_iv_6, v_is2_1, v_is2_2, v_is2_3, v_ivJ, List.nil_append, List.cons_append, rf_0_0, rf_0_1, rf_0_2, rf_0_3, rf_0_4, rf_0_5, rf_0_6, rf_0_7, rf_0_8, rf_0_9, rf_1_0, rf_1_2, rf_4_0, rf_4_1, rf_4_2, rf_5_8, rf_5_9, rf_5_10, rf_5_11, rf_5_12, rf_13_0, rf_13_1, rf_14_0, rf_14_1, rf_14_2, rf_15_8, rf_15_9, rf_15_10, rf_15_11, rf_15_12, rf_23_0, rf_23_1, rf_23_2, rf_24_8, rf_24_9, rf_24_10, rf_24_11, rf_24_12, rf_32_6, rf_34_0, rf_34_1, rf_34_2, rf_34_3, rf_35_8, rf_35_9, rf_35_10, rf_35_11, rf_35_12, rf_43_0, rf_43_1, rf_43_2, rf_43_3, rf_45_0, rf_45_1, rf_46_0, rf_46_1, rf_46_2, rf_46_3, rf_46_4, rf_46_5, rf_47_0, rf_47_1, rf_49_0, rf_49_1, rf_49_2, rf_49_3, rf_49_4, rf_49_5, rf_53_0, rf_53_1, rf_53_2, rf_53_3, rf_53_4, rf_53_5, rf_53_6, rf_53_7, rf_53_9, rf_53_10, rf_53_11, rf_53_12, rf_53_13, rf_54_0, rf_54_1, rf_55_1, rf_55_2, rf_55_3, rf_67_1, rf_67_6, rf_67_7, rf_67_8, rf_67_9, rf_67_10, rf_67_22, rf_67_23, rf_67_28, rf_67_30, rf_67_32, rf_67_33, rf_67_38, rf_67_39, rf_67_48, rf_67_49, rf_67_51, rf_67_52, rf_67_53, rf_67_54, rf_67_55, rf_67_60, rf_67_61, rf_67_62, up_s, up_b, up_j, b_20_85, k_20_85, b_20_91, k_20_91, b_20_97, k_20_97, w_sm, ↓if_pos, ↓if_neg,  ]
theorem la_0 (m n : Int) : XC d 20 [aR 12 0 55, aI m, aI n] M Q ↔ XL d 20 28 [aR 12 0 55, aI m, aI n, aI 0, aU, aU, aU] [] (up (up (up (up M 56 0 0) 57 0 0) 58 0 0) 55 0 1) Q := by
  rw [e_20, k_20_0]
  simp (disch := first | exact nl_i _ | exact nl_r _ | exact Nat.le_of_ble_eq_true rfl | exact Or.inl rfl | exact Or.inr rfl | exact w8_lo _ | exact w8_hi _ | decide | omega) only [v_fall, v_il_0, v_al_0, v_is_0, v_as_0, v_inc_0, v_ll_0, v_ls_0, v_il_1, v_al_1, v_is_1, v_as_1, v_inc_1, v_ll_1, v_ls_1, v_il_2, v_al_2, v_is_2, v_as_2, v_inc_2, v_ll_2, v_ls_2, v_il_3, v_al_3, v_is_3, v_as_3, v_inc_3, v_ll_3, v_ls_3, v_il_4, v_al_4, v_is_4, v_as_4, v_inc_4, v_ll_4, v_ls_4, v_il_5, v_al_5, v_is_5, v_as_5, v_inc_5, v_ll_5, v_ls_5, v_il_6, v_al_6, v_is_6, v_as_6, v_inc_6, v_il_7, v_al_7, v_is_7, v_as_7, v_inc_7, v_il_8, v_al_8, v_is_8, v_as_8, v_inc_8, v_il_9, v_al_9, v_is_9, v_as_9, v_inc_9, v_il_10, v_al_10, v_is_10, v_as_10, v_inc_10, v_il_11, v_al_11, v_is_11, v_as_11, v_inc_11, v_il_12, v_al_12, v_is_12, v_as_12, v_inc_12, v_il_13, v_al_13, v_is_13, v_as_13, v_inc_13, v_c_8, v_c_9, v_c_10, v_c_11, v_c_12, v_c_13, v_c_14, v_b_15, v_b_16, v_b_17, v_b_21, v_b_22, v_b_23, v_b_24, v_b_25, v_b_26, v_b_18, v_b_19, v_b_20, v_b_27, v_b_28, v_b_29, v_b_30, v_b_31, v_dup_i, v_dup_r, v_dup2, v_pop, v_gi, v_gl, v_gr, v_pi, v_pl, v_pz, v_iald, v_lald, v_bald, v_zald, v_aald, v_iast, v_last, v_bast, v_zast, v_alen_0, v_alen_1, v_alen_2, v_alen_3, v_alen_4, v_j_45, v_j_46, v_j_47, v_j_48, v_j_49, v_j_50, v_j_51, v_j_52, v_j_53, v_j_54, v_j_55, v_j_56, v_goto, v_sw, v_ret_i, v_ret_z, v_ret, v_cpy, v_iv_1, v_iv_2, v_iv_3, v_iv_4, v_iv_5, v_iv_6, v_is2_1, v_is2_2, v_is2_3, v_ivJ, List.nil_append, List.cons_append, rf_0_0, rf_0_1, rf_0_2, rf_0_3, rf_0_4, rf_0_5, rf_0_6, rf_0_7, rf_0_8, rf_0_9, rf_1_0, rf_1_2, rf_4_0, rf_4_1, rf_4_2, rf_5_8, rf_5_9, rf_5_10, rf_5_11, rf_5_12, rf_13_0, rf_13_1, rf_14_0, rf_14_1, rf_14_2, rf_15_8, rf_15_9, rf_15_10, rf_15_11, rf_15_12, rf_23_0, rf_23_1, rf_23_2, rf_24_8, rf_24_9, rf_24_10, rf_24_11, rf_24_12, rf_32_6, rf_34_0, rf_34_1, rf_34_2, rf_34_3, rf_35_8, rf_35_9, rf_35_10, rf_35_11, rf_35_12, rf_43_0, rf_43_1, rf_43_2, rf_43_3, rf_45_0, rf_45_1, rf_46_0, rf_46_1, rf_46_2, rf_46_3, rf_46_4, rf_46_5, rf_47_0, rf_47_1, rf_49_0, rf_49_1, rf_49_2, rf_49_3, rf_49_4, rf_49_5, rf_53_0, rf_53_1, rf_53_2, rf_53_3, rf_53_4, rf_53_5, rf_53_6, rf_53_7, rf_53_9, rf_53_10, rf_53_11, rf_53_12, rf_53_13, rf_54_0, rf_54_1, rf_55_1, rf_55_2, rf_55_3, rf_67_1, rf_67_6, rf_67_7, rf_67_8, rf_67_9, rf_67_10, rf_67_22, rf_67_23, rf_67_28, rf_67_30, rf_67_32, rf_67_33, rf_67_38, rf_67_39, rf_67_48, rf_67_49, rf_67_51, rf_67_52, rf_67_53, rf_67_54, rf_67_55, rf_67_60, rf_67_61, rf_67_62, up_s, up_b, up_j, b_20_85, k_20_85, b_20_91, k_20_91, b_20_97, k_20_97, w_sm, ↓if_pos, ↓if_neg,  ]
/-- the list -/
def LI (M : Mem) (len : Nat) (f : Nat → Nat) : Prop := M 55 0 = (len : Int) ∧ (∀ p, p < len → M 56 (p : Int) = ((f p : Nat) : Int) ∧ M 57 (p : Int) = ((bn (f p) : Nat) : Int) ∧ M 58 (p : Int) = ((an (f p) : Nat) : Int)) ∧ ∀ p p2, p < len → p2 < len → f p = f p2 → p = p2
def bfr (p k p2 k2 : Nat) : Prop := p2 < p ∨ (p2 = p ∧ k2 < k)
def LX (i n K p k : Nat) (M : Mem) (len : Nat) (f : Nat → Nat) : Prop := LI M len f ∧ K ≤ len ∧ (∀ a, a < K → vcd i n (f a)) ∧ (∀ a, K ≤ a → a < len → ∃ p2 k2, bfr p k p2 k2 ∧ p2 < K ∧ k2 < n ∧ occ (f p2) k2 = 4 ∧ f a = adc (f p2) i k2) ∧ (∀ p2 k2, bfr p k p2 k2 → p2 < K → k2 < n → occ (f p2) k2 = 4 → ∃ a, a < len ∧ f a = adc (f p2) i k2) ∧ ∀ c, vcd i n c → ∃ a, a < K ∧ f a = c
def rfX (b : Nat) (j : Int) : Prop := 55 ≤ b ∧ b ≤ 58
theorem vcd_up {i n c : Nat} (h : vcd i n c) : vcd (i + 1) n c := ⟨h.1, fun j hj hm => h.2.1 j hj (by omega), h.2.2⟩
theorem LX_all {i n K p k len : Nat} {f : Nat → Nat} (hi : i < 4) (hn : n ≤ 6) (h : LX i n K p k M len f) : ∀ a, a < len → vcd (i + 1) n (f a) := fun a ha => by
  obtain ⟨h1, h2, h3, h4, h5, h6⟩ := h
  by_cases c : a < K
  · exact vcd_up (h3 a c)
  · obtain ⟨p2, k2, b1, b2, b3, b4, b5⟩ := h4 a (by omega) ha
    have v := h3 p2 b2
    rw [b5]
    exact vcd_ad (vcd_up v) hi (Nat.lt_succ_self i) (v.2.1 i hi (Nat.le_refl i)) b3 hn b4
theorem la_k (m i n K p : Nat) (hi : i < 4) (hn : n ≤ 6) (hp : p < K) (kk : ∀ M' len' f', LX i n K p n M' len' f' → AgX rfX M0 M' → XL (d + 2) 20 57 [aR 12 0 55, aI (m : Int), aI (n : Int), aI (i : Int), aI (K : Int), aI (p : Int), aI (n : Int)] [] M' Q) : ∀ (t k : Nat) (M : Mem) (len : Nat) (f : Nat → Nat), k + t = n → LX i n K p k M len f → AgX rfX M0 M → XL (d + 2) 20 57 [aR 12 0 55, aI (m : Int), aI (n : Int), aI (i : Int), aI (K : Int), aI (p : Int), aI (k : Int)] [] M Q
  | 0, k, M, len, f, h, hX, hA => by
    have e : k = n := by omega
    rw [e] at hX ⊢
    exact kk M len f hX hA
  | t + 1, k, M, len, f, h, hX, hA => by
    have hall := LX_all hi hn hX
    obtain ⟨⟨l1, l2, l3⟩, h2, h3, h4, h5, h6⟩ := hX
    have hk : k < n := by omega
    have hlen : len ≤ 1045 := by
      have := inj_cnt (N := 4096) (f := f) len vcdB (fun a ha => ⟨(hall a ha).1, vcd_B (hall a ha) hn⟩) l3
      rw [vcdB_n] at this
      exact this
    obtain ⟨e6, e7, e8⟩ := l2 p (by omega)
    have v := h3 p hp
    have dz : dg (f p) i = 0 := v.2.1 i hi (Nat.le_refl i)
    have bl : bn (f p) < 2 ^ 6 := setN_lt _
    have al : an (f p) < 2 ^ 4 := setN_lt _
    have rec9 := la_k m i n K p hi hn hp kk t (k + 1)
    refine la_1 (d := d + 1) (m : Int) (n : Int) (i : Int) (K : Int) (p : Int) (k : Int) ⟨by omega, by omega⟩ ⟨by omega, by omega⟩ ?_
    rw [aw_1 (d := d) (p : Int) (i : Int) (k : Int) (len : Int) _ _ _ (((bn (f p)).testBit k).toNat : Int) ((adc (f p) i k : Nat) : Int) _ _ l1 ⟨by omega, by omega⟩ ⟨by omega, by omega⟩ e6 e7 e8 (tb32 _ k (by omega) (by omega)) (by cases (bn (f p)).testBit k <;> decide) (fun M' Q' _ => s_codeWith (f p) i k v.1 hi (by omega) dz) (set32 _ k (by omega) (by omega)) (set32 _ i (by omega) (by omega))]
    by_cases c : occ (f p) k = 4
    · have bz : (bn (f p)).testBit k = false := by
        cases hb : (bn (f p)).testBit k
        · rfl
        · have := (bn_t.mp hb).2
          omega
      have vx : vcd (i + 1) n (adc (f p) i k) := vcd_ad (vcd_up v) hi (Nat.lt_succ_self i) dz hk hn c
      have new : ∀ a, a < len → f a ≠ adc (f p) i k := fun a ha he => by
        obtain ⟨d1, d2⟩ := dg_adc hi dz (show k < 7 by omega)
        by_cases ca : a < K
        · have := (h3 a ca).2.1 i hi (Nat.le_refl i)
          rw [he, d1] at this
          omega
        · obtain ⟨p2, k2, b1, b2, b3, b4, b5⟩ := h4 a (by omega) ha
          have dz2 : dg (f p2) i = 0 := (h3 p2 b2).2.1 i hi (Nat.le_refl i)
          have d3 := (dg_adc hi dz2 (show k2 < 7 by omega)).1
          rw [b5] at he
          have ek : k2 = k := by rw [he, d1] at d3; omega
          have ep : f p2 = f p := by
            have r1 := rmc_adc hi dz2 (show k2 < 7 by omega)
            rw [he, rmc_adc hi dz (by omega)] at r1
            exact r1.symm
          have := l3 p2 p (by omega) (by omega) ep
          unfold bfr at b1
          omega
      have hlt : len < 1045 := by
        have := inj_cnt (N := 4096) (f := fun a => if a = len then adc (f p) i k else f a) (len + 1) vcdB (fun a ha => by
          by_cases ea : a = len
          · rw [if_pos ea]; exact ⟨vx.1, vcd_B vx hn⟩
          · rw [if_neg ea]; exact ⟨(hall a (by omega)).1, vcd_B (hall a (by omega)) hn⟩) (fun a a2 ha ha2 he => by
          by_cases ea : a = len
          · rw [if_pos ea] at he
            by_cases ea2 : a2 = len
            · omega
            · rw [if_neg ea2] at he
              exact absurd he.symm (new a2 (by omega))
          · rw [if_neg ea] at he
            by_cases ea2 : a2 = len
            · rw [if_pos ea2] at he
              exact absurd he (new a (by omega))
            · rw [if_neg ea2] at he
              exact l3 a a2 (by omega) (by omega) he)
        rw [vcdB_n] at this
        omega
      rw [bz, if_neg (by
        intro h9
        rcases h9 with h9 | h9
        · exact absurd h9 (by decide)
        · omega)]
      refine ⟨rfl, ?_⟩
      have fa : ∀ a, a < len → (fun a => if a = len then adc (f p) i k else f a) a = f a := fun a ha => if_neg (by omega)
      have g := rec9 (up (up (up (up M 56 (len : Int) ((adc (f p) i k : Nat) : Int)) 57 (len : Int) ((bn (f p) ||| 2 ^ k : Nat) : Int)) 58 (len : Int) ((an (f p) ||| 2 ^ i : Nat) : Int)) 55 0 ((len : Int) + 1)) (len + 1) (fun a => if a = len then adc (f p) i k else f a) (by omega) ⟨⟨?_, fun a ha => ?_, fun a a2 ha ha2 he => ?_⟩, by omega, fun a ha => ?_, fun a ha ha2 => ?_, fun p2 k2 hb hp2 hk2 ho => ?_, fun c hc => ?_⟩ (fun b j hb => ?_)
      · rw [Int.natCast_add] at g
        exact g
      · rw [up_s]
        omega
      · by_cases ea : a = len
        · subst ea
          show _ = (((if a = a then adc (f p) i k else f a) : Nat) : Int) ∧ _ = ((bn (if a = a then adc (f p) i k else f a) : Nat) : Int) ∧ _ = ((an (if a = a then adc (f p) i k else f a) : Nat) : Int)
          rw [if_pos rfl]
          refine ⟨?_, ?_, ?_⟩
          · rw [up_b (by decide), up_b (by decide), up_b (by decide), up_s]
          · rw [up_b (by decide), up_b (by decide), up_s, bn_ad (vcd_up v) hi (Nat.lt_succ_self i) dz hk hn c]
          · rw [up_b (by decide), up_s, an_ad hi dz (by omega)]
        · have la := l2 a (by omega)
          show _ = (((if a = len then adc (f p) i k else f a) : Nat) : Int) ∧ _ = ((bn (if a = len then adc (f p) i k else f a) : Nat) : Int) ∧ _ = ((an (if a = len then adc (f p) i k else f a) : Nat) : Int)
          rw [if_neg ea]
          refine ⟨?_, ?_, ?_⟩
          · rw [up_b (by decide), up_b (by decide), up_b (by decide), up_j (by omega)]; exact la.1
          · rw [up_b (by decide), up_b (by decide), up_j (by omega), up_b (by decide)]; exact la.2.1
          · rw [up_b (by decide), up_j (by omega), up_b (by decide), up_b (by decide)]; exact la.2.2
      · have he' : (if a = len then adc (f p) i k else f a) = (if a2 = len then adc (f p) i k else f a2) := he
        by_cases ea : a = len
        · rw [if_pos ea] at he'
          by_cases ea2 : a2 = len
          · omega
          · rw [if_neg ea2] at he'
            exact absurd he'.symm (new a2 (by omega))
        · rw [if_neg ea] at he'
          by_cases ea2 : a2 = len
          · rw [if_pos ea2] at he'
            exact absurd he' (new a (by omega))
          · rw [if_neg ea2] at he'
            exact l3 a a2 (by omega) (by omega) he'
      · rw [fa a (by omega)]
        exact h3 a ha
      · by_cases ea : a = len
        · refine ⟨p, k, Or.inr ⟨rfl, by omega⟩, hp, hk, ?_, ?_⟩
          · rw [fa p (by omega)]; exact c
          · rw [fa p (by omega)]
            exact if_pos ea
        · obtain ⟨p2, k2, b1, b2, b3, b4, b5⟩ := h4 a ha (by omega)
          refine ⟨p2, k2, ?_, b2, b3, ?_, ?_⟩
          · unfold bfr at b1 ⊢
            omega
          · rw [fa p2 (by omega)]; exact b4
          · rw [fa p2 (by omega), fa a (by omega)]; exact b5
      · rw [fa p2 (by omega)] at ho ⊢
        by_cases e : p2 = p ∧ k2 = k
        · refine ⟨len, by omega, ?_⟩
          rw [e.1, e.2]
          exact if_pos rfl
        · obtain ⟨a, a1, a2⟩ := h5 p2 k2 (by unfold bfr at hb ⊢; omega) hp2 hk2 ho
          exact ⟨a, by omega, by rw [fa a a1]; exact a2⟩
      · obtain ⟨a, a1, a2⟩ := h6 c hc
        exact ⟨a, a1, by rw [fa a (by omega)]; exact a2⟩
      · rw [up_b' (by unfold rfX at hb; omega), up_b' (by unfold rfX at hb; omega), up_b' (by unfold rfX at hb; omega), up_b' (by unfold rfX at hb; omega)]
        exact hA b j hb
    · have bz : (bn (f p)).testBit k = true := bn_t.mpr ⟨by omega, by rcases occ_4 (c := f p) (k := k) with h9 | h9; exact h9; exact absurd h9 c⟩
      rw [bz, if_pos (Or.inl (show ((true.toNat : Nat) : Int) = 1 from rfl))]
      refine ⟨rfl, ?_⟩
      have g := rec9 M len f (by omega) ⟨⟨l1, l2, l3⟩, h2, h3, fun a ha ha2 => ?_, fun p2 k2 hb hp2 hk2 ho => ?_, h6⟩ hA
      · rw [Int.natCast_add] at g
        exact g
      · obtain ⟨p2, k2, b1, b2, b3, b4, b5⟩ := h4 a ha ha2
        exact ⟨p2, k2, by unfold bfr at b1 ⊢; omega, b2, b3, b4, b5⟩
      · by_cases e : p2 = p ∧ k2 = k
        · rw [e.1, e.2] at ho
          exact absurd ho c
        · exact h5 p2 k2 (by unfold bfr at hb ⊢; omega) hp2 hk2 ho
theorem la_p (m i n K : Nat) (hi : i < 4) (hn : n ≤ 6) (hK : K ≤ 1045) (kk : ∀ M' len' f' o, LX i n K K 0 M' len' f' → AgX rfX M0 M' → XL (d + 2) 20 28 [aR 12 0 55, aI (m : Int), aI (n : Int), aI ((i : Int) + 1), aI (K : Int), aI (K : Int), o] [] M' Q) : ∀ (t p : Nat) (M : Mem) (len : Nat) (f : Nat → Nat) (o : AV), p + t = K → LX i n K p 0 M len f → AgX rfX M0 M → XL (d + 2) 20 47 [aR 12 0 55, aI (m : Int), aI (n : Int), aI (i : Int), aI (K : Int), aI (p : Int), o] [] M Q
  | 0, p, M, len, f, o, h, hX, hA => by
    have e : p = K := by omega
    rw [e] at hX ⊢
    rw [la_3 (m : Int) (n : Int) (i : Int) (K : Int) (K : Int) o ⟨by omega, by omega⟩ ⟨by omega, by omega⟩, if_neg (by omega)]
    exact kk M len f o hX hA
  | t + 1, p, M, len, f, o, h, hX, hA => by
    rw [la_3 (m : Int) (n : Int) (i : Int) (K : Int) (p : Int) o ⟨by omega, by omega⟩ ⟨by omega, by omega⟩, if_pos (by omega)]
    refine la_k (d := d) m i n K p hi hn (by omega) (fun M' len' f' hX' hA' => ?_) n 0 M len f (by omega) hX hA
    rw [la_2 (m : Int) (n : Int) (i : Int) (K : Int) (p : Int) ⟨by omega, by omega⟩]
    have g := la_p m i n K hi hn hK kk t (p + 1) M' len' f' (aI (n : Int)) (by omega) ?_ hA'
    · rw [Int.natCast_add] at g
      exact g
    · obtain ⟨h1, h2, h3, h4, h5, h6⟩ := hX'
      refine ⟨h1, h2, h3, fun a ha ha2 => ?_, fun p2 k2 hb hp2 hk2 ho => h5 p2 k2 (by unfold bfr at hb ⊢; omega) hp2 hk2 ho, h6⟩
      obtain ⟨p2, k2, b1, b2, b3, b4, b5⟩ := h4 a ha ha2
      exact ⟨p2, k2, by unfold bfr at b1 ⊢; omega, b2, b3, b4, b5⟩
/-- all RAFTS are listed, once each -/
def LF2 (m n : Nat) (M : Mem) (len : Nat) (f : Nat → Nat) : Prop := LI M len f ∧ len ≤ 1045 ∧ (∀ a, a < len → vcd m n (f a)) ∧ ∀ c, vcd m n c → ∃ a, a < len ∧ f a = c
theorem la_i (m n : Nat) (hm : m ≤ 4) (hn : n ≤ 6) (kk : ∀ M' len' f', LF2 m n M' len' f' → AgX rfX M0 M' → Q [] M') : ∀ (t i : Nat) (M : Mem) (len : Nat) (f : Nat → Nat) (o1 o2 o3 : AV), i + t = m → LF2 i n M len f → AgX rfX M0 M → XL (d + 2) 20 28 [aR 12 0 55, aI (m : Int), aI (n : Int), aI (i : Int), o1, o2, o3] [] M Q
  | 0, i, M, len, f, o1, o2, o3, h, hX, hA => by
    have e : i = m := by omega
    rw [e] at hX ⊢
    rw [la_4 (m : Int) (n : Int) (m : Int) (len : Int) o1 o2 o3 ⟨by omega, by omega⟩ ⟨by omega, by omega⟩ hX.1.1, if_neg (by omega)]
    exact kk M len f hX hA
  | t + 1, i, M, len, f, o1, o2, o3, h, hX, hA => by
    have hi : i < 4 := by omega
    obtain ⟨h1, h2, h3, h4⟩ := hX
    rw [la_4 (m : Int) (n : Int) (i : Int) (len : Int) o1 o2 o3 ⟨by omega, by omega⟩ ⟨by omega, by omega⟩ h1.1, if_pos (by omega)]
    refine la_p (d := d) m i n len hi hn h2 (fun M' len' f' o hX' hA' => ?_) len 0 M len f o3 (by omega) ⟨h1, Nat.le_refl _, h3, fun a ha ha2 => absurd ha (by omega), fun p2 k2 hb => absurd hb (by unfold bfr; omega), h4⟩ hA
    have hall := LX_all hi hn hX'
    obtain ⟨g1, g2, g3, g4, g5, g6⟩ := hX'
    have hl : len' ≤ 1045 := by
      have := inj_cnt (N := 4096) (f := f') len' vcdB (fun a ha => ⟨(hall a ha).1, vcd_B (hall a ha) hn⟩) g1.2.2
      rw [vcdB_n] at this
      exact this
    have g := la_i m n hm hn kk t (i + 1) M' len' f' (aI (len : Int)) (aI (len : Int)) o (by omega) ⟨g1, hl, hall, fun c hc => ?_⟩ hA'
    · rw [Int.natCast_add] at g
      exact g
    · by_cases dz : dg c i = 0
      · obtain ⟨a, a1, a2⟩ := g6 c ⟨hc.1, fun j hj hm => by
          by_cases ej : j = i
          · rw [ej]; exact dz
          · exact hc.2.1 j hj (by omega), hc.2.2⟩
        exact ⟨a, by omega, a2⟩
      · obtain ⟨k, hk⟩ : ∃ k, dg c i = k + 1 := ⟨dg c i - 1, by omega⟩
        have kn : k < n := by have := hc.2.2.1 i hi; omega
        obtain ⟨d1, d2⟩ := dg_rmc (c := c) hi
        have vr := vcd_rm hc hi
        obtain ⟨a, a1, a2⟩ := g6 (rmc c i) ⟨vr.1, fun j hj hm => by
          by_cases ej : j = i
          · rw [ej]; exact d1
          · exact vr.2.1 j hj (by omega), vr.2.2⟩
        have fr : occ (f' a) k = 4 := by rw [a2, occ_rm hc hi hk, if_pos rfl]
        obtain ⟨a3, a4, a5⟩ := g5 a k (Or.inl a1) a1 kn fr
        exact ⟨a3, a4, by rw [a5, a2, adc_rmc hi hk]⟩
theorem s_listAll (m n : Nat) (hm : m ≤ 4) (hn : n ≤ 6) (kk : ∀ M' len' f', LF2 m n M' len' f' → AgX rfX M M' → Q [] M') : XC (d + 2) 20 [aR 12 0 55, aI (m : Int), aI (n : Int)] M Q := by
  rw [la_0]
  have z : ∀ i, i < 4 → dg 0 i = 0 := by decide
  have b0 : bn 0 = 0 := by decide
  have a0 : an 0 = 0 := by decide
  refine la_i (d := d) (M0 := M) m n hm hn kk m 0 _ 1 (fun _ => 0) aU aU aU (by omega) ⟨⟨up_s, fun p hp => ?_, fun p p2 h1 h2 _ => by omega⟩, by decide, fun a _ => vcd_0, fun c hc => ⟨0, by decide, ?_⟩⟩ (fun b j hb => ?_)
  · have e : p = 0 := by omega
    subst e
    show _ = ((0 : Nat) : Int) ∧ _ = ((bn 0 : Nat) : Int) ∧ _ = ((an 0 : Nat) : Int)
    rw [b0, a0]
    refine ⟨?_, ?_, ?_⟩
    · rw [up_b (by decide), up_b (by decide), up_b (by decide)]; exact up_s
    · rw [up_b (by decide), up_b (by decide)]; exact up_s
    · rw [up_b (by decide)]; exact up_s
  · exact (dg_ext (by decide) hc.1 (fun i hi => by rw [hc.2.1 i hi (Nat.zero_le i), z i hi]))
  · rw [up_b' (by unfold rfX at hb; omega), up_b' (by unfold rfX at hb; omega), up_b' (by unfold rfX at hb; omega), up_b' (by unfold rfX at hb; omega)]
end RA
