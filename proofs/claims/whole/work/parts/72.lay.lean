/-! lay: whether the tape tells a RAFT -/
/-- the BARGES seen in k octets from i on, none if one is no BARGE or twice -/
def layF (f : Int → Int) (nb : Int) : Nat → Int → Nat → Option Nat
  | 0, _, seen => some seen
  | k + 1, i, seen => if f i = 0 then layF f nb k (i + 1) seen else if f i ≤ nb ∧ seen.testBit (f i - 1).toNat = false then layF f nb k (i + 1) (seen ||| 2 ^ (f i - 1).toNat) else none
/-- how many -/
def layR : Option Nat → Int
  | none => -1
  | some s => ((cnt 24 s.testBit : Nat) : Int)
section LB
variable {d : Nat} {M : Mem} {Q : List AV → Mem → Prop}
theorem lb_0 (n sn : Int) (hn : M 32 2 = n) (hb : 0 ≤ n ∧ n ≤ 24) (o : AV) : XL d 101 23 [aR 21 0 0, aI sn, aI n, o] [] M Q ↔ XL d 101 91 [aR 21 0 0, aI sn, aI n, o] [] M Q := by
  have e2 : w32 n = n := w_sm (by omega)
  rw [b_101_23, k_101_23]
  simp (disch := first | exact nl_i _ | exact nl_r _ | exact Nat.le_of_ble_eq_true rfl | exact Or.inl rfl | exact Or.inr rfl | exact w8_lo _ | exact w8_hi _ | decide | omega) only [v_fall, v_il_0, v_al_0, v_is_0, v_as_0, v_inc_0, v_ll_0, v_ls_0, v_il_1, v_al_1, v_is_1, v_as_1, v_inc_1, v_ll_1, v_ls_1, v_il_2, v_al_2, v_is_2, v_as_2, v_inc_2, v_ll_2, v_ls_2, v_il_3, v_al_3, v_is_3, v_as_3, v_inc_3, v_ll_3, v_ls_3, v_il_4, v_al_4, v_is_4, v_as_4, v_inc_4, v_ll_4, v_ls_4, v_il_5, v_al_5, v_is_5, v_as_5, v_inc_5, v_ll_5, v_ls_5, v_il_6, v_al_6, v_is_6, v_as_6, v_inc_6, v_il_7, v_al_7, v_is_7, v_as_7, v_inc_7, v_il_8, v_al_8, v_is_8, v_as_8, v_inc_8, v_il_9, v_al_9, v_is_9, v_as_9, v_inc_9, v_il_10, v_al_10, v_is_10, v_as_10, v_inc_10, v_il_11, v_al_11, v_is_11, v_as_11, v_inc_11, v_il_12, v_al_12, v_is_12, v_as_12, v_inc_12, v_il_13, v_al_13, v_is_13, v_as_13, v_inc_13, v_c_8, v_c_9, v_c_10, v_c_11, v_c_12, v_c_13, v_c_14, v_b_15, v_b_16, v_b_17, v_b_21, v_b_22, v_b_23, v_b_24, v_b_25, v_b_26, v_b_18, v_b_19, v_b_20, v_b_27, v_b_28, v_b_29, v_b_30, v_b_31, v_dup_i, v_dup_r, v_dup2, v_pop, v_gi, v_gl, v_gr, v_pi, v_pl, v_pz, v_iald, v_lald, v_bald, v_zald, v_aald, v_iast, v_last, v_bast, v_zast, v_alen_0, v_alen_1, v_alen_2, v_alen_3, v_alen_4, v_j_45, v_j_46, v_j_47, v_j_48, v_j_49, v_j_50, v_j_51, v_j_52, v_j_53, v_j_54, v_j_55, v_j_56, v_goto, v_sw, v_ret_i, v_ret_z, v_ret, v_cpy, v_iv_1, v_iv_2, v_iv_3, v_iv_4, v_iv_5, v_iv_6, v_is2_1, v_is2_2, v_is2_3, v_ivJ, List.nil_append, List.cons_append, rf_0_0, rf_0_1, rf_0_2, rf_0_3, rf_0_4, rf_0_5, rf_0_6, rf_0_7, rf_0_8, rf_0_9, rf_1_0, rf_1_2, rf_4_0, rf_4_1, rf_4_2, rf_5_8, rf_5_9, rf_5_10, rf_5_11, rf_5_12, rf_13_0, rf_13_1, rf_14_0, rf_14_1, rf_14_2, rf_15_8, rf_15_9, rf_15_10, rf_15_11, rf_15_12, rf_23_0, rf_23_1, rf_23_2, rf_24_8, rf_24_9, rf_24_10, rf_24_11, rf_24_12, rf_32_6, rf_34_0, rf_34_1, rf_34_2, rf_34_3, rf_35_8, rf_35_9, rf_35_10, rf_35_11, rf_35_12, rf_43_0, rf_43_1, rf_43_2, rf_43_3, rf_45_0, rf_45_1, rf_46_0, rf_46_1, rf_46_2, rf_46_3, rf_46_4, rf_46_5, rf_47_0, rf_47_1, rf_49_0, rf_49_1, rf_49_2, rf_49_3, rf_49_4, rf_49_5, rf_53_0, rf_53_1, rf_53_2, rf_53_3, rf_53_4, rf_53_5, rf_53_6, rf_53_7, rf_53_9, rf_53_10, rf_53_11, rf_53_12, rf_53_13, rf_54_0, rf_54_1, rf_55_1, rf_55_2, rf_55_3, rf_67_1, rf_67_6, rf_67_7, rf_67_8, rf_67_9, rf_67_10, rf_67_22, rf_67_23, rf_67_28, rf_67_30, rf_67_32, rf_67_33, rf_67_38, rf_67_39, rf_67_48, rf_67_49, rf_67_51, rf_67_52, rf_67_53, rf_67_54, rf_67_55, rf_67_60, rf_67_61, rf_67_62, e2, hn, if_pos (show n ≤ n by omega)]
theorem lb_z (n i sn : Int) (hn : M 32 2 = n) (hi : 0 ≤ i ∧ i < n ∧ n ≤ 24) (hb : M 2 i = 0) (o : AV) : XL d 101 23 [aR 21 0 0, aI sn, aI i, o] [] M Q ↔ XL d 101 23 [aR 21 0 0, aI sn, aI (i + 1), aI (-1)] [] M Q := by
  have e1 : w32 i = i := w_sm (by omega)
  have e2 : w32 n = n := w_sm (by omega)
  have h0 : 0 ≤ i := hi.1
  have h1 : i < ((940 : Nat) : Int) := by omega
  have e3 : M 2 i - 1 = -1 := by omega
  have e4 : w32 (-1) = -1 := rfl
  rw [b_101_23, k_101_23]
  simp (disch := first | exact nl_i _ | exact nl_r _ | exact Nat.le_of_ble_eq_true rfl | exact Or.inl rfl | exact Or.inr rfl | exact w8_lo _ | exact w8_hi _ | decide | omega) only [v_fall, v_il_0, v_al_0, v_is_0, v_as_0, v_inc_0, v_ll_0, v_ls_0, v_il_1, v_al_1, v_is_1, v_as_1, v_inc_1, v_ll_1, v_ls_1, v_il_2, v_al_2, v_is_2, v_as_2, v_inc_2, v_ll_2, v_ls_2, v_il_3, v_al_3, v_is_3, v_as_3, v_inc_3, v_ll_3, v_ls_3, v_il_4, v_al_4, v_is_4, v_as_4, v_inc_4, v_ll_4, v_ls_4, v_il_5, v_al_5, v_is_5, v_as_5, v_inc_5, v_ll_5, v_ls_5, v_il_6, v_al_6, v_is_6, v_as_6, v_inc_6, v_il_7, v_al_7, v_is_7, v_as_7, v_inc_7, v_il_8, v_al_8, v_is_8, v_as_8, v_inc_8, v_il_9, v_al_9, v_is_9, v_as_9, v_inc_9, v_il_10, v_al_10, v_is_10, v_as_10, v_inc_10, v_il_11, v_al_11, v_is_11, v_as_11, v_inc_11, v_il_12, v_al_12, v_is_12, v_as_12, v_inc_12, v_il_13, v_al_13, v_is_13, v_as_13, v_inc_13, v_c_8, v_c_9, v_c_10, v_c_11, v_c_12, v_c_13, v_c_14, v_b_15, v_b_16, v_b_17, v_b_21, v_b_22, v_b_23, v_b_24, v_b_25, v_b_26, v_b_18, v_b_19, v_b_20, v_b_27, v_b_28, v_b_29, v_b_30, v_b_31, v_dup_i, v_dup_r, v_dup2, v_pop, v_gi, v_gl, v_gr, v_pi, v_pl, v_pz, v_iald, v_lald, v_bald, v_zald, v_aald, v_iast, v_last, v_bast, v_zast, v_alen_0, v_alen_1, v_alen_2, v_alen_3, v_alen_4, v_j_45, v_j_46, v_j_47, v_j_48, v_j_49, v_j_50, v_j_51, v_j_52, v_j_53, v_j_54, v_j_55, v_j_56, v_goto, v_sw, v_ret_i, v_ret_z, v_ret, v_cpy, v_iv_1, v_iv_2, v_iv_3, v_iv_4, v_iv_5, v_iv_6, v_is2_1, v_is2_2, v_is2_3, v_ivJ, List.nil_append, List.cons_append, rf_0_0, rf_0_1, rf_0_2, rf_0_3, rf_0_4, rf_0_5, rf_0_6, rf_0_7, rf_0_8, rf_0_9, rf_1_0, rf_1_2, rf_4_0, rf_4_1, rf_4_2, rf_5_8, rf_5_9, rf_5_10, rf_5_11, rf_5_12, rf_13_0, rf_13_1, rf_14_0, rf_14_1, rf_14_2, rf_15_8, rf_15_9, rf_15_10, rf_15_11, rf_15_12, rf_23_0, rf_23_1, rf_23_2, rf_24_8, rf_24_9, rf_24_10, rf_24_11, rf_24_12, rf_32_6, rf_34_0, rf_34_1, rf_34_2, rf_34_3, rf_35_8, rf_35_9, rf_35_10, rf_35_11, rf_35_12, rf_43_0, rf_43_1, rf_43_2, rf_43_3, rf_45_0, rf_45_1, rf_46_0, rf_46_1, rf_46_2, rf_46_3, rf_46_4, rf_46_5, rf_47_0, rf_47_1, rf_49_0, rf_49_1, rf_49_2, rf_49_3, rf_49_4, rf_49_5, rf_53_0, rf_53_1, rf_53_2, rf_53_3, rf_53_4, rf_53_5, rf_53_6, rf_53_7, rf_53_9, rf_53_10, rf_53_11, rf_53_12, rf_53_13, rf_54_0, rf_54_1, rf_55_1, rf_55_2, rf_55_3, rf_67_1, rf_67_6, rf_67_7, rf_67_8, rf_67_9, rf_67_10, rf_67_22, rf_67_23, rf_67_28, rf_67_30, rf_67_32, rf_67_33, rf_67_38, rf_67_39, rf_67_48, rf_67_49, rf_67_51, rf_67_52, rf_67_53, rf_67_54, rf_67_55, rf_67_60, rf_67_61, rf_67_62, e1, e2, e3, e4, hn, if_neg (show ¬ n ≤ i by omega), if_neg (show ¬ ((-1 : Int) ≠ -1) by omega), b_101_85, k_101_85]
theorem lb_s (n i sn b sn1 : Int) (hn : M 32 2 = n) (hi : 0 ≤ i ∧ i < n ∧ n ≤ 24) (hb : M 2 i - 1 = b) (hbb : 0 ≤ b ∧ b < 9) (hnb : b < M 5 2) (h : RI M) (g1 : and32 (shr32 sn b) 1 = 0) (g4 : or32 sn (shl32 1 b) = sn1) (o : AV) : XL (d + 1) 101 23 [aR 21 0 0, aI sn, aI i, o] [] M Q ↔ XL (d + 1) 101 23 [aR 21 0 0, aI sn1, aI (i + 1), aI b] [] M Q := by
  have e1 : w32 i = i := w_sm (by omega)
  have e2 : w32 n = n := w_sm (by omega)
  have h0 : 0 ≤ i := hi.1
  have h1 : i < ((940 : Nat) : Int) := by omega
  have e3 : w32 b = b := w_sm (by omega)
  have e4 : w32 (-1) = -1 := rfl
  have e5 : w32 0 = 0 := rfl
  have e6 : w32 1 = 1 := rfl
  have p1 : ∀ Q', XC d 28 [aR 13 0 5, aI b] M Q' ↔ Q' [aI 1] M := fun Q' => by rw [s_hasBarge b ⟨by omega, by omega⟩ h, bi_t (by omega)]
  rw [b_101_23, k_101_23]
  simp (disch := first | exact nl_i _ | exact nl_r _ | exact Nat.le_of_ble_eq_true rfl | exact Or.inl rfl | exact Or.inr rfl | exact w8_lo _ | exact w8_hi _ | decide | omega) only [v_fall, v_il_0, v_al_0, v_is_0, v_as_0, v_inc_0, v_ll_0, v_ls_0, v_il_1, v_al_1, v_is_1, v_as_1, v_inc_1, v_ll_1, v_ls_1, v_il_2, v_al_2, v_is_2, v_as_2, v_inc_2, v_ll_2, v_ls_2, v_il_3, v_al_3, v_is_3, v_as_3, v_inc_3, v_ll_3, v_ls_3, v_il_4, v_al_4, v_is_4, v_as_4, v_inc_4, v_ll_4, v_ls_4, v_il_5, v_al_5, v_is_5, v_as_5, v_inc_5, v_ll_5, v_ls_5, v_il_6, v_al_6, v_is_6, v_as_6, v_inc_6, v_il_7, v_al_7, v_is_7, v_as_7, v_inc_7, v_il_8, v_al_8, v_is_8, v_as_8, v_inc_8, v_il_9, v_al_9, v_is_9, v_as_9, v_inc_9, v_il_10, v_al_10, v_is_10, v_as_10, v_inc_10, v_il_11, v_al_11, v_is_11, v_as_11, v_inc_11, v_il_12, v_al_12, v_is_12, v_as_12, v_inc_12, v_il_13, v_al_13, v_is_13, v_as_13, v_inc_13, v_c_8, v_c_9, v_c_10, v_c_11, v_c_12, v_c_13, v_c_14, v_b_15, v_b_16, v_b_17, v_b_21, v_b_22, v_b_23, v_b_24, v_b_25, v_b_26, v_b_18, v_b_19, v_b_20, v_b_27, v_b_28, v_b_29, v_b_30, v_b_31, v_dup_i, v_dup_r, v_dup2, v_pop, v_gi, v_gl, v_gr, v_pi, v_pl, v_pz, v_iald, v_lald, v_bald, v_zald, v_aald, v_iast, v_last, v_bast, v_zast, v_alen_0, v_alen_1, v_alen_2, v_alen_3, v_alen_4, v_j_45, v_j_46, v_j_47, v_j_48, v_j_49, v_j_50, v_j_51, v_j_52, v_j_53, v_j_54, v_j_55, v_j_56, v_goto, v_sw, v_ret_i, v_ret_z, v_ret, v_cpy, v_iv_1, v_iv_2, v_iv_3, v_iv_4, v_iv_5, v_iv_6, v_is2_1, v_is2_2, v_is2_3, v_ivJ, List.nil_append, List.cons_append, rf_0_0, rf_0_1, rf_0_2, rf_0_3, rf_0_4, rf_0_5, rf_0_6, rf_0_7, rf_0_8, rf_0_9, rf_1_0, rf_1_2, rf_4_0, rf_4_1, rf_4_2, rf_5_8, rf_5_9, rf_5_10, rf_5_11, rf_5_12, rf_13_0, rf_13_1, rf_14_0, rf_14_1, rf_14_2, rf_15_8, rf_15_9, rf_15_10, rf_15_11, rf_15_12, rf_23_0, rf_23_1, rf_23_2, rf_24_8, rf_24_9, rf_24_10, rf_24_11, rf_24_12, rf_32_6, rf_34_0, rf_34_1, rf_34_2, rf_34_3, rf_35_8, rf_35_9, rf_35_10, rf_35_11, rf_35_12, rf_43_0, rf_43_1, rf_43_2, rf_43_3, rf_45_0, rf_45_1, rf_46_0, rf_46_1, rf_46_2, rf_46_3, rf_46_4, rf_46_5, rf_47_0, rf_47_1, rf_49_0, rf_49_1, rf_49_2, rf_49_3, rf_49_4, rf_49_5, rf_53_0, rf_53_1, rf_53_2, rf_53_3, rf_53_4, rf_53_5, rf_53_6, rf_53_7, rf_53_9, rf_53_10, rf_53_11, rf_53_12, rf_53_13, rf_54_0, rf_54_1, rf_55_1, rf_55_2, rf_55_3, rf_67_1, rf_67_6, rf_67_7, rf_67_8, rf_67_9, rf_67_10, rf_67_22, rf_67_23, rf_67_28, rf_67_30, rf_67_32, rf_67_33, rf_67_38, rf_67_39, rf_67_48, rf_67_49, rf_67_51, rf_67_52, rf_67_53, rf_67_54, rf_67_55, rf_67_60, rf_67_61, rf_67_62, e1, e2, e3, e4, e5, e6, hb, hn, p1, g1, g4, if_neg (show ¬ n ≤ i by omega), if_pos (show b ≠ -1 by omega), b_101_54, k_101_54, b_101_79, k_101_79, b_101_85, k_101_85, if_pos (show (0 : Int) ≠ 1 by omega), if_neg (show ¬ (1 : Int) = 0 by omega)]
theorem lb_f (n i sn b : Int) (hn : M 32 2 = n) (hi : 0 ≤ i ∧ i < n ∧ n ≤ 24) (hb : M 2 i - 1 = b) (hbb : 0 ≤ b ∧ b < 256) (hnb : ¬ b < M 5 2) (h : RI M) (o : AV) : XL (d + 1) 101 23 [aR 21 0 0, aI sn, aI i, o] [] M Q ↔ Q [aI (-1)] M := by
  have e1 : w32 i = i := w_sm (by omega)
  have e2 : w32 n = n := w_sm (by omega)
  have h0 : 0 ≤ i := hi.1
  have h1 : i < ((940 : Nat) : Int) := by omega
  have e3 : w32 b = b := w_sm (by omega)
  have e4 : w32 (-1) = -1 := rfl
  have e5 : w32 0 = 0 := rfl
  have p1 : ∀ Q', XC d 28 [aR 13 0 5, aI b] M Q' ↔ Q' [aI 0] M := fun Q' => by rw [s_hasBarge b ⟨by omega, by omega⟩ h, bi_f (by omega)]
  rw [b_101_23, k_101_23]
  simp (disch := first | exact nl_i _ | exact nl_r _ | exact Nat.le_of_ble_eq_true rfl | exact Or.inl rfl | exact Or.inr rfl | exact w8_lo _ | exact w8_hi _ | decide | omega) only [v_fall, v_il_0, v_al_0, v_is_0, v_as_0, v_inc_0, v_ll_0, v_ls_0, v_il_1, v_al_1, v_is_1, v_as_1, v_inc_1, v_ll_1, v_ls_1, v_il_2, v_al_2, v_is_2, v_as_2, v_inc_2, v_ll_2, v_ls_2, v_il_3, v_al_3, v_is_3, v_as_3, v_inc_3, v_ll_3, v_ls_3, v_il_4, v_al_4, v_is_4, v_as_4, v_inc_4, v_ll_4, v_ls_4, v_il_5, v_al_5, v_is_5, v_as_5, v_inc_5, v_ll_5, v_ls_5, v_il_6, v_al_6, v_is_6, v_as_6, v_inc_6, v_il_7, v_al_7, v_is_7, v_as_7, v_inc_7, v_il_8, v_al_8, v_is_8, v_as_8, v_inc_8, v_il_9, v_al_9, v_is_9, v_as_9, v_inc_9, v_il_10, v_al_10, v_is_10, v_as_10, v_inc_10, v_il_11, v_al_11, v_is_11, v_as_11, v_inc_11, v_il_12, v_al_12, v_is_12, v_as_12, v_inc_12, v_il_13, v_al_13, v_is_13, v_as_13, v_inc_13, v_c_8, v_c_9, v_c_10, v_c_11, v_c_12, v_c_13, v_c_14, v_b_15, v_b_16, v_b_17, v_b_21, v_b_22, v_b_23, v_b_24, v_b_25, v_b_26, v_b_18, v_b_19, v_b_20, v_b_27, v_b_28, v_b_29, v_b_30, v_b_31, v_dup_i, v_dup_r, v_dup2, v_pop, v_gi, v_gl, v_gr, v_pi, v_pl, v_pz, v_iald, v_lald, v_bald, v_zald, v_aald, v_iast, v_last, v_bast, v_zast, v_alen_0, v_alen_1, v_alen_2, v_alen_3, v_alen_4, v_j_45, v_j_46, v_j_47, v_j_48, v_j_49, v_j_50, v_j_51, v_j_52, v_j_53, v_j_54, v_j_55, v_j_56, v_goto, v_sw, v_ret_i, v_ret_z, v_ret, v_cpy, v_iv_1, v_iv_2, v_iv_3, v_iv_4, v_iv_5, v_iv_6, v_is2_1, v_is2_2, v_is2_3, v_ivJ, List.nil_append, List.cons_append, rf_0_0, rf_0_1, rf_0_2, rf_0_3, rf_0_4, rf_0_5, rf_0_6, rf_0_7, rf_0_8, rf_0_9, rf_1_0, rf_1_2, rf_4_0, rf_4_1, rf_4_2, rf_5_8, rf_5_9, rf_5_10, rf_5_11, rf_5_12, rf_13_0, rf_13_1, rf_14_0, rf_14_1, rf_14_2, rf_15_8, rf_15_9, rf_15_10, rf_15_11, rf_15_12, rf_23_0, rf_23_1, rf_23_2, rf_24_8, rf_24_9, rf_24_10, rf_24_11, rf_24_12, rf_32_6, rf_34_0, rf_34_1, rf_34_2, rf_34_3, rf_35_8, rf_35_9, rf_35_10, rf_35_11, rf_35_12, rf_43_0, rf_43_1, rf_43_2, rf_43_3, rf_45_0, rf_45_1, rf_46_0, rf_46_1, rf_46_2, rf_46_3, rf_46_4, rf_46_5, rf_47_0, rf_47_1, rf_49_0, rf_49_1, rf_49_2, rf_49_3, rf_49_4, rf_49_5, rf_53_0, rf_53_1, rf_53_2, rf_53_3, rf_53_4, rf_53_5, rf_53_6, rf_53_7, rf_53_9, rf_53_10, rf_53_11, rf_53_12, rf_53_13, rf_54_0, rf_54_1, rf_55_1, rf_55_2, rf_55_3, rf_67_1, rf_67_6, rf_67_7, rf_67_8, rf_67_9, rf_67_10, rf_67_22, rf_67_23, rf_67_28, rf_67_30, rf_67_32, rf_67_33, rf_67_38, rf_67_39, rf_67_48, rf_67_49, rf_67_51, rf_67_52, rf_67_53, rf_67_54, rf_67_55, rf_67_60, rf_67_61, rf_67_62, e1, e2, e3, e4, e5, hb, hn, p1, if_neg (show ¬ n ≤ i by omega), if_pos (show b ≠ -1 by omega), b_101_54, k_101_54, b_101_77, k_101_77, if_true]
theorem lb_g (n i sn b : Int) (hn : M 32 2 = n) (hi : 0 ≤ i ∧ i < n ∧ n ≤ 24) (hb : M 2 i - 1 = b) (hbb : 0 ≤ b ∧ b < 9) (hnb : b < M 5 2) (h : RI M) (g1 : and32 (shr32 sn b) 1 = 1) (o : AV) : XL (d + 1) 101 23 [aR 21 0 0, aI sn, aI i, o] [] M Q ↔ Q [aI (-1)] M := by
  have e1 : w32 i = i := w_sm (by omega)
  have e2 : w32 n = n := w_sm (by omega)
  have h0 : 0 ≤ i := hi.1
  have h1 : i < ((940 : Nat) : Int) := by omega
  have e3 : w32 b = b := w_sm (by omega)
  have e4 : w32 (-1) = -1 := rfl
  have e6 : w32 1 = 1 := rfl
  have p1 : ∀ Q', XC d 28 [aR 13 0 5, aI b] M Q' ↔ Q' [aI 1] M := fun Q' => by rw [s_hasBarge b ⟨by omega, by omega⟩ h, bi_t (by omega)]
  rw [b_101_23, k_101_23]
  simp (disch := first | exact nl_i _ | exact nl_r _ | exact Nat.le_of_ble_eq_true rfl | exact Or.inl rfl | exact Or.inr rfl | exact w8_lo _ | exact w8_hi _ | decide | omega) only [v_fall, v_il_0, v_al_0, v_is_0, v_as_0, v_inc_0, v_ll_0, v_ls_0, v_il_1, v_al_1, v_is_1, v_as_1, v_inc_1, v_ll_1, v_ls_1, v_il_2, v_al_2, v_is_2, v_as_2, v_inc_2, v_ll_2, v_ls_2, v_il_3, v_al_3, v_is_3, v_as_3, v_inc_3, v_ll_3, v_ls_3, v_il_4, v_al_4, v_is_4, v_as_4, v_inc_4, v_ll_4, v_ls_4, v_il_5, v_al_5, v_is_5, v_as_5, v_inc_5, v_ll_5, v_ls_5, v_il_6, v_al_6, v_is_6, v_as_6, v_inc_6, v_il_7, v_al_7, v_is_7, v_as_7, v_inc_7, v_il_8, v_al_8, v_is_8, v_as_8, v_inc_8, v_il_9, v_al_9, v_is_9, v_as_9, v_inc_9, v_il_10, v_al_10, v_is_10, v_as_10, v_inc_10, v_il_11, v_al_11, v_is_11, v_as_11, v_inc_11, v_il_12, v_al_12, v_is_12, v_as_12, v_inc_12, v_il_13, v_al_13, v_is_13, v_as_13, v_inc_13, v_c_8, v_c_9, v_c_10, v_c_11, v_c_12, v_c_13, v_c_14, v_b_15, v_b_16, v_b_17, v_b_21, v_b_22, v_b_23, v_b_24, v_b_25, v_b_26, v_b_18, v_b_19, v_b_20, v_b_27, v_b_28, v_b_29, v_b_30, v_b_31, v_dup_i, v_dup_r, v_dup2, v_pop, v_gi, v_gl, v_gr, v_pi, v_pl, v_pz, v_iald, v_lald, v_bald, v_zald, v_aald, v_iast, v_last, v_bast, v_zast, v_alen_0, v_alen_1, v_alen_2, v_alen_3, v_alen_4, v_j_45, v_j_46, v_j_47, v_j_48, v_j_49, v_j_50, v_j_51, v_j_52, v_j_53, v_j_54, v_j_55, v_j_56, v_goto, v_sw, v_ret_i, v_ret_z, v_ret, v_cpy, v_iv_1, v_iv_2, v_iv_3, v_iv_4, v_iv_5, v_iv_6, v_is2_1, v_is2_2, v_is2_3, v_ivJ, List.nil_append, List.cons_append, rf_0_0, rf_0_1, rf_0_2, rf_0_3, rf_0_4, rf_0_5, rf_0_6, rf_0_7, rf_0_8, rf_0_9, rf_1_0, rf_1_2, rf_4_0, rf_4_1, rf_4_2, rf_5_8, rf_5_9, rf_5_10, rf_5_11, rf_5_12, rf_13_0, rf_13_1, rf_14_0, rf_14_1, rf_14_2, rf_15_8, rf_15_9, rf_15_10, rf_15_11, rf_15_12, rf_23_0, rf_23_1, rf_23_2, rf_24_8, rf_24_9, rf_24_10, rf_24_11, rf_24_12, rf_32_6, rf_34_0, rf_34_1, rf_34_2, rf_34_3, rf_35_8, rf_35_9, rf_35_10, rf_35_11, rf_35_12, rf_43_0, rf_43_1, rf_43_2, rf_43_3, rf_45_0, rf_45_1, rf_46_0, rf_46_1, rf_46_2, rf_46_3, rf_46_4, rf_46_5, rf_47_0, rf_47_1, rf_49_0, rf_49_1, rf_49_2, rf_49_3, rf_49_4, rf_49_5, rf_53_0, rf_53_1, rf_53_2, rf_53_3, rf_53_4, rf_53_5, rf_53_6, rf_53_7, rf_53_9, rf_53_10, rf_53_11, rf_53_12, rf_53_13, rf_54_0, rf_54_1, rf_55_1, rf_55_2, rf_55_3, rf_67_1, rf_67_6, rf_67_7, rf_67_8, rf_67_9, rf_67_10, rf_67_22, rf_67_23, rf_67_28, rf_67_30, rf_67_32, rf_67_33, rf_67_38, rf_67_39, rf_67_48, rf_67_49, rf_67_51, rf_67_52, rf_67_53, rf_67_54, rf_67_55, rf_67_60, rf_67_61, rf_67_62, e1, e2, e3, e4, e6, hb, hn, p1, g1, if_neg (show ¬ n ≤ i by omega), if_pos (show b ≠ -1 by omega), b_101_54, k_101_54, b_101_77, k_101_77, if_neg (show ¬ (1 : Int) ≠ 1 by omega), if_neg (show ¬ (1 : Int) = 0 by omega)]
theorem layable_l (n : Int) (hn : M 32 2 = n) (hb : n ≤ 24) (h : RI M) (ht : ∀ i, 0 ≤ M 2 i ∧ M 2 i < 256) : ∀ (k : Nat) (i : Int) (seen : Nat) (o : AV), 0 ≤ i → i + (k : Int) = n → seen < 2 ^ 24 → (XL (d + 1) 101 23 [aR 21 0 0, aI (seen : Int), aI i, o] [] M Q ↔ Q [aI (layR (layF (M 2) (M 5 2) k i seen))] M)
  | 0, i, seen, o, h0, hi, hs => by
    have hi' : i = n := by omega
    have p1 : ∀ Q', XC d 223 [aI (seen : Int)] M Q' ↔ Q' [aI ((cnt 24 seen.testBit : Nat) : Int)] M := fun Q' => by rw [s_bitCount seen hs, pcn_cnt]
    rw [hi', lb_0 n _ hn ⟨by omega, hb⟩]
    clear hs ht hi hi' h0
    rw [b_101_91, k_101_91]
    simp (disch := first | exact nl_i _ | exact nl_r _ | exact Nat.le_of_ble_eq_true rfl | exact Or.inl rfl | exact Or.inr rfl | exact w8_lo _ | exact w8_hi _ | decide | omega) only [v_fall, v_il_0, v_al_0, v_is_0, v_as_0, v_inc_0, v_ll_0, v_ls_0, v_il_1, v_al_1, v_is_1, v_as_1, v_inc_1, v_ll_1, v_ls_1, v_il_2, v_al_2, v_is_2, v_as_2, v_inc_2, v_ll_2, v_ls_2, v_il_3, v_al_3, v_is_3, v_as_3, v_inc_3, v_ll_3, v_ls_3, v_il_4, v_al_4, v_is_4, v_as_4, v_inc_4, v_ll_4, v_ls_4, v_il_5, v_al_5, v_is_5, v_as_5, v_inc_5, v_ll_5, v_ls_5, v_il_6, v_al_6, v_is_6, v_as_6, v_inc_6, v_il_7, v_al_7, v_is_7, v_as_7, v_inc_7, v_il_8, v_al_8, v_is_8, v_as_8, v_inc_8, v_il_9, v_al_9, v_is_9, v_as_9, v_inc_9, v_il_10, v_al_10, v_is_10, v_as_10, v_inc_10, v_il_11, v_al_11, v_is_11, v_as_11, v_inc_11, v_il_12, v_al_12, v_is_12, v_as_12, v_inc_12, v_il_13, v_al_13, v_is_13, v_as_13, v_inc_13, v_c_8, v_c_9, v_c_10, v_c_11, v_c_12, v_c_13, v_c_14, v_b_15, v_b_16, v_b_17, v_b_21, v_b_22, v_b_23, v_b_24, v_b_25, v_b_26, v_b_18, v_b_19, v_b_20, v_b_27, v_b_28, v_b_29, v_b_30, v_b_31, v_dup_i, v_dup_r, v_dup2, v_pop, v_gi, v_gl, v_gr, v_pi, v_pl, v_pz, v_iald, v_lald, v_bald, v_zald, v_aald, v_iast, v_last, v_bast, v_zast, v_alen_0, v_alen_1, v_alen_2, v_alen_3, v_alen_4, v_j_45, v_j_46, v_j_47, v_j_48, v_j_49, v_j_50, v_j_51, v_j_52, v_j_53, v_j_54, v_j_55, v_j_56, v_goto, v_sw, v_ret_i, v_ret_z, v_ret, v_cpy, v_iv_1, v_iv_2, v_iv_3, v_iv_4, v_iv_5, v_iv_6, v_is2_1, v_is2_2, v_is2_3, v_ivJ, List.nil_append, List.cons_append, rf_0_0, rf_0_1, rf_0_2, rf_0_3, rf_0_4, rf_0_5, rf_0_6, rf_0_7, rf_0_8, rf_0_9, rf_1_0, rf_1_2, rf_4_0, rf_4_1, rf_4_2, rf_5_8, rf_5_9, rf_5_10, rf_5_11, rf_5_12, rf_13_0, rf_13_1, rf_14_0, rf_14_1, rf_14_2, rf_15_8, rf_15_9, rf_15_10, rf_15_11, rf_15_12, rf_23_0, rf_23_1, rf_23_2, rf_24_8, rf_24_9, rf_24_10, rf_24_11, rf_24_12, rf_32_6, rf_34_0, rf_34_1, rf_34_2, rf_34_3, rf_35_8, rf_35_9, rf_35_10, rf_35_11, rf_35_12, rf_43_0, rf_43_1, rf_43_2, rf_43_3, rf_45_0, rf_45_1, rf_46_0, rf_46_1, rf_46_2, rf_46_3, rf_46_4, rf_46_5, rf_47_0, rf_47_1, rf_49_0, rf_49_1, rf_49_2, rf_49_3, rf_49_4, rf_49_5, rf_53_0, rf_53_1, rf_53_2, rf_53_3, rf_53_4, rf_53_5, rf_53_6, rf_53_7, rf_53_9, rf_53_10, rf_53_11, rf_53_12, rf_53_13, rf_54_0, rf_54_1, rf_55_1, rf_55_2, rf_55_3, rf_67_1, rf_67_6, rf_67_7, rf_67_8, rf_67_9, rf_67_10, rf_67_22, rf_67_23, rf_67_28, rf_67_30, rf_67_32, rf_67_33, rf_67_38, rf_67_39, rf_67_48, rf_67_49, rf_67_51, rf_67_52, rf_67_53, rf_67_54, rf_67_55, rf_67_60, rf_67_61, rf_67_62, p1, layF, layR]
  | k + 1, i, seen, o, h0, hi, hs => by
    have hti := ht i
    have r2 : 0 ≤ M 5 2 ∧ M 5 2 ≤ 9 := h.2.2.1
    have hin : 0 ≤ i ∧ i < n ∧ n ≤ 24 := by omega
    have h0' : 0 ≤ i + 1 := by omega
    have hi' : i + 1 + (k : Int) = n := by omega
    have hs3 := bits_lt hs
    unfold layF
    by_cases c1 : M 2 i = 0
    · rw [if_pos c1, lb_z n i _ hn hin c1]
      exact layable_l n hn hb h ht k (i + 1) seen _ h0' hi' hs
    · rw [if_neg c1]
      obtain ⟨B, hB⟩ : ∃ B, B = (M 2 i - 1).toNat := ⟨_, rfl⟩
      have hB1 : M 2 i - 1 = (B : Int) := by omega
      rw [← hB]
      by_cases c2 : M 2 i ≤ M 5 2
      · have hB2 : B < 9 := by omega
        have g1 := tb32 seen B (by omega) hs3
        have g4 := set32 seen B (by omega) hs3
        have g6 := set_lt hs (show B < 24 by omega)
        by_cases c3 : seen.testBit B = false
        · rw [c3] at g1
          rw [if_pos ⟨c2, c3⟩, lb_s n i _ (B : Int) _ hn hin hB1 (by omega) (by omega) h g1 g4]
          exact layable_l n hn hb h ht k (i + 1) (seen ||| 2 ^ B) _ h0' hi' g6
        · rw [show seen.testBit B = true by simpa using c3] at g1
          rw [if_neg (fun h9 => c3 h9.2), lb_g n i _ (B : Int) hn hin hB1 (by omega) (by omega) h g1]
          rfl
      · rw [if_neg (fun h9 => c2 h9.1), lb_f n i _ (B : Int) hn hin hB1 (by omega) (by omega) h]
        rfl
end LB
section LM
variable {d : Nat} {M : Mem} {Q : List AV → Mem → Prop}
theorem lm_0 (n sn c : Int) (hn : M 67 3 = n) (hb : 0 ≤ n ∧ n ≤ 24) (o : AV) : XL d 169 31 [aR 22 0 67, aI sn, aI c, aI n, o] [] M Q ↔ XL d 169 100 [aR 22 0 67, aI sn, aI c, aI n, o] [] M Q := by
  have e2 : w32 n = n := w_sm (by omega)
  rw [b_169_31, k_169_31]
  simp (disch := first | exact nl_i _ | exact nl_r _ | exact Nat.le_of_ble_eq_true rfl | exact Or.inl rfl | exact Or.inr rfl | exact w8_lo _ | exact w8_hi _ | decide | omega) only [v_fall, v_il_0, v_al_0, v_is_0, v_as_0, v_inc_0, v_ll_0, v_ls_0, v_il_1, v_al_1, v_is_1, v_as_1, v_inc_1, v_ll_1, v_ls_1, v_il_2, v_al_2, v_is_2, v_as_2, v_inc_2, v_ll_2, v_ls_2, v_il_3, v_al_3, v_is_3, v_as_3, v_inc_3, v_ll_3, v_ls_3, v_il_4, v_al_4, v_is_4, v_as_4, v_inc_4, v_ll_4, v_ls_4, v_il_5, v_al_5, v_is_5, v_as_5, v_inc_5, v_ll_5, v_ls_5, v_il_6, v_al_6, v_is_6, v_as_6, v_inc_6, v_il_7, v_al_7, v_is_7, v_as_7, v_inc_7, v_il_8, v_al_8, v_is_8, v_as_8, v_inc_8, v_il_9, v_al_9, v_is_9, v_as_9, v_inc_9, v_il_10, v_al_10, v_is_10, v_as_10, v_inc_10, v_il_11, v_al_11, v_is_11, v_as_11, v_inc_11, v_il_12, v_al_12, v_is_12, v_as_12, v_inc_12, v_il_13, v_al_13, v_is_13, v_as_13, v_inc_13, v_c_8, v_c_9, v_c_10, v_c_11, v_c_12, v_c_13, v_c_14, v_b_15, v_b_16, v_b_17, v_b_21, v_b_22, v_b_23, v_b_24, v_b_25, v_b_26, v_b_18, v_b_19, v_b_20, v_b_27, v_b_28, v_b_29, v_b_30, v_b_31, v_dup_i, v_dup_r, v_dup2, v_pop, v_gi, v_gl, v_gr, v_pi, v_pl, v_pz, v_iald, v_lald, v_bald, v_zald, v_aald, v_iast, v_last, v_bast, v_zast, v_alen_0, v_alen_1, v_alen_2, v_alen_3, v_alen_4, v_j_45, v_j_46, v_j_47, v_j_48, v_j_49, v_j_50, v_j_51, v_j_52, v_j_53, v_j_54, v_j_55, v_j_56, v_goto, v_sw, v_ret_i, v_ret_z, v_ret, v_cpy, v_iv_1, v_iv_2, v_iv_3, v_iv_4, v_iv_5, v_iv_6, v_is2_1, v_is2_2, v_is2_3, v_ivJ, List.nil_append, List.cons_append, rf_0_0, rf_0_1, rf_0_2, rf_0_3, rf_0_4, rf_0_5, rf_0_6, rf_0_7, rf_0_8, rf_0_9, rf_1_0, rf_1_2, rf_4_0, rf_4_1, rf_4_2, rf_5_8, rf_5_9, rf_5_10, rf_5_11, rf_5_12, rf_13_0, rf_13_1, rf_14_0, rf_14_1, rf_14_2, rf_15_8, rf_15_9, rf_15_10, rf_15_11, rf_15_12, rf_23_0, rf_23_1, rf_23_2, rf_24_8, rf_24_9, rf_24_10, rf_24_11, rf_24_12, rf_32_6, rf_34_0, rf_34_1, rf_34_2, rf_34_3, rf_35_8, rf_35_9, rf_35_10, rf_35_11, rf_35_12, rf_43_0, rf_43_1, rf_43_2, rf_43_3, rf_45_0, rf_45_1, rf_46_0, rf_46_1, rf_46_2, rf_46_3, rf_46_4, rf_46_5, rf_47_0, rf_47_1, rf_49_0, rf_49_1, rf_49_2, rf_49_3, rf_49_4, rf_49_5, rf_53_0, rf_53_1, rf_53_2, rf_53_3, rf_53_4, rf_53_5, rf_53_6, rf_53_7, rf_53_9, rf_53_10, rf_53_11, rf_53_12, rf_53_13, rf_54_0, rf_54_1, rf_55_1, rf_55_2, rf_55_3, rf_67_1, rf_67_6, rf_67_7, rf_67_8, rf_67_9, rf_67_10, rf_67_22, rf_67_23, rf_67_28, rf_67_30, rf_67_32, rf_67_33, rf_67_38, rf_67_39, rf_67_48, rf_67_49, rf_67_51, rf_67_52, rf_67_53, rf_67_54, rf_67_55, rf_67_60, rf_67_61, rf_67_62, e2, hn, if_pos (show n ≤ n by omega)]
theorem lm_z (n i sn sn1 c : Int) (hn : M 67 3 = n) (hi : 0 ≤ i ∧ i < n ∧ n ≤ 24) (hb : and32 (M 68 i) 255 = 0) (hnb : 0 ≤ M 69 2 ∧ M 69 2 ≤ 9) (g4 : or32 sn (shl32 1 0) = sn1) (o : AV) : XL (d + 1) 169 31 [aR 22 0 67, aI sn, aI c, aI i, o] [] M Q ↔ XL (d + 1) 169 31 [aR 22 0 67, aI sn1, aI c, aI (i + 1), aI 0] [] M Q := by
  have e1 : w32 i = i := w_sm (by omega)
  have e2 : w32 n = n := w_sm (by omega)
  have e3 : w32 (M 69 2) = M 69 2 := w_sm (by omega)
  have e5 : w32 0 = 0 := rfl
  have e6 : c + 0 = c := by omega
  have p1 : ∀ Q', XC d 135 [aR 22 0 67, aI i] M Q' ↔ Q' [aI 0] M := fun Q' => by rw [s_m_octet i (by omega), hb]
  rw [b_169_31, k_169_31]
  simp (disch := first | exact nl_i _ | exact nl_r _ | exact Nat.le_of_ble_eq_true rfl | exact Or.inl rfl | exact Or.inr rfl | exact w8_lo _ | exact w8_hi _ | decide | omega) only [v_fall, v_il_0, v_al_0, v_is_0, v_as_0, v_inc_0, v_ll_0, v_ls_0, v_il_1, v_al_1, v_is_1, v_as_1, v_inc_1, v_ll_1, v_ls_1, v_il_2, v_al_2, v_is_2, v_as_2, v_inc_2, v_ll_2, v_ls_2, v_il_3, v_al_3, v_is_3, v_as_3, v_inc_3, v_ll_3, v_ls_3, v_il_4, v_al_4, v_is_4, v_as_4, v_inc_4, v_ll_4, v_ls_4, v_il_5, v_al_5, v_is_5, v_as_5, v_inc_5, v_ll_5, v_ls_5, v_il_6, v_al_6, v_is_6, v_as_6, v_inc_6, v_il_7, v_al_7, v_is_7, v_as_7, v_inc_7, v_il_8, v_al_8, v_is_8, v_as_8, v_inc_8, v_il_9, v_al_9, v_is_9, v_as_9, v_inc_9, v_il_10, v_al_10, v_is_10, v_as_10, v_inc_10, v_il_11, v_al_11, v_is_11, v_as_11, v_inc_11, v_il_12, v_al_12, v_is_12, v_as_12, v_inc_12, v_il_13, v_al_13, v_is_13, v_as_13, v_inc_13, v_c_8, v_c_9, v_c_10, v_c_11, v_c_12, v_c_13, v_c_14, v_b_15, v_b_16, v_b_17, v_b_21, v_b_22, v_b_23, v_b_24, v_b_25, v_b_26, v_b_18, v_b_19, v_b_20, v_b_27, v_b_28, v_b_29, v_b_30, v_b_31, v_dup_i, v_dup_r, v_dup2, v_pop, v_gi, v_gl, v_gr, v_pi, v_pl, v_pz, v_iald, v_lald, v_bald, v_zald, v_aald, v_iast, v_last, v_bast, v_zast, v_alen_0, v_alen_1, v_alen_2, v_alen_3, v_alen_4, v_j_45, v_j_46, v_j_47, v_j_48, v_j_49, v_j_50, v_j_51, v_j_52, v_j_53, v_j_54, v_j_55, v_j_56, v_goto, v_sw, v_ret_i, v_ret_z, v_ret, v_cpy, v_iv_1, v_iv_2, v_iv_3, v_iv_4, v_iv_5, v_iv_6, v_is2_1, v_is2_2, v_is2_3, v_ivJ, List.nil_append, List.cons_append, rf_0_0, rf_0_1, rf_0_2, rf_0_3, rf_0_4, rf_0_5, rf_0_6, rf_0_7, rf_0_8, rf_0_9, rf_1_0, rf_1_2, rf_4_0, rf_4_1, rf_4_2, rf_5_8, rf_5_9, rf_5_10, rf_5_11, rf_5_12, rf_13_0, rf_13_1, rf_14_0, rf_14_1, rf_14_2, rf_15_8, rf_15_9, rf_15_10, rf_15_11, rf_15_12, rf_23_0, rf_23_1, rf_23_2, rf_24_8, rf_24_9, rf_24_10, rf_24_11, rf_24_12, rf_32_6, rf_34_0, rf_34_1, rf_34_2, rf_34_3, rf_35_8, rf_35_9, rf_35_10, rf_35_11, rf_35_12, rf_43_0, rf_43_1, rf_43_2, rf_43_3, rf_45_0, rf_45_1, rf_46_0, rf_46_1, rf_46_2, rf_46_3, rf_46_4, rf_46_5, rf_47_0, rf_47_1, rf_49_0, rf_49_1, rf_49_2, rf_49_3, rf_49_4, rf_49_5, rf_53_0, rf_53_1, rf_53_2, rf_53_3, rf_53_4, rf_53_5, rf_53_6, rf_53_7, rf_53_9, rf_53_10, rf_53_11, rf_53_12, rf_53_13, rf_54_0, rf_54_1, rf_55_1, rf_55_2, rf_55_3, rf_67_1, rf_67_6, rf_67_7, rf_67_8, rf_67_9, rf_67_10, rf_67_22, rf_67_23, rf_67_28, rf_67_30, rf_67_32, rf_67_33, rf_67_38, rf_67_39, rf_67_48, rf_67_49, rf_67_51, rf_67_52, rf_67_53, rf_67_54, rf_67_55, rf_67_60, rf_67_61, rf_67_62, e1, e2, e3, e5, e6, hn, p1, g4, if_neg (show ¬ n ≤ i by omega), if_neg (show ¬ M 69 2 < 0 by omega), if_pos (show (0 : Int) ≤ 0 by omega), b_169_74, k_169_74, b_169_91, k_169_91, b_169_92, k_169_92]
theorem lm_s (n i sn b sn1 c : Int) (hn : M 67 3 = n) (hi : 0 ≤ i ∧ i < n ∧ n ≤ 24) (hb : and32 (M 68 i) 255 = b) (hbb : 1 ≤ b ∧ b ≤ 9) (hnb : b ≤ M 69 2 ∧ M 69 2 ≤ 9) (g1 : and32 (shr32 sn b) 1 = 0) (g4 : or32 sn (shl32 1 b) = sn1) (o : AV) : XL (d + 1) 169 31 [aR 22 0 67, aI sn, aI c, aI i, o] [] M Q ↔ XL (d + 1) 169 31 [aR 22 0 67, aI sn1, aI (c + 1), aI (i + 1), aI b] [] M Q := by
  have e1 : w32 i = i := w_sm (by omega)
  have e2 : w32 n = n := w_sm (by omega)
  have e3 : w32 (M 69 2) = M 69 2 := w_sm (by omega)
  have e4 : w32 b = b := w_sm (by omega)
  have e5 : w32 0 = 0 := rfl
  have e6 : w32 1 = 1 := rfl
  have p1 : ∀ Q', XC d 135 [aR 22 0 67, aI i] M Q' ↔ Q' [aI b] M := fun Q' => by rw [s_m_octet i (by omega), hb]
  rw [b_169_31, k_169_31]
  simp (disch := first | exact nl_i _ | exact nl_r _ | exact Nat.le_of_ble_eq_true rfl | exact Or.inl rfl | exact Or.inr rfl | exact w8_lo _ | exact w8_hi _ | decide | omega) only [v_fall, v_il_0, v_al_0, v_is_0, v_as_0, v_inc_0, v_ll_0, v_ls_0, v_il_1, v_al_1, v_is_1, v_as_1, v_inc_1, v_ll_1, v_ls_1, v_il_2, v_al_2, v_is_2, v_as_2, v_inc_2, v_ll_2, v_ls_2, v_il_3, v_al_3, v_is_3, v_as_3, v_inc_3, v_ll_3, v_ls_3, v_il_4, v_al_4, v_is_4, v_as_4, v_inc_4, v_ll_4, v_ls_4, v_il_5, v_al_5, v_is_5, v_as_5, v_inc_5, v_ll_5, v_ls_5, v_il_6, v_al_6, v_is_6, v_as_6, v_inc_6, v_il_7, v_al_7, v_is_7, v_as_7, v_inc_7, v_il_8, v_al_8, v_is_8, v_as_8, v_inc_8, v_il_9, v_al_9, v_is_9, v_as_9, v_inc_9, v_il_10, v_al_10, v_is_10, v_as_10, v_inc_10, v_il_11, v_al_11, v_is_11, v_as_11, v_inc_11, v_il_12, v_al_12, v_is_12, v_as_12, v_inc_12, v_il_13, v_al_13, v_is_13, v_as_13, v_inc_13, v_c_8, v_c_9, v_c_10, v_c_11, v_c_12, v_c_13, v_c_14, v_b_15, v_b_16, v_b_17, v_b_21, v_b_22, v_b_23, v_b_24, v_b_25, v_b_26, v_b_18, v_b_19, v_b_20, v_b_27, v_b_28, v_b_29, v_b_30, v_b_31, v_dup_i, v_dup_r, v_dup2, v_pop, v_gi, v_gl, v_gr, v_pi, v_pl, v_pz, v_iald, v_lald, v_bald, v_zald, v_aald, v_iast, v_last, v_bast, v_zast, v_alen_0, v_alen_1, v_alen_2, v_alen_3, v_alen_4, v_j_45, v_j_46, v_j_47, v_j_48, v_j_49, v_j_50, v_j_51, v_j_52, v_j_53, v_j_54, v_j_55, v_j_56, v_goto, v_sw, v_ret_i, v_ret_z, v_ret, v_cpy, v_iv_1, v_iv_2, v_iv_3, v_iv_4, v_iv_5, v_iv_6, v_is2_1, v_is2_2, v_is2_3, v_ivJ, List.nil_append, List.cons_append, rf_0_0, rf_0_1, rf_0_2, rf_0_3, rf_0_4, rf_0_5, rf_0_6, rf_0_7, rf_0_8, rf_0_9, rf_1_0, rf_1_2, rf_4_0, rf_4_1, rf_4_2, rf_5_8, rf_5_9, rf_5_10, rf_5_11, rf_5_12, rf_13_0, rf_13_1, rf_14_0, rf_14_1, rf_14_2, rf_15_8, rf_15_9, rf_15_10, rf_15_11, rf_15_12, rf_23_0, rf_23_1, rf_23_2, rf_24_8, rf_24_9, rf_24_10, rf_24_11, rf_24_12, rf_32_6, rf_34_0, rf_34_1, rf_34_2, rf_34_3, rf_35_8, rf_35_9, rf_35_10, rf_35_11, rf_35_12, rf_43_0, rf_43_1, rf_43_2, rf_43_3, rf_45_0, rf_45_1, rf_46_0, rf_46_1, rf_46_2, rf_46_3, rf_46_4, rf_46_5, rf_47_0, rf_47_1, rf_49_0, rf_49_1, rf_49_2, rf_49_3, rf_49_4, rf_49_5, rf_53_0, rf_53_1, rf_53_2, rf_53_3, rf_53_4, rf_53_5, rf_53_6, rf_53_7, rf_53_9, rf_53_10, rf_53_11, rf_53_12, rf_53_13, rf_54_0, rf_54_1, rf_55_1, rf_55_2, rf_55_3, rf_67_1, rf_67_6, rf_67_7, rf_67_8, rf_67_9, rf_67_10, rf_67_22, rf_67_23, rf_67_28, rf_67_30, rf_67_32, rf_67_33, rf_67_38, rf_67_39, rf_67_48, rf_67_49, rf_67_51, rf_67_52, rf_67_53, rf_67_54, rf_67_55, rf_67_60, rf_67_61, rf_67_62, e1, e2, e3, e4, e5, e6, hn, p1, g1, g4, if_neg (show ¬ n ≤ i by omega), if_neg (show ¬ M 69 2 < b by omega), if_neg (show ¬ b ≤ 0 by omega), if_pos (show (0 : Int) ≠ 1 by omega), b_169_74, k_169_74, b_169_91, k_169_91, b_169_92, k_169_92]
theorem lm_f (n i sn b c : Int) (hn : M 67 3 = n) (hi : 0 ≤ i ∧ i < n ∧ n ≤ 24) (hb : and32 (M 68 i) 255 = b) (hbb : 1 ≤ b ∧ b < 256) (hnb : ¬ b ≤ M 69 2 ∧ 0 ≤ M 69 2) (o : AV) : XL (d + 1) 169 31 [aR 22 0 67, aI sn, aI c, aI i, o] [] M Q ↔ Q [aI (-1)] M := by
  have e1 : w32 i = i := w_sm (by omega)
  have e2 : w32 n = n := w_sm (by omega)
  have e3 : w32 (M 69 2) = M 69 2 := w_sm (by omega)
  have e4 : w32 b = b := w_sm (by omega)
  have p1 : ∀ Q', XC d 135 [aR 22 0 67, aI i] M Q' ↔ Q' [aI b] M := fun Q' => by rw [s_m_octet i (by omega), hb]
  rw [b_169_31, k_169_31]
  simp (disch := first | exact nl_i _ | exact nl_r _ | exact Nat.le_of_ble_eq_true rfl | exact Or.inl rfl | exact Or.inr rfl | exact w8_lo _ | exact w8_hi _ | decide | omega) only [v_fall, v_il_0, v_al_0, v_is_0, v_as_0, v_inc_0, v_ll_0, v_ls_0, v_il_1, v_al_1, v_is_1, v_as_1, v_inc_1, v_ll_1, v_ls_1, v_il_2, v_al_2, v_is_2, v_as_2, v_inc_2, v_ll_2, v_ls_2, v_il_3, v_al_3, v_is_3, v_as_3, v_inc_3, v_ll_3, v_ls_3, v_il_4, v_al_4, v_is_4, v_as_4, v_inc_4, v_ll_4, v_ls_4, v_il_5, v_al_5, v_is_5, v_as_5, v_inc_5, v_ll_5, v_ls_5, v_il_6, v_al_6, v_is_6, v_as_6, v_inc_6, v_il_7, v_al_7, v_is_7, v_as_7, v_inc_7, v_il_8, v_al_8, v_is_8, v_as_8, v_inc_8, v_il_9, v_al_9, v_is_9, v_as_9, v_inc_9, v_il_10, v_al_10, v_is_10, v_as_10, v_inc_10, v_il_11, v_al_11, v_is_11, v_as_11, v_inc_11, v_il_12, v_al_12, v_is_12, v_as_12, v_inc_12, v_il_13, v_al_13, v_is_13, v_as_13, v_inc_13, v_c_8, v_c_9, v_c_10, v_c_11, v_c_12, v_c_13, v_c_14, v_b_15, v_b_16, v_b_17, v_b_21, v_b_22, v_b_23, v_b_24, v_b_25, v_b_26, v_b_18, v_b_19, v_b_20, v_b_27, v_b_28, v_b_29, v_b_30, v_b_31, v_dup_i, v_dup_r, v_dup2, v_pop, v_gi, v_gl, v_gr, v_pi, v_pl, v_pz, v_iald, v_lald, v_bald, v_zald, v_aald, v_iast, v_last, v_bast, v_zast, v_alen_0, v_alen_1, v_alen_2, v_alen_3, v_alen_4, v_j_45, v_j_46, v_j_47, v_j_48, v_j_49, v_j_50, v_j_51, v_j_52, v_j_53, v_j_54, v_j_55, v_j_56, v_goto, v_sw, v_ret_i, v_ret_z, v_ret, v_cpy, v_iv_1, v_iv_2, v_iv_3, v_iv_4, v_iv_5, v_iv_6, v_is2_1, v_is2_2, v_is2_3, v_ivJ, List.nil_append, List.cons_append, rf_0_0, rf_0_1, rf_0_2, rf_0_3, rf_0_4, rf_0_5, rf_0_6, rf_0_7, rf_0_8, rf_0_9, rf_1_0, rf_1_2, rf_4_0, rf_4_1, rf_4_2, rf_5_8, rf_5_9, rf_5_10, rf_5_11, rf_5_12, rf_13_0, rf_13_1, rf_14_0, rf_14_1, rf_14_2, rf_15_8, rf_15_9, rf_15_10, rf_15_11, rf_15_12, rf_23_0, rf_23_1, rf_23_2, rf_24_8, rf_24_9, rf_24_10, rf_24_11, rf_24_12, rf_32_6, rf_34_0, rf_34_1, rf_34_2, rf_34_3, rf_35_8, rf_35_9, rf_35_10, rf_35_11, rf_35_12, rf_43_0, rf_43_1, rf_43_2, rf_43_3, rf_45_0, rf_45_1, rf_46_0, rf_46_1, rf_46_2, rf_46_3, rf_46_4, rf_46_5, rf_47_0, rf_47_1, rf_49_0, rf_49_1, rf_49_2, rf_49_3, rf_49_4, rf_49_5, rf_53_0, rf_53_1, rf_53_2, rf_53_3, rf_53_4, rf_53_5, rf_53_6, rf_53_7, rf_53_9, rf_53_10, rf_53_11, rf_53_12, rf_53_13, rf_54_0, rf_54_1, rf_55_1, rf_55_2, rf_55_3, rf_67_1, rf_67_6, rf_67_7, rf_67_8, rf_67_9, rf_67_10, rf_67_22, rf_67_23, rf_67_28, rf_67_30, rf_67_32, rf_67_33, rf_67_38, rf_67_39, rf_67_48, rf_67_49, rf_67_51, rf_67_52, rf_67_53, rf_67_54, rf_67_55, rf_67_60, rf_67_61, rf_67_62, e1, e2, e3, e4, hn, p1, if_neg (show ¬ n ≤ i by omega), if_pos (show M 69 2 < b by omega), b_169_72, k_169_72]
theorem lm_g (n i sn b c : Int) (hn : M 67 3 = n) (hi : 0 ≤ i ∧ i < n ∧ n ≤ 24) (hb : and32 (M 68 i) 255 = b) (hbb : 1 ≤ b ∧ b ≤ 9) (hnb : b ≤ M 69 2 ∧ M 69 2 ≤ 9) (g1 : and32 (shr32 sn b) 1 = 1) (o : AV) : XL (d + 1) 169 31 [aR 22 0 67, aI sn, aI c, aI i, o] [] M Q ↔ Q [aI (-1)] M := by
  have e1 : w32 i = i := w_sm (by omega)
  have e2 : w32 n = n := w_sm (by omega)
  have e3 : w32 (M 69 2) = M 69 2 := w_sm (by omega)
  have e4 : w32 b = b := w_sm (by omega)
  have e5 : w32 0 = 0 := rfl
  have e6 : w32 1 = 1 := rfl
  have p1 : ∀ Q', XC d 135 [aR 22 0 67, aI i] M Q' ↔ Q' [aI b] M := fun Q' => by rw [s_m_octet i (by omega), hb]
  rw [b_169_31, k_169_31]
  simp (disch := first | exact nl_i _ | exact nl_r _ | exact Nat.le_of_ble_eq_true rfl | exact Or.inl rfl | exact Or.inr rfl | exact w8_lo _ | exact w8_hi _ | decide | omega) only [v_fall, v_il_0, v_al_0, v_is_0, v_as_0, v_inc_0, v_ll_0, v_ls_0, v_il_1, v_al_1, v_is_1, v_as_1, v_inc_1, v_ll_1, v_ls_1, v_il_2, v_al_2, v_is_2, v_as_2, v_inc_2, v_ll_2, v_ls_2, v_il_3, v_al_3, v_is_3, v_as_3, v_inc_3, v_ll_3, v_ls_3, v_il_4, v_al_4, v_is_4, v_as_4, v_inc_4, v_ll_4, v_ls_4, v_il_5, v_al_5, v_is_5, v_as_5, v_inc_5, v_ll_5, v_ls_5, v_il_6, v_al_6, v_is_6, v_as_6, v_inc_6, v_il_7, v_al_7, v_is_7, v_as_7, v_inc_7, v_il_8, v_al_8, v_is_8, v_as_8, v_inc_8, v_il_9, v_al_9, v_is_9, v_as_9, v_inc_9, v_il_10, v_al_10, v_is_10, v_as_10, v_inc_10, v_il_11, v_al_11, v_is_11, v_as_11, v_inc_11, v_il_12, v_al_12, v_is_12, v_as_12, v_inc_12, v_il_13, v_al_13, v_is_13, v_as_13, v_inc_13, v_c_8, v_c_9, v_c_10, v_c_11, v_c_12, v_c_13, v_c_14, v_b_15, v_b_16, v_b_17, v_b_21, v_b_22, v_b_23, v_b_24, v_b_25, v_b_26, v_b_18, v_b_19, v_b_20, v_b_27, v_b_28, v_b_29, v_b_30, v_b_31, v_dup_i, v_dup_r, v_dup2, v_pop, v_gi, v_gl, v_gr, v_pi, v_pl, v_pz, v_iald, v_lald, v_bald, v_zald, v_aald, v_iast, v_last, v_bast, v_zast, v_alen_0, v_alen_1, v_alen_2, v_alen_3, v_alen_4, v_j_45, v_j_46, v_j_47, v_j_48, v_j_49, v_j_50, v_j_51, v_j_52, v_j_53, v_j_54, v_j_55, v_j_56, v_goto, v_sw, v_ret_i, v_ret_z, v_ret, v_cpy, v_iv_1, v_iv_2, v_iv_3, v_iv_4, v_iv_5, v_iv_6, v_is2_1, v_is2_2, v_is2_3, v_ivJ, List.nil_append, List.cons_append, rf_0_0, rf_0_1, rf_0_2, rf_0_3, rf_0_4, rf_0_5, rf_0_6, rf_0_7, rf_0_8, rf_0_9, rf_1_0, rf_1_2, rf_4_0, rf_4_1, rf_4_2, rf_5_8, rf_5_9, rf_5_10, rf_5_11, rf_5_12, rf_13_0, rf_13_1, rf_14_0, rf_14_1, rf_14_2, rf_15_8, rf_15_9, rf_15_10, rf_15_11, rf_15_12, rf_23_0, rf_23_1, rf_23_2, rf_24_8, rf_24_9, rf_24_10, rf_24_11, rf_24_12, rf_32_6, rf_34_0, rf_34_1, rf_34_2, rf_34_3, rf_35_8, rf_35_9, rf_35_10, rf_35_11, rf_35_12, rf_43_0, rf_43_1, rf_43_2, rf_43_3, rf_45_0, rf_45_1, rf_46_0, rf_46_1, rf_46_2, rf_46_3, rf_46_4, rf_46_5, rf_47_0, rf_47_1, rf_49_0, rf_49_1, rf_49_2, rf_49_3, rf_49_4, rf_49_5, rf_53_0, rf_53_1, rf_53_2, rf_53_3, rf_53_4, rf_53_5, rf_53_6, rf_53_7, rf_53_9, rf_53_10, rf_53_11, rf_53_12, rf_53_13, rf_54_0, rf_54_1, rf_55_1, rf_55_2, rf_55_3, rf_67_1, rf_67_6, rf_67_7, rf_67_8, rf_67_9, rf_67_10, rf_67_22, rf_67_23, rf_67_28, rf_67_30, rf_67_32, rf_67_33, rf_67_38, rf_67_39, rf_67_48, rf_67_49, rf_67_51, rf_67_52, rf_67_53, rf_67_54, rf_67_55, rf_67_60, rf_67_61, rf_67_62, e1, e2, e3, e4, e5, e6, hn, p1, g1, if_neg (show ¬ n ≤ i by omega), if_neg (show ¬ M 69 2 < b by omega), if_neg (show ¬ b ≤ 0 by omega), if_neg (show ¬ (1 : Int) ≠ 1 by omega), b_169_72, k_169_72]
theorem lm_w (n i c sn : Int) (o : AV) (hn : M 67 3 = n) (hi : 0 ≤ i ∧ i < n ∧ n ≤ 24) (x : Int) (hb : and32 (M 68 i) 255 = x) : XL (d + 1) 169 102 [aR 22 0 67, aI sn, aI c, aI i, o] [] M Q ↔ XL (d + 1) 169 102 [aR 22 0 67, aI sn, aI c, aI (i + 1), o] [] (up M 69 (359 + i) x) Q := by
  have e1 : w32 i = i := w_sm (by omega)
  have e2 : w32 n = n := w_sm (by omega)
  have h0 : 0 ≤ 359 + i := by omega
  have h1 : 359 + i < ((383 : Nat) : Int) := by omega
  have p1 : ∀ Q', XC d 135 [aR 22 0 67, aI i] M Q' ↔ Q' [aI x] M := fun Q' => by rw [s_m_octet i (by omega), hb]
  rw [b_169_102, k_169_102]
  simp (disch := first | exact nl_i _ | exact nl_r _ | exact Nat.le_of_ble_eq_true rfl | exact Or.inl rfl | exact Or.inr rfl | exact w8_lo _ | exact w8_hi _ | decide | omega) only [v_fall, v_il_0, v_al_0, v_is_0, v_as_0, v_inc_0, v_ll_0, v_ls_0, v_il_1, v_al_1, v_is_1, v_as_1, v_inc_1, v_ll_1, v_ls_1, v_il_2, v_al_2, v_is_2, v_as_2, v_inc_2, v_ll_2, v_ls_2, v_il_3, v_al_3, v_is_3, v_as_3, v_inc_3, v_ll_3, v_ls_3, v_il_4, v_al_4, v_is_4, v_as_4, v_inc_4, v_ll_4, v_ls_4, v_il_5, v_al_5, v_is_5, v_as_5, v_inc_5, v_ll_5, v_ls_5, v_il_6, v_al_6, v_is_6, v_as_6, v_inc_6, v_il_7, v_al_7, v_is_7, v_as_7, v_inc_7, v_il_8, v_al_8, v_is_8, v_as_8, v_inc_8, v_il_9, v_al_9, v_is_9, v_as_9, v_inc_9, v_il_10, v_al_10, v_is_10, v_as_10, v_inc_10, v_il_11, v_al_11, v_is_11, v_as_11, v_inc_11, v_il_12, v_al_12, v_is_12, v_as_12, v_inc_12, v_il_13, v_al_13, v_is_13, v_as_13, v_inc_13, v_c_8, v_c_9, v_c_10, v_c_11, v_c_12, v_c_13, v_c_14, v_b_15, v_b_16, v_b_17, v_b_21, v_b_22, v_b_23, v_b_24, v_b_25, v_b_26, v_b_18, v_b_19, v_b_20, v_b_27, v_b_28, v_b_29, v_b_30, v_b_31, v_dup_i, v_dup_r, v_dup2, v_pop, v_gi, v_gl, v_gr, v_pi, v_pl, v_pz, v_iald, v_lald, v_bald, v_zald, v_aald, v_iast, v_last, v_bast, v_zast, v_alen_0, v_alen_1, v_alen_2, v_alen_3, v_alen_4, v_j_45, v_j_46, v_j_47, v_j_48, v_j_49, v_j_50, v_j_51, v_j_52, v_j_53, v_j_54, v_j_55, v_j_56, v_goto, v_sw, v_ret_i, v_ret_z, v_ret, v_cpy, v_iv_1, v_iv_2, v_iv_3, v_iv_4, v_iv_5, v_iv_6, v_is2_1, v_is2_2, v_is2_3, v_ivJ, List.nil_append, List.cons_append, rf_0_0, rf_0_1, rf_0_2, rf_0_3, rf_0_4, rf_0_5, rf_0_6, rf_0_7, rf_0_8, rf_0_9, rf_1_0, rf_1_2, rf_4_0, rf_4_1, rf_4_2, rf_5_8, rf_5_9, rf_5_10, rf_5_11, rf_5_12, rf_13_0, rf_13_1, rf_14_0, rf_14_1, rf_14_2, rf_15_8, rf_15_9, rf_15_10, rf_15_11, rf_15_12, rf_23_0, rf_23_1, rf_23_2, rf_24_8, rf_24_9, rf_24_10, rf_24_11, rf_24_12, rf_32_6, rf_34_0, rf_34_1, rf_34_2, rf_34_3, rf_35_8, rf_35_9, rf_35_10, rf_35_11, rf_35_12, rf_43_0, rf_43_1, rf_43_2, rf_43_3, rf_45_0, rf_45_1, rf_46_0, rf_46_1, rf_46_2, rf_46_3, rf_46_4, rf_46_5, rf_47_0, rf_47_1, rf_49_0, rf_49_1, rf_49_2, rf_49_3, rf_49_4, rf_49_5, rf_53_0, rf_53_1, rf_53_2, rf_53_3, rf_53_4, rf_53_5, rf_53_6, rf_53_7, rf_53_9, rf_53_10, rf_53_11, rf_53_12, rf_53_13, rf_54_0, rf_54_1, rf_55_1, rf_55_2, rf_55_3, rf_67_1, rf_67_6, rf_67_7, rf_67_8, rf_67_9, rf_67_10, rf_67_22, rf_67_23, rf_67_28, rf_67_30, rf_67_32, rf_67_33, rf_67_38, rf_67_39, rf_67_48, rf_67_49, rf_67_51, rf_67_52, rf_67_53, rf_67_54, rf_67_55, rf_67_60, rf_67_61, rf_67_62, e1, e2, hn, p1, if_neg (show ¬ n ≤ i by omega)]
end LM
/-! lay: both sides -/
theorem cnt_one {B : Nat} : ∀ {n : Nat}, B < n → cnt n (fun i => decide (B = i)) = 1
  | 0, h => absurd h (Nat.not_lt_zero _)
  | n + 1, h => by
    by_cases e : B = n
    · subst e
      rw [show cnt (B + 1) (fun i => decide (B = i)) = cnt B (fun i => decide (B = i)) + (decide (B = B)).toNat from rfl, cnt_z (fun i hi => decide_eq_false (by omega)), decide_eq_true rfl]
      rfl
    · rw [show cnt (n + 1) (fun i => decide (B = i)) = cnt n (fun i => decide (B = i)) + (decide (B = n)).toNat from rfl, cnt_one (n := n) (by omega), decide_eq_false e]
      rfl
theorem cnt_set {x B n : Nat} (h : B < n) (hx : x.testBit B = false) : cnt n (x ||| 2 ^ B).testBit = cnt n x.testBit + 1 := by
  rw [← cnt_one h]
  refine (cnt_add (fun i hi => ?_)).symm
  rw [set_t]
  by_cases e : B = i
  · rw [← e, hx, decide_eq_true rfl]; rfl
  · rw [decide_eq_false e, Bool.or_false]; rfl
def SR (st seen : Nat) : Prop := st < 2 ^ 25 ∧ ∀ j, st.testBit (j + 1) = seen.testBit j
section LM2
variable {d : Nat} {M : Mem} {Q : List AV → Mem → Prop}
theorem mlay_l (n : Int) (f : Int → Int) (hn : M 67 3 = n) (hb : n ≤ 24) (hf : ∀ i, and32 (M 68 i) 255 = f i ∧ 0 ≤ f i ∧ f i < 256) (hnb : 0 ≤ M 69 2 ∧ M 69 2 ≤ 9) (kN : ∀ R : Option Nat, R = none → R = none → True) : ∀ (k : Nat) (i c : Int) (st seen : Nat) (o : AV), 0 ≤ i → i + (k : Int) = n → seen < 2 ^ 24 → SR st seen → c = ((cnt 24 seen.testBit : Nat) : Int) → (layF f (M 69 2) k i seen = none → Q [aI (-1)] M) → (∀ s, layF f (M 69 2) k i seen = some s → ∀ st' o', XL (d + 1) 169 100 [aR 22 0 67, aI st', aI ((cnt 24 s.testBit : Nat) : Int), aI n, o'] [] M Q) → XL (d + 1) 169 31 [aR 22 0 67, aI (st : Int), aI c, aI i, o] [] M Q
  | 0, i, c, st, seen, o, h0, hi, hs, hSR, hc, hN, hS => by
    have hi' : i = n := by omega
    rw [hi', lm_0 n _ _ hn ⟨by omega, hb⟩, hc]
    exact hS seen rfl _ _
  | k + 1, i, c, st, seen, o, h0, hi, hs, hSR, hc, hN, hS => by
    have hti := hf i
    have hin : 0 ≤ i ∧ i < n ∧ n ≤ 24 := by omega
    have h0' : 0 ≤ i + 1 := by omega
    have hi' : i + 1 + (k : Int) = n := by omega
    have hst : st < 2147483648 := by have := hSR.1; omega
    unfold layF at hN hS
    by_cases c1 : f i = 0
    · rw [if_pos c1] at hN hS
      have g4 := set32 st 0 (by omega) hst
      rw [lm_z n i _ _ c hn hin (hti.1.trans c1) hnb g4]
      refine mlay_l n f hn hb hf hnb kN k (i + 1) c (st ||| 2 ^ 0) seen _ h0' hi' hs ⟨set_lt hSR.1 (by decide), fun j => ?_⟩ hc hN hS
      rw [set_t, decide_eq_false (by omega), Bool.or_false]
      exact hSR.2 j
    · rw [if_neg c1] at hN hS
      obtain ⟨B, hB⟩ : ∃ B, B = (f i - 1).toNat := ⟨_, rfl⟩
      have hB1 : f i = ((B + 1 : Nat) : Int) := by omega
      rw [← hB] at hN hS
      by_cases c2 : f i ≤ M 69 2
      · have hB2 : B < 9 := by omega
        have g1 := tb32 st (B + 1) (by omega) hst
        have g4 := set32 st (B + 1) (by omega) hst
        rw [hSR.2 B] at g1
        by_cases c3 : seen.testBit B = false
        · rw [c3] at g1
          rw [if_pos ⟨c2, c3⟩] at hN hS
          rw [lm_s n i _ ((B + 1 : Nat) : Int) _ c hn hin (hti.1.trans hB1) (by omega) (by omega) g1 g4]
          refine mlay_l n f hn hb hf hnb kN k (i + 1) (c + 1) (st ||| 2 ^ (B + 1)) (seen ||| 2 ^ B) _ h0' hi' (set_lt hs (by omega)) ⟨set_lt hSR.1 (by omega), fun j => ?_⟩ (by rw [cnt_set (by omega) c3, hc]; rfl) hN hS
          rw [set_t, set_t, hSR.2 j]
          congr 1
          exact decide_eq_decide.mpr (by omega)
        · rw [show seen.testBit B = true by simpa using c3] at g1
          rw [if_neg (fun h9 => c3 h9.2)] at hN
          rw [lm_g n i _ ((B + 1 : Nat) : Int) c hn hin (hti.1.trans hB1) (by omega) (by omega) g1]
          exact hN rfl
      · rw [if_neg (fun h9 => c2 h9.1)] at hN
        rw [lm_f n i _ ((B + 1 : Nat) : Int) c hn hin (hti.1.trans hB1) (by omega) (by omega)]
        exact hN rfl
/-- what the reference writes -/
def layM (M : Mem) (n : Int) : Mem := fun b j => if b = 69 ∧ 359 ≤ j ∧ j < 359 + n then and32 (M 68 (j - 359)) 255 else M b j
theorem layM_b {n : Int} {b : Nat} {j : Int} (h : b ≠ 69) : layM M n b j = M b j := if_neg (fun h9 => h h9.1)
theorem layM_s {n : Int} (h : 0 ≤ n) : up (layM M n) 69 (359 + n) (and32 (M 68 n) 255) = layM M (n + 1) := by
  funext b j
  unfold up layM
  by_cases h1 : b = 69
  · by_cases h2 : j = 359 + n
    · rw [if_pos ⟨h1, h2⟩, if_pos ⟨h1, by omega, by omega⟩, show j - 359 = n by omega]
    · rw [if_neg (fun h9 => h2 h9.2)]
      by_cases h3 : 359 ≤ j ∧ j < 359 + n
      · rw [if_pos ⟨h1, h3⟩, if_pos ⟨h1, by omega, by omega⟩]
      · rw [if_neg (fun h9 => h3 h9.2), if_neg (fun h9 => h3 ⟨h9.2.1, by omega⟩)]
  · rw [if_neg (fun h9 => h1 h9.1), if_neg (fun h9 => h1 h9.1), if_neg (fun h9 => h1 h9.1)]
theorem layM_0 : layM M 0 = M := by
  funext b j
  exact if_neg (by omega)
theorem mlay_w (n c sn : Int) (o : AV) (hn : M 67 3 = n) (hb : n ≤ 24) : ∀ (k : Nat) (i : Int), 0 ≤ i → i + (k : Int) = n → (XL (d + 1) 169 102 [aR 22 0 67, aI sn, aI c, aI i, o] [] (layM M i) Q ↔ Q [aI c] (layM M n))
  | 0, i, h0, h => by
    have hi : i = n := by omega
    have e2 : w32 n = n := w_sm (by omega)
    have e3 : layM M n 67 3 = n := by rw [layM_b (by decide)]; exact hn
    rw [hi]
    rw [b_169_102, k_169_102]
    simp (disch := first | exact nl_i _ | exact nl_r _ | exact Nat.le_of_ble_eq_true rfl | exact Or.inl rfl | exact Or.inr rfl | exact w8_lo _ | exact w8_hi _ | decide | omega) only [v_fall, v_il_0, v_al_0, v_is_0, v_as_0, v_inc_0, v_ll_0, v_ls_0, v_il_1, v_al_1, v_is_1, v_as_1, v_inc_1, v_ll_1, v_ls_1, v_il_2, v_al_2, v_is_2, v_as_2, v_inc_2, v_ll_2, v_ls_2, v_il_3, v_al_3, v_is_3, v_as_3, v_inc_3, v_ll_3, v_ls_3, v_il_4, v_al_4, v_is_4, v_as_4, v_inc_4, v_ll_4, v_ls_4, v_il_5, v_al_5, v_is_5, v_as_5, v_inc_5, v_ll_5, v_ls_5, v_il_6, v_al_6, v_is_6, v_as_6, v_inc_6, v_il_7, v_al_7, v_is_7, v_as_7, v_inc_7, v_il_8, v_al_8, v_is_8, v_as_8, v_inc_8, v_il_9, v_al_9, v_is_9, v_as_9, v_inc_9, v_il_10, v_al_10, v_is_10, v_as_10, v_inc_10, v_il_11, v_al_11, v_is_11, v_as_11, v_inc_11, v_il_12, v_al_12, v_is_12, v_as_12, v_inc_12, v_il_13, v_al_13, v_is_13, v_as_13, v_inc_13, v_c_8, v_c_9, v_c_10, v_c_11, v_c_12, v_c_13, v_c_14, v_b_15, v_b_16, v_b_17, v_b_21, v_b_22, v_b_23, v_b_24, v_b_25, v_b_26, v_b_18, v_b_19, v_b_20, v_b_27, v_b_28, v_b_29, v_b_30, v_b_31, v_dup_i, v_dup_r, v_dup2, v_pop, v_gi, v_gl, v_gr, v_pi, v_pl, v_pz, v_iald, v_lald, v_bald, v_zald, v_aald, v_iast, v_last, v_bast, v_zast, v_alen_0, v_alen_1, v_alen_2, v_alen_3, v_alen_4, v_j_45, v_j_46, v_j_47, v_j_48, v_j_49, v_j_50, v_j_51, v_j_52, v_j_53, v_j_54, v_j_55, v_j_56, v_goto, v_sw, v_ret_i, v_ret_z, v_ret, v_cpy, v_iv_1, v_iv_2, v_iv_3, v_iv_4, v_iv_5, v_iv_6, v_is2_1, v_is2_2, v_is2_3, v_ivJ, List.nil_append, List.cons_append, rf_0_0, rf_0_1, rf_0_2, rf_0_3, rf_0_4, rf_0_5, rf_0_6, rf_0_7, rf_0_8, rf_0_9, rf_1_0, rf_1_2, rf_4_0, rf_4_1, rf_4_2, rf_5_8, rf_5_9, rf_5_10, rf_5_11, rf_5_12, rf_13_0, rf_13_1, rf_14_0, rf_14_1, rf_14_2, rf_15_8, rf_15_9, rf_15_10, rf_15_11, rf_15_12, rf_23_0, rf_23_1, rf_23_2, rf_24_8, rf_24_9, rf_24_10, rf_24_11, rf_24_12, rf_32_6, rf_34_0, rf_34_1, rf_34_2, rf_34_3, rf_35_8, rf_35_9, rf_35_10, rf_35_11, rf_35_12, rf_43_0, rf_43_1, rf_43_2, rf_43_3, rf_45_0, rf_45_1, rf_46_0, rf_46_1, rf_46_2, rf_46_3, rf_46_4, rf_46_5, rf_47_0, rf_47_1, rf_49_0, rf_49_1, rf_49_2, rf_49_3, rf_49_4, rf_49_5, rf_53_0, rf_53_1, rf_53_2, rf_53_3, rf_53_4, rf_53_5, rf_53_6, rf_53_7, rf_53_9, rf_53_10, rf_53_11, rf_53_12, rf_53_13, rf_54_0, rf_54_1, rf_55_1, rf_55_2, rf_55_3, rf_67_1, rf_67_6, rf_67_7, rf_67_8, rf_67_9, rf_67_10, rf_67_22, rf_67_23, rf_67_28, rf_67_30, rf_67_32, rf_67_33, rf_67_38, rf_67_39, rf_67_48, rf_67_49, rf_67_51, rf_67_52, rf_67_53, rf_67_54, rf_67_55, rf_67_60, rf_67_61, rf_67_62, e2, e3, if_pos (show n ≤ n by omega), b_169_131, k_169_131]
  | k + 1, i, h0, h => by
    rw [lm_w n i c sn o (by rw [layM_b (by decide)]; exact hn) ⟨h0, by omega, hb⟩ (and32 (M 68 i) 255) (by rw [layM_b (by decide)]), layM_s h0]
    exact mlay_w n c sn o hn hb k (i + 1) (by omega) (by omega)
def takM (M : Mem) (m : Int) : Mem := up (up (up (up (up M 67 0 0) 67 3 (M 67 2)) 67 2 0) 67 4 0) 67 5 m
theorem takM_b {m : Int} {b : Nat} (h : b ≠ 67) : takM M m b = M b := by
  funext j
  unfold takM
  rw [up_b h, up_b h, up_b h, up_b h, up_b h]
theorem takM_3 {m : Int} : takM M m 67 3 = M 67 2 := by
  unfold takM
  rw [up_j (by decide), up_j (by decide), up_j (by decide), up_s]
theorem takM_2 {m : Int} : takM M m 67 2 = 0 := by
  unfold takM
  rw [up_j (by decide), up_j (by decide), up_s]
theorem takM_o {m j : Int} (h0 : j ≠ 0) (h2 : j < 2 ∨ 5 < j) : takM M m 67 j = M 67 j := by
  unfold takM
  rw [up_j (by omega), up_j (by omega), up_j (by omega), up_j (by omega), up_j h0]
theorem s_m_lay (f : Int → Int) (hf : ∀ i, and32 (M 68 i) 255 = f i ∧ 0 ≤ f i ∧ f i < 256) (n m : Int) (hl : M 67 2 = n) (hlb : 0 ≤ n ∧ n ≤ 940) (hc : M 69 3 * M 69 4 = m) (hm : 0 ≤ m ∧ m ≤ 24) (hnb : 0 ≤ M 69 2 ∧ M 69 2 ≤ 9) (h1 : n ≠ m → Q [aI (-1)] (takM M 940)) (h2 : n = m → layF f (M 69 2) n.toNat 0 0 = none → Q [aI (-1)] (takM M 940)) (h3 : ∀ s, n = m → layF f (M 69 2) n.toNat 0 0 = some s → Q [aI ((cnt 24 s.testBit : Nat) : Int)] (layM (takM M 940) n)) : XC (d + 2) 169 [aR 22 0 67] M Q := by
  have p1 : ∀ Q', XC (d + 1) 133 [aR 22 0 67, aI 940] (up M 67 0 0) Q' ↔ Q' [] (takM M 940) := fun Q' => by rw [s_m_taken]; unfold takM; rw [up_j (show (2 : Int) ≠ 0 by decide)]
  have t3 : takM M 940 67 3 = n := takM_3.trans hl
  have p2 : ∀ Q', XC (d + 1) 167 [aR 22 0 67] (takM M 940) Q' ↔ Q' [aI m] (takM M 940) := fun Q' => by rw [s_m_cells, takM_b (by decide), hc]
  have e1 : w32 n = n := w_sm (by omega)
  have e2 : w32 m = m := w_sm (by omega)
  by_cases e : n = m
  · have g : XL (d + 2) 169 31 [aR 22 0 67, aI ((0 : Nat) : Int), aI 0, aI 0, aU] [] (takM M 940) Q := by
      refine mlay_l n f t3 (by omega) (fun i => by rw [takM_b (by decide)]; exact hf i) (by rw [takM_b (by decide)]; exact hnb) (fun _ _ _ => trivial) n.toNat 0 0 0 0 aU (by omega) (by omega) (by decide) ⟨by decide, fun j => by rw [Nat.zero_testBit, Nat.zero_testBit]⟩ ?_ ?_ ?_
      · rw [cnt_z (fun i _ => Nat.zero_testBit i)]; rfl
      · rw [takM_b (by decide)]
        exact h2 e
      · rw [takM_b (by decide)]
        intro s hs st' o'
        have g9 := (mlay_w (d := d + 1) (M := takM M 940) (Q := Q) n ((cnt 24 s.testBit : Nat) : Int) st' o' t3 (by omega) n.toNat 0 (by omega) (by omega)).mpr (h3 s e hs)
        rw [layM_0] at g9
        generalize ((cnt 24 s.testBit : Nat) : Int) = z at g9 ⊢
        clear h1 h2 h3 hf
        rw [b_169_100, k_169_100]
        simp (disch := first | exact nl_i _ | exact nl_r _ | exact Nat.le_of_ble_eq_true rfl | exact Or.inl rfl | exact Or.inr rfl | exact w8_lo _ | exact w8_hi _ | decide | omega) only [v_fall, v_il_0, v_al_0, v_is_0, v_as_0, v_inc_0, v_ll_0, v_ls_0, v_il_1, v_al_1, v_is_1, v_as_1, v_inc_1, v_ll_1, v_ls_1, v_il_2, v_al_2, v_is_2, v_as_2, v_inc_2, v_ll_2, v_ls_2, v_il_3, v_al_3, v_is_3, v_as_3, v_inc_3, v_ll_3, v_ls_3, v_il_4, v_al_4, v_is_4, v_as_4, v_inc_4, v_ll_4, v_ls_4, v_il_5, v_al_5, v_is_5, v_as_5, v_inc_5, v_ll_5, v_ls_5, v_il_6, v_al_6, v_is_6, v_as_6, v_inc_6, v_il_7, v_al_7, v_is_7, v_as_7, v_inc_7, v_il_8, v_al_8, v_is_8, v_as_8, v_inc_8, v_il_9, v_al_9, v_is_9, v_as_9, v_inc_9, v_il_10, v_al_10, v_is_10, v_as_10, v_inc_10, v_il_11, v_al_11, v_is_11, v_as_11, v_inc_11, v_il_12, v_al_12, v_is_12, v_as_12, v_inc_12, v_il_13, v_al_13, v_is_13, v_as_13, v_inc_13, v_c_8, v_c_9, v_c_10, v_c_11, v_c_12, v_c_13, v_c_14, v_b_15, v_b_16, v_b_17, v_b_21, v_b_22, v_b_23, v_b_24, v_b_25, v_b_26, v_b_18, v_b_19, v_b_20, v_b_27, v_b_28, v_b_29, v_b_30, v_b_31, v_dup_i, v_dup_r, v_dup2, v_pop, v_gi, v_gl, v_gr, v_pi, v_pl, v_pz, v_iald, v_lald, v_bald, v_zald, v_aald, v_iast, v_last, v_bast, v_zast, v_alen_0, v_alen_1, v_alen_2, v_alen_3, v_alen_4, v_j_45, v_j_46, v_j_47, v_j_48, v_j_49, v_j_50, v_j_51, v_j_52, v_j_53, v_j_54, v_j_55, v_j_56, v_goto, v_sw, v_ret_i, v_ret_z, v_ret, v_cpy, v_iv_1, v_iv_2, v_iv_3, v_iv_4, v_iv_5, v_iv_6, v_is2_1, v_is2_2, v_is2_3, v_ivJ, List.nil_append, List.cons_append, rf_0_0, rf_0_1, rf_0_2, rf_0_3, rf_0_4, rf_0_5, rf_0_6, rf_0_7, rf_0_8, rf_0_9, rf_1_0, rf_1_2, rf_4_0, rf_4_1, rf_4_2, rf_5_8, rf_5_9, rf_5_10, rf_5_11, rf_5_12, rf_13_0, rf_13_1, rf_14_0, rf_14_1, rf_14_2, rf_15_8, rf_15_9, rf_15_10, rf_15_11, rf_15_12, rf_23_0, rf_23_1, rf_23_2, rf_24_8, rf_24_9, rf_24_10, rf_24_11, rf_24_12, rf_32_6, rf_34_0, rf_34_1, rf_34_2, rf_34_3, rf_35_8, rf_35_9, rf_35_10, rf_35_11, rf_35_12, rf_43_0, rf_43_1, rf_43_2, rf_43_3, rf_45_0, rf_45_1, rf_46_0, rf_46_1, rf_46_2, rf_46_3, rf_46_4, rf_46_5, rf_47_0, rf_47_1, rf_49_0, rf_49_1, rf_49_2, rf_49_3, rf_49_4, rf_49_5, rf_53_0, rf_53_1, rf_53_2, rf_53_3, rf_53_4, rf_53_5, rf_53_6, rf_53_7, rf_53_9, rf_53_10, rf_53_11, rf_53_12, rf_53_13, rf_54_0, rf_54_1, rf_55_1, rf_55_2, rf_55_3, rf_67_1, rf_67_6, rf_67_7, rf_67_8, rf_67_9, rf_67_10, rf_67_22, rf_67_23, rf_67_28, rf_67_30, rf_67_32, rf_67_33, rf_67_38, rf_67_39, rf_67_48, rf_67_49, rf_67_51, rf_67_52, rf_67_53, rf_67_54, rf_67_55, rf_67_60, rf_67_61, rf_67_62]
        exact g9
    clear h1 h2 h3 hf
    rw [e_169, k_169_0]
    simp (disch := first | exact nl_i _ | exact nl_r _ | exact Nat.le_of_ble_eq_true rfl | exact Or.inl rfl | exact Or.inr rfl | exact w8_lo _ | exact w8_hi _ | decide | omega) only [v_fall, v_il_0, v_al_0, v_is_0, v_as_0, v_inc_0, v_ll_0, v_ls_0, v_il_1, v_al_1, v_is_1, v_as_1, v_inc_1, v_ll_1, v_ls_1, v_il_2, v_al_2, v_is_2, v_as_2, v_inc_2, v_ll_2, v_ls_2, v_il_3, v_al_3, v_is_3, v_as_3, v_inc_3, v_ll_3, v_ls_3, v_il_4, v_al_4, v_is_4, v_as_4, v_inc_4, v_ll_4, v_ls_4, v_il_5, v_al_5, v_is_5, v_as_5, v_inc_5, v_ll_5, v_ls_5, v_il_6, v_al_6, v_is_6, v_as_6, v_inc_6, v_il_7, v_al_7, v_is_7, v_as_7, v_inc_7, v_il_8, v_al_8, v_is_8, v_as_8, v_inc_8, v_il_9, v_al_9, v_is_9, v_as_9, v_inc_9, v_il_10, v_al_10, v_is_10, v_as_10, v_inc_10, v_il_11, v_al_11, v_is_11, v_as_11, v_inc_11, v_il_12, v_al_12, v_is_12, v_as_12, v_inc_12, v_il_13, v_al_13, v_is_13, v_as_13, v_inc_13, v_c_8, v_c_9, v_c_10, v_c_11, v_c_12, v_c_13, v_c_14, v_b_15, v_b_16, v_b_17, v_b_21, v_b_22, v_b_23, v_b_24, v_b_25, v_b_26, v_b_18, v_b_19, v_b_20, v_b_27, v_b_28, v_b_29, v_b_30, v_b_31, v_dup_i, v_dup_r, v_dup2, v_pop, v_gi, v_gl, v_gr, v_pi, v_pl, v_pz, v_iald, v_lald, v_bald, v_zald, v_aald, v_iast, v_last, v_bast, v_zast, v_alen_0, v_alen_1, v_alen_2, v_alen_3, v_alen_4, v_j_45, v_j_46, v_j_47, v_j_48, v_j_49, v_j_50, v_j_51, v_j_52, v_j_53, v_j_54, v_j_55, v_j_56, v_goto, v_sw, v_ret_i, v_ret_z, v_ret, v_cpy, v_iv_1, v_iv_2, v_iv_3, v_iv_4, v_iv_5, v_iv_6, v_is2_1, v_is2_2, v_is2_3, v_ivJ, List.nil_append, List.cons_append, rf_0_0, rf_0_1, rf_0_2, rf_0_3, rf_0_4, rf_0_5, rf_0_6, rf_0_7, rf_0_8, rf_0_9, rf_1_0, rf_1_2, rf_4_0, rf_4_1, rf_4_2, rf_5_8, rf_5_9, rf_5_10, rf_5_11, rf_5_12, rf_13_0, rf_13_1, rf_14_0, rf_14_1, rf_14_2, rf_15_8, rf_15_9, rf_15_10, rf_15_11, rf_15_12, rf_23_0, rf_23_1, rf_23_2, rf_24_8, rf_24_9, rf_24_10, rf_24_11, rf_24_12, rf_32_6, rf_34_0, rf_34_1, rf_34_2, rf_34_3, rf_35_8, rf_35_9, rf_35_10, rf_35_11, rf_35_12, rf_43_0, rf_43_1, rf_43_2, rf_43_3, rf_45_0, rf_45_1, rf_46_0, rf_46_1, rf_46_2, rf_46_3, rf_46_4, rf_46_5, rf_47_0, rf_47_1, rf_49_0, rf_49_1, rf_49_2, rf_49_3, rf_49_4, rf_49_5, rf_53_0, rf_53_1, rf_53_2, rf_53_3, rf_53_4, rf_53_5, rf_53_6, rf_53_7, rf_53_9, rf_53_10, rf_53_11, rf_53_12, rf_53_13, rf_54_0, rf_54_1, rf_55_1, rf_55_2, rf_55_3, rf_67_1, rf_67_6, rf_67_7, rf_67_8, rf_67_9, rf_67_10, rf_67_22, rf_67_23, rf_67_28, rf_67_30, rf_67_32, rf_67_33, rf_67_38, rf_67_39, rf_67_48, rf_67_49, rf_67_51, rf_67_52, rf_67_53, rf_67_54, rf_67_55, rf_67_60, rf_67_61, rf_67_62, p1, p2, t3, e1, e2, if_pos e, b_169_25, k_169_25]
    exact g
  · clear h2 h3 hf
    rw [e_169, k_169_0]
    simp (disch := first | exact nl_i _ | exact nl_r _ | exact Nat.le_of_ble_eq_true rfl | exact Or.inl rfl | exact Or.inr rfl | exact w8_lo _ | exact w8_hi _ | decide | omega) only [v_fall, v_il_0, v_al_0, v_is_0, v_as_0, v_inc_0, v_ll_0, v_ls_0, v_il_1, v_al_1, v_is_1, v_as_1, v_inc_1, v_ll_1, v_ls_1, v_il_2, v_al_2, v_is_2, v_as_2, v_inc_2, v_ll_2, v_ls_2, v_il_3, v_al_3, v_is_3, v_as_3, v_inc_3, v_ll_3, v_ls_3, v_il_4, v_al_4, v_is_4, v_as_4, v_inc_4, v_ll_4, v_ls_4, v_il_5, v_al_5, v_is_5, v_as_5, v_inc_5, v_ll_5, v_ls_5, v_il_6, v_al_6, v_is_6, v_as_6, v_inc_6, v_il_7, v_al_7, v_is_7, v_as_7, v_inc_7, v_il_8, v_al_8, v_is_8, v_as_8, v_inc_8, v_il_9, v_al_9, v_is_9, v_as_9, v_inc_9, v_il_10, v_al_10, v_is_10, v_as_10, v_inc_10, v_il_11, v_al_11, v_is_11, v_as_11, v_inc_11, v_il_12, v_al_12, v_is_12, v_as_12, v_inc_12, v_il_13, v_al_13, v_is_13, v_as_13, v_inc_13, v_c_8, v_c_9, v_c_10, v_c_11, v_c_12, v_c_13, v_c_14, v_b_15, v_b_16, v_b_17, v_b_21, v_b_22, v_b_23, v_b_24, v_b_25, v_b_26, v_b_18, v_b_19, v_b_20, v_b_27, v_b_28, v_b_29, v_b_30, v_b_31, v_dup_i, v_dup_r, v_dup2, v_pop, v_gi, v_gl, v_gr, v_pi, v_pl, v_pz, v_iald, v_lald, v_bald, v_zald, v_aald, v_iast, v_last, v_bast, v_zast, v_alen_0, v_alen_1, v_alen_2, v_alen_3, v_alen_4, v_j_45, v_j_46, v_j_47, v_j_48, v_j_49, v_j_50, v_j_51, v_j_52, v_j_53, v_j_54, v_j_55, v_j_56, v_goto, v_sw, v_ret_i, v_ret_z, v_ret, v_cpy, v_iv_1, v_iv_2, v_iv_3, v_iv_4, v_iv_5, v_iv_6, v_is2_1, v_is2_2, v_is2_3, v_ivJ, List.nil_append, List.cons_append, rf_0_0, rf_0_1, rf_0_2, rf_0_3, rf_0_4, rf_0_5, rf_0_6, rf_0_7, rf_0_8, rf_0_9, rf_1_0, rf_1_2, rf_4_0, rf_4_1, rf_4_2, rf_5_8, rf_5_9, rf_5_10, rf_5_11, rf_5_12, rf_13_0, rf_13_1, rf_14_0, rf_14_1, rf_14_2, rf_15_8, rf_15_9, rf_15_10, rf_15_11, rf_15_12, rf_23_0, rf_23_1, rf_23_2, rf_24_8, rf_24_9, rf_24_10, rf_24_11, rf_24_12, rf_32_6, rf_34_0, rf_34_1, rf_34_2, rf_34_3, rf_35_8, rf_35_9, rf_35_10, rf_35_11, rf_35_12, rf_43_0, rf_43_1, rf_43_2, rf_43_3, rf_45_0, rf_45_1, rf_46_0, rf_46_1, rf_46_2, rf_46_3, rf_46_4, rf_46_5, rf_47_0, rf_47_1, rf_49_0, rf_49_1, rf_49_2, rf_49_3, rf_49_4, rf_49_5, rf_53_0, rf_53_1, rf_53_2, rf_53_3, rf_53_4, rf_53_5, rf_53_6, rf_53_7, rf_53_9, rf_53_10, rf_53_11, rf_53_12, rf_53_13, rf_54_0, rf_54_1, rf_55_1, rf_55_2, rf_55_3, rf_67_1, rf_67_6, rf_67_7, rf_67_8, rf_67_9, rf_67_10, rf_67_22, rf_67_23, rf_67_28, rf_67_30, rf_67_32, rf_67_33, rf_67_38, rf_67_39, rf_67_48, rf_67_49, rf_67_51, rf_67_52, rf_67_53, rf_67_54, rf_67_55, rf_67_60, rf_67_61, rf_67_62, p1, p2, t3, e1, e2, if_neg e]
    exact h1 e
end LM2
theorem layF_ok {f : Int → Int} {nb : Int} (hf : ∀ i, 0 ≤ f i) : ∀ (k : Nat) (i : Int) (seen s : Nat), layF f nb k i seen = some s → ∀ j, i ≤ j → j < i + k → (f j = 0 ∨ (f j ≤ nb ∧ seen.testBit (f j - 1).toNat = false)) ∧ ∀ j', i ≤ j' → j' < i + k → f j' = f j → f j = 0 ∨ j' = j
  | 0, i, seen, s, _, j, h1, h2 => by omega
  | k + 1, i, seen, s, h, j, h1, h2 => by
    have hi := hf i
    have hj := hf j
    unfold layF at h
    by_cases c1 : f i = 0
    · rw [if_pos c1] at h
      have ih := layF_ok hf k (i + 1) seen s h
      by_cases e : j = i
      · subst e
        exact ⟨Or.inl c1, fun _ _ _ _ => Or.inl c1⟩
      · have h9 := ih j (by omega) (by omega)
        refine ⟨h9.1, fun j' g1 g2 g3 => ?_⟩
        by_cases e' : j' = i
        · subst e'
          exact Or.inl (by omega)
        · exact h9.2 j' (by omega) (by omega) g3
    · rw [if_neg c1] at h
      by_cases c2 : f i ≤ nb ∧ seen.testBit (f i - 1).toNat = false
      · rw [if_pos c2] at h
        have ih := layF_ok hf k (i + 1) _ s h
        have key : ∀ j, i + 1 ≤ j → j < i + 1 + k → f j = f i → f j = 0 := fun j g1 g2 g3 => by
          have h9 := (ih j g1 g2).1
          rw [g3] at h9 ⊢
          rcases h9 with h9 | h9
          · exact h9
          · have h10 := h9.2
            rw [set_t, decide_eq_true rfl, Bool.or_true] at h10
            exact absurd h10 (by decide)
        by_cases e : j = i
        · subst e
          refine ⟨Or.inr c2, fun j' g1 g2 g3 => ?_⟩
          by_cases e' : j' = j
          · exact Or.inr e'
          · exact Or.inl (by rw [← g3]; exact key j' (by omega) (by omega) g3)
        · have h9 := ih j (by omega) (by omega)
          refine ⟨h9.1.imp (fun h => h) (fun h => ⟨h.1, ?_⟩), fun j' g1 g2 g3 => ?_⟩
          · have h10 := h.2
            rw [set_t] at h10
            exact (Bool.or_eq_false_iff.mp h10).1
          · by_cases e' : j' = i
            · subst e'
              exact Or.inl (key j (by omega) (by omega) g3.symm)
            · exact h9.2 j' (by omega) (by omega) g3
      · rw [if_neg c2] at h
        exact absurd h (by simp)
section XL9
variable {d : Nat} {M : Mem} {Q : List AV → Mem → Prop}
theorem s_x_layable (n m : Int) (hl : M 1 1 = n) (hlb : 0 ≤ n ∧ n ≤ 940) (hm : M 32 2 = m) (hmb : 0 ≤ m ∧ m ≤ 24) (h : RI M) (ht : ∀ i, 0 ≤ M 2 i ∧ M 2 i < 256) : XC (d + 1) 101 [aR 21 0 0] M Q ↔ Q [aI (if n = m then layR (layF (M 2) (M 5 2) n.toNat 0 0) else -1)] M := by
  have e1 : w32 n = n := w_sm (by omega)
  have e2 : w32 m = m := w_sm (by omega)
  by_cases e : n = m
  · have g := layable_l (d := d) (Q := Q) n (hm.trans e.symm) (by omega) h ht n.toNat 0 0 aU (by omega) (by omega) (by decide)
    rw [if_pos e, ← g]
    clear g ht h
    rw [e_101, k_101_0]
    simp (disch := first | exact nl_i _ | exact nl_r _ | exact Nat.le_of_ble_eq_true rfl | exact Or.inl rfl | exact Or.inr rfl | exact w8_lo _ | exact w8_hi _ | decide | omega) only [v_fall, v_il_0, v_al_0, v_is_0, v_as_0, v_inc_0, v_ll_0, v_ls_0, v_il_1, v_al_1, v_is_1, v_as_1, v_inc_1, v_ll_1, v_ls_1, v_il_2, v_al_2, v_is_2, v_as_2, v_inc_2, v_ll_2, v_ls_2, v_il_3, v_al_3, v_is_3, v_as_3, v_inc_3, v_ll_3, v_ls_3, v_il_4, v_al_4, v_is_4, v_as_4, v_inc_4, v_ll_4, v_ls_4, v_il_5, v_al_5, v_is_5, v_as_5, v_inc_5, v_ll_5, v_ls_5, v_il_6, v_al_6, v_is_6, v_as_6, v_inc_6, v_il_7, v_al_7, v_is_7, v_as_7, v_inc_7, v_il_8, v_al_8, v_is_8, v_as_8, v_inc_8, v_il_9, v_al_9, v_is_9, v_as_9, v_inc_9, v_il_10, v_al_10, v_is_10, v_as_10, v_inc_10, v_il_11, v_al_11, v_is_11, v_as_11, v_inc_11, v_il_12, v_al_12, v_is_12, v_as_12, v_inc_12, v_il_13, v_al_13, v_is_13, v_as_13, v_inc_13, v_c_8, v_c_9, v_c_10, v_c_11, v_c_12, v_c_13, v_c_14, v_b_15, v_b_16, v_b_17, v_b_21, v_b_22, v_b_23, v_b_24, v_b_25, v_b_26, v_b_18, v_b_19, v_b_20, v_b_27, v_b_28, v_b_29, v_b_30, v_b_31, v_dup_i, v_dup_r, v_dup2, v_pop, v_gi, v_gl, v_gr, v_pi, v_pl, v_pz, v_iald, v_lald, v_bald, v_zald, v_aald, v_iast, v_last, v_bast, v_zast, v_alen_0, v_alen_1, v_alen_2, v_alen_3, v_alen_4, v_j_45, v_j_46, v_j_47, v_j_48, v_j_49, v_j_50, v_j_51, v_j_52, v_j_53, v_j_54, v_j_55, v_j_56, v_goto, v_sw, v_ret_i, v_ret_z, v_ret, v_cpy, v_iv_1, v_iv_2, v_iv_3, v_iv_4, v_iv_5, v_iv_6, v_is2_1, v_is2_2, v_is2_3, v_ivJ, List.nil_append, List.cons_append, rf_0_0, rf_0_1, rf_0_2, rf_0_3, rf_0_4, rf_0_5, rf_0_6, rf_0_7, rf_0_8, rf_0_9, rf_1_0, rf_1_2, rf_4_0, rf_4_1, rf_4_2, rf_5_8, rf_5_9, rf_5_10, rf_5_11, rf_5_12, rf_13_0, rf_13_1, rf_14_0, rf_14_1, rf_14_2, rf_15_8, rf_15_9, rf_15_10, rf_15_11, rf_15_12, rf_23_0, rf_23_1, rf_23_2, rf_24_8, rf_24_9, rf_24_10, rf_24_11, rf_24_12, rf_32_6, rf_34_0, rf_34_1, rf_34_2, rf_34_3, rf_35_8, rf_35_9, rf_35_10, rf_35_11, rf_35_12, rf_43_0, rf_43_1, rf_43_2, rf_43_3, rf_45_0, rf_45_1, rf_46_0, rf_46_1, rf_46_2, rf_46_3, rf_46_4, rf_46_5, rf_47_0, rf_47_1, rf_49_0, rf_49_1, rf_49_2, rf_49_3, rf_49_4, rf_49_5, rf_53_0, rf_53_1, rf_53_2, rf_53_3, rf_53_4, rf_53_5, rf_53_6, rf_53_7, rf_53_9, rf_53_10, rf_53_11, rf_53_12, rf_53_13, rf_54_0, rf_54_1, rf_55_1, rf_55_2, rf_55_3, rf_67_1, rf_67_6, rf_67_7, rf_67_8, rf_67_9, rf_67_10, rf_67_22, rf_67_23, rf_67_28, rf_67_30, rf_67_32, rf_67_33, rf_67_38, rf_67_39, rf_67_48, rf_67_49, rf_67_51, rf_67_52, rf_67_53, rf_67_54, rf_67_55, rf_67_60, rf_67_61, rf_67_62, hl, hm, e1, e2, if_pos e, b_101_19, k_101_19]
    rfl
  · rw [if_neg e]
    clear ht h
    rw [e_101, k_101_0]
    simp (disch := first | exact nl_i _ | exact nl_r _ | exact Nat.le_of_ble_eq_true rfl | exact Or.inl rfl | exact Or.inr rfl | exact w8_lo _ | exact w8_hi _ | decide | omega) only [v_fall, v_il_0, v_al_0, v_is_0, v_as_0, v_inc_0, v_ll_0, v_ls_0, v_il_1, v_al_1, v_is_1, v_as_1, v_inc_1, v_ll_1, v_ls_1, v_il_2, v_al_2, v_is_2, v_as_2, v_inc_2, v_ll_2, v_ls_2, v_il_3, v_al_3, v_is_3, v_as_3, v_inc_3, v_ll_3, v_ls_3, v_il_4, v_al_4, v_is_4, v_as_4, v_inc_4, v_ll_4, v_ls_4, v_il_5, v_al_5, v_is_5, v_as_5, v_inc_5, v_ll_5, v_ls_5, v_il_6, v_al_6, v_is_6, v_as_6, v_inc_6, v_il_7, v_al_7, v_is_7, v_as_7, v_inc_7, v_il_8, v_al_8, v_is_8, v_as_8, v_inc_8, v_il_9, v_al_9, v_is_9, v_as_9, v_inc_9, v_il_10, v_al_10, v_is_10, v_as_10, v_inc_10, v_il_11, v_al_11, v_is_11, v_as_11, v_inc_11, v_il_12, v_al_12, v_is_12, v_as_12, v_inc_12, v_il_13, v_al_13, v_is_13, v_as_13, v_inc_13, v_c_8, v_c_9, v_c_10, v_c_11, v_c_12, v_c_13, v_c_14, v_b_15, v_b_16, v_b_17, v_b_21, v_b_22, v_b_23, v_b_24, v_b_25, v_b_26, v_b_18, v_b_19, v_b_20, v_b_27, v_b_28, v_b_29, v_b_30, v_b_31, v_dup_i, v_dup_r, v_dup2, v_pop, v_gi, v_gl, v_gr, v_pi, v_pl, v_pz, v_iald, v_lald, v_bald, v_zald, v_aald, v_iast, v_last, v_bast, v_zast, v_alen_0, v_alen_1, v_alen_2, v_alen_3, v_alen_4, v_j_45, v_j_46, v_j_47, v_j_48, v_j_49, v_j_50, v_j_51, v_j_52, v_j_53, v_j_54, v_j_55, v_j_56, v_goto, v_sw, v_ret_i, v_ret_z, v_ret, v_cpy, v_iv_1, v_iv_2, v_iv_3, v_iv_4, v_iv_5, v_iv_6, v_is2_1, v_is2_2, v_is2_3, v_ivJ, List.nil_append, List.cons_append, rf_0_0, rf_0_1, rf_0_2, rf_0_3, rf_0_4, rf_0_5, rf_0_6, rf_0_7, rf_0_8, rf_0_9, rf_1_0, rf_1_2, rf_4_0, rf_4_1, rf_4_2, rf_5_8, rf_5_9, rf_5_10, rf_5_11, rf_5_12, rf_13_0, rf_13_1, rf_14_0, rf_14_1, rf_14_2, rf_15_8, rf_15_9, rf_15_10, rf_15_11, rf_15_12, rf_23_0, rf_23_1, rf_23_2, rf_24_8, rf_24_9, rf_24_10, rf_24_11, rf_24_12, rf_32_6, rf_34_0, rf_34_1, rf_34_2, rf_34_3, rf_35_8, rf_35_9, rf_35_10, rf_35_11, rf_35_12, rf_43_0, rf_43_1, rf_43_2, rf_43_3, rf_45_0, rf_45_1, rf_46_0, rf_46_1, rf_46_2, rf_46_3, rf_46_4, rf_46_5, rf_47_0, rf_47_1, rf_49_0, rf_49_1, rf_49_2, rf_49_3, rf_49_4, rf_49_5, rf_53_0, rf_53_1, rf_53_2, rf_53_3, rf_53_4, rf_53_5, rf_53_6, rf_53_7, rf_53_9, rf_53_10, rf_53_11, rf_53_12, rf_53_13, rf_54_0, rf_54_1, rf_55_1, rf_55_2, rf_55_3, rf_67_1, rf_67_6, rf_67_7, rf_67_8, rf_67_9, rf_67_10, rf_67_22, rf_67_23, rf_67_28, rf_67_30, rf_67_32, rf_67_33, rf_67_38, rf_67_39, rf_67_48, rf_67_49, rf_67_51, rf_67_52, rf_67_53, rf_67_54, rf_67_55, rf_67_60, rf_67_61, rf_67_62, hl, hm, e1, e2, if_neg e]
theorem s_x_lay (n m r : Int) (hl : M 1 1 = n) (hlb : 0 ≤ n ∧ n ≤ 940) (hm : M 32 2 = m) (hmb : 0 ≤ m ∧ m ≤ 24) (h : RI M) (ht : ∀ i, 0 ≤ M 2 i ∧ M 2 i < 256) (hr : (if n = m then layR (layF (M 2) (M 5 2) n.toNat 0 0) else -1) = r) (hrb : -1 ≤ r ∧ r ≤ 24) : XC (d + 2) 100 [aR 21 0 0] M Q ↔ Q [aI r] (up (if r = -1 then M else layX M m) 1 1 0) := by
  have p1 : ∀ Q', XC (d + 1) 101 [aR 21 0 0] M Q' ↔ Q' [aI r] M := fun Q' => by rw [s_x_layable n m hl hlb hm hmb h ht, hr]
  have e3 : w32 r = r := w_sm (by omega)
  have e4 : w32 (-1) = -1 := rfl
  by_cases e : r = -1
  · rw [if_pos e]
    clear ht h hr
    rw [e_100, k_100_0]
    simp (disch := first | exact nl_i _ | exact nl_r _ | exact Nat.le_of_ble_eq_true rfl | exact Or.inl rfl | exact Or.inr rfl | exact w8_lo _ | exact w8_hi _ | decide | omega) only [v_fall, v_il_0, v_al_0, v_is_0, v_as_0, v_inc_0, v_ll_0, v_ls_0, v_il_1, v_al_1, v_is_1, v_as_1, v_inc_1, v_ll_1, v_ls_1, v_il_2, v_al_2, v_is_2, v_as_2, v_inc_2, v_ll_2, v_ls_2, v_il_3, v_al_3, v_is_3, v_as_3, v_inc_3, v_ll_3, v_ls_3, v_il_4, v_al_4, v_is_4, v_as_4, v_inc_4, v_ll_4, v_ls_4, v_il_5, v_al_5, v_is_5, v_as_5, v_inc_5, v_ll_5, v_ls_5, v_il_6, v_al_6, v_is_6, v_as_6, v_inc_6, v_il_7, v_al_7, v_is_7, v_as_7, v_inc_7, v_il_8, v_al_8, v_is_8, v_as_8, v_inc_8, v_il_9, v_al_9, v_is_9, v_as_9, v_inc_9, v_il_10, v_al_10, v_is_10, v_as_10, v_inc_10, v_il_11, v_al_11, v_is_11, v_as_11, v_inc_11, v_il_12, v_al_12, v_is_12, v_as_12, v_inc_12, v_il_13, v_al_13, v_is_13, v_as_13, v_inc_13, v_c_8, v_c_9, v_c_10, v_c_11, v_c_12, v_c_13, v_c_14, v_b_15, v_b_16, v_b_17, v_b_21, v_b_22, v_b_23, v_b_24, v_b_25, v_b_26, v_b_18, v_b_19, v_b_20, v_b_27, v_b_28, v_b_29, v_b_30, v_b_31, v_dup_i, v_dup_r, v_dup2, v_pop, v_gi, v_gl, v_gr, v_pi, v_pl, v_pz, v_iald, v_lald, v_bald, v_zald, v_aald, v_iast, v_last, v_bast, v_zast, v_alen_0, v_alen_1, v_alen_2, v_alen_3, v_alen_4, v_j_45, v_j_46, v_j_47, v_j_48, v_j_49, v_j_50, v_j_51, v_j_52, v_j_53, v_j_54, v_j_55, v_j_56, v_goto, v_sw, v_ret_i, v_ret_z, v_ret, v_cpy, v_iv_1, v_iv_2, v_iv_3, v_iv_4, v_iv_5, v_iv_6, v_is2_1, v_is2_2, v_is2_3, v_ivJ, List.nil_append, List.cons_append, rf_0_0, rf_0_1, rf_0_2, rf_0_3, rf_0_4, rf_0_5, rf_0_6, rf_0_7, rf_0_8, rf_0_9, rf_1_0, rf_1_2, rf_4_0, rf_4_1, rf_4_2, rf_5_8, rf_5_9, rf_5_10, rf_5_11, rf_5_12, rf_13_0, rf_13_1, rf_14_0, rf_14_1, rf_14_2, rf_15_8, rf_15_9, rf_15_10, rf_15_11, rf_15_12, rf_23_0, rf_23_1, rf_23_2, rf_24_8, rf_24_9, rf_24_10, rf_24_11, rf_24_12, rf_32_6, rf_34_0, rf_34_1, rf_34_2, rf_34_3, rf_35_8, rf_35_9, rf_35_10, rf_35_11, rf_35_12, rf_43_0, rf_43_1, rf_43_2, rf_43_3, rf_45_0, rf_45_1, rf_46_0, rf_46_1, rf_46_2, rf_46_3, rf_46_4, rf_46_5, rf_47_0, rf_47_1, rf_49_0, rf_49_1, rf_49_2, rf_49_3, rf_49_4, rf_49_5, rf_53_0, rf_53_1, rf_53_2, rf_53_3, rf_53_4, rf_53_5, rf_53_6, rf_53_7, rf_53_9, rf_53_10, rf_53_11, rf_53_12, rf_53_13, rf_54_0, rf_54_1, rf_55_1, rf_55_2, rf_55_3, rf_67_1, rf_67_6, rf_67_7, rf_67_8, rf_67_9, rf_67_10, rf_67_22, rf_67_23, rf_67_28, rf_67_30, rf_67_32, rf_67_33, rf_67_38, rf_67_39, rf_67_48, rf_67_49, rf_67_51, rf_67_52, rf_67_53, rf_67_54, rf_67_55, rf_67_60, rf_67_61, rf_67_62, p1, e3, e4, if_pos e, b_100_49, k_100_49]
  · have g := x_lay_l (d := d + 2) (M := M) (Q := Q) r m hm hmb.2 m.toNat 0 (by omega) (by omega)
    rw [layX_0] at g
    rw [if_neg e, ← g]
    clear ht h hr g
    rw [e_100, k_100_0]
    simp (disch := first | exact nl_i _ | exact nl_r _ | exact Nat.le_of_ble_eq_true rfl | exact Or.inl rfl | exact Or.inr rfl | exact w8_lo _ | exact w8_hi _ | decide | omega) only [v_fall, v_il_0, v_al_0, v_is_0, v_as_0, v_inc_0, v_ll_0, v_ls_0, v_il_1, v_al_1, v_is_1, v_as_1, v_inc_1, v_ll_1, v_ls_1, v_il_2, v_al_2, v_is_2, v_as_2, v_inc_2, v_ll_2, v_ls_2, v_il_3, v_al_3, v_is_3, v_as_3, v_inc_3, v_ll_3, v_ls_3, v_il_4, v_al_4, v_is_4, v_as_4, v_inc_4, v_ll_4, v_ls_4, v_il_5, v_al_5, v_is_5, v_as_5, v_inc_5, v_ll_5, v_ls_5, v_il_6, v_al_6, v_is_6, v_as_6, v_inc_6, v_il_7, v_al_7, v_is_7, v_as_7, v_inc_7, v_il_8, v_al_8, v_is_8, v_as_8, v_inc_8, v_il_9, v_al_9, v_is_9, v_as_9, v_inc_9, v_il_10, v_al_10, v_is_10, v_as_10, v_inc_10, v_il_11, v_al_11, v_is_11, v_as_11, v_inc_11, v_il_12, v_al_12, v_is_12, v_as_12, v_inc_12, v_il_13, v_al_13, v_is_13, v_as_13, v_inc_13, v_c_8, v_c_9, v_c_10, v_c_11, v_c_12, v_c_13, v_c_14, v_b_15, v_b_16, v_b_17, v_b_21, v_b_22, v_b_23, v_b_24, v_b_25, v_b_26, v_b_18, v_b_19, v_b_20, v_b_27, v_b_28, v_b_29, v_b_30, v_b_31, v_dup_i, v_dup_r, v_dup2, v_pop, v_gi, v_gl, v_gr, v_pi, v_pl, v_pz, v_iald, v_lald, v_bald, v_zald, v_aald, v_iast, v_last, v_bast, v_zast, v_alen_0, v_alen_1, v_alen_2, v_alen_3, v_alen_4, v_j_45, v_j_46, v_j_47, v_j_48, v_j_49, v_j_50, v_j_51, v_j_52, v_j_53, v_j_54, v_j_55, v_j_56, v_goto, v_sw, v_ret_i, v_ret_z, v_ret, v_cpy, v_iv_1, v_iv_2, v_iv_3, v_iv_4, v_iv_5, v_iv_6, v_is2_1, v_is2_2, v_is2_3, v_ivJ, List.nil_append, List.cons_append, rf_0_0, rf_0_1, rf_0_2, rf_0_3, rf_0_4, rf_0_5, rf_0_6, rf_0_7, rf_0_8, rf_0_9, rf_1_0, rf_1_2, rf_4_0, rf_4_1, rf_4_2, rf_5_8, rf_5_9, rf_5_10, rf_5_11, rf_5_12, rf_13_0, rf_13_1, rf_14_0, rf_14_1, rf_14_2, rf_15_8, rf_15_9, rf_15_10, rf_15_11, rf_15_12, rf_23_0, rf_23_1, rf_23_2, rf_24_8, rf_24_9, rf_24_10, rf_24_11, rf_24_12, rf_32_6, rf_34_0, rf_34_1, rf_34_2, rf_34_3, rf_35_8, rf_35_9, rf_35_10, rf_35_11, rf_35_12, rf_43_0, rf_43_1, rf_43_2, rf_43_3, rf_45_0, rf_45_1, rf_46_0, rf_46_1, rf_46_2, rf_46_3, rf_46_4, rf_46_5, rf_47_0, rf_47_1, rf_49_0, rf_49_1, rf_49_2, rf_49_3, rf_49_4, rf_49_5, rf_53_0, rf_53_1, rf_53_2, rf_53_3, rf_53_4, rf_53_5, rf_53_6, rf_53_7, rf_53_9, rf_53_10, rf_53_11, rf_53_12, rf_53_13, rf_54_0, rf_54_1, rf_55_1, rf_55_2, rf_55_3, rf_67_1, rf_67_6, rf_67_7, rf_67_8, rf_67_9, rf_67_10, rf_67_22, rf_67_23, rf_67_28, rf_67_30, rf_67_32, rf_67_33, rf_67_38, rf_67_39, rf_67_48, rf_67_49, rf_67_51, rf_67_52, rf_67_53, rf_67_54, rf_67_55, rf_67_60, rf_67_61, rf_67_62, p1, e3, e4, if_neg e]
end XL9
theorem layR_b (o : Option Nat) : -1 ≤ layR o ∧ layR o ≤ 24 := by
  cases o with
  | none => exact ⟨by decide, by decide⟩
  | some s =>
    have h := cnt_le (p := s.testBit) (n := 24)
    show -1 ≤ ((cnt 24 s.testBit : Nat) : Int) ∧ ((cnt 24 s.testBit : Nat) : Int) ≤ 24
    omega
/-- another RAFT -/
theorem InvT_raft {M M2 : Mem} (h : ∀ b j, ¬ scrT b j → b ≠ 11 → ¬ (b = 69 ∧ 359 ≤ j ∧ j < 383) → M2 b j = M b j) (hF : RFf (M 5) (M2 11) (M2 69)) (hI : InvT M) : InvT M2 := by
  obtain ⟨i0, i2, i3, i4, i5, i6, i7, i8, i9, i10, i11⟩ := hI
  have F : ∀ b, (∀ j, ¬ scrT b j) → b ≠ 11 → b ≠ 69 → M2 b = M b := fun b hb h1 h2 => funext fun j => h b j (hb j) h1 (fun h9 => h2 h9.1)
  have f : ∀ b, (b = 3 ∨ b = 4 ∨ b = 5 ∨ b = 6 ∨ b = 7 ∨ b = 8 ∨ b = 9 ∨ b = 10 ∨ b = 12 ∨ (14 ≤ b ∧ b ≤ 33) ∨ b = 37 ∨ b = 45 ∨ b = 46 ∨ b = 48 ∨ b = 70 ∨ b = 71 ∨ b = 73 ∨ b = 76 ∨ b = 80 ∨ b = 81 ∨ (88 ≤ b ∧ b ≤ 91)) → M2 b = M b := fun b hb => F b (fun j hs => by unfold scrT scr at hs; omega) (by omega) (by omega)
  have g : ∀ b j, ¬ scrT b j → b ≠ 11 → b ≠ 69 → M2 b j = M b j := fun b j hs h1 h2 => h b j hs h1 (fun h9 => h2 h9.1)
  have g69 : ∀ j, j < 359 ∨ 383 ≤ j → M2 69 j = M 69 j := fun j hj => h 69 j (by unfold scrT scr; omega) (by decide) (by omega)
  have e19 : M2 1 9 = M 1 9 := g 1 9 (by unfold scrT scr; omega) (by decide) (by decide)
  have m15 : M2 67 15 = M 67 15 := g 67 15 (by unfold scrT scr; omega) (by decide) (by decide)
  have m21 : M2 67 21 = M 67 21 := g 67 21 (by unfold scrT scr; omega) (by decide) (by decide)
  have m29 : M2 67 29 = M 67 29 := g 67 29 (by unfold scrT scr; omega) (by decide) (by decide)
  have m31 : M2 67 31 = M 67 31 := g 67 31 (by unfold scrT scr; omega) (by decide) (by decide)
  have m36 : M2 67 36 = M 67 36 := g 67 36 (by unfold scrT scr; omega) (by decide) (by decide)
  have m40 : M2 67 40 = M 67 40 := g 67 40 (by unfold scrT scr; omega) (by decide) (by decide)
  have m59 : M2 67 59 = M 67 59 := g 67 59 (by unfold scrT scr; omega) (by decide) (by decide)
  have z10 : M2 0 10 = M 0 10 := g 0 10 (by unfold scrT scr; omega) (by decide) (by decide)
  have z11 : M2 0 11 = M 0 11 := g 0 11 (by unfold scrT scr; omega) (by decide) (by decide)
  have n72 : ∀ j, 0 ≤ j → j < 17 → M2 72 j = M 72 j := fun j h1 h2 => g 72 j (by unfold scrT scr; omega) (by decide) (by decide)
  have r2 := i3.1.2.2.1
  have hs : small M2 69 383 := fun j h1 h2 => by
    have h2 : j < 383 := h2
    by_cases hj : 359 ≤ j
    · have h9 := hF (j - 359) (by omega) (by omega)
      rw [show 359 + (j - 359) = j by omega] at h9
      rw [h9.1]
      have := h9.2.1
      omega
    · rw [g69 j (by omega)]
      exact i0.1 j h1 h2
  refine ⟨⟨hs, small_cg (f 7 (by omega)) i0.2.1, small_cg (f 37 (by omega)) i0.2.2.1, small_cg (f 17 (by omega)) i0.2.2.2.1, small_cg (f 26 (by omega)) i0.2.2.2.2.1, small_cg (f 89 (by omega)) i0.2.2.2.2.2.1, small_cg (f 70 (by omega)) i0.2.2.2.2.2.2.1, small_cg (f 71 (by omega)) i0.2.2.2.2.2.2.2⟩, by rw [e19, m15]; exact i2, ?_, ?_, ?_, ?_, ?_, by rw [z10, m36]; exact i8, by rw [z11, m59]; exact i9, ?_, ?_⟩
  · unfold NowR at i3 ⊢
    rw [f 4 (by omega), f 5 (by omega), f 6 (by omega), f 7 (by omega), f 8 (by omega), f 9 (by omega), f 10 (by omega), f 12 (by omega)]
    exact ⟨i3.1, i3.2.1, RVf_cg i3.1 (fun j h1 h2 => g69 j (by omega)) i3.2.2.1, hF, PLf_cg (fun j h1 h2 => g69 j (by omega)) i3.2.2.2.2.1, ⟨i3.2.2.2.2.2.1.1, by rw [g69 117 (by omega)]; exact i3.2.2.2.2.2.1.2⟩, NMf_cg ⟨i3.1.1.2, i3.1.2.2.1.2⟩ n72 i3.2.2.2.2.2.2⟩
  · unfold GridR at i4 ⊢
    rw [f 32 (by omega), f 33 (by omega), f 5 (by omega)]
    exact i4
  · unfold Kept0 at i5 ⊢
    rw [f 14 (by omega), f 15 (by omega), f 16 (by omega), f 17 (by omega), f 18 (by omega), f 19 (by omega), f 20 (by omega), f 21 (by omega), f 22 (by omega), f 89 (by omega), f 90 (by omega), f 91 (by omega)]
    exact i5
  · unfold Kept1 at i6 ⊢
    rw [f 23 (by omega), f 24 (by omega), f 25 (by omega), f 26 (by omega), f 27 (by omega), f 28 (by omega), f 29 (by omega), f 30 (by omega), f 31 (by omega), f 89 (by omega), f 90 (by omega), f 91 (by omega)]
    exact i6
  · unfold ToldR at i7 ⊢
    rw [f 45 (by omega), f 76 (by omega), m29]
    exact i7
  · unfold JudR tellX at i10 ⊢
    rw [f 46 (by omega), f 48 (by omega), f 80 (by omega), f 81 (by omega), m40]
    exact i10
  · unfold ConR at i11 ⊢
    rw [f 88 (by omega), f 3 (by omega), f 73 (by omega), m21, m31]
    exact i11
theorem iv_7 {M : Mem} (hI : Inv M) : Step2 100 169 [] M Inv := by
  unfold Step2
  obtain ⟨t1, t2, t3⟩ := hI.1
  obtain ⟨w, l, hw, hl, r3, r4, g0, g1, g2, -, -, -, -⟩ := hI.G
  have hwl : w * l ≤ 4 * 6 := Nat.mul_le_mul hw.2 hl.2
  have v2 := hI.V.1.2.2.1
  have v3 := hI.V.1.2.2.2.1
  have v4 := hI.V.1.2.2.2.2.1
  have rb := hI.RI.2.2.1
  have hF := hI.F
  have ht : ∀ i, 0 ≤ M 2 i ∧ M 2 i < 256 := fun i => (t3 i).1
  obtain ⟨n, hn⟩ : ∃ n, M 1 1 = n := ⟨_, rfl⟩
  rw [hn] at t1 t2
  have hR := layR_b (layF (M 2) (M 5 2) n.toNat 0 0)
  obtain ⟨r, hr⟩ : ∃ r, (if n = ((w * l : Nat) : Int) then layR (layF (M 2) (M 5 2) n.toNat 0 0) else -1) = r := ⟨_, rfl⟩
  have hrb : -1 ≤ r ∧ r ≤ 24 := by
    rw [← hr]
    by_cases e : n = ((w * l : Nat) : Int)
    · rw [if_pos e]; exact hR
    · rw [if_neg e]; exact ⟨by decide, by decide⟩
  rw [s_x_lay (d := 13) n ((w * l : Nat) : Int) r hn t2 g2 ⟨by omega, by omega⟩ hI.RI ht hr hrb]
  obtain ⟨M1, hM1⟩ : ∃ M1, M1 = up (if r = -1 then M else layX M ((w * l : Nat) : Int)) 1 1 0 := ⟨_, rfl⟩
  rw [← hM1]
  have A : ∀ b j, b ≠ 11 → ¬ (b = 1 ∧ j = 1) → M1 b j = M b j := fun b j h1 h2 => by
    rw [hM1]
    unfold up
    rw [if_neg h2]
    by_cases e : r = -1
    · rw [if_pos e]
    · rw [if_neg e, layX_b h1]
  have A11 : M1 1 1 = 0 := by rw [hM1, up_s]
  have A68 : ∀ i, and32 (M1 68 i) 255 = M 2 i ∧ 0 ≤ M 2 i ∧ M 2 i < 256 := fun i => by
    rw [A 68 i (by decide) (by omega)]
    exact ⟨oct_and (t3 i), ht i⟩
  have A69 : ∀ j, M1 69 j = M 69 j := fun j => A 69 j (by decide) (by omega)
  have wl : M1 69 3 * M1 69 4 = ((w * l : Nat) : Int) := by rw [A69, A69, v3, v4, r3, r4, Int.natCast_mul]
  have T : ∀ M2 : Mem, M2 1 1 = 0 → M2 67 2 = 0 → (∀ i, M2 2 i = M 2 i) → (∀ i, M2 68 i = M 68 i) → tapeR M2 M2 := fun M2 h1 h2 h3 h4 => ⟨by rw [h1, h2], by rw [h1]; exact ⟨by decide, by decide⟩, fun i => by rw [h3, h4]; exact t3 i⟩
  have bad : r = -1 → Inv (takM M1 940) := fun e => by
    refine ⟨T _ (by rw [takM_b (by decide)]; exact A11) takM_2 (fun i => by rw [takM_b (by decide)]; exact A 2 i (by decide) (by omega)) (fun i => by rw [takM_b (by decide)]; exact A 68 i (by decide) (by omega)), InvT_agr (fun b j hs => ?_) hI.2⟩
    have e11 : M1 11 = M 11 := by
      funext j
      rw [hM1, up_b (by decide), if_pos e]
    by_cases h67 : b = 67
    · subst h67
      unfold scrT scr at hs
      rw [takM_o (by omega) (by omega)]
      exact A 67 j (by decide) (by omega)
    · rw [takM_b h67]
      by_cases h11 : b = 11
      · subst h11; rw [e11]
      · exact A b j h11 (by unfold scrT scr at hs; omega)
  refine s_m_lay (d := 13) (M 2) A68 n ((w * l : Nat) : Int) (by rw [A 67 2 (by decide) (by omega)]; exact t1) t2 wl ⟨by omega, by omega⟩ (by rw [A69, v2]; exact rb) (fun e => ?_) (fun e e2 => ?_) (fun s e e2 => ?_)
  · rw [if_neg e] at hr
    exact ⟨eqr_i hr.symm, bad hr.symm⟩
  · rw [A69, v2] at e2
    rw [if_pos e, e2] at hr
    exact ⟨eqr_i hr.symm, bad hr.symm⟩
  · rw [A69, v2] at e2
    rw [if_pos e, e2] at hr
    have hr' : ((cnt 24 s.testBit : Nat) : Int) = r := hr
    have hne : r ≠ -1 := by omega
    have ok := layF_ok (fun i => (ht i).1) n.toNat 0 0 s e2
    have e11 : ∀ j, M1 11 j = layX M n 11 j := fun j => by rw [hM1, up_b (by decide), if_neg hne, e]
    refine ⟨eqr_i hr'.symm, T _ ?_ ?_ (fun i => ?_) (fun i => ?_), InvT_raft (fun b j hs h11 h69 => ?_) (fun k k0 k1 => ?_) hI.2⟩
    · rw [layM_b (by decide), takM_b (by decide)]; exact A11
    · rw [layM_b (by decide)]; exact takM_2
    · rw [layM_b (by decide), takM_b (by decide)]; exact A 2 i (by decide) (by omega)
    · rw [layM_b (by decide), takM_b (by decide)]; exact A 68 i (by decide) (by omega)
    · have e9 : layM (takM M1 940) n b j = takM M1 940 b j := by
        unfold layM
        rw [if_neg (fun h9 => h69 ⟨h9.1, h9.2.1, by omega⟩)]
      rw [e9]
      unfold scrT scr at hs
      by_cases h67 : b = 67
      · subst h67
        rw [takM_o (by omega) (by omega)]
        exact A 67 j (by decide) (by omega)
      · rw [takM_b h67]
        exact A b j h11 (by omega)
    · have c11 : ∀ j, layM (takM M1 940) n 11 j = layX M n 11 j := fun j => by rw [layM_b (by decide), takM_b (by decide), e11]
      rw [c11]
      have old := hF k k0 k1
      by_cases hk : k < n
      · have c1 : layX M n 11 k = M 2 k - 1 := by unfold layX; rw [if_pos ⟨rfl, k0, hk⟩]
        have c2 : layM (takM M1 940) n 69 (359 + k) = M 2 k := by
          unfold layM
          rw [if_pos ⟨rfl, by omega, by omega⟩, show 359 + k - 359 = k by omega, takM_b (by decide)]
          exact (A68 k).1
        have o1 := ok k k0 (by omega)
        have hk0 := ht k
        rw [c1, c2]
        refine ⟨by omega, by omega, fun h9 => by rw [r3, r4, ← Int.natCast_mul] at h9; omega, fun j j0 j1 h9 => ?_⟩
        rw [c11] at h9
        by_cases hj : j < n
        · have c3 : layX M n 11 j = M 2 j - 1 := by unfold layX; rw [if_pos ⟨rfl, j0, hj⟩]
          rw [c3] at h9
          rcases o1.2 j j0 (by omega) (by omega) with h10 | h10
          · exact Or.inl (by omega)
          · exact Or.inr h10
        · have c3 : layX M n 11 j = -1 := by
            unfold layX
            rw [if_neg (by omega)]
            exact (hF j j0 j1).2.2.1 (by rw [r3, r4, ← Int.natCast_mul]; omega)
          exact Or.inl (by omega)
      · have c0 : M 11 k = -1 := old.2.2.1 (by rw [r3, r4, ← Int.natCast_mul]; omega)
        have c1 : layX M n 11 k = -1 := by
          unfold layX
          rw [if_neg (by omega)]
          exact c0
        have c2 : layM (takM M1 940) n 69 (359 + k) = 0 := by
          unfold layM
          rw [if_neg (by omega), takM_b (by decide), A69, old.1, c0]
          rfl
        rw [c1, c2]
        exact ⟨by omega, by omega, fun _ => rfl, fun _ _ _ _ => Or.inl rfl⟩
