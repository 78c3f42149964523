/-! NUMBERS: masks and shifts -/
theorem and_mask (x : Int) (k : Nat) (hk : k ≤ 30) : and32 x ((2 ^ k - 1 : Nat) : Int) = x % ((2 ^ k : Nat) : Int) := by
  have hp : (2 : Nat) ^ k ≤ 2 ^ 30 := Nat.pow_le_pow_right (by decide) hk
  have hpos : 0 < (2 : Nat) ^ k := Nat.pow_pos (by decide)
  have hdvd : (2 : Nat) ^ 32 = 2 ^ k * 2 ^ (32 - k) := by rw [← Nat.pow_add]; congr 1; omega
  have h30 : (2 : Nat) ^ 30 = 1073741824 := rfl
  have h32 : (2 : Nat) ^ 32 = 4294967296 := rfl
  unfold and32
  show ((BitVec.ofInt 32 x) &&& (BitVec.ofInt 32 ((2 ^ k - 1 : Nat) : Int))).toInt = _
  have h : ((BitVec.ofInt 32 x) &&& (BitVec.ofInt 32 ((2 ^ k - 1 : Nat) : Int))).toNat = (x % ((2 ^ k : Nat) : Int)).toNat := by
    rw [BitVec.toNat_and, BitVec.toNat_ofInt, BitVec.toNat_ofInt]
    have e1 : (((2 ^ k - 1 : Nat) : Int) % ((2 ^ 32 : Nat) : Int)).toNat = 2 ^ k - 1 := by omega
    rw [e1, Nat.and_two_pow_sub_one_eq_mod]
    have e2 : (x % ((2 ^ 32 : Nat) : Int)).toNat % 2 ^ k = ((x % ((2 ^ 32 : Nat) : Int)) % ((2 ^ k : Nat) : Int)).toNat := by
      have h0 : 0 ≤ x % ((2 ^ 32 : Nat) : Int) := Int.emod_nonneg _ (by omega)
      obtain ⟨n, hn⟩ := Int.eq_ofNat_of_zero_le h0
      rw [hn]
      rfl
    rw [e2]
    congr 1
    rw [hdvd]
    push_cast
    exact Int.emod_emod_of_dvd _ ⟨_, rfl⟩
  have hlt : (x % ((2 ^ k : Nat) : Int)) < ((2 ^ k : Nat) : Int) := Int.emod_lt_of_pos _ (by omega)
  have hge : 0 ≤ x % ((2 ^ k : Nat) : Int) := Int.emod_nonneg _ (by omega)
  rw [BitVec.toInt_eq_toNat_of_lt (by rw [h]; omega), h]
  omega
theorem and255 (x : Int) : and32 x 255 = x % 256 := and_mask x 8 (by decide)
theorem and1 (x : Int) : and32 x 1 = x % 2 := and_mask x 1 (by decide)
theorem sh_n : ∀ n : Nat, n < 32 → (((Int32.ofInt (n : Int)) &&& 31).toBitVec.smod 32).toNat = n := by decide +kernel
theorem shr_n (x : Int) (n : Nat) (hn : n < 32) : shr32 x (n : Int) = w32 x / ((2 ^ n : Nat) : Int) := by
  unfold shr32
  show ((Int32.ofInt x).toBitVec.sshiftRight' (((Int32.ofInt (n : Int)) &&& 31).toBitVec.smod 32)).toInt = _
  rw [BitVec.sshiftRight', BitVec.toInt_sshiftRight, sh_n n hn]
  have : (Int32.ofInt x).toBitVec.toInt = w32 x := ti32 x
  rw [this, Int.shiftRight_eq_div_pow]
theorem bmod_cg {a b : Int} {m : Nat} (h : a % (m : Int) = b % (m : Int)) : a.bmod m = b.bmod m := by rw [Int.bmod_def, Int.bmod_def, h]
theorem shl_n (x : Int) (n : Nat) (hn : n < 32) : shl32 x (n : Int) = w32 (x * ((2 ^ n : Nat) : Int)) := by
  unfold shl32
  show ((Int32.ofInt x).toBitVec <<< (((Int32.ofInt (n : Int)) &&& 31).toBitVec.smod 32)).toInt = _
  rw [BitVec.shiftLeft_eq', sh_n n hn, BitVec.toInt_shiftLeft]
  have e1 : (Int32.ofInt x).toBitVec.toNat = (x % ((2 ^ 32 : Nat) : Int)).toNat := BitVec.toNat_ofInt x
  rw [e1, Nat.shiftLeft_eq, ← w32_bmod]
  show Int.bmod _ (2 ^ 32) = Int.bmod _ (2 ^ 32)
  apply bmod_cg
  have h0 : 0 ≤ x % ((2 ^ 32 : Nat) : Int) := Int.emod_nonneg _ (by decide)
  have e2 : (((x % ((2 ^ 32 : Nat) : Int)).toNat * 2 ^ n : Nat) : Int) = x % ((2 ^ 32 : Nat) : Int) * ((2 ^ n : Nat) : Int) := by
    rw [Int.natCast_mul, Int.toNat_of_nonneg h0]
  rw [e2]
  rw [Int.mul_emod, Int.emod_emod_of_dvd x (Int.dvd_refl _), ← Int.mul_emod]
/-- a byte of a number, of either side -/
theorem byte_eq (y : Int) : w8 y = w8 (y % 256) := by unfold w8; omega
theorem w8_255 (y : Int) : and32 (w8 y) 255 = y % 256 := by rw [and255]; unfold w8; omega
/-! feed, on both sides -/
/-- four bytes of v behind n, the highest first; the length is in cell t at li -/
def fedM (M : Mem) (t : Nat) (li : Int) (a : Nat) (f : Int → Int) (n v : Int) : Mem := fun b j => if b = t ∧ j = li then n + 4 else if b = a ∧ n ≤ j ∧ j < n + 4 then f (shr32 v (24 - 8 * (j - n))) else M b j
theorem fed_eq {M : Mem} {t a : Nat} {li : Int} {f : Int → Int} {n v : Int} (hta : t ≠ a) : up (up (up (up (up (up (up (up M a n (f (shr32 v 24))) t li (n + 1)) a (n + 1) (f (shr32 v 16))) t li (n + 1 + 1)) a (n + 1 + 1) (f (shr32 v 8))) t li (n + 1 + 1 + 1)) a (n + 1 + 1 + 1) (f (shr32 v 0))) t li (n + 1 + 1 + 1 + 1) = fedM M t li a f n v := by
  funext b j
  unfold fedM up
  by_cases hb : b = t
  · subst hb
    by_cases hj : j = li
    · rw [if_pos ⟨rfl, hj⟩, if_pos ⟨rfl, hj⟩]; omega
    · simp only [hta, hj, true_and, false_and, and_false, if_false]
  · simp only [hb, false_and, if_false]
    by_cases ha : b = a
    · subst ha
      simp only [true_and]
      by_cases h3 : j = n + 1 + 1 + 1
      · rw [if_pos h3, if_pos (by omega), show 24 - 8 * (j - n) = 0 by omega]
      · rw [if_neg h3]
        by_cases h2 : j = n + 1 + 1
        · rw [if_pos h2, if_pos (by omega), show 24 - 8 * (j - n) = 8 by omega]
        · rw [if_neg h2]
          by_cases h1 : j = n + 1
          · rw [if_pos h1, if_pos (by omega), show 24 - 8 * (j - n) = 16 by omega]
          · rw [if_neg h1]
            by_cases h0 : j = n
            · rw [if_pos h0, if_pos (by omega), show 24 - 8 * (j - n) = 24 by omega]
            · rw [if_neg h0, if_neg (by omega)]
    · simp only [ha, false_and, if_false]
theorem fed_len {M : Mem} {t a : Nat} {li : Int} {f : Int → Int} {n v : Int} : fedM M t li a f n v t li = n + 4 := if_pos ⟨rfl, rfl⟩
theorem w8_lo (y : Int) : -128 ≤ w8 y := by unfold w8; omega
theorem w8_hi (y : Int) : w8 y < 128 := by unfold w8; omega
section FD
variable {d : Nat} {M : Mem} {Q : List AV → Mem → Prop}
theorem m_four_s (v k n : Int) (hk : 0 ≤ k ∧ k ≤ 24) (hM : M 67 2 = n) (h : 0 ≤ n ∧ n < 940) : XL d 131 3 [aR 22 0 67, aI v, aI k] [] M Q ↔ XL d 131 3 [aR 22 0 67, aI v, aI (k + -8)] [] (up (up M 68 n (w8 (shr32 v k))) 67 2 (n + 1)) Q := by
  have e1 : w32 k = k := w_sm (by omega)
  have h1 : n < ((940 : Nat) : Int) := by omega
  have h0 : 0 ≤ n := h.1
  rw [b_131_3, k_131_3]
  simp (disch := first | exact nl_i _ | exact nl_r _ | exact Nat.le_of_ble_eq_true rfl | exact Or.inl rfl | exact Or.inr rfl | exact w8_lo _ | exact w8_hi _ | decide | omega) only [v_fall, v_il_0, v_al_0, v_is_0, v_as_0, v_inc_0, v_ll_0, v_ls_0, v_il_1, v_al_1, v_is_1, v_as_1, v_inc_1, v_ll_1, v_ls_1, v_il_2, v_al_2, v_is_2, v_as_2, v_inc_2, v_ll_2, v_ls_2, v_il_3, v_al_3, v_is_3, v_as_3, v_inc_3, v_ll_3, v_ls_3, v_il_4, v_al_4, v_is_4, v_as_4, v_inc_4, v_ll_4, v_ls_4, v_il_5, v_al_5, v_is_5, v_as_5, v_inc_5, v_ll_5, v_ls_5, v_il_6, v_al_6, v_is_6, v_as_6, v_inc_6, v_il_7, v_al_7, v_is_7, v_as_7, v_inc_7, v_il_8, v_al_8, v_is_8, v_as_8, v_inc_8, v_il_9, v_al_9, v_is_9, v_as_9, v_inc_9, v_il_10, v_al_10, v_is_10, v_as_10, v_inc_10, v_il_11, v_al_11, v_is_11, v_as_11, v_inc_11, v_il_12, v_al_12, v_is_12, v_as_12, v_inc_12, v_il_13, v_al_13, v_is_13, v_as_13, v_inc_13, v_c_8, v_c_9, v_c_10, v_c_11, v_c_12, v_c_13, v_c_14, v_b_15, v_b_16, v_b_17, v_b_21, v_b_22, v_b_23, v_b_24, v_b_25, v_b_26, v_b_18, v_b_19, v_b_20, v_b_27, v_b_28, v_b_29, v_b_30, v_b_31, v_dup_i, v_dup_r, v_dup2, v_pop, v_gi, v_gl, v_gr, v_pi, v_pl, v_pz, v_iald, v_lald, v_bald, v_zald, v_aald, v_iast, v_last, v_bast, v_zast, v_alen_0, v_alen_1, v_alen_2, v_alen_3, v_alen_4, v_j_45, v_j_46, v_j_47, v_j_48, v_j_49, v_j_50, v_j_51, v_j_52, v_j_53, v_j_54, v_j_55, v_j_56, v_goto, v_sw, v_ret_i, v_ret_z, v_ret, v_cpy, v_iv_1, v_iv_2, v_iv_3, v_iv_4, v_iv_5, v_iv_6, v_is2_1, v_is2_2, v_is2_3, v_ivJ, List.nil_append, List.cons_append, rf_0_0, rf_0_1, rf_0_2, rf_0_3, rf_0_4, rf_0_5, rf_0_6, rf_0_7, rf_0_8, rf_0_9, rf_1_0, rf_1_2, rf_4_0, rf_4_1, rf_4_2, rf_5_8, rf_5_9, rf_5_10, rf_5_11, rf_5_12, rf_13_0, rf_13_1, rf_14_0, rf_14_1, rf_14_2, rf_15_8, rf_15_9, rf_15_10, rf_15_11, rf_15_12, rf_23_0, rf_23_1, rf_23_2, rf_24_8, rf_24_9, rf_24_10, rf_24_11, rf_24_12, rf_32_6, rf_34_0, rf_34_1, rf_34_2, rf_34_3, rf_35_8, rf_35_9, rf_35_10, rf_35_11, rf_35_12, rf_43_0, rf_43_1, rf_43_2, rf_43_3, rf_45_0, rf_45_1, rf_46_0, rf_46_1, rf_46_2, rf_46_3, rf_46_4, rf_46_5, rf_47_0, rf_47_1, rf_49_0, rf_49_1, rf_49_2, rf_49_3, rf_49_4, rf_49_5, rf_53_0, rf_53_1, rf_53_2, rf_53_3, rf_53_4, rf_53_5, rf_53_6, rf_53_7, rf_53_9, rf_53_10, rf_53_11, rf_53_12, rf_53_13, rf_54_0, rf_54_1, rf_55_1, rf_55_2, rf_55_3, rf_67_1, rf_67_6, rf_67_7, rf_67_8, rf_67_9, rf_67_10, rf_67_22, rf_67_23, rf_67_28, rf_67_30, rf_67_32, rf_67_33, rf_67_38, rf_67_39, rf_67_48, rf_67_49, rf_67_51, rf_67_52, rf_67_53, rf_67_54, rf_67_55, rf_67_60, rf_67_61, rf_67_62, up_s, up_b, up_j, e1, hM, if_neg (show ¬ k < 0 by omega)]
theorem s_m_four (v n : Int) (hM : M 67 2 = n) (h : 0 ≤ n ∧ n ≤ 936) : XC d 131 [aR 22 0 67, aI v] M Q ↔ Q [] (fedM M 67 2 68 w8 n v) := by
  rw [← fed_eq (by decide)]
  simp (disch := first | exact nl_i _ | exact nl_r _ | exact Nat.le_of_ble_eq_true rfl | exact Or.inl rfl | exact Or.inr rfl | exact w8_lo _ | exact w8_hi _ | decide | omega) only [e_131, k_131_0, v_c_9, v_is_2, v_fall]
  rw [m_four_s v 24 n (by omega) hM (by omega), m_four_s v (24 + -8) (n + 1) (by omega) up_s (by omega), m_four_s v (24 + -8 + -8) (n + 1 + 1) (by omega) up_s (by omega), m_four_s v (24 + -8 + -8 + -8) (n + 1 + 1 + 1) (by omega) up_s (by omega)]
  rw [b_131_3, k_131_3]
  simp (disch := first | exact nl_i _ | exact nl_r _ | exact Nat.le_of_ble_eq_true rfl | exact Or.inl rfl | exact Or.inr rfl | exact w8_lo _ | exact w8_hi _ | decide | omega) only [v_il_2, v_j_53, b_131_36, k_131_36, v_ret, if_pos (show w32 (24 + -8 + -8 + -8 + -8) < 0 by decide)]
  rfl
theorem x_four_s (v k n : Int) (hk : 0 ≤ k ∧ k ≤ 24) (hM : M 1 1 = n) (h : 0 ≤ n ∧ n < 940) : XL d 73 3 [aR 19 0 1, aI v, aI k] [] M Q ↔ XL d 73 3 [aR 19 0 1, aI v, aI (k + -8)] [] (up (up M 2 n (and32 (shr32 v k) 255)) 1 1 (n + 1)) Q := by
  have e1 : w32 k = k := w_sm (by omega)
  have e2 : w32 n = n := w_sm (by omega)
  have e3 : w32 940 = 940 := rfl
  have h1 : n < ((940 : Nat) : Int) := by omega
  have h0 : 0 ≤ n := h.1
  rw [b_73_3, k_73_3]
  simp (disch := first | exact nl_i _ | exact nl_r _ | exact Nat.le_of_ble_eq_true rfl | exact Or.inl rfl | exact Or.inr rfl | exact w8_lo _ | exact w8_hi _ | decide | omega) only [v_fall, v_il_0, v_al_0, v_is_0, v_as_0, v_inc_0, v_ll_0, v_ls_0, v_il_1, v_al_1, v_is_1, v_as_1, v_inc_1, v_ll_1, v_ls_1, v_il_2, v_al_2, v_is_2, v_as_2, v_inc_2, v_ll_2, v_ls_2, v_il_3, v_al_3, v_is_3, v_as_3, v_inc_3, v_ll_3, v_ls_3, v_il_4, v_al_4, v_is_4, v_as_4, v_inc_4, v_ll_4, v_ls_4, v_il_5, v_al_5, v_is_5, v_as_5, v_inc_5, v_ll_5, v_ls_5, v_il_6, v_al_6, v_is_6, v_as_6, v_inc_6, v_il_7, v_al_7, v_is_7, v_as_7, v_inc_7, v_il_8, v_al_8, v_is_8, v_as_8, v_inc_8, v_il_9, v_al_9, v_is_9, v_as_9, v_inc_9, v_il_10, v_al_10, v_is_10, v_as_10, v_inc_10, v_il_11, v_al_11, v_is_11, v_as_11, v_inc_11, v_il_12, v_al_12, v_is_12, v_as_12, v_inc_12, v_il_13, v_al_13, v_is_13, v_as_13, v_inc_13, v_c_8, v_c_9, v_c_10, v_c_11, v_c_12, v_c_13, v_c_14, v_b_15, v_b_16, v_b_17, v_b_21, v_b_22, v_b_23, v_b_24, v_b_25, v_b_26, v_b_18, v_b_19, v_b_20, v_b_27, v_b_28, v_b_29, v_b_30, v_b_31, v_dup_i, v_dup_r, v_dup2, v_pop, v_gi, v_gl, v_gr, v_pi, v_pl, v_pz, v_iald, v_lald, v_bald, v_zald, v_aald, v_iast, v_last, v_bast, v_zast, v_alen_0, v_alen_1, v_alen_2, v_alen_3, v_alen_4, v_j_45, v_j_46, v_j_47, v_j_48, v_j_49, v_j_50, v_j_51, v_j_52, v_j_53, v_j_54, v_j_55, v_j_56, v_goto, v_sw, v_ret_i, v_ret_z, v_ret, v_cpy, v_iv_1, v_iv_2, v_iv_3, v_iv_4, v_iv_5, v_iv_6, v_is2_1, v_is2_2, v_is2_3, v_ivJ, List.nil_append, List.cons_append, rf_0_0, rf_0_1, rf_0_2, rf_0_3, rf_0_4, rf_0_5, rf_0_6, rf_0_7, rf_0_8, rf_0_9, rf_1_0, rf_1_2, rf_4_0, rf_4_1, rf_4_2, rf_5_8, rf_5_9, rf_5_10, rf_5_11, rf_5_12, rf_13_0, rf_13_1, rf_14_0, rf_14_1, rf_14_2, rf_15_8, rf_15_9, rf_15_10, rf_15_11, rf_15_12, rf_23_0, rf_23_1, rf_23_2, rf_24_8, rf_24_9, rf_24_10, rf_24_11, rf_24_12, rf_32_6, rf_34_0, rf_34_1, rf_34_2, rf_34_3, rf_35_8, rf_35_9, rf_35_10, rf_35_11, rf_35_12, rf_43_0, rf_43_1, rf_43_2, rf_43_3, rf_45_0, rf_45_1, rf_46_0, rf_46_1, rf_46_2, rf_46_3, rf_46_4, rf_46_5, rf_47_0, rf_47_1, rf_49_0, rf_49_1, rf_49_2, rf_49_3, rf_49_4, rf_49_5, rf_53_0, rf_53_1, rf_53_2, rf_53_3, rf_53_4, rf_53_5, rf_53_6, rf_53_7, rf_53_9, rf_53_10, rf_53_11, rf_53_12, rf_53_13, rf_54_0, rf_54_1, rf_55_1, rf_55_2, rf_55_3, rf_67_1, rf_67_6, rf_67_7, rf_67_8, rf_67_9, rf_67_10, rf_67_22, rf_67_23, rf_67_28, rf_67_30, rf_67_32, rf_67_33, rf_67_38, rf_67_39, rf_67_48, rf_67_49, rf_67_51, rf_67_52, rf_67_53, rf_67_54, rf_67_55, rf_67_60, rf_67_61, rf_67_62, up_s, up_b, up_j, e1, e2, e3, hM, if_neg (show ¬ k < 0 by omega), if_neg (show ¬ 940 ≤ n by omega)]
theorem s_x_four (v n : Int) (hM : M 1 1 = n) (h : 0 ≤ n ∧ n ≤ 936) : XC d 73 [aR 19 0 1, aI v] M Q ↔ Q [] (fedM M 1 1 2 (fun y => and32 y 255) n v) := by
  rw [← fed_eq (f := fun y => and32 y 255) (by decide)]
  simp (disch := first | exact nl_i _ | exact nl_r _ | exact Nat.le_of_ble_eq_true rfl | exact Or.inl rfl | exact Or.inr rfl | exact w8_lo _ | exact w8_hi _ | decide | omega) only [e_73, k_73_0, v_c_9, v_is_2, v_fall]
  rw [x_four_s v 24 n (by omega) hM (by omega), x_four_s v (24 + -8) (n + 1) (by omega) up_s (by omega), x_four_s v (24 + -8 + -8) (n + 1 + 1) (by omega) up_s (by omega), x_four_s v (24 + -8 + -8 + -8) (n + 1 + 1 + 1) (by omega) up_s (by omega)]
  rw [b_73_3, k_73_3]
  simp (disch := first | exact nl_i _ | exact nl_r _ | exact Nat.le_of_ble_eq_true rfl | exact Or.inl rfl | exact Or.inr rfl | exact w8_lo _ | exact w8_hi _ | decide | omega) only [v_il_2, v_j_53, b_73_49, k_73_49, v_ret, if_pos (show w32 (24 + -8 + -8 + -8 + -8) < 0 by decide)]
  rfl
end FD
