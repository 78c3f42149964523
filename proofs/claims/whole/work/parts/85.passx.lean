/-! PASSES on the class's side -/
section GT
variable {d : Nat} {M : Mem} {Q : List AV → Mem → Prop}
theorem gt_2 (bits t en many f row cr row2 rr kk acc wf cut : Int) (o6 o7 : AV) (hf : 0 ≤ f ∧ f < en) (he : 1 ≤ en ∧ en ≤ 6) (hm : 0 ≤ many ∧ many ≤ 100) (hcr : 0 ≤ cr ∧ cr ≤ 4) (ht : 0 ≤ t ∧ t ≤ 100) (p1 : ∀ Q', XC d 4 [aR 10 0 32, aI bits, aI f] M Q' ↔ Q' [aI row] M) (p2 : ∀ Q', XC d 223 [aI row] M Q' ↔ Q' [aI cr] M) (p3 : f ≠ 0 → ∀ Q', XC d 4 [aR 10 0 32, aI bits, aI (f - 1)] M Q' ↔ Q' [aI row2] M) (h3 : and32 row row2 = rr) (p4 : ∀ Q', XC d 223 [aI rr] M Q' ↔ Q' [aI kk] M) (ha : M 44 en = acc) (hab : 0 ≤ acc ∧ acc ≤ 500000000) (hw : M 44 f = wf) (hwb : 0 ≤ wf ∧ wf ≤ 500000000) (hkb : 0 ≤ kk ∧ kk ≤ 4) (hc : cut = if f = 0 then 0 else kk) : XL (d + 1) 48 36 [aR 14 0 43, aI bits, aI t, aI en, aI many, aI f, o6, o7] [] M Q ↔ (if t < many + cr then XL (d + 1) 48 9 [aR 14 0 43, aI bits, aI t, aI (en + 1), aI (many + cr), aI f, aI row, o7] [] M Q else XL (d + 1) 48 36 [aR 14 0 43, aI bits, aI t, aI en, aI (many + cr), aI (f + -1), aI row, aI cut] [] (up M 44 en (if wf + 100 + cut < acc then wf + 100 + cut else acc)) Q) := by
  rw [b_48_36, k_48_36]
  by_cases h1 : t < many + cr
  · rw [if_pos h1]
    simp (disch := first | exact nl_i _ | exact nl_r _ | exact Nat.le_of_ble_eq_true rfl | exact Or.inl rfl | exact Or.inr rfl | exact w8_lo _ | exact w8_hi _ | decide | omega) only [v_fall, v_il_0, v_al_0, v_is_0, v_as_0, v_inc_0, v_ll_0, v_ls_0, v_il_1, v_al_1, v_is_1, v_as_1, v_inc_1, v_ll_1, v_ls_1, v_il_2, v_al_2, v_is_2, v_as_2, v_inc_2, v_ll_2, v_ls_2, v_il_3, v_al_3, v_is_3, v_as_3, v_inc_3, v_ll_3, v_ls_3, v_il_4, v_al_4, v_is_4, v_as_4, v_inc_4, v_ll_4, v_ls_4, v_il_5, v_al_5, v_is_5, v_as_5, v_inc_5, v_ll_5, v_ls_5, v_il_6, v_al_6, v_is_6, v_as_6, v_inc_6, v_il_7, v_al_7, v_is_7, v_as_7, v_inc_7, v_il_8, v_al_8, v_is_8, v_as_8, v_inc_8, v_il_9, v_al_9, v_is_9, v_as_9, v_inc_9, v_il_10, v_al_10, v_is_10, v_as_10, v_inc_10, v_il_11, v_al_11, v_is_11, v_as_11, v_inc_11, v_il_12, v_al_12, v_is_12, v_as_12, v_inc_12, v_il_13, v_al_13, v_is_13, v_as_13, v_inc_13, v_c_8, v_c_9, v_c_10, v_c_11, v_c_12, v_c_13, v_c_14, v_b_15, v_b_16, v_b_17, v_b_21, v_b_22, v_b_23, v_b_24, v_b_25, v_b_26, v_b_18, v_b_19, v_b_20, v_b_27, v_b_28, v_b_29, v_b_30, v_b_31, v_dup_i, v_dup_r, v_dup2, v_pop, v_gi, v_gl, v_gr, v_pi, v_pl, v_pz, v_iald, v_lald, v_bald, v_zald, v_aald, v_iast, v_last, v_bast, v_zast, v_alen_0, v_alen_1, v_alen_2, v_alen_3, v_alen_4, v_j_45, v_j_46, v_j_47, v_j_48, v_j_49, v_j_50, v_j_51, v_j_52, v_j_53, v_j_54, v_j_55, v_j_56, v_goto, v_sw, v_ret_i, v_ret_z, v_ret, v_cpy, v_iv_1, v_iv_2, v_iv_3, v_iv_4, v_iv_5, v_iv_6, v_is2_1, v_is2_2, v_is2_3, v_ivJ, List.nil_append, List.cons_append, rf_0_0, rf_0_1, rf_0_2, rf_0_3, rf_0_4, rf_0_5, rf_0_6, rf_0_7, rf_0_8, rf_0_9, rf_1_0, rf_1_2, rf_4_0, rf_4_1, rf_4_2, rf_5_8, rf_5_9, rf_5_10, rf_5_11, rf_5_12, rf_13_0, rf_13_1, rf_14_0, rf_14_1, rf_14_2, rf_15_8, rf_15_9, rf_15_10, rf_15_11, rf_15_12, rf_23_0, rf_23_1, rf_23_2, rf_24_8, rf_24_9, rf_24_10, rf_24_11, rf_24_12, rf_32_6, rf_34_0, rf_34_1, rf_34_2, rf_34_3, rf_35_8, rf_35_9, rf_35_10, rf_35_11, rf_35_12, rf_43_0, rf_43_1, rf_43_2, rf_43_3, rf_45_0, rf_45_1, rf_46_0, rf_46_1, rf_46_2, rf_46_3, rf_46_4, rf_46_5, rf_47_0, rf_47_1, rf_49_0, rf_49_1, rf_49_2, rf_49_3, rf_49_4, rf_49_5, rf_53_0, rf_53_1, rf_53_2, rf_53_3, rf_53_4, rf_53_5, rf_53_6, rf_53_7, rf_53_9, rf_53_10, rf_53_11, rf_53_12, rf_53_13, rf_54_0, rf_54_1, rf_55_1, rf_55_2, rf_55_3, rf_67_1, rf_67_6, rf_67_7, rf_67_8, rf_67_9, rf_67_10, rf_67_22, rf_67_23, rf_67_28, rf_67_30, rf_67_32, rf_67_33, rf_67_38, rf_67_39, rf_67_48, rf_67_49, rf_67_51, rf_67_52, rf_67_53, rf_67_54, rf_67_55, rf_67_60, rf_67_61, rf_67_62, up_s, up_b, up_j, b_48_72, k_48_72, b_48_81, k_48_81, b_48_99, k_48_99, b_48_135, k_48_135, b_48_141, k_48_141, b_48_162, k_48_162, w_sm, ↓if_pos, ↓if_neg, p1, p2]
  · rw [if_neg h1]
    by_cases h2 : f = 0
    · rw [if_pos h2] at hc
      simp (disch := first | exact nl_i _ | exact nl_r _ | exact Nat.le_of_ble_eq_true rfl | exact Or.inl rfl | exact Or.inr rfl | exact w8_lo _ | exact w8_hi _ | decide | omega) only [v_fall, v_il_0, v_al_0, v_is_0, v_as_0, v_inc_0, v_ll_0, v_ls_0, v_il_1, v_al_1, v_is_1, v_as_1, v_inc_1, v_ll_1, v_ls_1, v_il_2, v_al_2, v_is_2, v_as_2, v_inc_2, v_ll_2, v_ls_2, v_il_3, v_al_3, v_is_3, v_as_3, v_inc_3, v_ll_3, v_ls_3, v_il_4, v_al_4, v_is_4, v_as_4, v_inc_4, v_ll_4, v_ls_4, v_il_5, v_al_5, v_is_5, v_as_5, v_inc_5, v_ll_5, v_ls_5, v_il_6, v_al_6, v_is_6, v_as_6, v_inc_6, v_il_7, v_al_7, v_is_7, v_as_7, v_inc_7, v_il_8, v_al_8, v_is_8, v_as_8, v_inc_8, v_il_9, v_al_9, v_is_9, v_as_9, v_inc_9, v_il_10, v_al_10, v_is_10, v_as_10, v_inc_10, v_il_11, v_al_11, v_is_11, v_as_11, v_inc_11, v_il_12, v_al_12, v_is_12, v_as_12, v_inc_12, v_il_13, v_al_13, v_is_13, v_as_13, v_inc_13, v_c_8, v_c_9, v_c_10, v_c_11, v_c_12, v_c_13, v_c_14, v_b_15, v_b_16, v_b_17, v_b_21, v_b_22, v_b_23, v_b_24, v_b_25, v_b_26, v_b_18, v_b_19, v_b_20, v_b_27, v_b_28, v_b_29, v_b_30, v_b_31, v_dup_i, v_dup_r, v_dup2, v_pop, v_gi, v_gl, v_gr, v_pi, v_pl, v_pz, v_iald, v_lald, v_bald, v_zald, v_aald, v_iast, v_last, v_bast, v_zast, v_alen_0, v_alen_1, v_alen_2, v_alen_3, v_alen_4, v_j_45, v_j_46, v_j_47, v_j_48, v_j_49, v_j_50, v_j_51, v_j_52, v_j_53, v_j_54, v_j_55, v_j_56, v_goto, v_sw, v_ret_i, v_ret_z, v_ret, v_cpy, v_iv_1, v_iv_2, v_iv_3, v_iv_4, v_iv_5, v_iv_6, v_is2_1, v_is2_2, v_is2_3, v_ivJ, List.nil_append, List.cons_append, rf_0_0, rf_0_1, rf_0_2, rf_0_3, rf_0_4, rf_0_5, rf_0_6, rf_0_7, rf_0_8, rf_0_9, rf_1_0, rf_1_2, rf_4_0, rf_4_1, rf_4_2, rf_5_8, rf_5_9, rf_5_10, rf_5_11, rf_5_12, rf_13_0, rf_13_1, rf_14_0, rf_14_1, rf_14_2, rf_15_8, rf_15_9, rf_15_10, rf_15_11, rf_15_12, rf_23_0, rf_23_1, rf_23_2, rf_24_8, rf_24_9, rf_24_10, rf_24_11, rf_24_12, rf_32_6, rf_34_0, rf_34_1, rf_34_2, rf_34_3, rf_35_8, rf_35_9, rf_35_10, rf_35_11, rf_35_12, rf_43_0, rf_43_1, rf_43_2, rf_43_3, rf_45_0, rf_45_1, rf_46_0, rf_46_1, rf_46_2, rf_46_3, rf_46_4, rf_46_5, rf_47_0, rf_47_1, rf_49_0, rf_49_1, rf_49_2, rf_49_3, rf_49_4, rf_49_5, rf_53_0, rf_53_1, rf_53_2, rf_53_3, rf_53_4, rf_53_5, rf_53_6, rf_53_7, rf_53_9, rf_53_10, rf_53_11, rf_53_12, rf_53_13, rf_54_0, rf_54_1, rf_55_1, rf_55_2, rf_55_3, rf_67_1, rf_67_6, rf_67_7, rf_67_8, rf_67_9, rf_67_10, rf_67_22, rf_67_23, rf_67_28, rf_67_30, rf_67_32, rf_67_33, rf_67_38, rf_67_39, rf_67_48, rf_67_49, rf_67_51, rf_67_52, rf_67_53, rf_67_54, rf_67_55, rf_67_60, rf_67_61, rf_67_62, up_s, up_b, up_j, b_48_72, k_48_72, b_48_81, k_48_81, b_48_99, k_48_99, b_48_135, k_48_135, b_48_141, k_48_141, b_48_162, k_48_162, w_sm, ↓if_pos, ↓if_neg, p1, p2, s_min, ha, hw, hc]
    · rw [if_neg h2] at hc
      have p3' := p3 h2
      simp (disch := first | exact nl_i _ | exact nl_r _ | exact Nat.le_of_ble_eq_true rfl | exact Or.inl rfl | exact Or.inr rfl | exact w8_lo _ | exact w8_hi _ | decide | omega) only [v_fall, v_il_0, v_al_0, v_is_0, v_as_0, v_inc_0, v_ll_0, v_ls_0, v_il_1, v_al_1, v_is_1, v_as_1, v_inc_1, v_ll_1, v_ls_1, v_il_2, v_al_2, v_is_2, v_as_2, v_inc_2, v_ll_2, v_ls_2, v_il_3, v_al_3, v_is_3, v_as_3, v_inc_3, v_ll_3, v_ls_3, v_il_4, v_al_4, v_is_4, v_as_4, v_inc_4, v_ll_4, v_ls_4, v_il_5, v_al_5, v_is_5, v_as_5, v_inc_5, v_ll_5, v_ls_5, v_il_6, v_al_6, v_is_6, v_as_6, v_inc_6, v_il_7, v_al_7, v_is_7, v_as_7, v_inc_7, v_il_8, v_al_8, v_is_8, v_as_8, v_inc_8, v_il_9, v_al_9, v_is_9, v_as_9, v_inc_9, v_il_10, v_al_10, v_is_10, v_as_10, v_inc_10, v_il_11, v_al_11, v_is_11, v_as_11, v_inc_11, v_il_12, v_al_12, v_is_12, v_as_12, v_inc_12, v_il_13, v_al_13, v_is_13, v_as_13, v_inc_13, v_c_8, v_c_9, v_c_10, v_c_11, v_c_12, v_c_13, v_c_14, v_b_15, v_b_16, v_b_17, v_b_21, v_b_22, v_b_23, v_b_24, v_b_25, v_b_26, v_b_18, v_b_19, v_b_20, v_b_27, v_b_28, v_b_29, v_b_30, v_b_31, v_dup_i, v_dup_r, v_dup2, v_pop, v_gi, v_gl, v_gr, v_pi, v_pl, v_pz, v_iald, v_lald, v_bald, v_zald, v_aald, v_iast, v_last, v_bast, v_zast, v_alen_0, v_alen_1, v_alen_2, v_alen_3, v_alen_4, v_j_45, v_j_46, v_j_47, v_j_48, v_j_49, v_j_50, v_j_51, v_j_52, v_j_53, v_j_54, v_j_55, v_j_56, v_goto, v_sw, v_ret_i, v_ret_z, v_ret, v_cpy, v_iv_1, v_iv_2, v_iv_3, v_iv_4, v_iv_5, v_iv_6, v_is2_1, v_is2_2, v_is2_3, v_ivJ, List.nil_append, List.cons_append, rf_0_0, rf_0_1, rf_0_2, rf_0_3, rf_0_4, rf_0_5, rf_0_6, rf_0_7, rf_0_8, rf_0_9, rf_1_0, rf_1_2, rf_4_0, rf_4_1, rf_4_2, rf_5_8, rf_5_9, rf_5_10, rf_5_11, rf_5_12, rf_13_0, rf_13_1, rf_14_0, rf_14_1, rf_14_2, rf_15_8, rf_15_9, rf_15_10, rf_15_11, rf_15_12, rf_23_0, rf_23_1, rf_23_2, rf_24_8, rf_24_9, rf_24_10, rf_24_11, rf_24_12, rf_32_6, rf_34_0, rf_34_1, rf_34_2, rf_34_3, rf_35_8, rf_35_9, rf_35_10, rf_35_11, rf_35_12, rf_43_0, rf_43_1, rf_43_2, rf_43_3, rf_45_0, rf_45_1, rf_46_0, rf_46_1, rf_46_2, rf_46_3, rf_46_4, rf_46_5, rf_47_0, rf_47_1, rf_49_0, rf_49_1, rf_49_2, rf_49_3, rf_49_4, rf_49_5, rf_53_0, rf_53_1, rf_53_2, rf_53_3, rf_53_4, rf_53_5, rf_53_6, rf_53_7, rf_53_9, rf_53_10, rf_53_11, rf_53_12, rf_53_13, rf_54_0, rf_54_1, rf_55_1, rf_55_2, rf_55_3, rf_67_1, rf_67_6, rf_67_7, rf_67_8, rf_67_9, rf_67_10, rf_67_22, rf_67_23, rf_67_28, rf_67_30, rf_67_32, rf_67_33, rf_67_38, rf_67_39, rf_67_48, rf_67_49, rf_67_51, rf_67_52, rf_67_53, rf_67_54, rf_67_55, rf_67_60, rf_67_61, rf_67_62, up_s, up_b, up_j, b_48_72, k_48_72, b_48_81, k_48_81, b_48_99, k_48_99, b_48_135, k_48_135, b_48_141, k_48_141, b_48_162, k_48_162, w_sm, ↓if_pos, ↓if_neg, p1, p2, p3', p4, h3, s_min, ha, hw, hc]
end GT
/-- a row's BARGES, its KNOTS with the row ahead -/
def rowC (w : Nat) (P : Nat → Bool) (r : Nat) : Int := ((cnt w (fun x => P (r * w + x)) : Nat) : Int)
def rowK (w : Nat) (P : Nat → Bool) (r : Nat) : Int := ((cnt w (fun x => k1 w P ((r - 1) * w + x)) : Nat) : Int)
def rowN (bits w r : Nat) : Nat := (bits / 2 ^ (r * w)) % 2 ^ w
theorem rowN_t {bits w r i : Nat} : (rowN bits w r).testBit i = (decide (i < w) && bits.testBit (r * w + i)) := by
  unfold rowN
  rw [Nat.testBit_mod_two_pow, shr_t, Nat.add_comm]
theorem rowN_lt {bits w r : Nat} : rowN bits w r < 2 ^ w := Nat.mod_lt _ (Nat.pow_pos (by decide))
theorem rowN_c {bits w r : Nat} (hw : w ≤ 24) : ((pcn 24 (rowN bits w r) : Nat) : Int) = rowC w bits.testBit r := by
  unfold rowC
  rw [pcn_cnt, cnt_tail hw (fun i h1 _ => by rw [rowN_t, decide_eq_false (by omega)]; rfl), cnt_cg (fun i hi => by rw [rowN_t, decide_eq_true hi, Bool.true_and])]
theorem rowN_k {bits w r : Nat} (hw : w ≤ 24) (hr : 1 ≤ r) : ((pcn 24 (rowN bits w r &&& rowN bits w (r - 1)) : Nat) : Int) = rowK w bits.testBit r := by
  unfold rowK
  obtain ⟨s, rfl⟩ : ∃ s, r = s + 1 := ⟨r - 1, by omega⟩
  rw [Nat.add_sub_cancel, pcn_cnt, cnt_tail hw (fun i h1 _ => by rw [Nat.testBit_and, rowN_t, decide_eq_false (show ¬ i < w by omega)]; rfl)]
  congr 1
  refine cnt_cg (fun i hi => ?_)
  rw [Nat.testBit_and, rowN_t, rowN_t, decide_eq_true hi, Bool.true_and, Bool.true_and]
  unfold k1
  rw [Bool.and_comm, show (s + 1) * w + i = s * w + i + w by rw [Nat.add_mul, Nat.one_mul]; omega]
theorem rowC_b {w : Nat} {P : Nat → Bool} {r : Nat} : 0 ≤ rowC w P r ∧ rowC w P r ≤ (w : Int) := by
  have := cnt_le (p := fun x => P (r * w + x)) (n := w)
  unfold rowC
  omega
theorem rowK_b {w : Nat} {P : Nat → Bool} {r : Nat} : 0 ≤ rowK w P r ∧ rowK w P r ≤ (w : Int) := by
  have := cnt_le (p := fun x => k1 w P ((r - 1) * w + x)) (n := w)
  unfold rowK
  omega
theorem rowC_z {w : Nat} {P : Nat → Bool} {r : Nat} (h : rowC w P r = 0) : ∀ x, x < w → P (r * w + x) = false := by
  unfold rowC at h
  intro x hx
  apply Classical.byContradiction
  intro hp
  have := cnt_pos (p := fun x => P (r * w + x)) (n := w) ⟨x, hx, by simpa using hp⟩
  omega
theorem rowK_0 {w : Nat} {P : Nat → Bool} {r : Nat} (h : rowC w P r = 0) : rowK w P (r + 1) = 0 := by
  unfold rowK
  rw [Nat.add_sub_cancel, cnt_z (fun i hi => by unfold k1; rw [rowC_z h i hi]; rfl)]
  rfl
theorem rowK_1 {w : Nat} {P : Nat → Bool} {r : Nat} (h : rowC w P (r + 1) = 0) : rowK w P (r + 1) = 0 := by
  unfold rowK
  rw [Nat.add_sub_cancel, cnt_z (fun i hi => by
    unfold k1
    have := rowC_z h i hi
    rw [show r * w + i + w = (r + 1) * w + i by rw [Nat.add_mul, Nat.one_mul]; omega, this, Bool.and_false])]
  rfl
/-- KNOTS with the row ahead; none of the first row -/
def rowK' (w : Nat) (P : Nat → Bool) (r : Nat) : Int := if r = 0 then 0 else rowK w P r
theorem paR_row {w : Nat} {P : Nat → Bool} {t : Int} (hw : w ≤ 4) (ht : 0 ≤ t) (e : Nat) (he : e ≤ 6) : paR (rowC w P) e (wTab (rowC w P) (rowK' w P) t e e) (rTab (rowC w P) (rowK' w P) t e e) := by
  refine pa_all ht (fun r => rowC_b.1) (fun r => ?_) (fun r h => ?_) (fun r h => ?_) e he
  · have := rowK_b (w := w) (P := P) (r := r)
    unfold rowK'
    by_cases h : r = 0
    · rw [if_pos h]; decide
    · rw [if_neg h]; omega
  · unfold rowK'
    rw [if_neg (by omega)]
    exact rowK_0 h
  · unfold rowK'
    by_cases h0 : r = 0
    · rw [if_pos h0]
    · rw [if_neg h0]
      obtain ⟨s, rfl⟩ : ∃ s, r = s + 1 := ⟨r - 1, by omega⟩
      exact rowK_1 h
section GU
variable {d : Nat} {M : Mem} {Q : List AV → Mem → Prop}
theorem ir_s (x r b f s y z : Int) (h0 : M 32 0 = b) (h3 : M 32 3 = f) (g0 : r * b = s) (g1 : shr32 x s = y) (g2 : and32 y f = z) : XC d 4 [aR 10 0 32, aI x, aI r] M Q ↔ Q [aI z] M := by
  rw [e_4, k_4_0]
  simp (disch := first | exact nl_i _ | exact nl_r _ | exact Nat.le_of_ble_eq_true rfl | exact Or.inl rfl | exact Or.inr rfl | exact w8_lo _ | exact w8_hi _ | decide | omega) only [v_fall, v_il_0, v_al_0, v_is_0, v_as_0, v_inc_0, v_ll_0, v_ls_0, v_il_1, v_al_1, v_is_1, v_as_1, v_inc_1, v_ll_1, v_ls_1, v_il_2, v_al_2, v_is_2, v_as_2, v_inc_2, v_ll_2, v_ls_2, v_il_3, v_al_3, v_is_3, v_as_3, v_inc_3, v_ll_3, v_ls_3, v_il_4, v_al_4, v_is_4, v_as_4, v_inc_4, v_ll_4, v_ls_4, v_il_5, v_al_5, v_is_5, v_as_5, v_inc_5, v_ll_5, v_ls_5, v_il_6, v_al_6, v_is_6, v_as_6, v_inc_6, v_il_7, v_al_7, v_is_7, v_as_7, v_inc_7, v_il_8, v_al_8, v_is_8, v_as_8, v_inc_8, v_il_9, v_al_9, v_is_9, v_as_9, v_inc_9, v_il_10, v_al_10, v_is_10, v_as_10, v_inc_10, v_il_11, v_al_11, v_is_11, v_as_11, v_inc_11, v_il_12, v_al_12, v_is_12, v_as_12, v_inc_12, v_il_13, v_al_13, v_is_13, v_as_13, v_inc_13, v_c_8, v_c_9, v_c_10, v_c_11, v_c_12, v_c_13, v_c_14, v_b_15, v_b_16, v_b_17, v_b_21, v_b_22, v_b_23, v_b_24, v_b_25, v_b_26, v_b_18, v_b_19, v_b_20, v_b_27, v_b_28, v_b_29, v_b_30, v_b_31, v_dup_i, v_dup_r, v_dup2, v_pop, v_gi, v_gl, v_gr, v_pi, v_pl, v_pz, v_iald, v_lald, v_bald, v_zald, v_aald, v_iast, v_last, v_bast, v_zast, v_alen_0, v_alen_1, v_alen_2, v_alen_3, v_alen_4, v_j_45, v_j_46, v_j_47, v_j_48, v_j_49, v_j_50, v_j_51, v_j_52, v_j_53, v_j_54, v_j_55, v_j_56, v_goto, v_sw, v_ret_i, v_ret_z, v_ret, v_cpy, v_iv_1, v_iv_2, v_iv_3, v_iv_4, v_iv_5, v_iv_6, v_is2_1, v_is2_2, v_is2_3, v_ivJ, List.nil_append, List.cons_append, rf_0_0, rf_0_1, rf_0_2, rf_0_3, rf_0_4, rf_0_5, rf_0_6, rf_0_7, rf_0_8, rf_0_9, rf_1_0, rf_1_2, rf_4_0, rf_4_1, rf_4_2, rf_5_8, rf_5_9, rf_5_10, rf_5_11, rf_5_12, rf_13_0, rf_13_1, rf_14_0, rf_14_1, rf_14_2, rf_15_8, rf_15_9, rf_15_10, rf_15_11, rf_15_12, rf_23_0, rf_23_1, rf_23_2, rf_24_8, rf_24_9, rf_24_10, rf_24_11, rf_24_12, rf_32_6, rf_34_0, rf_34_1, rf_34_2, rf_34_3, rf_35_8, rf_35_9, rf_35_10, rf_35_11, rf_35_12, rf_43_0, rf_43_1, rf_43_2, rf_43_3, rf_45_0, rf_45_1, rf_46_0, rf_46_1, rf_46_2, rf_46_3, rf_46_4, rf_46_5, rf_47_0, rf_47_1, rf_49_0, rf_49_1, rf_49_2, rf_49_3, rf_49_4, rf_49_5, rf_53_0, rf_53_1, rf_53_2, rf_53_3, rf_53_4, rf_53_5, rf_53_6, rf_53_7, rf_53_9, rf_53_10, rf_53_11, rf_53_12, rf_53_13, rf_54_0, rf_54_1, rf_55_1, rf_55_2, rf_55_3, rf_67_1, rf_67_6, rf_67_7, rf_67_8, rf_67_9, rf_67_10, rf_67_22, rf_67_23, rf_67_28, rf_67_30, rf_67_32, rf_67_33, rf_67_38, rf_67_39, rf_67_48, rf_67_49, rf_67_51, rf_67_52, rf_67_53, rf_67_54, rf_67_55, rf_67_60, rf_67_61, rf_67_62, up_s, up_b, up_j, w_sm, ↓if_pos, ↓if_neg,  h0, h3, g0, g1, g2]
theorem s_inRow {w l : Nat} (hG : GS M w l) (bits r : Nat) (hb : bits < 2147483648) (hr : r * w < 32) : XC d 4 [aR 10 0 32, aI (bits : Int), aI (r : Int)] M Q ↔ Q [aI ((rowN bits w r : Nat) : Int)] M := by
  refine ir_s (bits : Int) (r : Int) (w : Int) ((2 ^ w - 1 : Nat) : Int) ((r * w : Nat) : Int) ((bits / 2 ^ (r * w) : Nat) : Int) _ hG.2.2.1 hG.2.2.2.2.2.1 (Int.natCast_mul r w).symm (shr_nat bits (r * w) hr hb) ?_
  rw [and_mask _ w (by have := hG.1; omega)]
  unfold rowN
  exact (Int.natCast_emod _ _).symm
theorem gt_3 (en many : Int) (o1 o2 o6 o7 : AV) : XL d 48 36 [aR 14 0 43, o1, o2, aI en, aI many, aI (-1), o6, o7] [] M Q ↔ XL d 48 9 [aR 14 0 43, o1, o2, aI (en + 1), aI many, aI (-1), o6, o7] [] M Q := by
  rw [b_48_36, k_48_36]
  simp (disch := first | exact nl_i _ | exact nl_r _ | exact Nat.le_of_ble_eq_true rfl | exact Or.inl rfl | exact Or.inr rfl | exact w8_lo _ | exact w8_hi _ | decide | omega) only [v_fall, v_il_0, v_al_0, v_is_0, v_as_0, v_inc_0, v_ll_0, v_ls_0, v_il_1, v_al_1, v_is_1, v_as_1, v_inc_1, v_ll_1, v_ls_1, v_il_2, v_al_2, v_is_2, v_as_2, v_inc_2, v_ll_2, v_ls_2, v_il_3, v_al_3, v_is_3, v_as_3, v_inc_3, v_ll_3, v_ls_3, v_il_4, v_al_4, v_is_4, v_as_4, v_inc_4, v_ll_4, v_ls_4, v_il_5, v_al_5, v_is_5, v_as_5, v_inc_5, v_ll_5, v_ls_5, v_il_6, v_al_6, v_is_6, v_as_6, v_inc_6, v_il_7, v_al_7, v_is_7, v_as_7, v_inc_7, v_il_8, v_al_8, v_is_8, v_as_8, v_inc_8, v_il_9, v_al_9, v_is_9, v_as_9, v_inc_9, v_il_10, v_al_10, v_is_10, v_as_10, v_inc_10, v_il_11, v_al_11, v_is_11, v_as_11, v_inc_11, v_il_12, v_al_12, v_is_12, v_as_12, v_inc_12, v_il_13, v_al_13, v_is_13, v_as_13, v_inc_13, v_c_8, v_c_9, v_c_10, v_c_11, v_c_12, v_c_13, v_c_14, v_b_15, v_b_16, v_b_17, v_b_21, v_b_22, v_b_23, v_b_24, v_b_25, v_b_26, v_b_18, v_b_19, v_b_20, v_b_27, v_b_28, v_b_29, v_b_30, v_b_31, v_dup_i, v_dup_r, v_dup2, v_pop, v_gi, v_gl, v_gr, v_pi, v_pl, v_pz, v_iald, v_lald, v_bald, v_zald, v_aald, v_iast, v_last, v_bast, v_zast, v_alen_0, v_alen_1, v_alen_2, v_alen_3, v_alen_4, v_j_45, v_j_46, v_j_47, v_j_48, v_j_49, v_j_50, v_j_51, v_j_52, v_j_53, v_j_54, v_j_55, v_j_56, v_goto, v_sw, v_ret_i, v_ret_z, v_ret, v_cpy, v_iv_1, v_iv_2, v_iv_3, v_iv_4, v_iv_5, v_iv_6, v_is2_1, v_is2_2, v_is2_3, v_ivJ, List.nil_append, List.cons_append, rf_0_0, rf_0_1, rf_0_2, rf_0_3, rf_0_4, rf_0_5, rf_0_6, rf_0_7, rf_0_8, rf_0_9, rf_1_0, rf_1_2, rf_4_0, rf_4_1, rf_4_2, rf_5_8, rf_5_9, rf_5_10, rf_5_11, rf_5_12, rf_13_0, rf_13_1, rf_14_0, rf_14_1, rf_14_2, rf_15_8, rf_15_9, rf_15_10, rf_15_11, rf_15_12, rf_23_0, rf_23_1, rf_23_2, rf_24_8, rf_24_9, rf_24_10, rf_24_11, rf_24_12, rf_32_6, rf_34_0, rf_34_1, rf_34_2, rf_34_3, rf_35_8, rf_35_9, rf_35_10, rf_35_11, rf_35_12, rf_43_0, rf_43_1, rf_43_2, rf_43_3, rf_45_0, rf_45_1, rf_46_0, rf_46_1, rf_46_2, rf_46_3, rf_46_4, rf_46_5, rf_47_0, rf_47_1, rf_49_0, rf_49_1, rf_49_2, rf_49_3, rf_49_4, rf_49_5, rf_53_0, rf_53_1, rf_53_2, rf_53_3, rf_53_4, rf_53_5, rf_53_6, rf_53_7, rf_53_9, rf_53_10, rf_53_11, rf_53_12, rf_53_13, rf_54_0, rf_54_1, rf_55_1, rf_55_2, rf_55_3, rf_67_1, rf_67_6, rf_67_7, rf_67_8, rf_67_9, rf_67_10, rf_67_22, rf_67_23, rf_67_28, rf_67_30, rf_67_32, rf_67_33, rf_67_38, rf_67_39, rf_67_48, rf_67_49, rf_67_51, rf_67_52, rf_67_53, rf_67_54, rf_67_55, rf_67_60, rf_67_61, rf_67_62, up_s, up_b, up_j, b_48_72, k_48_72, b_48_81, k_48_81, b_48_99, k_48_99, b_48_135, k_48_135, b_48_141, k_48_141, b_48_162, k_48_162, w_sm, ↓if_pos, ↓if_neg,  ]
theorem gt_1 (en l : Int) (o1 o2 o4 o5 o6 o7 : AV) (hl : M 32 1 = l) (hlb : 1 ≤ l ∧ l ≤ 6) (he : 1 ≤ en ∧ en ≤ l) : XL d 48 9 [aR 14 0 43, o1, o2, aI en, o4, o5, o6, o7] [] M Q ↔ XL d 48 36 [aR 14 0 43, o1, o2, aI en, aI 0, aI (en - 1), o6, o7] [] (up M 44 en 500000000) Q := by
  rw [b_48_9, k_48_9]
  simp (disch := first | exact nl_i _ | exact nl_r _ | exact Nat.le_of_ble_eq_true rfl | exact Or.inl rfl | exact Or.inr rfl | exact w8_lo _ | exact w8_hi _ | decide | omega) only [v_fall, v_il_0, v_al_0, v_is_0, v_as_0, v_inc_0, v_ll_0, v_ls_0, v_il_1, v_al_1, v_is_1, v_as_1, v_inc_1, v_ll_1, v_ls_1, v_il_2, v_al_2, v_is_2, v_as_2, v_inc_2, v_ll_2, v_ls_2, v_il_3, v_al_3, v_is_3, v_as_3, v_inc_3, v_ll_3, v_ls_3, v_il_4, v_al_4, v_is_4, v_as_4, v_inc_4, v_ll_4, v_ls_4, v_il_5, v_al_5, v_is_5, v_as_5, v_inc_5, v_ll_5, v_ls_5, v_il_6, v_al_6, v_is_6, v_as_6, v_inc_6, v_il_7, v_al_7, v_is_7, v_as_7, v_inc_7, v_il_8, v_al_8, v_is_8, v_as_8, v_inc_8, v_il_9, v_al_9, v_is_9, v_as_9, v_inc_9, v_il_10, v_al_10, v_is_10, v_as_10, v_inc_10, v_il_11, v_al_11, v_is_11, v_as_11, v_inc_11, v_il_12, v_al_12, v_is_12, v_as_12, v_inc_12, v_il_13, v_al_13, v_is_13, v_as_13, v_inc_13, v_c_8, v_c_9, v_c_10, v_c_11, v_c_12, v_c_13, v_c_14, v_b_15, v_b_16, v_b_17, v_b_21, v_b_22, v_b_23, v_b_24, v_b_25, v_b_26, v_b_18, v_b_19, v_b_20, v_b_27, v_b_28, v_b_29, v_b_30, v_b_31, v_dup_i, v_dup_r, v_dup2, v_pop, v_gi, v_gl, v_gr, v_pi, v_pl, v_pz, v_iald, v_lald, v_bald, v_zald, v_aald, v_iast, v_last, v_bast, v_zast, v_alen_0, v_alen_1, v_alen_2, v_alen_3, v_alen_4, v_j_45, v_j_46, v_j_47, v_j_48, v_j_49, v_j_50, v_j_51, v_j_52, v_j_53, v_j_54, v_j_55, v_j_56, v_goto, v_sw, v_ret_i, v_ret_z, v_ret, v_cpy, v_iv_1, v_iv_2, v_iv_3, v_iv_4, v_iv_5, v_iv_6, v_is2_1, v_is2_2, v_is2_3, v_ivJ, List.nil_append, List.cons_append, rf_0_0, rf_0_1, rf_0_2, rf_0_3, rf_0_4, rf_0_5, rf_0_6, rf_0_7, rf_0_8, rf_0_9, rf_1_0, rf_1_2, rf_4_0, rf_4_1, rf_4_2, rf_5_8, rf_5_9, rf_5_10, rf_5_11, rf_5_12, rf_13_0, rf_13_1, rf_14_0, rf_14_1, rf_14_2, rf_15_8, rf_15_9, rf_15_10, rf_15_11, rf_15_12, rf_23_0, rf_23_1, rf_23_2, rf_24_8, rf_24_9, rf_24_10, rf_24_11, rf_24_12, rf_32_6, rf_34_0, rf_34_1, rf_34_2, rf_34_3, rf_35_8, rf_35_9, rf_35_10, rf_35_11, rf_35_12, rf_43_0, rf_43_1, rf_43_2, rf_43_3, rf_45_0, rf_45_1, rf_46_0, rf_46_1, rf_46_2, rf_46_3, rf_46_4, rf_46_5, rf_47_0, rf_47_1, rf_49_0, rf_49_1, rf_49_2, rf_49_3, rf_49_4, rf_49_5, rf_53_0, rf_53_1, rf_53_2, rf_53_3, rf_53_4, rf_53_5, rf_53_6, rf_53_7, rf_53_9, rf_53_10, rf_53_11, rf_53_12, rf_53_13, rf_54_0, rf_54_1, rf_55_1, rf_55_2, rf_55_3, rf_67_1, rf_67_6, rf_67_7, rf_67_8, rf_67_9, rf_67_10, rf_67_22, rf_67_23, rf_67_28, rf_67_30, rf_67_32, rf_67_33, rf_67_38, rf_67_39, rf_67_48, rf_67_49, rf_67_51, rf_67_52, rf_67_53, rf_67_54, rf_67_55, rf_67_60, rf_67_61, rf_67_62, up_s, up_b, up_j, b_48_72, k_48_72, b_48_81, k_48_81, b_48_99, k_48_99, b_48_135, k_48_135, b_48_141, k_48_141, b_48_162, k_48_162, w_sm, ↓if_pos, ↓if_neg,  hl]
theorem gt_4 (en l a q r : Int) (o1 o2 o4 o5 o6 o7 : AV) (hl : M 32 1 = l) (hlb : 1 ≤ l ∧ l ≤ 6) (he : l < en ∧ en ≤ 7) (ha : M 44 l = a) (hab : 0 ≤ a ∧ a ≤ 500000000) (g1 : div32 a 100 = q) (g2 : rem32 a 100 = r) : XL d 48 9 [aR 14 0 43, o1, o2, aI en, o4, o5, o6, o7] [] M Q ↔ (if a < 500000000 then Q [aI 1] (up (up M 43 8 q) 43 9 r) else Q [aI 0] M) := by
  rw [b_48_9, k_48_9]
  by_cases h : a < 500000000
  · simp (disch := first | exact nl_i _ | exact nl_r _ | exact Nat.le_of_ble_eq_true rfl | exact Or.inl rfl | exact Or.inr rfl | exact w8_lo _ | exact w8_hi _ | decide | omega) only [v_fall, v_il_0, v_al_0, v_is_0, v_as_0, v_inc_0, v_ll_0, v_ls_0, v_il_1, v_al_1, v_is_1, v_as_1, v_inc_1, v_ll_1, v_ls_1, v_il_2, v_al_2, v_is_2, v_as_2, v_inc_2, v_ll_2, v_ls_2, v_il_3, v_al_3, v_is_3, v_as_3, v_inc_3, v_ll_3, v_ls_3, v_il_4, v_al_4, v_is_4, v_as_4, v_inc_4, v_ll_4, v_ls_4, v_il_5, v_al_5, v_is_5, v_as_5, v_inc_5, v_ll_5, v_ls_5, v_il_6, v_al_6, v_is_6, v_as_6, v_inc_6, v_il_7, v_al_7, v_is_7, v_as_7, v_inc_7, v_il_8, v_al_8, v_is_8, v_as_8, v_inc_8, v_il_9, v_al_9, v_is_9, v_as_9, v_inc_9, v_il_10, v_al_10, v_is_10, v_as_10, v_inc_10, v_il_11, v_al_11, v_is_11, v_as_11, v_inc_11, v_il_12, v_al_12, v_is_12, v_as_12, v_inc_12, v_il_13, v_al_13, v_is_13, v_as_13, v_inc_13, v_c_8, v_c_9, v_c_10, v_c_11, v_c_12, v_c_13, v_c_14, v_b_15, v_b_16, v_b_17, v_b_21, v_b_22, v_b_23, v_b_24, v_b_25, v_b_26, v_b_18, v_b_19, v_b_20, v_b_27, v_b_28, v_b_29, v_b_30, v_b_31, v_dup_i, v_dup_r, v_dup2, v_pop, v_gi, v_gl, v_gr, v_pi, v_pl, v_pz, v_iald, v_lald, v_bald, v_zald, v_aald, v_iast, v_last, v_bast, v_zast, v_alen_0, v_alen_1, v_alen_2, v_alen_3, v_alen_4, v_j_45, v_j_46, v_j_47, v_j_48, v_j_49, v_j_50, v_j_51, v_j_52, v_j_53, v_j_54, v_j_55, v_j_56, v_goto, v_sw, v_ret_i, v_ret_z, v_ret, v_cpy, v_iv_1, v_iv_2, v_iv_3, v_iv_4, v_iv_5, v_iv_6, v_is2_1, v_is2_2, v_is2_3, v_ivJ, List.nil_append, List.cons_append, rf_0_0, rf_0_1, rf_0_2, rf_0_3, rf_0_4, rf_0_5, rf_0_6, rf_0_7, rf_0_8, rf_0_9, rf_1_0, rf_1_2, rf_4_0, rf_4_1, rf_4_2, rf_5_8, rf_5_9, rf_5_10, rf_5_11, rf_5_12, rf_13_0, rf_13_1, rf_14_0, rf_14_1, rf_14_2, rf_15_8, rf_15_9, rf_15_10, rf_15_11, rf_15_12, rf_23_0, rf_23_1, rf_23_2, rf_24_8, rf_24_9, rf_24_10, rf_24_11, rf_24_12, rf_32_6, rf_34_0, rf_34_1, rf_34_2, rf_34_3, rf_35_8, rf_35_9, rf_35_10, rf_35_11, rf_35_12, rf_43_0, rf_43_1, rf_43_2, rf_43_3, rf_45_0, rf_45_1, rf_46_0, rf_46_1, rf_46_2, rf_46_3, rf_46_4, rf_46_5, rf_47_0, rf_47_1, rf_49_0, rf_49_1, rf_49_2, rf_49_3, rf_49_4, rf_49_5, rf_53_0, rf_53_1, rf_53_2, rf_53_3, rf_53_4, rf_53_5, rf_53_6, rf_53_7, rf_53_9, rf_53_10, rf_53_11, rf_53_12, rf_53_13, rf_54_0, rf_54_1, rf_55_1, rf_55_2, rf_55_3, rf_67_1, rf_67_6, rf_67_7, rf_67_8, rf_67_9, rf_67_10, rf_67_22, rf_67_23, rf_67_28, rf_67_30, rf_67_32, rf_67_33, rf_67_38, rf_67_39, rf_67_48, rf_67_49, rf_67_51, rf_67_52, rf_67_53, rf_67_54, rf_67_55, rf_67_60, rf_67_61, rf_67_62, up_s, up_b, up_j, b_48_72, k_48_72, b_48_81, k_48_81, b_48_99, k_48_99, b_48_135, k_48_135, b_48_141, k_48_141, b_48_162, k_48_162, w_sm, ↓if_pos, ↓if_neg,  hl, ha, g1, g2, v_b_18, v_b_19]
  · simp (disch := first | exact nl_i _ | exact nl_r _ | exact Nat.le_of_ble_eq_true rfl | exact Or.inl rfl | exact Or.inr rfl | exact w8_lo _ | exact w8_hi _ | decide | omega) only [v_fall, v_il_0, v_al_0, v_is_0, v_as_0, v_inc_0, v_ll_0, v_ls_0, v_il_1, v_al_1, v_is_1, v_as_1, v_inc_1, v_ll_1, v_ls_1, v_il_2, v_al_2, v_is_2, v_as_2, v_inc_2, v_ll_2, v_ls_2, v_il_3, v_al_3, v_is_3, v_as_3, v_inc_3, v_ll_3, v_ls_3, v_il_4, v_al_4, v_is_4, v_as_4, v_inc_4, v_ll_4, v_ls_4, v_il_5, v_al_5, v_is_5, v_as_5, v_inc_5, v_ll_5, v_ls_5, v_il_6, v_al_6, v_is_6, v_as_6, v_inc_6, v_il_7, v_al_7, v_is_7, v_as_7, v_inc_7, v_il_8, v_al_8, v_is_8, v_as_8, v_inc_8, v_il_9, v_al_9, v_is_9, v_as_9, v_inc_9, v_il_10, v_al_10, v_is_10, v_as_10, v_inc_10, v_il_11, v_al_11, v_is_11, v_as_11, v_inc_11, v_il_12, v_al_12, v_is_12, v_as_12, v_inc_12, v_il_13, v_al_13, v_is_13, v_as_13, v_inc_13, v_c_8, v_c_9, v_c_10, v_c_11, v_c_12, v_c_13, v_c_14, v_b_15, v_b_16, v_b_17, v_b_21, v_b_22, v_b_23, v_b_24, v_b_25, v_b_26, v_b_18, v_b_19, v_b_20, v_b_27, v_b_28, v_b_29, v_b_30, v_b_31, v_dup_i, v_dup_r, v_dup2, v_pop, v_gi, v_gl, v_gr, v_pi, v_pl, v_pz, v_iald, v_lald, v_bald, v_zald, v_aald, v_iast, v_last, v_bast, v_zast, v_alen_0, v_alen_1, v_alen_2, v_alen_3, v_alen_4, v_j_45, v_j_46, v_j_47, v_j_48, v_j_49, v_j_50, v_j_51, v_j_52, v_j_53, v_j_54, v_j_55, v_j_56, v_goto, v_sw, v_ret_i, v_ret_z, v_ret, v_cpy, v_iv_1, v_iv_2, v_iv_3, v_iv_4, v_iv_5, v_iv_6, v_is2_1, v_is2_2, v_is2_3, v_ivJ, List.nil_append, List.cons_append, rf_0_0, rf_0_1, rf_0_2, rf_0_3, rf_0_4, rf_0_5, rf_0_6, rf_0_7, rf_0_8, rf_0_9, rf_1_0, rf_1_2, rf_4_0, rf_4_1, rf_4_2, rf_5_8, rf_5_9, rf_5_10, rf_5_11, rf_5_12, rf_13_0, rf_13_1, rf_14_0, rf_14_1, rf_14_2, rf_15_8, rf_15_9, rf_15_10, rf_15_11, rf_15_12, rf_23_0, rf_23_1, rf_23_2, rf_24_8, rf_24_9, rf_24_10, rf_24_11, rf_24_12, rf_32_6, rf_34_0, rf_34_1, rf_34_2, rf_34_3, rf_35_8, rf_35_9, rf_35_10, rf_35_11, rf_35_12, rf_43_0, rf_43_1, rf_43_2, rf_43_3, rf_45_0, rf_45_1, rf_46_0, rf_46_1, rf_46_2, rf_46_3, rf_46_4, rf_46_5, rf_47_0, rf_47_1, rf_49_0, rf_49_1, rf_49_2, rf_49_3, rf_49_4, rf_49_5, rf_53_0, rf_53_1, rf_53_2, rf_53_3, rf_53_4, rf_53_5, rf_53_6, rf_53_7, rf_53_9, rf_53_10, rf_53_11, rf_53_12, rf_53_13, rf_54_0, rf_54_1, rf_55_1, rf_55_2, rf_55_3, rf_67_1, rf_67_6, rf_67_7, rf_67_8, rf_67_9, rf_67_10, rf_67_22, rf_67_23, rf_67_28, rf_67_30, rf_67_32, rf_67_33, rf_67_38, rf_67_39, rf_67_48, rf_67_49, rf_67_51, rf_67_52, rf_67_53, rf_67_54, rf_67_55, rf_67_60, rf_67_61, rf_67_62, up_s, up_b, up_j, b_48_72, k_48_72, b_48_81, k_48_81, b_48_99, k_48_99, b_48_135, k_48_135, b_48_141, k_48_141, b_48_162, k_48_162, w_sm, ↓if_pos, ↓if_neg,  hl, ha, g1, g2]
theorem gt_in {M0 : Mem} {w l : Nat} (hG : GS M0 w l) (bits : Nat) (hb : bits < 2147483648) (t : Int) (ht : 0 ≤ t ∧ t ≤ 100) (e : Nat) (he : e + 1 ≤ l) (kk : ∀ M' o4 o5 o6 o7, Only 44 M0 M' → (∀ g : Nat, g ≤ e + 1 → M' 44 (g : Int) = wTab (rowC w bits.testBit) (rowK' w bits.testBit) t (e + 1) g) → XL (d + 1) 48 9 [aR 14 0 43, aI (bits : Int), aI t, aI ((e + 1 : Nat) + 1 : Int), o4, o5, o6, o7] [] M' Q) : ∀ (f : Nat) (many acc : Int) (M : Mem) (o6 o7 : AV), f ≤ e + 1 → 0 ≤ many → many ≤ 4 * ((e : Int) + 1 - f) → Only 44 M0 M → (∀ g : Nat, g ≤ e → M 44 (g : Int) = wTab (rowC w bits.testBit) (rowK' w bits.testBit) t e g) → M 44 ((e + 1 : Nat) : Int) = acc → (0 ≤ acc ∧ acc ≤ 500000000) → wIn (rowC w bits.testBit) (rowK' w bits.testBit) (wTab (rowC w bits.testBit) (rowK' w bits.testBit) t e) t f many acc = wTab (rowC w bits.testBit) (rowK' w bits.testBit) t (e + 1) (e + 1) → XL (d + 1) 48 36 [aR 14 0 43, aI (bits : Int), aI t, aI ((e + 1 : Nat) : Int), aI many, aI ((f : Int) - 1), o6, o7] [] M Q
  | 0, many, acc, M, o6, o7, hf, hm0, hm, hO, hW, ha, hab, hw => by
    rw [show ((0 : Nat) : Int) - 1 = -1 from rfl, gt_3]
    refine kk M _ _ _ _ hO (fun g hg => ?_)
    by_cases h : g = e + 1
    · rw [h, ha, ← hw]; rfl
    · rw [hW g (by omega)]
      exact (if_neg h).symm
  | f + 1, many, acc, M, o6, o7, hf, hm0, hm, hO, hW, ha, hab, hw => by
    have w4 := hG.1
    have l6 := hG.2.1
    have hGM : GS M w l := hG.cg (hO 32 (by decide)) (hO 33 (by decide))
    have cb := rowC_b (w := w) (P := bits.testBit) (r := f)
    have kb := rowK_b (w := w) (P := bits.testBit) (r := f)
    have hfw : f * w ≤ 5 * 4 := Nat.mul_le_mul (by omega) w4.2
    have hfw2 : (f - 1) * w ≤ 5 * 4 := Nat.mul_le_mul (by omega) w4.2
    have l24 : ∀ r, rowN bits w r < 2 ^ 24 := fun r => Nat.lt_of_lt_of_le rowN_lt (Nat.pow_le_pow_right (by decide) (by omega))
    have wb := paR_le (show f ≤ 6 by omega) (paR_row (w := w) (P := bits.testBit) w4.2 ht.1 f (by omega))
    rw [← wTab_s (show f ≤ e by omega)] at wb
    have rk : f = 0 ∨ ((pcn 24 (rowN bits w f &&& rowN bits w (f - 1)) : Nat) : Int) = rowK w bits.testBit f := by
      by_cases h : f = 0
      · exact Or.inl h
      · exact Or.inr (rowN_k (by omega) (by omega))
    have pb := cnt_le (p := (rowN bits w f &&& rowN bits w (f - 1)).testBit) (n := w)
    have pk : 0 ≤ ((pcn 24 (rowN bits w f &&& rowN bits w (f - 1)) : Nat) : Int) ∧ ((pcn 24 (rowN bits w f &&& rowN bits w (f - 1)) : Nat) : Int) ≤ 4 := by
      have e9 : pcn 24 (rowN bits w f &&& rowN bits w (f - 1)) = cnt w (rowN bits w f &&& rowN bits w (f - 1)).testBit := by
        rw [pcn_cnt, cnt_tail (show w ≤ 24 by omega) (fun i h1 _ => by rw [Nat.testBit_and, rowN_t, decide_eq_false (show ¬ i < w by omega)]; rfl)]
      rw [e9]
      omega
    have ecut : rowK' w bits.testBit f = if (f : Int) = 0 then 0 else ((pcn 24 (rowN bits w f &&& rowN bits w (f - 1)) : Nat) : Int) := by
      unfold rowK'
      by_cases h : f = 0
      · rw [if_pos h, if_pos (by omega)]
      · rw [if_neg h, if_neg (by omega)]
        exact (rk.resolve_left h).symm
    have ekk : (if f = 0 then (0 : Int) else rowK' w bits.testBit f) = rowK' w bits.testBit f := by
      by_cases h : f = 0
      · rw [if_pos h]
        unfold rowK'
        rw [if_pos h]
      · rw [if_neg h]
    rw [show ((f + 1 : Nat) : Int) - 1 = (f : Int) by omega]
    rw [gt_2 (d := d) (bits : Int) t ((e + 1 : Nat) : Int) many (f : Int) ((rowN bits w f : Nat) : Int) (rowC w bits.testBit f) ((rowN bits w (f - 1) : Nat) : Int) ((rowN bits w f &&& rowN bits w (f - 1) : Nat) : Int) ((pcn 24 (rowN bits w f &&& rowN bits w (f - 1)) : Nat) : Int) acc (wTab (rowC w bits.testBit) (rowK' w bits.testBit) t e f) (rowK' w bits.testBit f) o6 o7 ⟨by omega, by omega⟩ ⟨by omega, by omega⟩ ⟨hm0, by omega⟩ ⟨cb.1, by omega⟩ ht (fun Q' => s_inRow hGM bits f hb (by omega)) (fun Q' => by rw [s_bitCount _ (l24 f), rowN_c (by omega)]) (fun h Q' => by
      rw [show (f : Int) - 1 = ((f - 1 : Nat) : Int) by omega]
      exact s_inRow hGM bits (f - 1) hb (by omega)) (and_nat _ _ (bits_lt (l24 _)) (bits_lt (l24 _))) (fun Q' => s_bitCount _ (Nat.and_lt_two_pow _ (l24 _))) ha hab (hW f (by omega)) ⟨wb.1, wb.2.1⟩ pk ecut]
    unfold wIn at hw
    rw [ekk] at hw
    by_cases h : t < many + rowC w bits.testBit f
    · rw [if_pos h] at hw ⊢
      refine kk M _ _ _ _ hO (fun g hg => ?_)
      by_cases h : g = e + 1
      · rw [h, ha, ← hw]
      · rw [hW g (by omega)]
        exact (if_neg h).symm
    · rw [if_neg h] at hw ⊢
      have kb' : 0 ≤ rowK' w bits.testBit f := by
        unfold rowK'
        by_cases h : f = 0
        · rw [if_pos h]; decide
        · rw [if_neg h]; exact kb.1
      refine gt_in hG bits hb t ht e he kk f _ _ _ _ _ (by omega) (by omega) (by omega) hO.up (fun g hg => ?_) up_s ?_ hw
      · rw [up_j (by omega)]
        exact hW g hg
      · by_cases h2 : wTab (rowC w bits.testBit) (rowK' w bits.testBit) t e f + 100 + rowK' w bits.testBit f < acc
        · rw [if_pos h2]; omega
        · rw [if_neg h2]; exact hab
theorem gt_out {M0 : Mem} {w l : Nat} (hG : GS M0 w l) (bits : Nat) (hb : bits < 2147483648) (t : Int) (ht : 0 ≤ t ∧ t ≤ 100) (kk : ∀ M' o4 o5 o6 o7, Only 44 M0 M' → M' 44 (l : Int) = wTab (rowC w bits.testBit) (rowK' w bits.testBit) t l l → XL (d + 1) 48 9 [aR 14 0 43, aI (bits : Int), aI t, aI ((l : Int) + 1), o4, o5, o6, o7] [] M' Q) : ∀ (s e : Nat) (M : Mem) (o4 o5 o6 o7 : AV), e + s = l → Only 44 M0 M → (∀ g : Nat, g ≤ e → M 44 (g : Int) = wTab (rowC w bits.testBit) (rowK' w bits.testBit) t e g) → XL (d + 1) 48 9 [aR 14 0 43, aI (bits : Int), aI t, aI ((e : Int) + 1), o4, o5, o6, o7] [] M Q
  | 0, e, M, o4, o5, o6, o7, h, hO, hW => by
    have e9 : e = l := by omega
    rw [e9] at hW ⊢
    exact kk M _ _ _ _ hO (hW l (Nat.le_refl l))
  | s + 1, e, M, o4, o5, o6, o7, h, hO, hW => by
    have l6 := hG.2.1
    rw [gt_1 ((e : Int) + 1) (l : Int) _ _ _ _ _ _ (by rw [hO 32 (by decide)]; exact hG.2.2.2.1) ⟨by omega, by omega⟩ ⟨by omega, by omega⟩]
    have g := gt_in (d := d) (Q := Q) hG bits hb t ht e (by omega) (fun M' o4 o5 o6 o7 hO' hW' => gt_out hG bits hb t ht kk s (e + 1) M' o4 o5 o6 o7 (by omega) hO' hW') (e + 1) 0 500000000 (up M 44 ((e : Int) + 1) 500000000) o6 o7 (Nat.le_refl _) (by decide) (by omega) hO.up (fun g hg => by rw [up_j (by omega)]; exact hW g hg) (by rw [Int.natCast_add]; exact up_s) (by decide) wTab_0.symm
    rw [show ((e + 1 : Nat) : Int) = (e : Int) + 1 by omega] at g
    exact g
/-- PASSES, as the class has it -/
theorem s_goThrough {w l : Nat} (hG : GS M w l) (bits : Nat) (hb : bits < 2147483648) (t a : Int) (ht : 0 ≤ t ∧ t ≤ 100) (ha : a = wTab (rowC w bits.testBit) (rowK' w bits.testBit) t l l) (k1 : ∀ M', Only 44 M M' → a < 500000000 → Q [aI 1] (up (up M' 43 8 (a / 100)) 43 9 (a % 100))) (k0 : ∀ M', Only 44 M M' → ¬ a < 500000000 → Q [aI 0] M') : XC (d + 1) 48 [aR 14 0 43, aI (bits : Int), aI t] M Q := by
  have w4 := hG.1
  have l6 := hG.2.1
  have wb := paR_le (show l ≤ 6 by omega) (paR_row (w := w) (P := bits.testBit) w4.2 ht.1 l (by omega))
  rw [← ha] at wb
  have g := gt_out (d := d) (Q := Q) hG bits hb t ht (fun M' o4 o5 o6 o7 hO' hW' => by
    rw [← ha] at hW'
    obtain ⟨n, e⟩ : ∃ n : Nat, a = (n : Int) := ⟨a.toNat, by omega⟩
    rw [gt_4 ((l : Int) + 1) (l : Int) a (a / 100) (a % 100) _ _ _ _ _ _ (by rw [hO' 32 (by decide)]; exact hG.2.2.2.1) ⟨by omega, by omega⟩ ⟨by omega, by omega⟩ hW' ⟨wb.1, wb.2.1⟩ (by
      rw [e, show (100 : Int) = ((100 : Nat) : Int) from rfl, div_nat n 100 (by omega) (by decide)]
      omega) (by
      rw [e, show (100 : Int) = ((100 : Nat) : Int) from rfl, rem_nat n 100 (by omega) (by decide)]
      omega)]
    by_cases h : a < 500000000
    · rw [if_pos h]
      exact k1 M' hO' h
    · rw [if_neg h]
      exact k0 M' hO' h) l 0 (up M 44 0 0) aU aU aU aU (by omega) (fun b hb => up_r hb) (fun g hg => by rw [show g = 0 by omega]; exact up_s)
  rw [e_48, k_48_0]
  simp (disch := first | exact nl_i _ | exact nl_r _ | exact Nat.le_of_ble_eq_true rfl | exact Or.inl rfl | exact Or.inr rfl | exact w8_lo _ | exact w8_hi _ | decide | omega) only [v_fall, v_il_0, v_al_0, v_is_0, v_as_0, v_inc_0, v_ll_0, v_ls_0, v_il_1, v_al_1, v_is_1, v_as_1, v_inc_1, v_ll_1, v_ls_1, v_il_2, v_al_2, v_is_2, v_as_2, v_inc_2, v_ll_2, v_ls_2, v_il_3, v_al_3, v_is_3, v_as_3, v_inc_3, v_ll_3, v_ls_3, v_il_4, v_al_4, v_is_4, v_as_4, v_inc_4, v_ll_4, v_ls_4, v_il_5, v_al_5, v_is_5, v_as_5, v_inc_5, v_ll_5, v_ls_5, v_il_6, v_al_6, v_is_6, v_as_6, v_inc_6, v_il_7, v_al_7, v_is_7, v_as_7, v_inc_7, v_il_8, v_al_8, v_is_8, v_as_8, v_inc_8, v_il_9, v_al_9, v_is_9, v_as_9, v_inc_9, v_il_10, v_al_10, v_is_10, v_as_10, v_inc_10, v_il_11, v_al_11, v_is_11, v_as_11, v_inc_11, v_il_12, v_al_12, v_is_12, v_as_12, v_inc_12, v_il_13, v_al_13, v_is_13, v_as_13, v_inc_13, v_c_8, v_c_9, v_c_10, v_c_11, v_c_12, v_c_13, v_c_14, v_b_15, v_b_16, v_b_17, v_b_21, v_b_22, v_b_23, v_b_24, v_b_25, v_b_26, v_b_18, v_b_19, v_b_20, v_b_27, v_b_28, v_b_29, v_b_30, v_b_31, v_dup_i, v_dup_r, v_dup2, v_pop, v_gi, v_gl, v_gr, v_pi, v_pl, v_pz, v_iald, v_lald, v_bald, v_zald, v_aald, v_iast, v_last, v_bast, v_zast, v_alen_0, v_alen_1, v_alen_2, v_alen_3, v_alen_4, v_j_45, v_j_46, v_j_47, v_j_48, v_j_49, v_j_50, v_j_51, v_j_52, v_j_53, v_j_54, v_j_55, v_j_56, v_goto, v_sw, v_ret_i, v_ret_z, v_ret, v_cpy, v_iv_1, v_iv_2, v_iv_3, v_iv_4, v_iv_5, v_iv_6, v_is2_1, v_is2_2, v_is2_3, v_ivJ, List.nil_append, List.cons_append, rf_0_0, rf_0_1, rf_0_2, rf_0_3, rf_0_4, rf_0_5, rf_0_6, rf_0_7, rf_0_8, rf_0_9, rf_1_0, rf_1_2, rf_4_0, rf_4_1, rf_4_2, rf_5_8, rf_5_9, rf_5_10, rf_5_11, rf_5_12, rf_13_0, rf_13_1, rf_14_0, rf_14_1, rf_14_2, rf_15_8, rf_15_9, rf_15_10, rf_15_11, rf_15_12, rf_23_0, rf_23_1, rf_23_2, rf_24_8, rf_24_9, rf_24_10, rf_24_11, rf_24_12, rf_32_6, rf_34_0, rf_34_1, rf_34_2, rf_34_3, rf_35_8, rf_35_9, rf_35_10, rf_35_11, rf_35_12, rf_43_0, rf_43_1, rf_43_2, rf_43_3, rf_45_0, rf_45_1, rf_46_0, rf_46_1, rf_46_2, rf_46_3, rf_46_4, rf_46_5, rf_47_0, rf_47_1, rf_49_0, rf_49_1, rf_49_2, rf_49_3, rf_49_4, rf_49_5, rf_53_0, rf_53_1, rf_53_2, rf_53_3, rf_53_4, rf_53_5, rf_53_6, rf_53_7, rf_53_9, rf_53_10, rf_53_11, rf_53_12, rf_53_13, rf_54_0, rf_54_1, rf_55_1, rf_55_2, rf_55_3, rf_67_1, rf_67_6, rf_67_7, rf_67_8, rf_67_9, rf_67_10, rf_67_22, rf_67_23, rf_67_28, rf_67_30, rf_67_32, rf_67_33, rf_67_38, rf_67_39, rf_67_48, rf_67_49, rf_67_51, rf_67_52, rf_67_53, rf_67_54, rf_67_55, rf_67_60, rf_67_61, rf_67_62, up_s, up_b, up_j, b_48_72, k_48_72, b_48_81, k_48_81, b_48_99, k_48_99, b_48_135, k_48_135, b_48_141, k_48_141, b_48_162, k_48_162, w_sm, ↓if_pos, ↓if_neg,  ]
  exact g
end GU
