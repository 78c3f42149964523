/-! sound, both sides -/
theorem noAp_cg1 {w n : Nat} {B B2 R R2 : Int → Int} (hR : ∀ i : Nat, i < n → R (i : Int) = R2 (i : Int)) (hB : ∀ i : Nat, i < n → R (i : Int) ≠ -1 → B (4 * R (i : Int) + 3) = B2 (4 * R (i : Int) + 3)) (h : noAp w n B R) : noAp w n B2 R2 := by
  constructor
  · intro i h1 h2 h3 h4 h5
    have e1 := hR i (by omega)
    have e2 := hR (i + 1) h1
    rw [Int.natCast_add] at e2
    have e2' : R ((i : Int) + 1) = R2 ((i : Int) + 1) := e2
    rw [← e1] at h3 h5
    rw [← e2'] at h4 h5
    refine h.1 i h1 h2 h3 h4 ?_
    unfold apA at h5 ⊢
    rw [hB i (by omega) h3]
    exact h5
  · intro i h1 h3 h4 h5
    have e1 := hR i (by omega)
    have e2 := hR (i + w) h1
    rw [Int.natCast_add] at e2
    rw [← e1] at h3 h5
    rw [← e2] at h4 h5
    refine h.2 i h1 h3 h4 ?_
    unfold apA at h5 ⊢
    rw [hB i (by omega) h3]
    exact h5
theorem noAp_cg {w n : Nat} {B B2 R R2 : Int → Int} (hR : ∀ i : Nat, i < n → R (i : Int) = R2 (i : Int)) (hB : ∀ i : Nat, i < n → R (i : Int) ≠ -1 → B (4 * R (i : Int) + 3) = B2 (4 * R (i : Int) + 3)) : noAp w n B R ↔ noAp w n B2 R2 :=
  ⟨noAp_cg1 hR hB, noAp_cg1 (fun i hi => (hR i hi).symm) (fun i hi h => by rw [← hR i hi] at h ⊢; exact (hB i hi h).symm)⟩
section S12
variable {d : Nat} {M : Mem} {Q : List AV → Mem → Prop}
theorem s_m_sound {w l : Nat} (hG : GM M w l) (hg : gB9 (rftM (up M 67 0 0))) (kk : ∀ M2, Only 77 (rftM (up M 67 0 0)) M2 → Q [aI (cb (Conn w (w * l) (gP (rftM (up M 67 0 0)) (w * l)) ∧ noAp w (w * l) (bM (rftM (up M 67 0 0))) (gR (rftM (up M 67 0 0)))))] M2) : XC (d + 4) 183 [aR 22 0 67] M Q := by
  have p1 : ∀ Q', XC (d + 3) 168 [aR 22 0 67] (up M 67 0 0) Q' ↔ Q' [] (rftM (up M 67 0 0)) := fun Q' => s_m_raft
  have hG2 : GM (rftM (up M 67 0 0)) w l := by
    refine hG.of ?_
    funext j
    rw [rftM_o (by decide), up_b (by decide)]
  generalize rftM (up M 67 0 0) = M1 at *
  have T : XC (d + 3) 178 [aR 22 0 67] M1 (fun r M2 => ∃ p : Prop, r = [aI (cb p)] ∧ Q [aI (cb p)] M2) := s_isSound hG2 hg (fun M2 hO => ⟨_, rfl, kk M2 hO⟩)
  have e1 : w32 0 = 0 := rfl
  have e2 : w32 1 = 1 := rfl
  rw [e_183, k_183_0]
  simp (disch := first | exact nl_i _ | exact nl_r _ | exact Nat.le_of_ble_eq_true rfl | exact Or.inl rfl | exact Or.inr rfl | exact w8_lo _ | exact w8_hi _ | decide | omega) only [v_fall, v_il_0, v_al_0, v_is_0, v_as_0, v_inc_0, v_ll_0, v_ls_0, v_il_1, v_al_1, v_is_1, v_as_1, v_inc_1, v_ll_1, v_ls_1, v_il_2, v_al_2, v_is_2, v_as_2, v_inc_2, v_ll_2, v_ls_2, v_il_3, v_al_3, v_is_3, v_as_3, v_inc_3, v_ll_3, v_ls_3, v_il_4, v_al_4, v_is_4, v_as_4, v_inc_4, v_ll_4, v_ls_4, v_il_5, v_al_5, v_is_5, v_as_5, v_inc_5, v_ll_5, v_ls_5, v_il_6, v_al_6, v_is_6, v_as_6, v_inc_6, v_il_7, v_al_7, v_is_7, v_as_7, v_inc_7, v_il_8, v_al_8, v_is_8, v_as_8, v_inc_8, v_il_9, v_al_9, v_is_9, v_as_9, v_inc_9, v_il_10, v_al_10, v_is_10, v_as_10, v_inc_10, v_il_11, v_al_11, v_is_11, v_as_11, v_inc_11, v_il_12, v_al_12, v_is_12, v_as_12, v_inc_12, v_il_13, v_al_13, v_is_13, v_as_13, v_inc_13, v_c_8, v_c_9, v_c_10, v_c_11, v_c_12, v_c_13, v_c_14, v_b_15, v_b_16, v_b_17, v_b_21, v_b_22, v_b_23, v_b_24, v_b_25, v_b_26, v_b_18, v_b_19, v_b_20, v_b_27, v_b_28, v_b_29, v_b_30, v_b_31, v_dup_i, v_dup_r, v_dup2, v_pop, v_gi, v_gl, v_gr, v_pi, v_pl, v_pz, v_iald, v_lald, v_bald, v_zald, v_aald, v_iast, v_last, v_bast, v_zast, v_alen_0, v_alen_1, v_alen_2, v_alen_3, v_alen_4, v_j_45, v_j_46, v_j_47, v_j_48, v_j_49, v_j_50, v_j_51, v_j_52, v_j_53, v_j_54, v_j_55, v_j_56, v_goto, v_sw, v_ret_i, v_ret_z, v_ret, v_cpy, v_iv_1, v_iv_2, v_iv_3, v_iv_4, v_iv_5, v_iv_6, v_is2_1, v_is2_2, v_is2_3, v_ivJ, List.nil_append, List.cons_append, rf_0_0, rf_0_1, rf_0_2, rf_0_3, rf_0_4, rf_0_5, rf_0_6, rf_0_7, rf_0_8, rf_0_9, rf_1_0, rf_1_2, rf_4_0, rf_4_1, rf_4_2, rf_5_8, rf_5_9, rf_5_10, rf_5_11, rf_5_12, rf_13_0, rf_13_1, rf_14_0, rf_14_1, rf_14_2, rf_15_8, rf_15_9, rf_15_10, rf_15_11, rf_15_12, rf_23_0, rf_23_1, rf_23_2, rf_24_8, rf_24_9, rf_24_10, rf_24_11, rf_24_12, rf_32_6, rf_34_0, rf_34_1, rf_34_2, rf_34_3, rf_35_8, rf_35_9, rf_35_10, rf_35_11, rf_35_12, rf_43_0, rf_43_1, rf_43_2, rf_43_3, rf_45_0, rf_45_1, rf_46_0, rf_46_1, rf_46_2, rf_46_3, rf_46_4, rf_46_5, rf_47_0, rf_47_1, rf_49_0, rf_49_1, rf_49_2, rf_49_3, rf_49_4, rf_49_5, rf_53_0, rf_53_1, rf_53_2, rf_53_3, rf_53_4, rf_53_5, rf_53_6, rf_53_7, rf_53_9, rf_53_10, rf_53_11, rf_53_12, rf_53_13, rf_54_0, rf_54_1, rf_55_1, rf_55_2, rf_55_3, rf_67_1, rf_67_6, rf_67_7, rf_67_8, rf_67_9, rf_67_10, rf_67_22, rf_67_23, rf_67_28, rf_67_30, rf_67_32, rf_67_33, rf_67_38, rf_67_39, rf_67_48, rf_67_49, rf_67_51, rf_67_52, rf_67_53, rf_67_54, rf_67_55, rf_67_60, rf_67_61, rf_67_62, p1]
  refine T.mono (fun r M2 h => ?_)
  obtain ⟨p, rfl, hq⟩ := h
  by_cases hp : p
  · rw [cb_t hp] at hq ⊢
    simp (disch := first | exact nl_i _ | exact nl_r _ | exact Nat.le_of_ble_eq_true rfl | exact Or.inl rfl | exact Or.inr rfl | exact w8_lo _ | exact w8_hi _ | decide | omega) only [v_fall, v_il_0, v_al_0, v_is_0, v_as_0, v_inc_0, v_ll_0, v_ls_0, v_il_1, v_al_1, v_is_1, v_as_1, v_inc_1, v_ll_1, v_ls_1, v_il_2, v_al_2, v_is_2, v_as_2, v_inc_2, v_ll_2, v_ls_2, v_il_3, v_al_3, v_is_3, v_as_3, v_inc_3, v_ll_3, v_ls_3, v_il_4, v_al_4, v_is_4, v_as_4, v_inc_4, v_ll_4, v_ls_4, v_il_5, v_al_5, v_is_5, v_as_5, v_inc_5, v_ll_5, v_ls_5, v_il_6, v_al_6, v_is_6, v_as_6, v_inc_6, v_il_7, v_al_7, v_is_7, v_as_7, v_inc_7, v_il_8, v_al_8, v_is_8, v_as_8, v_inc_8, v_il_9, v_al_9, v_is_9, v_as_9, v_inc_9, v_il_10, v_al_10, v_is_10, v_as_10, v_inc_10, v_il_11, v_al_11, v_is_11, v_as_11, v_inc_11, v_il_12, v_al_12, v_is_12, v_as_12, v_inc_12, v_il_13, v_al_13, v_is_13, v_as_13, v_inc_13, v_c_8, v_c_9, v_c_10, v_c_11, v_c_12, v_c_13, v_c_14, v_b_15, v_b_16, v_b_17, v_b_21, v_b_22, v_b_23, v_b_24, v_b_25, v_b_26, v_b_18, v_b_19, v_b_20, v_b_27, v_b_28, v_b_29, v_b_30, v_b_31, v_dup_i, v_dup_r, v_dup2, v_pop, v_gi, v_gl, v_gr, v_pi, v_pl, v_pz, v_iald, v_lald, v_bald, v_zald, v_aald, v_iast, v_last, v_bast, v_zast, v_alen_0, v_alen_1, v_alen_2, v_alen_3, v_alen_4, v_j_45, v_j_46, v_j_47, v_j_48, v_j_49, v_j_50, v_j_51, v_j_52, v_j_53, v_j_54, v_j_55, v_j_56, v_goto, v_sw, v_ret_i, v_ret_z, v_ret, v_cpy, v_iv_1, v_iv_2, v_iv_3, v_iv_4, v_iv_5, v_iv_6, v_is2_1, v_is2_2, v_is2_3, v_ivJ, List.nil_append, List.cons_append, rf_0_0, rf_0_1, rf_0_2, rf_0_3, rf_0_4, rf_0_5, rf_0_6, rf_0_7, rf_0_8, rf_0_9, rf_1_0, rf_1_2, rf_4_0, rf_4_1, rf_4_2, rf_5_8, rf_5_9, rf_5_10, rf_5_11, rf_5_12, rf_13_0, rf_13_1, rf_14_0, rf_14_1, rf_14_2, rf_15_8, rf_15_9, rf_15_10, rf_15_11, rf_15_12, rf_23_0, rf_23_1, rf_23_2, rf_24_8, rf_24_9, rf_24_10, rf_24_11, rf_24_12, rf_32_6, rf_34_0, rf_34_1, rf_34_2, rf_34_3, rf_35_8, rf_35_9, rf_35_10, rf_35_11, rf_35_12, rf_43_0, rf_43_1, rf_43_2, rf_43_3, rf_45_0, rf_45_1, rf_46_0, rf_46_1, rf_46_2, rf_46_3, rf_46_4, rf_46_5, rf_47_0, rf_47_1, rf_49_0, rf_49_1, rf_49_2, rf_49_3, rf_49_4, rf_49_5, rf_53_0, rf_53_1, rf_53_2, rf_53_3, rf_53_4, rf_53_5, rf_53_6, rf_53_7, rf_53_9, rf_53_10, rf_53_11, rf_53_12, rf_53_13, rf_54_0, rf_54_1, rf_55_1, rf_55_2, rf_55_3, rf_67_1, rf_67_6, rf_67_7, rf_67_8, rf_67_9, rf_67_10, rf_67_22, rf_67_23, rf_67_28, rf_67_30, rf_67_32, rf_67_33, rf_67_38, rf_67_39, rf_67_48, rf_67_49, rf_67_51, rf_67_52, rf_67_53, rf_67_54, rf_67_55, rf_67_60, rf_67_61, rf_67_62, e1, e2, if_neg (show ¬ (1 : Int) = 0 by omega), b_183_21, k_183_21]
    exact hq
  · rw [cb_f hp] at hq ⊢
    simp (disch := first | exact nl_i _ | exact nl_r _ | exact Nat.le_of_ble_eq_true rfl | exact Or.inl rfl | exact Or.inr rfl | exact w8_lo _ | exact w8_hi _ | decide | omega) only [v_fall, v_il_0, v_al_0, v_is_0, v_as_0, v_inc_0, v_ll_0, v_ls_0, v_il_1, v_al_1, v_is_1, v_as_1, v_inc_1, v_ll_1, v_ls_1, v_il_2, v_al_2, v_is_2, v_as_2, v_inc_2, v_ll_2, v_ls_2, v_il_3, v_al_3, v_is_3, v_as_3, v_inc_3, v_ll_3, v_ls_3, v_il_4, v_al_4, v_is_4, v_as_4, v_inc_4, v_ll_4, v_ls_4, v_il_5, v_al_5, v_is_5, v_as_5, v_inc_5, v_ll_5, v_ls_5, v_il_6, v_al_6, v_is_6, v_as_6, v_inc_6, v_il_7, v_al_7, v_is_7, v_as_7, v_inc_7, v_il_8, v_al_8, v_is_8, v_as_8, v_inc_8, v_il_9, v_al_9, v_is_9, v_as_9, v_inc_9, v_il_10, v_al_10, v_is_10, v_as_10, v_inc_10, v_il_11, v_al_11, v_is_11, v_as_11, v_inc_11, v_il_12, v_al_12, v_is_12, v_as_12, v_inc_12, v_il_13, v_al_13, v_is_13, v_as_13, v_inc_13, v_c_8, v_c_9, v_c_10, v_c_11, v_c_12, v_c_13, v_c_14, v_b_15, v_b_16, v_b_17, v_b_21, v_b_22, v_b_23, v_b_24, v_b_25, v_b_26, v_b_18, v_b_19, v_b_20, v_b_27, v_b_28, v_b_29, v_b_30, v_b_31, v_dup_i, v_dup_r, v_dup2, v_pop, v_gi, v_gl, v_gr, v_pi, v_pl, v_pz, v_iald, v_lald, v_bald, v_zald, v_aald, v_iast, v_last, v_bast, v_zast, v_alen_0, v_alen_1, v_alen_2, v_alen_3, v_alen_4, v_j_45, v_j_46, v_j_47, v_j_48, v_j_49, v_j_50, v_j_51, v_j_52, v_j_53, v_j_54, v_j_55, v_j_56, v_goto, v_sw, v_ret_i, v_ret_z, v_ret, v_cpy, v_iv_1, v_iv_2, v_iv_3, v_iv_4, v_iv_5, v_iv_6, v_is2_1, v_is2_2, v_is2_3, v_ivJ, List.nil_append, List.cons_append, rf_0_0, rf_0_1, rf_0_2, rf_0_3, rf_0_4, rf_0_5, rf_0_6, rf_0_7, rf_0_8, rf_0_9, rf_1_0, rf_1_2, rf_4_0, rf_4_1, rf_4_2, rf_5_8, rf_5_9, rf_5_10, rf_5_11, rf_5_12, rf_13_0, rf_13_1, rf_14_0, rf_14_1, rf_14_2, rf_15_8, rf_15_9, rf_15_10, rf_15_11, rf_15_12, rf_23_0, rf_23_1, rf_23_2, rf_24_8, rf_24_9, rf_24_10, rf_24_11, rf_24_12, rf_32_6, rf_34_0, rf_34_1, rf_34_2, rf_34_3, rf_35_8, rf_35_9, rf_35_10, rf_35_11, rf_35_12, rf_43_0, rf_43_1, rf_43_2, rf_43_3, rf_45_0, rf_45_1, rf_46_0, rf_46_1, rf_46_2, rf_46_3, rf_46_4, rf_46_5, rf_47_0, rf_47_1, rf_49_0, rf_49_1, rf_49_2, rf_49_3, rf_49_4, rf_49_5, rf_53_0, rf_53_1, rf_53_2, rf_53_3, rf_53_4, rf_53_5, rf_53_6, rf_53_7, rf_53_9, rf_53_10, rf_53_11, rf_53_12, rf_53_13, rf_54_0, rf_54_1, rf_55_1, rf_55_2, rf_55_3, rf_67_1, rf_67_6, rf_67_7, rf_67_8, rf_67_9, rf_67_10, rf_67_22, rf_67_23, rf_67_28, rf_67_30, rf_67_32, rf_67_33, rf_67_38, rf_67_39, rf_67_48, rf_67_49, rf_67_51, rf_67_52, rf_67_53, rf_67_54, rf_67_55, rf_67_60, rf_67_61, rf_67_62, e1, e2, if_true, b_183_20, k_183_20, b_183_21, k_183_21]
    exact hq
end S12
theorem RFf.b9 {r cs fs : Int → Int} (h : RFf r cs fs) (hr : r 2 ≤ 9) : ∀ k, 0 ≤ k → k < 24 → -1 ≤ cs k ∧ cs k < 9 := fun k h0 h1 => by
  have := (h k h0 h1).2.1
  omega
/-- the reference's g is the class's RAFT -/
theorem gP_st {M M0 : Mem} {cs r : Int → Int} {n : Nat} (hn : n ≤ 24) (h : ∀ k, 0 ≤ k → k < 24 → M 74 k = cs k + 1) (hb : ∀ k, 0 ≤ k → k < 24 → -1 ≤ cs k) : (setN n (fun i => decide (cs (i : Int) ≠ -1))).testBit = gP M n := by
  funext i
  rw [setN_t]
  unfold gP
  by_cases hi : i < n
  · rw [decide_eq_true hi, Bool.true_and]
    have h1 := h (i : Int) (by omega) (by omega)
    have h2 := hb (i : Int) (by omega) (by omega)
    exact decide_eq_decide.mpr ⟨fun hc => ⟨hi, by omega⟩, fun hc => by have := hc.2; omega⟩
  · rw [decide_eq_false hi, show decide (i < n ∧ 0 < M 74 (i : Int)) = false from decide_eq_false (fun h9 => hi h9.1)]
    rfl
theorem iv_12 {M : Mem} (hI : Inv M) : Step2 106 183 [] M Inv := by
  unfold Step2
  obtain ⟨w, l, hG, hM, r3, r4⟩ := hI.gs
  have rb := hI.RI.2.2.1
  have hF := hI.F
  have hV := hI.V
  have hn := hG.n
  have c9 := hF.b9 rb.2
  rw [s_x_sound (d := 12) hG c9]
  have e74 : ∀ k, 0 ≤ k → k < 24 → rftM (up M 67 0 0) 74 k = M 11 k + 1 := fun k h0 h1 => by
    rw [rftM_g h0 h1, up_b (by decide)]
    exact (hF k h0 h1).1
  have e69 : rftM (up M 67 0 0) 69 = M 69 := by
    funext j
    rw [rftM_o (by decide), up_b (by decide)]
  refine s_m_sound (d := 11) hM (fun j h0 h1 => ?_) (fun M2 hO => ⟨eqr_i (cb_cg ?_), ?_⟩)
  · have := c9 j h0 h1
    rw [e74 j h0 h1]
    omega
  · rw [gP_st (M0 := M) (r := M 5) hn e74 (fun k h0 h1 => (c9 k h0 h1).1)]
    refine and_congr_right (fun _ => noAp_cg (fun i hi => ?_) (fun i hi hne => ?_))
    · unfold gR
      rw [e74 _ (by omega) (by omega)]
      omega
    · have h9 := hF (i : Int) (by omega) (by omega)
      unfold bM
      rw [e69]
      exact (hV.2.2.2 _ (by omega) (by omega)).symm
  · refine Inv_agr (M := up M 67 0 0) (fun b j hs => ?_) hI.thr
    rw [hO b (fun h => hs (by subst h; unfold scr; omega))]
    exact agr_rft b j hs
