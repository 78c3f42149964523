/-! knots, both sides -/
theorem Inv.gs {M : Mem} (hI : Inv M) : ∃ w l, GS M w l ∧ GM M w l ∧ M 5 3 = (w : Int) ∧ M 5 4 = (l : Int) := by
  obtain ⟨w, l, hw, hl, r3, r4, g0, g1, g2, g3, g4, g5, g6⟩ := hI.G
  have v3 := hI.V.1.2.2.2.1
  have v4 := hI.V.1.2.2.2.2.1
  exact ⟨w, l, ⟨hw, hl, g0, g1, g2, g3, g4, g5, g6⟩, ⟨hw, hl, v3.trans r3, v4.trans r4⟩, r3, r4⟩
theorem RFf.b {r cs fs : Int → Int} (h : RFf r cs fs) (hr : r 2 ≤ 9) : ∀ k, 0 ≤ k → k < 24 → -1 ≤ cs k ∧ cs k ≤ 100 := fun k h0 h1 => by
  have := (h k h0 h1).2.1
  omega
theorem raft_eq {r cs fs : Int → Int} (h : RFf r cs fs) {n : Nat} (hn : n ≤ 24) : (setN n (fun i => decide (cs (i : Int) ≠ -1))).testBit = fun i => decide (i < n ∧ 0 < fs (359 + (i : Int))) := by
  funext i
  rw [setN_t]
  by_cases hi : i < n
  · have h9 := h (i : Int) (by omega) (by omega)
    rw [decide_eq_true hi, Bool.true_and]
    exact decide_eq_decide.mpr ⟨fun hc => ⟨hi, by rw [h9.1]; omega⟩, fun hc => by have := hc.2; rw [h9.1] at this; omega⟩
  · rw [decide_eq_false hi, show decide (i < n ∧ 0 < fs (359 + (i : Int))) = false from decide_eq_false (fun h9 => hi h9.1)]
    rfl
theorem up_r {M : Mem} {a b : Nat} {i x : Int} (h : b ≠ a) : up M a i x b = M b := funext fun j => up_b h
theorem gP_rft {M : Mem} {n : Nat} (hn : n ≤ 24) : gP (rftM M) n = fun i => decide (i < n ∧ 0 < M 69 (359 + (i : Int))) := by
  funext i
  unfold gP
  by_cases hi : i < n
  · rw [rftM_g (by omega) (by omega)]
  · rw [decide_eq_false (fun h => hi h.1), decide_eq_false (fun h => hi h.1)]
theorem gB_rft {M : Mem} {r cs : Int → Int} (h : RFf r cs (M 69)) (hr : r 2 ≤ 9) : gB (rftM M) := fun j h0 h1 => by
  rw [rftM_g h0 h1]
  have h9 := h j h0 h1
  omega
theorem agr_rft {M : Mem} : Agr M (rftM M) := fun b j hs => rftM_o (fun h => hs (by subst h; unfold scr; omega))
section K9
variable {d : Nat} {M : Mem} {Q : List AV → Mem → Prop}
theorem s_x_knots {w l : Nat} (hG : GS M w l) (hc : ∀ k, 0 ≤ k → k < 24 → -1 ≤ M 11 k ∧ M 11 k ≤ 100) : XC (d + 2) 103 [aR 21 0 0] M Q ↔ Q [aI ((KN w (w * l) (setN (w * l) (fun i => decide (M 11 (i : Int) ≠ -1))).testBit : Nat) : Int)] M := by
  have p1 : ∀ Q', XC (d + 1) 5 [aR 10 0 32, aR 0 24 11] M Q' ↔ Q' [aI ((setN (w * l) (fun i => decide (M 11 (i : Int) ≠ -1)) : Nat) : Int)] M := fun Q' => s_bitsOf _ _ hG.2.2.2.2.1 hG.n hc
  have p2 : ∀ Q', XC (d + 1) 6 [aR 10 0 32, aI ((setN (w * l) (fun i => decide (M 11 (i : Int) ≠ -1)) : Nat) : Int)] M Q' ↔ _ := fun Q' => s_knotsAmong hG _ (setN_lt _)
  rw [e_103, k_103_0]
  simp (disch := first | exact nl_i _ | exact nl_r _ | exact Nat.le_of_ble_eq_true rfl | exact Or.inl rfl | exact Or.inr rfl | exact w8_lo _ | exact w8_hi _ | decide | omega) only [v_fall, v_il_0, v_al_0, v_is_0, v_as_0, v_inc_0, v_ll_0, v_ls_0, v_il_1, v_al_1, v_is_1, v_as_1, v_inc_1, v_ll_1, v_ls_1, v_il_2, v_al_2, v_is_2, v_as_2, v_inc_2, v_ll_2, v_ls_2, v_il_3, v_al_3, v_is_3, v_as_3, v_inc_3, v_ll_3, v_ls_3, v_il_4, v_al_4, v_is_4, v_as_4, v_inc_4, v_ll_4, v_ls_4, v_il_5, v_al_5, v_is_5, v_as_5, v_inc_5, v_ll_5, v_ls_5, v_il_6, v_al_6, v_is_6, v_as_6, v_inc_6, v_il_7, v_al_7, v_is_7, v_as_7, v_inc_7, v_il_8, v_al_8, v_is_8, v_as_8, v_inc_8, v_il_9, v_al_9, v_is_9, v_as_9, v_inc_9, v_il_10, v_al_10, v_is_10, v_as_10, v_inc_10, v_il_11, v_al_11, v_is_11, v_as_11, v_inc_11, v_il_12, v_al_12, v_is_12, v_as_12, v_inc_12, v_il_13, v_al_13, v_is_13, v_as_13, v_inc_13, v_c_8, v_c_9, v_c_10, v_c_11, v_c_12, v_c_13, v_c_14, v_b_15, v_b_16, v_b_17, v_b_21, v_b_22, v_b_23, v_b_24, v_b_25, v_b_26, v_b_18, v_b_19, v_b_20, v_b_27, v_b_28, v_b_29, v_b_30, v_b_31, v_dup_i, v_dup_r, v_dup2, v_pop, v_gi, v_gl, v_gr, v_pi, v_pl, v_pz, v_iald, v_lald, v_bald, v_zald, v_aald, v_iast, v_last, v_bast, v_zast, v_alen_0, v_alen_1, v_alen_2, v_alen_3, v_alen_4, v_j_45, v_j_46, v_j_47, v_j_48, v_j_49, v_j_50, v_j_51, v_j_52, v_j_53, v_j_54, v_j_55, v_j_56, v_goto, v_sw, v_ret_i, v_ret_z, v_ret, v_cpy, v_iv_1, v_iv_2, v_iv_3, v_iv_4, v_iv_5, v_iv_6, v_is2_1, v_is2_2, v_is2_3, v_ivJ, List.nil_append, List.cons_append, rf_0_0, rf_0_1, rf_0_2, rf_0_3, rf_0_4, rf_0_5, rf_0_6, rf_0_7, rf_0_8, rf_0_9, rf_1_0, rf_1_2, rf_4_0, rf_4_1, rf_4_2, rf_5_8, rf_5_9, rf_5_10, rf_5_11, rf_5_12, rf_13_0, rf_13_1, rf_14_0, rf_14_1, rf_14_2, rf_15_8, rf_15_9, rf_15_10, rf_15_11, rf_15_12, rf_23_0, rf_23_1, rf_23_2, rf_24_8, rf_24_9, rf_24_10, rf_24_11, rf_24_12, rf_32_6, rf_34_0, rf_34_1, rf_34_2, rf_34_3, rf_35_8, rf_35_9, rf_35_10, rf_35_11, rf_35_12, rf_43_0, rf_43_1, rf_43_2, rf_43_3, rf_45_0, rf_45_1, rf_46_0, rf_46_1, rf_46_2, rf_46_3, rf_46_4, rf_46_5, rf_47_0, rf_47_1, rf_49_0, rf_49_1, rf_49_2, rf_49_3, rf_49_4, rf_49_5, rf_53_0, rf_53_1, rf_53_2, rf_53_3, rf_53_4, rf_53_5, rf_53_6, rf_53_7, rf_53_9, rf_53_10, rf_53_11, rf_53_12, rf_53_13, rf_54_0, rf_54_1, rf_55_1, rf_55_2, rf_55_3, rf_67_1, rf_67_6, rf_67_7, rf_67_8, rf_67_9, rf_67_10, rf_67_22, rf_67_23, rf_67_28, rf_67_30, rf_67_32, rf_67_33, rf_67_38, rf_67_39, rf_67_48, rf_67_49, rf_67_51, rf_67_52, rf_67_53, rf_67_54, rf_67_55, rf_67_60, rf_67_61, rf_67_62, p1, p2]
end K9
theorem iv_9 {M : Mem} (hI : Inv M) : Step2 103 173 [] M Inv := by
  unfold Step2
  obtain ⟨w, l, hG, hM, r3, r4⟩ := hI.gs
  have rb := hI.RI.2.2.1
  have hF := hI.F
  rw [s_x_knots (d := 13) hG (hF.b (by omega)), s_m_knots (d := 12) hM (gB_rft (r := M 5) (cs := M 11) (by rw [up_r (by decide)]; exact hF) (by omega))]
  refine ⟨eqr_i ?_, Inv_agr (agr_rft (M := up M 67 0 0)) hI.thr⟩
  rw [raft_eq hF hG.n, gP_rft hG.n, up_r (by decide)]
