/-! ONE CALL ON FRESH OBJECTS -/
theorem s_m_act {d : Nat} {M : Mem} {Q : List AV → Mem → Prop} (q w : Int) (hq : I32 q) (hw : I32 w) (h : 0 ≤ M 69 118 ∧ M 69 118 ≤ 60) : XC (d + 2) 191 [aR 22 0 67, aI q, aI w] M Q ↔ (if (0 ≤ q ∧ q ≤ M 69 118 - 1) ∧ 0 ≤ w ∧ w ≤ 3 then Q [aI (M 69 (119 + 4 * q + w))] (up M 67 0 0) else Q [aI 0] (up M 67 0 1)) := by
  have p1 : ∀ Q', XC (d + 1) 134 [aI q, aI 0, aI (M 69 118 - 1)] M Q' ↔ Q' [aI (bi (0 ≤ q ∧ q ≤ M 69 118 - 1))] M := fun Q' => s_isIn q 0 _ hq ⟨by decide, by decide⟩ ⟨by omega, by omega⟩
  have p2 : ∀ M' Q', XC (d + 1) 134 [aI w, aI 0, aI 3] M' Q' ↔ Q' [aI (bi (0 ≤ w ∧ w ≤ 3))] M' := fun M' Q' => s_isIn w 0 3 hw ⟨by decide, by decide⟩ ⟨by decide, by decide⟩
  by_cases h1 : 0 ≤ q ∧ q ≤ M 69 118 - 1
  · by_cases h2 : 0 ≤ w ∧ w ≤ 3
    · rw [if_pos ⟨h1, h2⟩]
      have h3 : 0 ≤ 119 + 4 * q + w := by omega
      have h4 : 119 + 4 * q + w < ((383 : Nat) : Int) := by omega
      simp (disch := first | exact nl_i _ | exact nl_r _ | exact Nat.le_of_ble_eq_true rfl | exact Or.inl rfl | exact Or.inr rfl | exact w8_lo _ | exact w8_hi _ | decide | omega) only [e_191, k_191_0, b_191_27, k_191_27, b_191_31, k_191_31, b_191_32, k_191_32, b_191_42, k_191_42, b_191_55, k_191_55, v_fall, v_il_0, v_al_0, v_is_0, v_as_0, v_inc_0, v_ll_0, v_ls_0, v_il_1, v_al_1, v_is_1, v_as_1, v_inc_1, v_ll_1, v_ls_1, v_il_2, v_al_2, v_is_2, v_as_2, v_inc_2, v_ll_2, v_ls_2, v_il_3, v_al_3, v_is_3, v_as_3, v_inc_3, v_ll_3, v_ls_3, v_il_4, v_al_4, v_is_4, v_as_4, v_inc_4, v_ll_4, v_ls_4, v_il_5, v_al_5, v_is_5, v_as_5, v_inc_5, v_ll_5, v_ls_5, v_il_6, v_al_6, v_is_6, v_as_6, v_inc_6, v_il_7, v_al_7, v_is_7, v_as_7, v_inc_7, v_il_8, v_al_8, v_is_8, v_as_8, v_inc_8, v_il_9, v_al_9, v_is_9, v_as_9, v_inc_9, v_il_10, v_al_10, v_is_10, v_as_10, v_inc_10, v_il_11, v_al_11, v_is_11, v_as_11, v_inc_11, v_il_12, v_al_12, v_is_12, v_as_12, v_inc_12, v_il_13, v_al_13, v_is_13, v_as_13, v_inc_13, v_c_8, v_c_9, v_c_10, v_c_11, v_c_12, v_c_13, v_c_14, v_b_15, v_b_16, v_b_17, v_b_21, v_b_22, v_b_23, v_b_24, v_b_25, v_b_26, v_b_18, v_b_19, v_b_20, v_b_27, v_b_28, v_b_29, v_b_30, v_b_31, v_dup_i, v_dup_r, v_dup2, v_pop, v_gi, v_gl, v_gr, v_pi, v_pl, v_pz, v_iald, v_lald, v_bald, v_zald, v_aald, v_iast, v_last, v_bast, v_zast, v_alen_0, v_alen_1, v_alen_2, v_alen_3, v_alen_4, v_j_45, v_j_46, v_j_47, v_j_48, v_j_49, v_j_50, v_j_51, v_j_52, v_j_53, v_j_54, v_j_55, v_j_56, v_goto, v_sw, v_ret_i, v_ret_z, v_ret, v_cpy, v_iv_1, v_iv_2, v_iv_3, v_iv_4, v_iv_5, v_iv_6, v_is2_1, v_is2_2, v_is2_3, v_ivJ, List.nil_append, List.cons_append, rf_0_0, rf_0_1, rf_0_2, rf_0_3, rf_0_4, rf_0_5, rf_0_6, rf_0_7, rf_0_8, rf_0_9, rf_1_0, rf_1_2, rf_4_0, rf_4_1, rf_4_2, rf_5_8, rf_5_9, rf_5_10, rf_5_11, rf_5_12, rf_13_0, rf_13_1, rf_14_0, rf_14_1, rf_14_2, rf_15_8, rf_15_9, rf_15_10, rf_15_11, rf_15_12, rf_23_0, rf_23_1, rf_23_2, rf_24_8, rf_24_9, rf_24_10, rf_24_11, rf_24_12, rf_32_6, rf_34_0, rf_34_1, rf_34_2, rf_34_3, rf_35_8, rf_35_9, rf_35_10, rf_35_11, rf_35_12, rf_43_0, rf_43_1, rf_43_2, rf_43_3, rf_45_0, rf_45_1, rf_46_0, rf_46_1, rf_46_2, rf_46_3, rf_46_4, rf_46_5, rf_47_0, rf_47_1, rf_49_0, rf_49_1, rf_49_2, rf_49_3, rf_49_4, rf_49_5, rf_53_0, rf_53_1, rf_53_2, rf_53_3, rf_53_4, rf_53_5, rf_53_6, rf_53_7, rf_53_9, rf_53_10, rf_53_11, rf_53_12, rf_53_13, rf_54_0, rf_54_1, rf_55_1, rf_55_2, rf_55_3, rf_67_1, rf_67_6, rf_67_7, rf_67_8, rf_67_9, rf_67_10, rf_67_22, rf_67_23, rf_67_28, rf_67_30, rf_67_32, rf_67_33, rf_67_38, rf_67_39, rf_67_48, rf_67_49, rf_67_51, rf_67_52, rf_67_53, rf_67_54, rf_67_55, rf_67_60, rf_67_61, rf_67_62, up_s, up_b, up_j, p1, p2, bi_t h1, bi_t h2, t_1, t_0]
      rfl
    · rw [if_neg (fun h9 => h2 h9.2)]
      simp (disch := first | exact nl_i _ | exact nl_r _ | exact Nat.le_of_ble_eq_true rfl | exact Or.inl rfl | exact Or.inr rfl | exact w8_lo _ | exact w8_hi _ | decide | omega) only [e_191, k_191_0, b_191_27, k_191_27, b_191_31, k_191_31, b_191_32, k_191_32, b_191_42, k_191_42, b_191_55, k_191_55, v_fall, v_il_0, v_al_0, v_is_0, v_as_0, v_inc_0, v_ll_0, v_ls_0, v_il_1, v_al_1, v_is_1, v_as_1, v_inc_1, v_ll_1, v_ls_1, v_il_2, v_al_2, v_is_2, v_as_2, v_inc_2, v_ll_2, v_ls_2, v_il_3, v_al_3, v_is_3, v_as_3, v_inc_3, v_ll_3, v_ls_3, v_il_4, v_al_4, v_is_4, v_as_4, v_inc_4, v_ll_4, v_ls_4, v_il_5, v_al_5, v_is_5, v_as_5, v_inc_5, v_ll_5, v_ls_5, v_il_6, v_al_6, v_is_6, v_as_6, v_inc_6, v_il_7, v_al_7, v_is_7, v_as_7, v_inc_7, v_il_8, v_al_8, v_is_8, v_as_8, v_inc_8, v_il_9, v_al_9, v_is_9, v_as_9, v_inc_9, v_il_10, v_al_10, v_is_10, v_as_10, v_inc_10, v_il_11, v_al_11, v_is_11, v_as_11, v_inc_11, v_il_12, v_al_12, v_is_12, v_as_12, v_inc_12, v_il_13, v_al_13, v_is_13, v_as_13, v_inc_13, v_c_8, v_c_9, v_c_10, v_c_11, v_c_12, v_c_13, v_c_14, v_b_15, v_b_16, v_b_17, v_b_21, v_b_22, v_b_23, v_b_24, v_b_25, v_b_26, v_b_18, v_b_19, v_b_20, v_b_27, v_b_28, v_b_29, v_b_30, v_b_31, v_dup_i, v_dup_r, v_dup2, v_pop, v_gi, v_gl, v_gr, v_pi, v_pl, v_pz, v_iald, v_lald, v_bald, v_zald, v_aald, v_iast, v_last, v_bast, v_zast, v_alen_0, v_alen_1, v_alen_2, v_alen_3, v_alen_4, v_j_45, v_j_46, v_j_47, v_j_48, v_j_49, v_j_50, v_j_51, v_j_52, v_j_53, v_j_54, v_j_55, v_j_56, v_goto, v_sw, v_ret_i, v_ret_z, v_ret, v_cpy, v_iv_1, v_iv_2, v_iv_3, v_iv_4, v_iv_5, v_iv_6, v_is2_1, v_is2_2, v_is2_3, v_ivJ, List.nil_append, List.cons_append, rf_0_0, rf_0_1, rf_0_2, rf_0_3, rf_0_4, rf_0_5, rf_0_6, rf_0_7, rf_0_8, rf_0_9, rf_1_0, rf_1_2, rf_4_0, rf_4_1, rf_4_2, rf_5_8, rf_5_9, rf_5_10, rf_5_11, rf_5_12, rf_13_0, rf_13_1, rf_14_0, rf_14_1, rf_14_2, rf_15_8, rf_15_9, rf_15_10, rf_15_11, rf_15_12, rf_23_0, rf_23_1, rf_23_2, rf_24_8, rf_24_9, rf_24_10, rf_24_11, rf_24_12, rf_32_6, rf_34_0, rf_34_1, rf_34_2, rf_34_3, rf_35_8, rf_35_9, rf_35_10, rf_35_11, rf_35_12, rf_43_0, rf_43_1, rf_43_2, rf_43_3, rf_45_0, rf_45_1, rf_46_0, rf_46_1, rf_46_2, rf_46_3, rf_46_4, rf_46_5, rf_47_0, rf_47_1, rf_49_0, rf_49_1, rf_49_2, rf_49_3, rf_49_4, rf_49_5, rf_53_0, rf_53_1, rf_53_2, rf_53_3, rf_53_4, rf_53_5, rf_53_6, rf_53_7, rf_53_9, rf_53_10, rf_53_11, rf_53_12, rf_53_13, rf_54_0, rf_54_1, rf_55_1, rf_55_2, rf_55_3, rf_67_1, rf_67_6, rf_67_7, rf_67_8, rf_67_9, rf_67_10, rf_67_22, rf_67_23, rf_67_28, rf_67_30, rf_67_32, rf_67_33, rf_67_38, rf_67_39, rf_67_48, rf_67_49, rf_67_51, rf_67_52, rf_67_53, rf_67_54, rf_67_55, rf_67_60, rf_67_61, rf_67_62, up_s, up_b, up_j, p1, p2, bi_t h1, bi_f h2, t_1, t_0]
      rfl
  · rw [if_neg (fun h9 => h1 h9.1)]
    simp (disch := first | exact nl_i _ | exact nl_r _ | exact Nat.le_of_ble_eq_true rfl | exact Or.inl rfl | exact Or.inr rfl | exact w8_lo _ | exact w8_hi _ | decide | omega) only [e_191, k_191_0, b_191_27, k_191_27, b_191_31, k_191_31, b_191_32, k_191_32, b_191_42, k_191_42, b_191_55, k_191_55, v_fall, v_il_0, v_al_0, v_is_0, v_as_0, v_inc_0, v_ll_0, v_ls_0, v_il_1, v_al_1, v_is_1, v_as_1, v_inc_1, v_ll_1, v_ls_1, v_il_2, v_al_2, v_is_2, v_as_2, v_inc_2, v_ll_2, v_ls_2, v_il_3, v_al_3, v_is_3, v_as_3, v_inc_3, v_ll_3, v_ls_3, v_il_4, v_al_4, v_is_4, v_as_4, v_inc_4, v_ll_4, v_ls_4, v_il_5, v_al_5, v_is_5, v_as_5, v_inc_5, v_ll_5, v_ls_5, v_il_6, v_al_6, v_is_6, v_as_6, v_inc_6, v_il_7, v_al_7, v_is_7, v_as_7, v_inc_7, v_il_8, v_al_8, v_is_8, v_as_8, v_inc_8, v_il_9, v_al_9, v_is_9, v_as_9, v_inc_9, v_il_10, v_al_10, v_is_10, v_as_10, v_inc_10, v_il_11, v_al_11, v_is_11, v_as_11, v_inc_11, v_il_12, v_al_12, v_is_12, v_as_12, v_inc_12, v_il_13, v_al_13, v_is_13, v_as_13, v_inc_13, v_c_8, v_c_9, v_c_10, v_c_11, v_c_12, v_c_13, v_c_14, v_b_15, v_b_16, v_b_17, v_b_21, v_b_22, v_b_23, v_b_24, v_b_25, v_b_26, v_b_18, v_b_19, v_b_20, v_b_27, v_b_28, v_b_29, v_b_30, v_b_31, v_dup_i, v_dup_r, v_dup2, v_pop, v_gi, v_gl, v_gr, v_pi, v_pl, v_pz, v_iald, v_lald, v_bald, v_zald, v_aald, v_iast, v_last, v_bast, v_zast, v_alen_0, v_alen_1, v_alen_2, v_alen_3, v_alen_4, v_j_45, v_j_46, v_j_47, v_j_48, v_j_49, v_j_50, v_j_51, v_j_52, v_j_53, v_j_54, v_j_55, v_j_56, v_goto, v_sw, v_ret_i, v_ret_z, v_ret, v_cpy, v_iv_1, v_iv_2, v_iv_3, v_iv_4, v_iv_5, v_iv_6, v_is2_1, v_is2_2, v_is2_3, v_ivJ, List.nil_append, List.cons_append, rf_0_0, rf_0_1, rf_0_2, rf_0_3, rf_0_4, rf_0_5, rf_0_6, rf_0_7, rf_0_8, rf_0_9, rf_1_0, rf_1_2, rf_4_0, rf_4_1, rf_4_2, rf_5_8, rf_5_9, rf_5_10, rf_5_11, rf_5_12, rf_13_0, rf_13_1, rf_14_0, rf_14_1, rf_14_2, rf_15_8, rf_15_9, rf_15_10, rf_15_11, rf_15_12, rf_23_0, rf_23_1, rf_23_2, rf_24_8, rf_24_9, rf_24_10, rf_24_11, rf_24_12, rf_32_6, rf_34_0, rf_34_1, rf_34_2, rf_34_3, rf_35_8, rf_35_9, rf_35_10, rf_35_11, rf_35_12, rf_43_0, rf_43_1, rf_43_2, rf_43_3, rf_45_0, rf_45_1, rf_46_0, rf_46_1, rf_46_2, rf_46_3, rf_46_4, rf_46_5, rf_47_0, rf_47_1, rf_49_0, rf_49_1, rf_49_2, rf_49_3, rf_49_4, rf_49_5, rf_53_0, rf_53_1, rf_53_2, rf_53_3, rf_53_4, rf_53_5, rf_53_6, rf_53_7, rf_53_9, rf_53_10, rf_53_11, rf_53_12, rf_53_13, rf_54_0, rf_54_1, rf_55_1, rf_55_2, rf_55_3, rf_67_1, rf_67_6, rf_67_7, rf_67_8, rf_67_9, rf_67_10, rf_67_22, rf_67_23, rf_67_28, rf_67_30, rf_67_32, rf_67_33, rf_67_38, rf_67_39, rf_67_48, rf_67_49, rf_67_51, rf_67_52, rf_67_53, rf_67_54, rf_67_55, rf_67_60, rf_67_61, rf_67_62, up_s, up_b, up_j, p1, p2, bi_f h1, t_1, t_0]
    rfl
def oneI (r : List AV) : Option Int := match r with
  | [Sum.inl (Sum.inl v)] => some v
  | _ => none
theorem oneI_of {r : List AV} {v : Int} (h : oneI r = some v) : r = [aI v] := by
  match r, h with
  | [Sum.inl (Sum.inl w)], h => cases h; rfl
def chk (n z z2 : Nat) (as : List AV) (M : Mem) : Bool :=
  (exec n 15 z (blk z 0) (ini z (aR 21 0 0 :: as)) [] M).any (fun q => (exec n 15 z2 (blk z2 0) (ini z2 (aR 22 0 67 :: as)) [] q.2).any (fun q2 => (oneI q.1).any (fun v => (oneI q2.1).any (fun w => w32 v == w32 w))))
theorem any_ex {α : Type} {o : Option α} {f : α → Bool} (h : o.any f = true) : ∃ a, o = some a ∧ f a = true := by
  cases o with
  | none => cases h
  | some a => exact ⟨a, rfl, h⟩
theorem step_ex {n z z2 : Nat} {as : List AV} {M : Mem} (h : chk n z z2 as M = true) : Step2 z z2 as M (fun _ => True) := by
  obtain ⟨q, h1, h2⟩ := any_ex h
  obtain ⟨q2, h3, h4⟩ := any_ex h2
  obtain ⟨v, h5, h6⟩ := any_ex h4
  obtain ⟨w, h7, h8⟩ := any_ex h6
  exact ⟨n, q, h1, n, q2, h3, ⟨v, w, oneI_of h5, oneI_of h7, eq_of_beq h8⟩, trivial⟩
theorem fr_50 : ML0 5 0 = 0 := by decide +kernel
theorem fr_51 : ML0 5 1 = 0 := by decide +kernel
theorem fr_52 : ML0 5 2 = 0 := by decide +kernel
theorem fr_RI : RI ML0 := by
  refine ⟨by decide +kernel, by decide +kernel, by decide +kernel, by decide +kernel, by decide +kernel, by decide +kernel, by decide +kernel, by decide +kernel, fun q h1 h2 => ?_, fun q h1 h2 => ?_⟩
  · rw [fr_50] at h2; omega
  · rw [fr_52] at h2; omega
theorem fr_690 : ML0 69 0 = 0 := by decide +kernel
theorem fr_691 : ML0 69 1 = 0 := by decide +kernel
theorem fr_692 : ML0 69 2 = 0 := by decide +kernel
theorem fr_693 : ML0 69 3 = 3 := by decide +kernel
theorem fr_694 : ML0 69 4 = 3 := by decide +kernel
theorem fr_69118 : ML0 69 118 = 0 := by decide +kernel
theorem fr_43 : ML0 4 3 = 0 := by decide +kernel
theorem fr_322 : ML0 32 2 = 9 := by decide +kernel
theorem fr_11 : ∀ k : Nat, k < 24 → ML0 11 (k : Int) = -1 := by decide +kernel
theorem fr_359 : ∀ k : Nat, k < 24 → ML0 69 (359 + (k : Int)) = 0 := by decide +kernel
theorem fr_7 : ∀ k : Nat, k < 49 → ML0 7 (k : Int) = 0 := by decide +kernel
theorem fr_69 : ∀ k : Nat, k < 383 → -100000 ≤ ML0 69 (k : Int) ∧ ML0 69 (k : Int) ≤ 100000 := by decide +kernel
theorem fr_i11 (k : Int) (h1 : 0 ≤ k) (h2 : k < 24) : ML0 11 k = -1 := by
  have h := fr_11 k.toNat (by omega)
  rwa [Int.toNat_of_nonneg h1] at h
theorem fr_i359 (k : Int) (h1 : 0 ≤ k) (h2 : k < 24) : ML0 69 (359 + k) = 0 := by
  have h := fr_359 k.toNat (by omega)
  rwa [Int.toNat_of_nonneg h1] at h
theorem fr_small7 : small ML0 7 49 := fun i h1 h2 => by
  have h := fr_7 i.toNat (by omega)
  rw [Int.toNat_of_nonneg h1] at h
  omega
theorem fr_small69 : small ML0 69 383 := fun i h1 h2 => by
  have h := fr_69 i.toNat (by omega)
  rwa [Int.toNat_of_nonneg h1] at h
theorem eqr_i {v w : Int} (h : v = w) : eqr [aI v] [aI w] := ⟨v, w, rfl, rfl, by rw [h]⟩
