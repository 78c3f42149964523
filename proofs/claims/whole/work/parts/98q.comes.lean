/-! BEST on the reference's side: the queue -/
section QC
variable {d : Nat} {M M0 : Mem} {Q : List AV → Mem → Prop}
theorem cme_0 (u x so wt hd mn ix : Int) (hu : 0 ≤ u ∧ u < 15625) (hs : M 86 u = so) (hb : (0 ≤ so ∧ so ≤ 100000000) ∧ 0 ≤ x ∧ x ≤ 200000000) (hw : M 88 u = wt) (hwb : wt = 0 ∨ wt = 1) (h7 : M 67 57 = hd) (h8 : M 67 58 = mn) (hq : (0 ≤ hd ∧ hd < 15625) ∧ 0 ≤ mn ∧ mn ≤ 2000) (hix : ix = (hd + mn) % 15625) : XC d 210 [aR 22 0 67, aI u, aI x] M Q ↔ (if so ≤ x then Q [] M else if wt = 1 then Q [] (up M 86 u x) else Q [] (up (up (up (up M 86 u x) 88 u 1) 87 ix u) 67 58 (mn + 1))) := by
  have r : rem32 (hd + mn) 15625 = ix := by rw [hix]; exact rem_i ⟨by omega, by omega⟩ (by decide)
  have ixb : 0 ≤ ix ∧ ix < 15625 := by omega
  clear hix
  rw [e_210, k_210_0]
  by_cases c : so ≤ x
  · simp (disch := first | exact nl_i _ | exact nl_r _ | exact Nat.le_of_ble_eq_true rfl | exact Or.inl rfl | exact Or.inr rfl | exact w8_lo _ | exact w8_hi _ | decide | omega) only [v_fall, v_il_0, v_al_0, v_is_0, v_as_0, v_inc_0, v_ll_0, v_ls_0, v_il_1, v_al_1, v_is_1, v_as_1, v_inc_1, v_ll_1, v_ls_1, v_il_2, v_al_2, v_is_2, v_as_2, v_inc_2, v_ll_2, v_ls_2, v_il_3, v_al_3, v_is_3, v_as_3, v_inc_3, v_ll_3, v_ls_3, v_il_4, v_al_4, v_is_4, v_as_4, v_inc_4, v_ll_4, v_ls_4, v_il_5, v_al_5, v_is_5, v_as_5, v_inc_5, v_ll_5, v_ls_5, v_il_6, v_al_6, v_is_6, v_as_6, v_inc_6, v_il_7, v_al_7, v_is_7, v_as_7, v_inc_7, v_il_8, v_al_8, v_is_8, v_as_8, v_inc_8, v_il_9, v_al_9, v_is_9, v_as_9, v_inc_9, v_il_10, v_al_10, v_is_10, v_as_10, v_inc_10, v_il_11, v_al_11, v_is_11, v_as_11, v_inc_11, v_il_12, v_al_12, v_is_12, v_as_12, v_inc_12, v_il_13, v_al_13, v_is_13, v_as_13, v_inc_13, v_c_8, v_c_9, v_c_10, v_c_11, v_c_12, v_c_13, v_c_14, v_b_15, v_b_16, v_b_17, v_b_21, v_b_22, v_b_23, v_b_24, v_b_25, v_b_26, v_b_18, v_b_19, v_b_20, v_b_27, v_b_28, v_b_29, v_b_30, v_b_31, v_dup_i, v_dup_r, v_dup2, v_pop, v_gi, v_gl, v_gr, v_pi, v_pl, v_pz, v_iald, v_lald, v_bald, v_zald, v_aald, v_iast, v_last, v_bast, v_zast, v_alen_0, v_alen_1, v_alen_2, v_alen_3, v_alen_4, v_j_45, v_j_46, v_j_47, v_j_48, v_j_49, v_j_50, v_j_51, v_j_52, v_j_53, v_j_54, v_j_55, v_j_56, v_goto, v_sw, v_ret_i, v_ret_z, v_ret, v_cpy, v_iv_1, v_iv_2, v_iv_3, v_iv_4, v_iv_5, v_iv_6, v_is2_1, v_is2_2, v_is2_3, v_ivJ, List.nil_append, List.cons_append, rf_0_0, rf_0_1, rf_0_2, rf_0_3, rf_0_4, rf_0_5, rf_0_6, rf_0_7, rf_0_8, rf_0_9, rf_1_0, rf_1_2, rf_4_0, rf_4_1, rf_4_2, rf_5_8, rf_5_9, rf_5_10, rf_5_11, rf_5_12, rf_13_0, rf_13_1, rf_14_0, rf_14_1, rf_14_2, rf_15_8, rf_15_9, rf_15_10, rf_15_11, rf_15_12, rf_23_0, rf_23_1, rf_23_2, rf_24_8, rf_24_9, rf_24_10, rf_24_11, rf_24_12, rf_32_6, rf_34_0, rf_34_1, rf_34_2, rf_34_3, rf_35_8, rf_35_9, rf_35_10, rf_35_11, rf_35_12, rf_43_0, rf_43_1, rf_43_2, rf_43_3, rf_45_0, rf_45_1, rf_46_0, rf_46_1, rf_46_2, rf_46_3, rf_46_4, rf_46_5, rf_47_0, rf_47_1, rf_49_0, rf_49_1, rf_49_2, rf_49_3, rf_49_4, rf_49_5, rf_53_0, rf_53_1, rf_53_2, rf_53_3, rf_53_4, rf_53_5, rf_53_6, rf_53_7, rf_53_9, rf_53_10, rf_53_11, rf_53_12, rf_53_13, rf_54_0, rf_54_1, rf_55_1, rf_55_2, rf_55_3, rf_67_1, rf_67_6, rf_67_7, rf_67_8, rf_67_9, rf_67_10, rf_67_22, rf_67_23, rf_67_28, rf_67_30, rf_67_32, rf_67_33, rf_67_38, rf_67_39, rf_67_48, rf_67_49, rf_67_51, rf_67_52, rf_67_53, rf_67_54, rf_67_55, rf_67_60, rf_67_61, rf_67_62, up_s, up_b, up_j, b_210_11, k_210_11, b_210_28, k_210_28, w_sm, ↓if_pos, ↓if_neg,  hs]
  · rcases hwb with rfl | rfl
    · simp (disch := first | exact nl_i _ | exact nl_r _ | exact Nat.le_of_ble_eq_true rfl | exact Or.inl rfl | exact Or.inr rfl | exact w8_lo _ | exact w8_hi _ | decide | omega) only [v_fall, v_il_0, v_al_0, v_is_0, v_as_0, v_inc_0, v_ll_0, v_ls_0, v_il_1, v_al_1, v_is_1, v_as_1, v_inc_1, v_ll_1, v_ls_1, v_il_2, v_al_2, v_is_2, v_as_2, v_inc_2, v_ll_2, v_ls_2, v_il_3, v_al_3, v_is_3, v_as_3, v_inc_3, v_ll_3, v_ls_3, v_il_4, v_al_4, v_is_4, v_as_4, v_inc_4, v_ll_4, v_ls_4, v_il_5, v_al_5, v_is_5, v_as_5, v_inc_5, v_ll_5, v_ls_5, v_il_6, v_al_6, v_is_6, v_as_6, v_inc_6, v_il_7, v_al_7, v_is_7, v_as_7, v_inc_7, v_il_8, v_al_8, v_is_8, v_as_8, v_inc_8, v_il_9, v_al_9, v_is_9, v_as_9, v_inc_9, v_il_10, v_al_10, v_is_10, v_as_10, v_inc_10, v_il_11, v_al_11, v_is_11, v_as_11, v_inc_11, v_il_12, v_al_12, v_is_12, v_as_12, v_inc_12, v_il_13, v_al_13, v_is_13, v_as_13, v_inc_13, v_c_8, v_c_9, v_c_10, v_c_11, v_c_12, v_c_13, v_c_14, v_b_15, v_b_16, v_b_17, v_b_21, v_b_22, v_b_23, v_b_24, v_b_25, v_b_26, v_b_18, v_b_19, v_b_20, v_b_27, v_b_28, v_b_29, v_b_30, v_b_31, v_dup_i, v_dup_r, v_dup2, v_pop, v_gi, v_gl, v_gr, v_pi, v_pl, v_pz, v_iald, v_lald, v_bald, v_zald, v_aald, v_iast, v_last, v_bast, v_zast, v_alen_0, v_alen_1, v_alen_2, v_alen_3, v_alen_4, v_j_45, v_j_46, v_j_47, v_j_48, v_j_49, v_j_50, v_j_51, v_j_52, v_j_53, v_j_54, v_j_55, v_j_56, v_goto, v_sw, v_ret_i, v_ret_z, v_ret, v_cpy, v_iv_1, v_iv_2, v_iv_3, v_iv_4, v_iv_5, v_iv_6, v_is2_1, v_is2_2, v_is2_3, v_ivJ, List.nil_append, List.cons_append, rf_0_0, rf_0_1, rf_0_2, rf_0_3, rf_0_4, rf_0_5, rf_0_6, rf_0_7, rf_0_8, rf_0_9, rf_1_0, rf_1_2, rf_4_0, rf_4_1, rf_4_2, rf_5_8, rf_5_9, rf_5_10, rf_5_11, rf_5_12, rf_13_0, rf_13_1, rf_14_0, rf_14_1, rf_14_2, rf_15_8, rf_15_9, rf_15_10, rf_15_11, rf_15_12, rf_23_0, rf_23_1, rf_23_2, rf_24_8, rf_24_9, rf_24_10, rf_24_11, rf_24_12, rf_32_6, rf_34_0, rf_34_1, rf_34_2, rf_34_3, rf_35_8, rf_35_9, rf_35_10, rf_35_11, rf_35_12, rf_43_0, rf_43_1, rf_43_2, rf_43_3, rf_45_0, rf_45_1, rf_46_0, rf_46_1, rf_46_2, rf_46_3, rf_46_4, rf_46_5, rf_47_0, rf_47_1, rf_49_0, rf_49_1, rf_49_2, rf_49_3, rf_49_4, rf_49_5, rf_53_0, rf_53_1, rf_53_2, rf_53_3, rf_53_4, rf_53_5, rf_53_6, rf_53_7, rf_53_9, rf_53_10, rf_53_11, rf_53_12, rf_53_13, rf_54_0, rf_54_1, rf_55_1, rf_55_2, rf_55_3, rf_67_1, rf_67_6, rf_67_7, rf_67_8, rf_67_9, rf_67_10, rf_67_22, rf_67_23, rf_67_28, rf_67_30, rf_67_32, rf_67_33, rf_67_38, rf_67_39, rf_67_48, rf_67_49, rf_67_51, rf_67_52, rf_67_53, rf_67_54, rf_67_55, rf_67_60, rf_67_61, rf_67_62, up_s, up_b, up_j, b_210_11, k_210_11, b_210_28, k_210_28, w_sm, ↓if_pos, ↓if_neg,  hs, hw, h7, h8, r]
    · simp (disch := first | exact nl_i _ | exact nl_r _ | exact Nat.le_of_ble_eq_true rfl | exact Or.inl rfl | exact Or.inr rfl | exact w8_lo _ | exact w8_hi _ | decide | omega) only [v_fall, v_il_0, v_al_0, v_is_0, v_as_0, v_inc_0, v_ll_0, v_ls_0, v_il_1, v_al_1, v_is_1, v_as_1, v_inc_1, v_ll_1, v_ls_1, v_il_2, v_al_2, v_is_2, v_as_2, v_inc_2, v_ll_2, v_ls_2, v_il_3, v_al_3, v_is_3, v_as_3, v_inc_3, v_ll_3, v_ls_3, v_il_4, v_al_4, v_is_4, v_as_4, v_inc_4, v_ll_4, v_ls_4, v_il_5, v_al_5, v_is_5, v_as_5, v_inc_5, v_ll_5, v_ls_5, v_il_6, v_al_6, v_is_6, v_as_6, v_inc_6, v_il_7, v_al_7, v_is_7, v_as_7, v_inc_7, v_il_8, v_al_8, v_is_8, v_as_8, v_inc_8, v_il_9, v_al_9, v_is_9, v_as_9, v_inc_9, v_il_10, v_al_10, v_is_10, v_as_10, v_inc_10, v_il_11, v_al_11, v_is_11, v_as_11, v_inc_11, v_il_12, v_al_12, v_is_12, v_as_12, v_inc_12, v_il_13, v_al_13, v_is_13, v_as_13, v_inc_13, v_c_8, v_c_9, v_c_10, v_c_11, v_c_12, v_c_13, v_c_14, v_b_15, v_b_16, v_b_17, v_b_21, v_b_22, v_b_23, v_b_24, v_b_25, v_b_26, v_b_18, v_b_19, v_b_20, v_b_27, v_b_28, v_b_29, v_b_30, v_b_31, v_dup_i, v_dup_r, v_dup2, v_pop, v_gi, v_gl, v_gr, v_pi, v_pl, v_pz, v_iald, v_lald, v_bald, v_zald, v_aald, v_iast, v_last, v_bast, v_zast, v_alen_0, v_alen_1, v_alen_2, v_alen_3, v_alen_4, v_j_45, v_j_46, v_j_47, v_j_48, v_j_49, v_j_50, v_j_51, v_j_52, v_j_53, v_j_54, v_j_55, v_j_56, v_goto, v_sw, v_ret_i, v_ret_z, v_ret, v_cpy, v_iv_1, v_iv_2, v_iv_3, v_iv_4, v_iv_5, v_iv_6, v_is2_1, v_is2_2, v_is2_3, v_ivJ, List.nil_append, List.cons_append, rf_0_0, rf_0_1, rf_0_2, rf_0_3, rf_0_4, rf_0_5, rf_0_6, rf_0_7, rf_0_8, rf_0_9, rf_1_0, rf_1_2, rf_4_0, rf_4_1, rf_4_2, rf_5_8, rf_5_9, rf_5_10, rf_5_11, rf_5_12, rf_13_0, rf_13_1, rf_14_0, rf_14_1, rf_14_2, rf_15_8, rf_15_9, rf_15_10, rf_15_11, rf_15_12, rf_23_0, rf_23_1, rf_23_2, rf_24_8, rf_24_9, rf_24_10, rf_24_11, rf_24_12, rf_32_6, rf_34_0, rf_34_1, rf_34_2, rf_34_3, rf_35_8, rf_35_9, rf_35_10, rf_35_11, rf_35_12, rf_43_0, rf_43_1, rf_43_2, rf_43_3, rf_45_0, rf_45_1, rf_46_0, rf_46_1, rf_46_2, rf_46_3, rf_46_4, rf_46_5, rf_47_0, rf_47_1, rf_49_0, rf_49_1, rf_49_2, rf_49_3, rf_49_4, rf_49_5, rf_53_0, rf_53_1, rf_53_2, rf_53_3, rf_53_4, rf_53_5, rf_53_6, rf_53_7, rf_53_9, rf_53_10, rf_53_11, rf_53_12, rf_53_13, rf_54_0, rf_54_1, rf_55_1, rf_55_2, rf_55_3, rf_67_1, rf_67_6, rf_67_7, rf_67_8, rf_67_9, rf_67_10, rf_67_22, rf_67_23, rf_67_28, rf_67_30, rf_67_32, rf_67_33, rf_67_38, rf_67_39, rf_67_48, rf_67_49, rf_67_51, rf_67_52, rf_67_53, rf_67_54, rf_67_55, rf_67_60, rf_67_61, rf_67_62, up_s, up_b, up_j, b_210_11, k_210_11, b_210_28, k_210_28, w_sm, ↓if_pos, ↓if_neg,  hs, hw]
end QC
section QD
variable (m n : Nat) (cm lv : Nat → Int) (st : Int) (tk : Nat → Nat → Int) (A A2 : Nat → Int)
def QI (M : Mem) (mn : Nat) (qf : Nat → Nat) : Prop := M 67 58 = (mn : Int) ∧ (0 ≤ M 67 57 ∧ M 67 57 < 15625) ∧ (∀ j, j < mn → vcd m n (qf j) ∧ M 87 ((M 67 57 + (j : Int)) % 15625) = ((rcd (qf j) : Nat) : Int) ∧ M 88 ((rcd (qf j) : Nat) : Int) = 1) ∧ (∀ j j2, j < mn → j2 < mn → qf j = qf j2 → j = j2) ∧ (∀ c, vcd m n c → M 88 ((rcd c : Nat) : Int) = 0 ∨ (M 88 ((rcd c : Nat) : Int) = 1 ∧ ∃ j, j < mn ∧ qf j = c)) ∧ ∀ i : Int, (∀ c, vcd m n c → i ≠ ((rcd c : Nat) : Int)) → M 88 i = 0
noncomputable def snS (M : Mem) (c : Nat) : Int := if cb (vcd m n c) = 1 then M 86 ((rcd c : Nat) : Int) else 100000000
def QV (cur : Nat) (M : Mem) (mn : Nat) (qf : Nat → Nat) : Prop :=
  QI m n M mn qf ∧ (∀ c, 0 ≤ snS m n M c ∧ snS m n M c ≤ 100000000 ∧ (snS m n M c < 100000000 → Wk m n cm lv st tk A c (snS m n M c))) ∧
  (∀ c, c ≠ cur → vcd m n c → M 88 ((rcd c : Nat) : Int) = 0 → snS m n M c < 100000000 → ∀ i v k, i < m → edI n cm lv st tk i c v k → snS m n M v ≤ snS m n M c + k) ∧
  (∀ c, A2 c < 100000000 → snS m n M c ≤ A2 c) ∧ (∀ u : Int, 0 ≤ u → u < 15625 → (∀ c, vcd m n c → u ≠ ((rcd c : Nat) : Int)) → M 86 u = 100000000) ∧ ∀ j, j < mn → snS m n M (qf j) < 100000000
noncomputable def mu (M : Mem) (mn : Nat) : Nat := 2 * sumN 4096 (fun c => (snS m n M c).toNat) + mn
end QD
def coX (b : Nat) (j : Int) : Prop := b = 86 ∨ b = 87 ∨ b = 88 ∨ (b = 67 ∧ j = 58)
section QE
variable {d : Nat} {M M0 : Mem} {Q : List AV → Mem → Prop} {m n : Nat} {cm lv : Nat → Int} {st : Int} {tk : Nat → Nat → Int} {A A2 : Nat → Int} {cur mn : Nat} {qf : Nat → Nat}
theorem snS_v {c : Nat} (h : vcd m n c) : snS m n M c = M 86 ((rcd c : Nat) : Int) := by
  unfold snS
  rw [cb_t h, if_pos rfl]
theorem snS_n {c : Nat} (h : ¬ vcd m n c) : snS m n M c = 100000000 := by
  unfold snS
  rw [cb_f h, if_neg (by decide)]
theorem snS_up {v : Nat} {x : Int} (hn : n ≤ 6) (hv : vcd m n v) : snS m n (up M 86 ((rcd v : Nat) : Int) x) = updS (snS m n M) v x := by
  funext c
  unfold updS
  by_cases e : c = v
  · rw [if_pos e, e, snS_v hv, up_s]
  · rw [if_neg e]
    by_cases hc : vcd m n c
    · rw [snS_v hc, snS_v hc, up_j (fun h => e (rcd_inj hc hv hn (by omega)))]
    · rw [snS_n hc, snS_n hc]
theorem snS_cg {M2 : Mem} (h : M2 86 = M 86) : snS m n M2 = snS m n M := by
  funext c
  unfold snS
  rw [h]
theorem QI_mn (hn : n ≤ 6) (hQ : QI m n M mn qf) : mn ≤ 1045 := by
  have := inj_cnt (N := 4096) (f := qf) mn vcdB (fun a ha => ⟨(hQ.2.2.1 a ha).1.1, vcd_B (hQ.2.2.1 a ha).1 hn⟩) hQ.2.2.2.1
  rw [vcdB_n] at this
  exact this
theorem s_comes (hO : okW m n cm lv st tk A) (hQ : QV m n cm lv st tk A A2 cur M mn qf) (v : Nat) (x : Int) (hx : Wk m n cm lv st tk A v x) (hxb : x ≤ 200000000) (hvc : v ≠ cur) (kk : ∀ M' mn' qf', AgX coX M M' → QV m n cm lv st tk A A2 cur M' mn' qf' → snS m n M' v ≤ x → (∀ c, snS m n M' c ≤ snS m n M c) → (∀ c, c ≠ v → snS m n M' c = snS m n M c) → mu m n M' mn' ≤ mu m n M mn → Q [] M') : XC d 210 [aR 22 0 67, aI ((rcd v : Nat) : Int), aI x] M Q := by
  have hn := hO.2.1
  have hv := (hx.J hO).1.1
  have x0 := (hx.J hO).2
  have hQ' := hQ
  obtain ⟨⟨q1, q2, q3, q4, q5, q6⟩, s1, s2, s3, s4, s5⟩ := hQ
  have hm := QI_mn hn hQ'.1
  have rl := (rcd_sp hv hn).1
  have e86 := snS_v (M := M) hv
  have sv := s1 v
  have hw := q5 v hv
  rw [cme_0 ((rcd v : Nat) : Int) x (snS m n M v) (M 88 ((rcd v : Nat) : Int)) (M 67 57) (mn : Int) _ ⟨by omega, by omega⟩ e86.symm ⟨⟨sv.1, sv.2.1⟩, x0, hxb⟩ rfl (hw.imp id (fun h => h.1)) rfl q1 ⟨q2, by omega, by omega⟩ rfl]
  by_cases c : snS m n M v ≤ x
  · rw [if_pos c]
    exact kk M mn qf (fun _ _ _ => rfl) hQ' c (fun _ => Int.le_refl _) (fun _ _ => rfl) (Nat.le_refl _)
  · rw [if_neg c]
    have lt : x < snS m n M v := by omega
    have su := snS_up (M := M) (x := x) hn hv
    have sumlt : sumN 4096 (fun a => (updS (snS m n M) v x a).toNat) < sumN 4096 (fun a => (snS m n M a).toNat) := sumN_lt (x := v) (fun a _ => by
      unfold updS
      by_cases e : a = v
      · rw [if_pos e, e]; omega
      · rw [if_neg e]; exact Nat.le_refl _) hv.1 (by
      show (updS (snS m n M) v x v).toNat < (snS m n M v).toNat
      unfold updS
      rw [if_pos rfl]
      omega)
    have ule : ∀ a, updS (snS m n M) v x a ≤ snS m n M a := fun a => by
      unfold updS
      by_cases e : a = v
      · rw [if_pos e, e]; omega
      · rw [if_neg e]; exact Int.le_refl _
    have une : ∀ a, a ≠ v → updS (snS m n M) v x a = snS m n M a := fun a e => if_neg e
    have uev : updS (snS m n M) v x v = x := if_pos rfl
    have usnd : ∀ a, 0 ≤ updS (snS m n M) v x a ∧ updS (snS m n M) v x a ≤ 100000000 ∧ (updS (snS m n M) v x a < 100000000 → Wk m n cm lv st tk A a (updS (snS m n M) v x a)) := fun a => by
      by_cases e : a = v
      · rw [e, uev]
        exact ⟨x0, by omega, fun _ => hx⟩
      · rw [une a e]; exact s1 a
    by_cases c2 : M 88 ((rcd v : Nat) : Int) = 1
    · rw [if_pos c2]
      have o : ∀ b j, b ≠ 86 → up M 86 ((rcd v : Nat) : Int) x b j = M b j := fun b j hb => up_b hb
      have of : ∀ b, b ≠ 86 → up M 86 ((rcd v : Nat) : Int) x b = M b := fun b hb => up_r hb
      refine kk (up M 86 ((rcd v : Nat) : Int) x) mn qf (fun b j hb => o b j (fun e => hb (Or.inl e))) ⟨?_, fun a => by rw [su]; exact usnd a, fun a hac hva ha0 halt i v2 k hi he => ?_, fun a ha => ?_, fun u u0 u1 hu => ?_, fun j hj => by rw [su]; have := ule (qf j); have := s5 j hj; omega⟩ (by rw [su, uev]; exact Int.le_refl _) (fun a => by rw [su]; exact ule a) (fun a ha => by rw [su]; exact une a ha) (by unfold mu; rw [su]; omega)
      · unfold QI
        rw [of 67 (by decide), of 87 (by decide), of 88 (by decide)]
        exact ⟨q1, q2, q3, q4, q5, q6⟩
      · rw [o 88 _ (by decide)] at ha0
        have hav : a ≠ v := fun e => by rw [e, c2] at ha0; exact absurd ha0 (by decide)
        rw [su, une a hav] at halt
        rw [su, une a hav]
        have := ule v2
        have := s2 a hac hva ha0 halt i v2 k hi he
        omega
      · rw [su]
        have := ule a
        have := s3 a ha
        omega
      · rw [up_j (hu v hv)]
        exact s4 u u0 u1 hu
    · rw [if_neg c2]
      have w0 : M 88 ((rcd v : Nat) : Int) = 0 := by
        rcases hw with h | ⟨h, -⟩
        · exact h
        · exact absurd h c2
      obtain ⟨ix, hix⟩ : ∃ ix : Int, ix = (M 67 57 + (mn : Int)) % 15625 := ⟨_, rfl⟩
      rw [← hix]
      obtain ⟨M1, hM1⟩ : ∃ M1, M1 = up (up (up (up M 86 ((rcd v : Nat) : Int) x) 88 ((rcd v : Nat) : Int) 1) 87 ix ((rcd v : Nat) : Int)) 67 58 ((mn : Int) + 1) := ⟨_, rfl⟩
      rw [← hM1]
      have f86 : M1 86 = up M 86 ((rcd v : Nat) : Int) x 86 := by rw [hM1, up_r (by decide), up_r (by decide), up_r (by decide)]
      have su1 : snS m n M1 = updS (snS m n M) v x := by rw [snS_cg f86, su]
      have f88 : ∀ j, M1 88 j = if j = ((rcd v : Nat) : Int) then 1 else M 88 j := fun j => by
        rw [hM1, up_b (by decide), up_b (by decide)]
        by_cases e : j = ((rcd v : Nat) : Int)
        · rw [if_pos e, e, up_s]
        · rw [if_neg e, up_j e, up_b (by decide)]
      have f87 : ∀ j, M1 87 j = if j = ix then ((rcd v : Nat) : Int) else M 87 j := fun j => by
        rw [hM1, up_b (by decide)]
        by_cases e : j = ix
        · rw [if_pos e, e, up_s]
        · rw [if_neg e, up_j e, up_b (by decide), up_b (by decide)]
      have f57 : M1 67 57 = M 67 57 := by rw [hM1, up_j (by decide), up_b (by decide), up_b (by decide), up_b (by decide)]
      have f58 : M1 67 58 = (mn : Int) + 1 := by rw [hM1, up_s]
      have nin : ∀ j, j < mn → qf j ≠ v := fun j hj e => by
        have := (q3 j hj).2.2
        rw [e, w0] at this
        exact absurd this (by decide)
      have qo : ∀ j, j < mn → (fun j => if j = mn then v else qf j) j = qf j := fun j hj => if_neg (by omega)
      refine kk M1 (mn + 1) (fun j => if j = mn then v else qf j) (fun b j hb => ?_) ⟨⟨?_, by rw [f57]; exact q2, fun j hj => ?_, fun j j2 hj hj2 he => ?_, fun a hva => ?_, fun i hi => ?_⟩, fun a => by rw [su1]; exact usnd a, fun a hac hva ha0 halt i v2 k hi he => ?_, fun a ha => ?_, fun u u0 u1 hu => ?_, fun j hj => ?_⟩ (by rw [su1, uev]; exact Int.le_refl _) (fun a => by rw [su1]; exact ule a) (fun a ha => by rw [su1]; exact une a ha) (by unfold mu; rw [su1]; omega)
      · unfold coX at hb
        rw [hM1, up_b' (by omega), up_b' (by omega), up_b' (by omega), up_b' (by omega)]
      · rw [f58]; omega
      · show vcd m n (if j = mn then v else qf j) ∧ M1 87 _ = ((rcd (if j = mn then v else qf j) : Nat) : Int) ∧ M1 88 ((rcd (if j = mn then v else qf j) : Nat) : Int) = 1
        rw [f57, f87, f88]
        by_cases e : j = mn
        · rw [if_pos e, e, if_pos hix.symm, if_pos rfl]
          exact ⟨hv, rfl, rfl⟩
        · have qj := q3 j (by omega)
          rw [if_neg e, if_neg (by omega), if_neg (fun h9 => nin j (by omega) (rcd_inj qj.1 hv hn (by omega)))]
          exact qj
      · have he' : (if j = mn then v else qf j) = (if j2 = mn then v else qf j2) := he
        by_cases e : j = mn
        · rw [if_pos e] at he'
          by_cases e2 : j2 = mn
          · omega
          · rw [if_neg e2] at he'
            exact absurd he'.symm (nin j2 (by omega))
        · rw [if_neg e] at he'
          by_cases e2 : j2 = mn
          · rw [if_pos e2] at he'
            exact absurd he' (nin j (by omega))
          · rw [if_neg e2] at he'
            exact q4 j j2 (by omega) (by omega) he'
      · rw [f88]
        by_cases e : a = v
        · rw [e, if_pos rfl]
          exact Or.inr ⟨rfl, mn, Nat.lt_succ_self mn, if_pos rfl⟩
        · rw [if_neg (fun h9 => e (rcd_inj hva hv hn (by omega)))]
          rcases q5 a hva with h | ⟨h, j, j1, j2⟩
          · exact Or.inl h
          · exact Or.inr ⟨h, j, by omega, by rw [← j2]; exact qo j j1⟩
      · rw [f88, if_neg (hi v hv)]
        exact q6 i hi
      · rw [f88] at ha0
        have hav : a ≠ v := fun e => by rw [e, if_pos rfl] at ha0; exact absurd ha0 (by decide)
        rw [if_neg (fun h9 => hav (rcd_inj hva hv hn (by omega)))] at ha0
        rw [su1, une a hav] at halt
        rw [su1, une a hav]
        have := ule v2
        have := s2 a hac hva ha0 halt i v2 k hi he
        omega
      · rw [su1]
        have := ule a
        have := s3 a ha
        omega
      · rw [f86, up_j (hu v hv)]
        exact s4 u u0 u1 hu
      · rw [su1]
        show updS (snS m n M) v x (if j = mn then v else qf j) < 100000000
        by_cases e : j = mn
        · rw [if_pos e, uev]
          have := sv.2.1
          omega
        · rw [if_neg e]
          have := ule (qf j)
          have := s5 j (by omega)
          omega
end QE
