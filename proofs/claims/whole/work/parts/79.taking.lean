/-! PIECES of what holds, each by the cells that it speaks of -/
section PX
variable {M M2 : Mem} {ex : Nat → Int → Prop}
/-- M2 is M but where ex says -/
def AgX (ex : Nat → Int → Prop) (M M2 : Mem) : Prop := ∀ b j, ¬ ex b j → M2 b j = M b j
theorem AgX.fn (h : AgX ex M M2) {b : Nat} (hb : ∀ j, ¬ ex b j) : M2 b = M b := funext fun j => h b j (hb j)
def suT (b : Nat) (j : Int) : Prop := (b = 1 ∧ j = 1) ∨ b = 2 ∨ (b = 67 ∧ j = 2) ∨ b = 68
def suS (b : Nat) : Prop := b = 69 ∨ b = 7 ∨ b = 37 ∨ b = 17 ∨ b = 26 ∨ b = 89 ∨ b = 70 ∨ b = 71
def suF (b : Nat) (j : Int) : Prop := (b = 1 ∧ j = 9) ∨ (b = 67 ∧ j = 15)
def suN (b : Nat) (j : Int) : Prop := (4 ≤ b ∧ b ≤ 12) ∨ b = 69 ∨ (b = 72 ∧ 0 ≤ j ∧ j < 17)
def suG (b : Nat) : Prop := b = 5 ∨ b = 32 ∨ b = 33
def suK (b : Nat) : Prop := (14 ≤ b ∧ b ≤ 31) ∨ b = 89 ∨ b = 90 ∨ b = 91
def suO (b : Nat) (j : Int) : Prop := b = 45 ∨ b = 76 ∨ (b = 67 ∧ j = 29)
def suP (b : Nat) (j : Int) : Prop := (b = 0 ∧ j = 10) ∨ (b = 67 ∧ j = 36)
def suH (b : Nat) (j : Int) : Prop := (b = 0 ∧ j = 11) ∨ (b = 67 ∧ j = 59)
def suJ (b : Nat) (j : Int) : Prop := b = 46 ∨ b = 48 ∨ b = 80 ∨ b = 81 ∨ (b = 67 ∧ j = 40)
def suC (b : Nat) (j : Int) : Prop := b = 3 ∨ b = 73 ∨ b = 88 ∨ (b = 67 ∧ (j = 21 ∨ j = 31))
theorem xT (h : AgX ex M M2) (hx : ∀ b j, suT b j → ¬ ex b j) (hT : tapeR M M) : tapeR M2 M2 := by
  obtain ⟨h1, h2, h3⟩ := hT
  have e1 := h 1 1 (hx _ _ (by unfold suT; omega))
  have e2 := h 67 2 (hx _ _ (by unfold suT; omega))
  exact ⟨by rw [e1, e2]; exact h1, by rw [e1]; exact h2, fun i => by rw [h 2 i (hx _ _ (by unfold suT; omega)), h 68 i (hx _ _ (by unfold suT; omega))]; exact h3 i⟩
theorem xS (h : AgX ex M M2) (hx : ∀ b j, suS b → ¬ ex b j) (hT : SmR M) : SmR M2 := by
  have f : ∀ b, suS b → M2 b = M b := fun b hb => h.fn (fun j => hx b j hb)
  unfold SmR
  rw [show small M2 69 383 ↔ small M 69 383 by unfold small; rw [f 69 (by unfold suS; omega)], show small M2 7 49 ↔ small M 7 49 by unfold small; rw [f 7 (by unfold suS; omega)], show small M2 37 49 ↔ small M 37 49 by unfold small; rw [f 37 (by unfold suS; omega)], show small M2 17 49 ↔ small M 17 49 by unfold small; rw [f 17 (by unfold suS; omega)], show small M2 26 49 ↔ small M 26 49 by unfold small; rw [f 26 (by unfold suS; omega)], show small M2 89 766 ↔ small M 89 766 by unfold small; rw [f 89 (by unfold suS; omega)], show small M2 70 117 ↔ small M 70 117 by unfold small; rw [f 70 (by unfold suS; omega)], show small M2 71 240 ↔ small M 71 240 by unfold small; rw [f 71 (by unfold suS; omega)]]
  exact hT
theorem xF (h : AgX ex M M2) (hx : ∀ b j, suF b j → ¬ ex b j) (hT : M 1 9 = M 67 15) : M2 1 9 = M2 67 15 := by
  rw [h 1 9 (hx _ _ (by unfold suF; omega)), h 67 15 (hx _ _ (by unfold suF; omega))]
  exact hT
theorem xN (h : AgX ex M M2) (hx : ∀ b j, suN b j → ¬ ex b j) (hT : NowR M) : NowR M2 := by
  have f : ∀ b, (4 ≤ b ∧ b ≤ 12) ∨ b = 69 → M2 b = M b := fun b hb => h.fn (fun j => hx b j (by unfold suN; omega))
  unfold NowR at hT ⊢
  rw [f 4 (by omega), f 5 (by omega), f 6 (by omega), f 7 (by omega), f 8 (by omega), f 9 (by omega), f 10 (by omega), f 11 (by omega), f 12 (by omega), f 69 (by omega)]
  exact ⟨hT.1, hT.2.1, hT.2.2.1, hT.2.2.2.1, hT.2.2.2.2.1, hT.2.2.2.2.2.1, NMf_cg ⟨hT.1.1.2, hT.1.2.2.1.2⟩ (fun j h1 h2 => h 72 j (hx _ _ (by unfold suN; omega))) hT.2.2.2.2.2.2⟩
theorem xG (h : AgX ex M M2) (hx : ∀ b j, suG b → ¬ ex b j) (hT : GridR M) : GridR M2 := by
  have f : ∀ b, suG b → M2 b = M b := fun b hb => h.fn (fun j => hx b j hb)
  unfold GridR at hT ⊢
  rw [f 5 (by unfold suG; omega), f 32 (by unfold suG; omega), f 33 (by unfold suG; omega)]
  exact hT
theorem xK0 (h : AgX ex M M2) (hx : ∀ b j, suK b → ¬ ex b j) (hT : Kept0 M) : Kept0 M2 := by
  have f : ∀ b, suK b → M2 b = M b := fun b hb => h.fn (fun j => hx b j hb)
  unfold Kept0 at hT ⊢
  rw [f 14 (by unfold suK; omega), f 15 (by unfold suK; omega), f 16 (by unfold suK; omega), f 17 (by unfold suK; omega), f 18 (by unfold suK; omega), f 19 (by unfold suK; omega), f 20 (by unfold suK; omega), f 21 (by unfold suK; omega), f 22 (by unfold suK; omega), f 89 (by unfold suK; omega), f 90 (by unfold suK; omega), f 91 (by unfold suK; omega)]
  exact hT
theorem xK1 (h : AgX ex M M2) (hx : ∀ b j, suK b → ¬ ex b j) (hT : Kept1 M) : Kept1 M2 := by
  have f : ∀ b, suK b → M2 b = M b := fun b hb => h.fn (fun j => hx b j hb)
  unfold Kept1 at hT ⊢
  rw [f 23 (by unfold suK; omega), f 24 (by unfold suK; omega), f 25 (by unfold suK; omega), f 26 (by unfold suK; omega), f 27 (by unfold suK; omega), f 28 (by unfold suK; omega), f 29 (by unfold suK; omega), f 30 (by unfold suK; omega), f 31 (by unfold suK; omega), f 89 (by unfold suK; omega), f 90 (by unfold suK; omega), f 91 (by unfold suK; omega)]
  exact hT
theorem xO (h : AgX ex M M2) (hx : ∀ b j, suO b j → ¬ ex b j) (hT : ToldR M) : ToldR M2 := by
  unfold ToldR at hT ⊢
  rw [h.fn (b := 45) (fun j => hx _ _ (by unfold suO; omega)), h.fn (b := 76) (fun j => hx _ _ (by unfold suO; omega)), h 67 29 (hx _ _ (by unfold suO; omega))]
  exact hT
theorem xP (h : AgX ex M M2) (hx : ∀ b j, suP b j → ¬ ex b j) (hT : M 0 10 = M 67 36) : M2 0 10 = M2 67 36 := by
  rw [h 0 10 (hx _ _ (by unfold suP; omega)), h 67 36 (hx _ _ (by unfold suP; omega))]
  exact hT
theorem xH (h : AgX ex M M2) (hx : ∀ b j, suH b j → ¬ ex b j) (hT : M 0 11 = M 67 59) : M2 0 11 = M2 67 59 := by
  rw [h 0 11 (hx _ _ (by unfold suH; omega)), h 67 59 (hx _ _ (by unfold suH; omega))]
  exact hT
theorem xJ (h : AgX ex M M2) (hx : ∀ b j, suJ b j → ¬ ex b j) (hT : JudR M) : JudR M2 := by
  have f : ∀ b, b = 46 ∨ b = 48 ∨ b = 80 ∨ b = 81 → M2 b = M b := fun b hb => h.fn (fun j => hx b j (by unfold suJ; omega))
  unfold JudR tellX at hT ⊢
  rw [f 46 (by omega), f 48 (by omega), f 80 (by omega), f 81 (by omega), h 67 40 (hx _ _ (by unfold suJ; omega))]
  exact hT
theorem xC (h : AgX ex M M2) (hx : ∀ b j, suC b j → ¬ ex b j) (hT : ConR M) : ConR M2 := by
  unfold ConR at hT ⊢
  rw [h.fn (b := 3) (fun j => hx _ _ (by unfold suC; omega)), h.fn (b := 73) (fun j => hx _ _ (by unfold suC; omega)), h.fn (b := 88) (fun j => hx _ _ (by unfold suC; omega)), h 67 21 (hx _ _ (by unfold suC; omega)), h 67 31 (hx _ _ (by unfold suC; omega))]
  exact hT
end PX
theorem Inv.K0 {M : Mem} (h : Inv M) : Kept0 M := h.2.2.2.2.2.1
theorem Inv.K1 {M : Mem} (h : Inv M) : Kept1 M := h.2.2.2.2.2.2.1
theorem Inv.fa {M : Mem} (h : Inv M) : M 1 9 = M 67 15 := h.2.2.1
/-! taking, both sides -/
theorem up_b' {M : Mem} {a b : Nat} {i j x : Int} (h : ¬ (b = a ∧ j = i)) : up M a i x b j = M b j := if_neg h
section TX
variable {d : Nat} {M : Mem} {Q : List AV → Mem → Prop}
theorem x_tk0 (k q n : Int) (hk : I32 k) (hq : I32 q) (hn : M 32 2 = n) (hnb : 0 ≤ n ∧ n ≤ 24) (h : RI M) (hc : ∀ k, 0 ≤ k → k < 24 → -1 ≤ M 11 k ∧ M 11 k ≤ 100) (hf : ¬ ((0 ≤ k ∧ k < n) ∧ M 11 k ≠ -1 ∧ (0 ≤ q ∧ q < M 5 0))) : XC (d + 1) 104 [aR 21 0 0, aI k, aI q] M Q ↔ Q [aI (-1)] M := by
  have p1 : ∀ Q', XC d 2 [aR 10 0 32, aI k] M Q' ↔ Q' [aI (bi (0 ≤ k ∧ k < n))] M := fun Q' => by rw [s_hasCell k hk (by rw [hn]; exact hnb), hn]
  have p2 : ∀ Q', XC d 26 [aR 13 0 5, aI q] M Q' ↔ Q' [aI (bi (0 ≤ q ∧ q < M 5 0))] M := fun Q' => s_hasQuay q hq h
  have e4 : w32 (-1) = -1 := rfl
  have e5 : w32 0 = 0 := rfl
  have e6 : w32 1 = 1 := rfl
  clear h
  rw [e_104, k_104_0]
  by_cases c1 : 0 ≤ k ∧ k < n
  · have h0 : 0 ≤ k := c1.1
    have h1 : k < ((24 : Nat) : Int) := by omega
    have hck := hc k c1.1 (by omega)
    have e7 : w32 (M 11 k) = M 11 k := w_sm (by omega)
    clear hc
    by_cases c2 : M 11 k = -1
    · simp (disch := first | exact nl_i _ | exact nl_r _ | exact Nat.le_of_ble_eq_true rfl | exact Or.inl rfl | exact Or.inr rfl | exact w8_lo _ | exact w8_hi _ | decide | omega) only [v_fall, v_il_0, v_al_0, v_is_0, v_as_0, v_inc_0, v_ll_0, v_ls_0, v_il_1, v_al_1, v_is_1, v_as_1, v_inc_1, v_ll_1, v_ls_1, v_il_2, v_al_2, v_is_2, v_as_2, v_inc_2, v_ll_2, v_ls_2, v_il_3, v_al_3, v_is_3, v_as_3, v_inc_3, v_ll_3, v_ls_3, v_il_4, v_al_4, v_is_4, v_as_4, v_inc_4, v_ll_4, v_ls_4, v_il_5, v_al_5, v_is_5, v_as_5, v_inc_5, v_ll_5, v_ls_5, v_il_6, v_al_6, v_is_6, v_as_6, v_inc_6, v_il_7, v_al_7, v_is_7, v_as_7, v_inc_7, v_il_8, v_al_8, v_is_8, v_as_8, v_inc_8, v_il_9, v_al_9, v_is_9, v_as_9, v_inc_9, v_il_10, v_al_10, v_is_10, v_as_10, v_inc_10, v_il_11, v_al_11, v_is_11, v_as_11, v_inc_11, v_il_12, v_al_12, v_is_12, v_as_12, v_inc_12, v_il_13, v_al_13, v_is_13, v_as_13, v_inc_13, v_c_8, v_c_9, v_c_10, v_c_11, v_c_12, v_c_13, v_c_14, v_b_15, v_b_16, v_b_17, v_b_21, v_b_22, v_b_23, v_b_24, v_b_25, v_b_26, v_b_18, v_b_19, v_b_20, v_b_27, v_b_28, v_b_29, v_b_30, v_b_31, v_dup_i, v_dup_r, v_dup2, v_pop, v_gi, v_gl, v_gr, v_pi, v_pl, v_pz, v_iald, v_lald, v_bald, v_zald, v_aald, v_iast, v_last, v_bast, v_zast, v_alen_0, v_alen_1, v_alen_2, v_alen_3, v_alen_4, v_j_45, v_j_46, v_j_47, v_j_48, v_j_49, v_j_50, v_j_51, v_j_52, v_j_53, v_j_54, v_j_55, v_j_56, v_goto, v_sw, v_ret_i, v_ret_z, v_ret, v_cpy, v_iv_1, v_iv_2, v_iv_3, v_iv_4, v_iv_5, v_iv_6, v_is2_1, v_is2_2, v_is2_3, v_ivJ, List.nil_append, List.cons_append, rf_0_0, rf_0_1, rf_0_2, rf_0_3, rf_0_4, rf_0_5, rf_0_6, rf_0_7, rf_0_8, rf_0_9, rf_1_0, rf_1_2, rf_4_0, rf_4_1, rf_4_2, rf_5_8, rf_5_9, rf_5_10, rf_5_11, rf_5_12, rf_13_0, rf_13_1, rf_14_0, rf_14_1, rf_14_2, rf_15_8, rf_15_9, rf_15_10, rf_15_11, rf_15_12, rf_23_0, rf_23_1, rf_23_2, rf_24_8, rf_24_9, rf_24_10, rf_24_11, rf_24_12, rf_32_6, rf_34_0, rf_34_1, rf_34_2, rf_34_3, rf_35_8, rf_35_9, rf_35_10, rf_35_11, rf_35_12, rf_43_0, rf_43_1, rf_43_2, rf_43_3, rf_45_0, rf_45_1, rf_46_0, rf_46_1, rf_46_2, rf_46_3, rf_46_4, rf_46_5, rf_47_0, rf_47_1, rf_49_0, rf_49_1, rf_49_2, rf_49_3, rf_49_4, rf_49_5, rf_53_0, rf_53_1, rf_53_2, rf_53_3, rf_53_4, rf_53_5, rf_53_6, rf_53_7, rf_53_9, rf_53_10, rf_53_11, rf_53_12, rf_53_13, rf_54_0, rf_54_1, rf_55_1, rf_55_2, rf_55_3, rf_67_1, rf_67_6, rf_67_7, rf_67_8, rf_67_9, rf_67_10, rf_67_22, rf_67_23, rf_67_28, rf_67_30, rf_67_32, rf_67_33, rf_67_38, rf_67_39, rf_67_48, rf_67_49, rf_67_51, rf_67_52, rf_67_53, rf_67_54, rf_67_55, rf_67_60, rf_67_61, rf_67_62, p1, bi_t c1, e4, e5, e6, e7, if_neg (show ¬ (1 : Int) = 0 by omega), if_pos c2, b_104_38, k_104_38]
    · have c3 : ¬ (0 ≤ q ∧ q < M 5 0) := fun h9 => hf ⟨c1, c2, h9⟩
      simp (disch := first | exact nl_i _ | exact nl_r _ | exact Nat.le_of_ble_eq_true rfl | exact Or.inl rfl | exact Or.inr rfl | exact w8_lo _ | exact w8_hi _ | decide | omega) only [v_fall, v_il_0, v_al_0, v_is_0, v_as_0, v_inc_0, v_ll_0, v_ls_0, v_il_1, v_al_1, v_is_1, v_as_1, v_inc_1, v_ll_1, v_ls_1, v_il_2, v_al_2, v_is_2, v_as_2, v_inc_2, v_ll_2, v_ls_2, v_il_3, v_al_3, v_is_3, v_as_3, v_inc_3, v_ll_3, v_ls_3, v_il_4, v_al_4, v_is_4, v_as_4, v_inc_4, v_ll_4, v_ls_4, v_il_5, v_al_5, v_is_5, v_as_5, v_inc_5, v_ll_5, v_ls_5, v_il_6, v_al_6, v_is_6, v_as_6, v_inc_6, v_il_7, v_al_7, v_is_7, v_as_7, v_inc_7, v_il_8, v_al_8, v_is_8, v_as_8, v_inc_8, v_il_9, v_al_9, v_is_9, v_as_9, v_inc_9, v_il_10, v_al_10, v_is_10, v_as_10, v_inc_10, v_il_11, v_al_11, v_is_11, v_as_11, v_inc_11, v_il_12, v_al_12, v_is_12, v_as_12, v_inc_12, v_il_13, v_al_13, v_is_13, v_as_13, v_inc_13, v_c_8, v_c_9, v_c_10, v_c_11, v_c_12, v_c_13, v_c_14, v_b_15, v_b_16, v_b_17, v_b_21, v_b_22, v_b_23, v_b_24, v_b_25, v_b_26, v_b_18, v_b_19, v_b_20, v_b_27, v_b_28, v_b_29, v_b_30, v_b_31, v_dup_i, v_dup_r, v_dup2, v_pop, v_gi, v_gl, v_gr, v_pi, v_pl, v_pz, v_iald, v_lald, v_bald, v_zald, v_aald, v_iast, v_last, v_bast, v_zast, v_alen_0, v_alen_1, v_alen_2, v_alen_3, v_alen_4, v_j_45, v_j_46, v_j_47, v_j_48, v_j_49, v_j_50, v_j_51, v_j_52, v_j_53, v_j_54, v_j_55, v_j_56, v_goto, v_sw, v_ret_i, v_ret_z, v_ret, v_cpy, v_iv_1, v_iv_2, v_iv_3, v_iv_4, v_iv_5, v_iv_6, v_is2_1, v_is2_2, v_is2_3, v_ivJ, List.nil_append, List.cons_append, rf_0_0, rf_0_1, rf_0_2, rf_0_3, rf_0_4, rf_0_5, rf_0_6, rf_0_7, rf_0_8, rf_0_9, rf_1_0, rf_1_2, rf_4_0, rf_4_1, rf_4_2, rf_5_8, rf_5_9, rf_5_10, rf_5_11, rf_5_12, rf_13_0, rf_13_1, rf_14_0, rf_14_1, rf_14_2, rf_15_8, rf_15_9, rf_15_10, rf_15_11, rf_15_12, rf_23_0, rf_23_1, rf_23_2, rf_24_8, rf_24_9, rf_24_10, rf_24_11, rf_24_12, rf_32_6, rf_34_0, rf_34_1, rf_34_2, rf_34_3, rf_35_8, rf_35_9, rf_35_10, rf_35_11, rf_35_12, rf_43_0, rf_43_1, rf_43_2, rf_43_3, rf_45_0, rf_45_1, rf_46_0, rf_46_1, rf_46_2, rf_46_3, rf_46_4, rf_46_5, rf_47_0, rf_47_1, rf_49_0, rf_49_1, rf_49_2, rf_49_3, rf_49_4, rf_49_5, rf_53_0, rf_53_1, rf_53_2, rf_53_3, rf_53_4, rf_53_5, rf_53_6, rf_53_7, rf_53_9, rf_53_10, rf_53_11, rf_53_12, rf_53_13, rf_54_0, rf_54_1, rf_55_1, rf_55_2, rf_55_3, rf_67_1, rf_67_6, rf_67_7, rf_67_8, rf_67_9, rf_67_10, rf_67_22, rf_67_23, rf_67_28, rf_67_30, rf_67_32, rf_67_33, rf_67_38, rf_67_39, rf_67_48, rf_67_49, rf_67_51, rf_67_52, rf_67_53, rf_67_54, rf_67_55, rf_67_60, rf_67_61, rf_67_62, p1, p2, bi_t c1, bi_f c3, e4, e5, e6, e7, if_neg (show ¬ (1 : Int) = 0 by omega), if_neg c2, if_neg (show ¬ (0 : Int) ≠ 0 by omega), b_104_38, k_104_38]
  · clear hc
    simp (disch := first | exact nl_i _ | exact nl_r _ | exact Nat.le_of_ble_eq_true rfl | exact Or.inl rfl | exact Or.inr rfl | exact w8_lo _ | exact w8_hi _ | decide | omega) only [v_fall, v_il_0, v_al_0, v_is_0, v_as_0, v_inc_0, v_ll_0, v_ls_0, v_il_1, v_al_1, v_is_1, v_as_1, v_inc_1, v_ll_1, v_ls_1, v_il_2, v_al_2, v_is_2, v_as_2, v_inc_2, v_ll_2, v_ls_2, v_il_3, v_al_3, v_is_3, v_as_3, v_inc_3, v_ll_3, v_ls_3, v_il_4, v_al_4, v_is_4, v_as_4, v_inc_4, v_ll_4, v_ls_4, v_il_5, v_al_5, v_is_5, v_as_5, v_inc_5, v_ll_5, v_ls_5, v_il_6, v_al_6, v_is_6, v_as_6, v_inc_6, v_il_7, v_al_7, v_is_7, v_as_7, v_inc_7, v_il_8, v_al_8, v_is_8, v_as_8, v_inc_8, v_il_9, v_al_9, v_is_9, v_as_9, v_inc_9, v_il_10, v_al_10, v_is_10, v_as_10, v_inc_10, v_il_11, v_al_11, v_is_11, v_as_11, v_inc_11, v_il_12, v_al_12, v_is_12, v_as_12, v_inc_12, v_il_13, v_al_13, v_is_13, v_as_13, v_inc_13, v_c_8, v_c_9, v_c_10, v_c_11, v_c_12, v_c_13, v_c_14, v_b_15, v_b_16, v_b_17, v_b_21, v_b_22, v_b_23, v_b_24, v_b_25, v_b_26, v_b_18, v_b_19, v_b_20, v_b_27, v_b_28, v_b_29, v_b_30, v_b_31, v_dup_i, v_dup_r, v_dup2, v_pop, v_gi, v_gl, v_gr, v_pi, v_pl, v_pz, v_iald, v_lald, v_bald, v_zald, v_aald, v_iast, v_last, v_bast, v_zast, v_alen_0, v_alen_1, v_alen_2, v_alen_3, v_alen_4, v_j_45, v_j_46, v_j_47, v_j_48, v_j_49, v_j_50, v_j_51, v_j_52, v_j_53, v_j_54, v_j_55, v_j_56, v_goto, v_sw, v_ret_i, v_ret_z, v_ret, v_cpy, v_iv_1, v_iv_2, v_iv_3, v_iv_4, v_iv_5, v_iv_6, v_is2_1, v_is2_2, v_is2_3, v_ivJ, List.nil_append, List.cons_append, rf_0_0, rf_0_1, rf_0_2, rf_0_3, rf_0_4, rf_0_5, rf_0_6, rf_0_7, rf_0_8, rf_0_9, rf_1_0, rf_1_2, rf_4_0, rf_4_1, rf_4_2, rf_5_8, rf_5_9, rf_5_10, rf_5_11, rf_5_12, rf_13_0, rf_13_1, rf_14_0, rf_14_1, rf_14_2, rf_15_8, rf_15_9, rf_15_10, rf_15_11, rf_15_12, rf_23_0, rf_23_1, rf_23_2, rf_24_8, rf_24_9, rf_24_10, rf_24_11, rf_24_12, rf_32_6, rf_34_0, rf_34_1, rf_34_2, rf_34_3, rf_35_8, rf_35_9, rf_35_10, rf_35_11, rf_35_12, rf_43_0, rf_43_1, rf_43_2, rf_43_3, rf_45_0, rf_45_1, rf_46_0, rf_46_1, rf_46_2, rf_46_3, rf_46_4, rf_46_5, rf_47_0, rf_47_1, rf_49_0, rf_49_1, rf_49_2, rf_49_3, rf_49_4, rf_49_5, rf_53_0, rf_53_1, rf_53_2, rf_53_3, rf_53_4, rf_53_5, rf_53_6, rf_53_7, rf_53_9, rf_53_10, rf_53_11, rf_53_12, rf_53_13, rf_54_0, rf_54_1, rf_55_1, rf_55_2, rf_55_3, rf_67_1, rf_67_6, rf_67_7, rf_67_8, rf_67_9, rf_67_10, rf_67_22, rf_67_23, rf_67_28, rf_67_30, rf_67_32, rf_67_33, rf_67_38, rf_67_39, rf_67_48, rf_67_49, rf_67_51, rf_67_52, rf_67_53, rf_67_54, rf_67_55, rf_67_60, rf_67_61, rf_67_62, p1, bi_f c1, e4, e5, e6, if_true, b_104_38, k_104_38]
theorem x_tk1 {w l : Nat} (hG : GS M w l) (k : Nat) (q side : Int) (hk : k < w * l) (hq : I32 q) (h : RI M) (hc : ∀ k, 0 ≤ k → k < 24 → -1 ≤ M 11 k ∧ M 11 k ≤ 100) (hk1 : M 11 (k : Int) ≠ -1) (hq1 : 0 ≤ q ∧ q < M 5 0) (hsd : M 6 (q * 3 + 0) = side) (hs : 1 ≤ side ∧ side ≤ 3) (R : Int × Int × Int × Int × Int) (hR : tkR w (w * l) (setN (w * l) (fun i => decide (M 11 (i : Int) ≠ -1))).testBit k (M 5 5) (M 5 6) (M 5 7) side = R) : XC (d + 5) 104 [aR 21 0 0, aI (k : Int), aI q] M Q ↔ Q [aI R.1] (tkM M 45 R) := by
  have hn := hG.n
  have r0 := h.1
  have p1 : ∀ Q', XC (d + 4) 2 [aR 10 0 32, aI (k : Int)] M Q' ↔ Q' [aI 1] M := fun Q' => by rw [s_hasCell (k : Int) ⟨by omega, by omega⟩ (by rw [hG.2.2.2.2.1]; omega), hG.2.2.2.2.1, bi_t (by omega)]
  have p2 : ∀ Q', XC (d + 4) 26 [aR 13 0 5, aI q] M Q' ↔ Q' [aI 1] M := fun Q' => by rw [s_hasQuay q hq h, bi_t hq1]
  have p3 : ∀ Q', XC (d + 4) 5 [aR 10 0 32, aR 0 24 11] M Q' ↔ Q' [aI ((setN (w * l) (fun i => decide (M 11 (i : Int) ≠ -1)) : Nat) : Int)] M := fun Q' => s_bitsOf _ _ hG.2.2.2.2.1 hG.n hc
  have p4 : ∀ Q', XC (d + 4) 29 [aR 13 0 5, aI q, aI 0] M Q' ↔ Q' [aI side] M := fun Q' => by rw [s_quayPart q 0 (by omega) (by omega), hsd]
  have r5 := h.2.2.2.2.2.1
  have r6 := h.2.2.2.2.2.2.1
  have r7 := h.2.2.2.2.2.2.2.1
  have p5 : ∀ Q', XC (d + 4) 70 [aR 18 0 45, aI ((setN (w * l) (fun i => decide (M 11 (i : Int) ≠ -1)) : Nat) : Int), aI (k : Int), aI side] M Q' ↔ Q' [] (tkM M 45 R) := fun Q' => by rw [s_weigh_45 hG _ k side hs (setN_lt _) hk ⟨by omega, by omega⟩ r6 r7, hR]
  have e4 : w32 (-1) = -1 := rfl
  have e5 : w32 0 = 0 := rfl
  have e6 : w32 1 = 1 := rfl
  have h0 : 0 ≤ (k : Int) := by omega
  have h1 : (k : Int) < ((24 : Nat) : Int) := by omega
  have hck := hc k h0 (by omega)
  have e7 : w32 (M 11 (k : Int)) = M 11 (k : Int) := w_sm (by omega)
  have e8 : tkM M 45 R 45 2 = R.1 := tkM_2
  clear hc h hG hR
  rw [e_104, k_104_0]
  simp (disch := first | exact nl_i _ | exact nl_r _ | exact Nat.le_of_ble_eq_true rfl | exact Or.inl rfl | exact Or.inr rfl | exact w8_lo _ | exact w8_hi _ | decide | omega) only [v_fall, v_il_0, v_al_0, v_is_0, v_as_0, v_inc_0, v_ll_0, v_ls_0, v_il_1, v_al_1, v_is_1, v_as_1, v_inc_1, v_ll_1, v_ls_1, v_il_2, v_al_2, v_is_2, v_as_2, v_inc_2, v_ll_2, v_ls_2, v_il_3, v_al_3, v_is_3, v_as_3, v_inc_3, v_ll_3, v_ls_3, v_il_4, v_al_4, v_is_4, v_as_4, v_inc_4, v_ll_4, v_ls_4, v_il_5, v_al_5, v_is_5, v_as_5, v_inc_5, v_ll_5, v_ls_5, v_il_6, v_al_6, v_is_6, v_as_6, v_inc_6, v_il_7, v_al_7, v_is_7, v_as_7, v_inc_7, v_il_8, v_al_8, v_is_8, v_as_8, v_inc_8, v_il_9, v_al_9, v_is_9, v_as_9, v_inc_9, v_il_10, v_al_10, v_is_10, v_as_10, v_inc_10, v_il_11, v_al_11, v_is_11, v_as_11, v_inc_11, v_il_12, v_al_12, v_is_12, v_as_12, v_inc_12, v_il_13, v_al_13, v_is_13, v_as_13, v_inc_13, v_c_8, v_c_9, v_c_10, v_c_11, v_c_12, v_c_13, v_c_14, v_b_15, v_b_16, v_b_17, v_b_21, v_b_22, v_b_23, v_b_24, v_b_25, v_b_26, v_b_18, v_b_19, v_b_20, v_b_27, v_b_28, v_b_29, v_b_30, v_b_31, v_dup_i, v_dup_r, v_dup2, v_pop, v_gi, v_gl, v_gr, v_pi, v_pl, v_pz, v_iald, v_lald, v_bald, v_zald, v_aald, v_iast, v_last, v_bast, v_zast, v_alen_0, v_alen_1, v_alen_2, v_alen_3, v_alen_4, v_j_45, v_j_46, v_j_47, v_j_48, v_j_49, v_j_50, v_j_51, v_j_52, v_j_53, v_j_54, v_j_55, v_j_56, v_goto, v_sw, v_ret_i, v_ret_z, v_ret, v_cpy, v_iv_1, v_iv_2, v_iv_3, v_iv_4, v_iv_5, v_iv_6, v_is2_1, v_is2_2, v_is2_3, v_ivJ, List.nil_append, List.cons_append, rf_0_0, rf_0_1, rf_0_2, rf_0_3, rf_0_4, rf_0_5, rf_0_6, rf_0_7, rf_0_8, rf_0_9, rf_1_0, rf_1_2, rf_4_0, rf_4_1, rf_4_2, rf_5_8, rf_5_9, rf_5_10, rf_5_11, rf_5_12, rf_13_0, rf_13_1, rf_14_0, rf_14_1, rf_14_2, rf_15_8, rf_15_9, rf_15_10, rf_15_11, rf_15_12, rf_23_0, rf_23_1, rf_23_2, rf_24_8, rf_24_9, rf_24_10, rf_24_11, rf_24_12, rf_32_6, rf_34_0, rf_34_1, rf_34_2, rf_34_3, rf_35_8, rf_35_9, rf_35_10, rf_35_11, rf_35_12, rf_43_0, rf_43_1, rf_43_2, rf_43_3, rf_45_0, rf_45_1, rf_46_0, rf_46_1, rf_46_2, rf_46_3, rf_46_4, rf_46_5, rf_47_0, rf_47_1, rf_49_0, rf_49_1, rf_49_2, rf_49_3, rf_49_4, rf_49_5, rf_53_0, rf_53_1, rf_53_2, rf_53_3, rf_53_4, rf_53_5, rf_53_6, rf_53_7, rf_53_9, rf_53_10, rf_53_11, rf_53_12, rf_53_13, rf_54_0, rf_54_1, rf_55_1, rf_55_2, rf_55_3, rf_67_1, rf_67_6, rf_67_7, rf_67_8, rf_67_9, rf_67_10, rf_67_22, rf_67_23, rf_67_28, rf_67_30, rf_67_32, rf_67_33, rf_67_38, rf_67_39, rf_67_48, rf_67_49, rf_67_51, rf_67_52, rf_67_53, rf_67_54, rf_67_55, rf_67_60, rf_67_61, rf_67_62, p1, p2, p3, p4, p5, e4, e5, e6, e7, e8, if_neg (show ¬ (1 : Int) = 0 by omega), if_neg hk1, if_pos (show (1 : Int) ≠ 0 by omega), b_104_38, k_104_38, b_104_40, k_104_40]
theorem m_tk0 (k q n : Int) (hk : I32 k) (hq : I32 q) (hn : M 69 3 * M 69 4 = n) (hnb : 0 ≤ n ∧ n ≤ 24) (h0 : 0 ≤ M 69 0 ∧ M 69 0 ≤ 8) (hc : ∀ k, 0 ≤ k → k < 24 → 0 ≤ M 69 (359 + k) ∧ M 69 (359 + k) ≤ 100) (hf : ¬ ((0 ≤ k ∧ k < n) ∧ M 69 (359 + k) ≠ 0 ∧ (0 ≤ q ∧ q < M 69 0))) : XC (d + 2) 176 [aR 22 0 67, aI k, aI q] M Q ↔ Q [aI (-1)] (up M 67 0 0) := by
  have p0 : ∀ Q', XC (d + 1) 167 [aR 22 0 67] (up M 67 0 0) Q' ↔ Q' [aI n] (up M 67 0 0) := fun Q' => by rw [s_m_cells, up_b (by decide), up_b (by decide), hn]
  have p1 : ∀ Q', XC (d + 1) 134 [aI k, aI 0, aI (n - 1)] (up M 67 0 0) Q' ↔ Q' [aI (bi (0 ≤ k ∧ k ≤ n - 1))] (up M 67 0 0) := fun Q' => s_isIn k 0 _ hk ⟨by decide, by decide⟩ ⟨by omega, by omega⟩
  have p2 : ∀ Q', XC (d + 1) 157 [aR 22 0 67, aI q] (up M 67 0 0) Q' ↔ Q' [aI (bi (0 ≤ q ∧ q ≤ M 69 0 - 1))] (up M 67 0 0) := fun Q' => by rw [s_m_isQuay q hq (by rw [up_b (by decide)]; exact h0), up_b (by decide)]
  have e5 : w32 0 = 0 := rfl
  have e6 : w32 1 = 1 := rfl
  rw [e_176, k_176_0]
  by_cases c1 : 0 ≤ k ∧ k ≤ n - 1
  · have g0 : 0 ≤ 359 + k := by omega
    have g1 : 359 + k < ((383 : Nat) : Int) := by omega
    have hck := hc k c1.1 (by omega)
    have e7 : w32 (M 69 (359 + k)) = M 69 (359 + k) := w_sm (by omega)
    clear hc
    by_cases c2 : M 69 (359 + k) = 0
    · simp (disch := first | exact nl_i _ | exact nl_r _ | exact Nat.le_of_ble_eq_true rfl | exact Or.inl rfl | exact Or.inr rfl | exact w8_lo _ | exact w8_hi _ | decide | omega) only [v_fall, v_il_0, v_al_0, v_is_0, v_as_0, v_inc_0, v_ll_0, v_ls_0, v_il_1, v_al_1, v_is_1, v_as_1, v_inc_1, v_ll_1, v_ls_1, v_il_2, v_al_2, v_is_2, v_as_2, v_inc_2, v_ll_2, v_ls_2, v_il_3, v_al_3, v_is_3, v_as_3, v_inc_3, v_ll_3, v_ls_3, v_il_4, v_al_4, v_is_4, v_as_4, v_inc_4, v_ll_4, v_ls_4, v_il_5, v_al_5, v_is_5, v_as_5, v_inc_5, v_ll_5, v_ls_5, v_il_6, v_al_6, v_is_6, v_as_6, v_inc_6, v_il_7, v_al_7, v_is_7, v_as_7, v_inc_7, v_il_8, v_al_8, v_is_8, v_as_8, v_inc_8, v_il_9, v_al_9, v_is_9, v_as_9, v_inc_9, v_il_10, v_al_10, v_is_10, v_as_10, v_inc_10, v_il_11, v_al_11, v_is_11, v_as_11, v_inc_11, v_il_12, v_al_12, v_is_12, v_as_12, v_inc_12, v_il_13, v_al_13, v_is_13, v_as_13, v_inc_13, v_c_8, v_c_9, v_c_10, v_c_11, v_c_12, v_c_13, v_c_14, v_b_15, v_b_16, v_b_17, v_b_21, v_b_22, v_b_23, v_b_24, v_b_25, v_b_26, v_b_18, v_b_19, v_b_20, v_b_27, v_b_28, v_b_29, v_b_30, v_b_31, v_dup_i, v_dup_r, v_dup2, v_pop, v_gi, v_gl, v_gr, v_pi, v_pl, v_pz, v_iald, v_lald, v_bald, v_zald, v_aald, v_iast, v_last, v_bast, v_zast, v_alen_0, v_alen_1, v_alen_2, v_alen_3, v_alen_4, v_j_45, v_j_46, v_j_47, v_j_48, v_j_49, v_j_50, v_j_51, v_j_52, v_j_53, v_j_54, v_j_55, v_j_56, v_goto, v_sw, v_ret_i, v_ret_z, v_ret, v_cpy, v_iv_1, v_iv_2, v_iv_3, v_iv_4, v_iv_5, v_iv_6, v_is2_1, v_is2_2, v_is2_3, v_ivJ, List.nil_append, List.cons_append, rf_0_0, rf_0_1, rf_0_2, rf_0_3, rf_0_4, rf_0_5, rf_0_6, rf_0_7, rf_0_8, rf_0_9, rf_1_0, rf_1_2, rf_4_0, rf_4_1, rf_4_2, rf_5_8, rf_5_9, rf_5_10, rf_5_11, rf_5_12, rf_13_0, rf_13_1, rf_14_0, rf_14_1, rf_14_2, rf_15_8, rf_15_9, rf_15_10, rf_15_11, rf_15_12, rf_23_0, rf_23_1, rf_23_2, rf_24_8, rf_24_9, rf_24_10, rf_24_11, rf_24_12, rf_32_6, rf_34_0, rf_34_1, rf_34_2, rf_34_3, rf_35_8, rf_35_9, rf_35_10, rf_35_11, rf_35_12, rf_43_0, rf_43_1, rf_43_2, rf_43_3, rf_45_0, rf_45_1, rf_46_0, rf_46_1, rf_46_2, rf_46_3, rf_46_4, rf_46_5, rf_47_0, rf_47_1, rf_49_0, rf_49_1, rf_49_2, rf_49_3, rf_49_4, rf_49_5, rf_53_0, rf_53_1, rf_53_2, rf_53_3, rf_53_4, rf_53_5, rf_53_6, rf_53_7, rf_53_9, rf_53_10, rf_53_11, rf_53_12, rf_53_13, rf_54_0, rf_54_1, rf_55_1, rf_55_2, rf_55_3, rf_67_1, rf_67_6, rf_67_7, rf_67_8, rf_67_9, rf_67_10, rf_67_22, rf_67_23, rf_67_28, rf_67_30, rf_67_32, rf_67_33, rf_67_38, rf_67_39, rf_67_48, rf_67_49, rf_67_51, rf_67_52, rf_67_53, rf_67_54, rf_67_55, rf_67_60, rf_67_61, rf_67_62, up_s, up_b, up_j, p0, p1, bi_t c1, e5, e6, e7, if_neg (show ¬ (1 : Int) = 0 by omega), if_pos c2, b_176_40, k_176_40]
    · have c3 : ¬ (0 ≤ q ∧ q ≤ M 69 0 - 1) := fun h9 => hf ⟨by omega, c2, by omega⟩
      simp (disch := first | exact nl_i _ | exact nl_r _ | exact Nat.le_of_ble_eq_true rfl | exact Or.inl rfl | exact Or.inr rfl | exact w8_lo _ | exact w8_hi _ | decide | omega) only [v_fall, v_il_0, v_al_0, v_is_0, v_as_0, v_inc_0, v_ll_0, v_ls_0, v_il_1, v_al_1, v_is_1, v_as_1, v_inc_1, v_ll_1, v_ls_1, v_il_2, v_al_2, v_is_2, v_as_2, v_inc_2, v_ll_2, v_ls_2, v_il_3, v_al_3, v_is_3, v_as_3, v_inc_3, v_ll_3, v_ls_3, v_il_4, v_al_4, v_is_4, v_as_4, v_inc_4, v_ll_4, v_ls_4, v_il_5, v_al_5, v_is_5, v_as_5, v_inc_5, v_ll_5, v_ls_5, v_il_6, v_al_6, v_is_6, v_as_6, v_inc_6, v_il_7, v_al_7, v_is_7, v_as_7, v_inc_7, v_il_8, v_al_8, v_is_8, v_as_8, v_inc_8, v_il_9, v_al_9, v_is_9, v_as_9, v_inc_9, v_il_10, v_al_10, v_is_10, v_as_10, v_inc_10, v_il_11, v_al_11, v_is_11, v_as_11, v_inc_11, v_il_12, v_al_12, v_is_12, v_as_12, v_inc_12, v_il_13, v_al_13, v_is_13, v_as_13, v_inc_13, v_c_8, v_c_9, v_c_10, v_c_11, v_c_12, v_c_13, v_c_14, v_b_15, v_b_16, v_b_17, v_b_21, v_b_22, v_b_23, v_b_24, v_b_25, v_b_26, v_b_18, v_b_19, v_b_20, v_b_27, v_b_28, v_b_29, v_b_30, v_b_31, v_dup_i, v_dup_r, v_dup2, v_pop, v_gi, v_gl, v_gr, v_pi, v_pl, v_pz, v_iald, v_lald, v_bald, v_zald, v_aald, v_iast, v_last, v_bast, v_zast, v_alen_0, v_alen_1, v_alen_2, v_alen_3, v_alen_4, v_j_45, v_j_46, v_j_47, v_j_48, v_j_49, v_j_50, v_j_51, v_j_52, v_j_53, v_j_54, v_j_55, v_j_56, v_goto, v_sw, v_ret_i, v_ret_z, v_ret, v_cpy, v_iv_1, v_iv_2, v_iv_3, v_iv_4, v_iv_5, v_iv_6, v_is2_1, v_is2_2, v_is2_3, v_ivJ, List.nil_append, List.cons_append, rf_0_0, rf_0_1, rf_0_2, rf_0_3, rf_0_4, rf_0_5, rf_0_6, rf_0_7, rf_0_8, rf_0_9, rf_1_0, rf_1_2, rf_4_0, rf_4_1, rf_4_2, rf_5_8, rf_5_9, rf_5_10, rf_5_11, rf_5_12, rf_13_0, rf_13_1, rf_14_0, rf_14_1, rf_14_2, rf_15_8, rf_15_9, rf_15_10, rf_15_11, rf_15_12, rf_23_0, rf_23_1, rf_23_2, rf_24_8, rf_24_9, rf_24_10, rf_24_11, rf_24_12, rf_32_6, rf_34_0, rf_34_1, rf_34_2, rf_34_3, rf_35_8, rf_35_9, rf_35_10, rf_35_11, rf_35_12, rf_43_0, rf_43_1, rf_43_2, rf_43_3, rf_45_0, rf_45_1, rf_46_0, rf_46_1, rf_46_2, rf_46_3, rf_46_4, rf_46_5, rf_47_0, rf_47_1, rf_49_0, rf_49_1, rf_49_2, rf_49_3, rf_49_4, rf_49_5, rf_53_0, rf_53_1, rf_53_2, rf_53_3, rf_53_4, rf_53_5, rf_53_6, rf_53_7, rf_53_9, rf_53_10, rf_53_11, rf_53_12, rf_53_13, rf_54_0, rf_54_1, rf_55_1, rf_55_2, rf_55_3, rf_67_1, rf_67_6, rf_67_7, rf_67_8, rf_67_9, rf_67_10, rf_67_22, rf_67_23, rf_67_28, rf_67_30, rf_67_32, rf_67_33, rf_67_38, rf_67_39, rf_67_48, rf_67_49, rf_67_51, rf_67_52, rf_67_53, rf_67_54, rf_67_55, rf_67_60, rf_67_61, rf_67_62, up_s, up_b, up_j, p0, p1, p2, bi_t c1, bi_f c3, e5, e6, e7, if_neg (show ¬ (1 : Int) = 0 by omega), if_neg c2, if_neg (show ¬ (0 : Int) ≠ 0 by omega), b_176_40, k_176_40]
  · clear hc
    simp (disch := first | exact nl_i _ | exact nl_r _ | exact Nat.le_of_ble_eq_true rfl | exact Or.inl rfl | exact Or.inr rfl | exact w8_lo _ | exact w8_hi _ | decide | omega) only [v_fall, v_il_0, v_al_0, v_is_0, v_as_0, v_inc_0, v_ll_0, v_ls_0, v_il_1, v_al_1, v_is_1, v_as_1, v_inc_1, v_ll_1, v_ls_1, v_il_2, v_al_2, v_is_2, v_as_2, v_inc_2, v_ll_2, v_ls_2, v_il_3, v_al_3, v_is_3, v_as_3, v_inc_3, v_ll_3, v_ls_3, v_il_4, v_al_4, v_is_4, v_as_4, v_inc_4, v_ll_4, v_ls_4, v_il_5, v_al_5, v_is_5, v_as_5, v_inc_5, v_ll_5, v_ls_5, v_il_6, v_al_6, v_is_6, v_as_6, v_inc_6, v_il_7, v_al_7, v_is_7, v_as_7, v_inc_7, v_il_8, v_al_8, v_is_8, v_as_8, v_inc_8, v_il_9, v_al_9, v_is_9, v_as_9, v_inc_9, v_il_10, v_al_10, v_is_10, v_as_10, v_inc_10, v_il_11, v_al_11, v_is_11, v_as_11, v_inc_11, v_il_12, v_al_12, v_is_12, v_as_12, v_inc_12, v_il_13, v_al_13, v_is_13, v_as_13, v_inc_13, v_c_8, v_c_9, v_c_10, v_c_11, v_c_12, v_c_13, v_c_14, v_b_15, v_b_16, v_b_17, v_b_21, v_b_22, v_b_23, v_b_24, v_b_25, v_b_26, v_b_18, v_b_19, v_b_20, v_b_27, v_b_28, v_b_29, v_b_30, v_b_31, v_dup_i, v_dup_r, v_dup2, v_pop, v_gi, v_gl, v_gr, v_pi, v_pl, v_pz, v_iald, v_lald, v_bald, v_zald, v_aald, v_iast, v_last, v_bast, v_zast, v_alen_0, v_alen_1, v_alen_2, v_alen_3, v_alen_4, v_j_45, v_j_46, v_j_47, v_j_48, v_j_49, v_j_50, v_j_51, v_j_52, v_j_53, v_j_54, v_j_55, v_j_56, v_goto, v_sw, v_ret_i, v_ret_z, v_ret, v_cpy, v_iv_1, v_iv_2, v_iv_3, v_iv_4, v_iv_5, v_iv_6, v_is2_1, v_is2_2, v_is2_3, v_ivJ, List.nil_append, List.cons_append, rf_0_0, rf_0_1, rf_0_2, rf_0_3, rf_0_4, rf_0_5, rf_0_6, rf_0_7, rf_0_8, rf_0_9, rf_1_0, rf_1_2, rf_4_0, rf_4_1, rf_4_2, rf_5_8, rf_5_9, rf_5_10, rf_5_11, rf_5_12, rf_13_0, rf_13_1, rf_14_0, rf_14_1, rf_14_2, rf_15_8, rf_15_9, rf_15_10, rf_15_11, rf_15_12, rf_23_0, rf_23_1, rf_23_2, rf_24_8, rf_24_9, rf_24_10, rf_24_11, rf_24_12, rf_32_6, rf_34_0, rf_34_1, rf_34_2, rf_34_3, rf_35_8, rf_35_9, rf_35_10, rf_35_11, rf_35_12, rf_43_0, rf_43_1, rf_43_2, rf_43_3, rf_45_0, rf_45_1, rf_46_0, rf_46_1, rf_46_2, rf_46_3, rf_46_4, rf_46_5, rf_47_0, rf_47_1, rf_49_0, rf_49_1, rf_49_2, rf_49_3, rf_49_4, rf_49_5, rf_53_0, rf_53_1, rf_53_2, rf_53_3, rf_53_4, rf_53_5, rf_53_6, rf_53_7, rf_53_9, rf_53_10, rf_53_11, rf_53_12, rf_53_13, rf_54_0, rf_54_1, rf_55_1, rf_55_2, rf_55_3, rf_67_1, rf_67_6, rf_67_7, rf_67_8, rf_67_9, rf_67_10, rf_67_22, rf_67_23, rf_67_28, rf_67_30, rf_67_32, rf_67_33, rf_67_38, rf_67_39, rf_67_48, rf_67_49, rf_67_51, rf_67_52, rf_67_53, rf_67_54, rf_67_55, rf_67_60, rf_67_61, rf_67_62, p0, p1, bi_f c1, e5, e6, if_true, b_176_40, k_176_40]
theorem m_tk1 {w l : Nat} (hG : GM M w l) (k : Nat) (q side : Int) (hk : k < w * l) (hq : I32 q) (h0 : 0 ≤ M 69 0 ∧ M 69 0 ≤ 8) (hc : ∀ k, 0 ≤ k → k < 24 → 0 ≤ M 69 (359 + k) ∧ M 69 (359 + k) ≤ 100) (hk1 : M 69 (359 + (k : Int)) ≠ 0) (hq1 : 0 ≤ q ∧ q < M 69 0) (hsd : M 69 (8 + 3 * q) = side) (hs : 1 ≤ side ∧ side ≤ 3) (h5 : 0 ≤ M 69 5 ∧ M 69 5 ≤ 60) (h6 : 0 ≤ M 69 6 ∧ M 69 6 ≤ 60) (h7 : 0 ≤ M 69 7 ∧ M 69 7 ≤ 60) (R : Int × Int × Int × Int × Int) (hR : tkR w (w * l) (gP (rftM M) (w * l)) k (M 69 5) (M 69 6) (M 69 7) side = R) (kk : ∀ M2, TB (rftM (up M 67 0 0)) M2 → Q [aI R.1] (up (up (up (up (up M2 76 0 R.2.1) 76 1 R.2.2.1) 76 2 R.2.2.2.1) 76 3 R.2.2.2.2) 67 29 1)) : XC (d + 4) 176 [aR 22 0 67, aI (k : Int), aI q] M Q := by
  have hn := hG.n
  have cc : M 69 3 * M 69 4 = ((w * l : Nat) : Int) := by rw [hG.2.2.1, hG.2.2.2, Int.natCast_mul]
  have p0 : ∀ Q', XC (d + 3) 167 [aR 22 0 67] (up M 67 0 0) Q' ↔ Q' [aI ((w * l : Nat) : Int)] (up M 67 0 0) := fun Q' => by rw [s_m_cells, up_b (by decide), up_b (by decide), cc]
  have p1 : ∀ Q', XC (d + 3) 134 [aI (k : Int), aI 0, aI (((w * l : Nat) : Int) - 1)] (up M 67 0 0) Q' ↔ Q' [aI 1] (up M 67 0 0) := fun Q' => by rw [s_isIn (k : Int) 0 _ ⟨by omega, by omega⟩ ⟨by decide, by decide⟩ ⟨by omega, by omega⟩, bi_t (by omega)]
  have p2 : ∀ Q', XC (d + 3) 157 [aR 22 0 67, aI q] (up M 67 0 0) Q' ↔ Q' [aI 1] (up M 67 0 0) := fun Q' => by rw [s_m_isQuay q hq (by rw [up_b (by decide)]; exact h0), up_b (by decide), bi_t (by omega)]
  have p3 : ∀ Q', XC (d + 3) 168 [aR 22 0 67] (up M 67 0 0) Q' ↔ Q' [] (rftM (up M 67 0 0)) := fun Q' => s_m_raft
  have e5 : w32 0 = 0 := rfl
  have e6 : w32 1 = 1 := rfl
  have g0 : 0 ≤ 359 + (k : Int) := by omega
  have g1 : 359 + (k : Int) < ((383 : Nat) : Int) := by omega
  have g2 : 0 ≤ 8 + 3 * q := by omega
  have g3 : 8 + 3 * q < ((383 : Nat) : Int) := by omega
  have hck := hc k (by omega) (by omega)
  have e7 : w32 (M 69 (359 + (k : Int))) = M 69 (359 + (k : Int)) := w_sm (by omega)
  have R69 : ∀ j, rftM (up M 67 0 0) 69 j = M 69 j := fun j => by rw [rftM_o (by decide), up_b (by decide)]
  have hGr : GM (rftM (up M 67 0 0)) w l := hG.cg (R69 3) (R69 4)
  have hgr : gB (rftM (up M 67 0 0)) := fun j j0 j1 => by rw [rftM_g j0 j1, up_b (by decide)]; exact hc j j0 j1
  have hPr : gP (rftM (up M 67 0 0)) (w * l) = gP (rftM M) (w * l) := by rw [gP_rft hn, gP_rft hn, up_r (by decide)]
  have e8 : rftM (up M 67 0 0) 69 (8 + 3 * q) = side := (R69 _).trans hsd
  have T : XC (d + 3) 175 [aR 22 0 67, aI (k : Int), aI side] (rftM (up M 67 0 0)) (fun r M2 => ∃ x, r = [aI x] ∧ Q [aI x] (up (up (up (up (up M2 76 0 (M2 67 27)) 76 1 (M2 67 24)) 76 2 (M2 67 25)) 76 3 (M2 67 26)) 67 29 1)) := by
    refine s_m_take hGr hgr k side R (by rw [R69]; exact h5) (by rw [R69]; exact h6) (by rw [R69]; exact h7) (by rw [R69, R69, R69, hPr]; exact hR.symm) hk hs (fun M2 a1 a2 a3 a4 a5 => ?_)
    refine ⟨R.1, rfl, ?_⟩
    rw [a2, a3, a4, a5]
    exact kk M2 a1
  clear kk hc hgr hGr hPr hG hR
  rw [e_176, k_176_0]
  simp (disch := first | exact nl_i _ | exact nl_r _ | exact Nat.le_of_ble_eq_true rfl | exact Or.inl rfl | exact Or.inr rfl | exact w8_lo _ | exact w8_hi _ | decide | omega) only [v_fall, v_il_0, v_al_0, v_is_0, v_as_0, v_inc_0, v_ll_0, v_ls_0, v_il_1, v_al_1, v_is_1, v_as_1, v_inc_1, v_ll_1, v_ls_1, v_il_2, v_al_2, v_is_2, v_as_2, v_inc_2, v_ll_2, v_ls_2, v_il_3, v_al_3, v_is_3, v_as_3, v_inc_3, v_ll_3, v_ls_3, v_il_4, v_al_4, v_is_4, v_as_4, v_inc_4, v_ll_4, v_ls_4, v_il_5, v_al_5, v_is_5, v_as_5, v_inc_5, v_ll_5, v_ls_5, v_il_6, v_al_6, v_is_6, v_as_6, v_inc_6, v_il_7, v_al_7, v_is_7, v_as_7, v_inc_7, v_il_8, v_al_8, v_is_8, v_as_8, v_inc_8, v_il_9, v_al_9, v_is_9, v_as_9, v_inc_9, v_il_10, v_al_10, v_is_10, v_as_10, v_inc_10, v_il_11, v_al_11, v_is_11, v_as_11, v_inc_11, v_il_12, v_al_12, v_is_12, v_as_12, v_inc_12, v_il_13, v_al_13, v_is_13, v_as_13, v_inc_13, v_c_8, v_c_9, v_c_10, v_c_11, v_c_12, v_c_13, v_c_14, v_b_15, v_b_16, v_b_17, v_b_21, v_b_22, v_b_23, v_b_24, v_b_25, v_b_26, v_b_18, v_b_19, v_b_20, v_b_27, v_b_28, v_b_29, v_b_30, v_b_31, v_dup_i, v_dup_r, v_dup2, v_pop, v_gi, v_gl, v_gr, v_pi, v_pl, v_pz, v_iald, v_lald, v_bald, v_zald, v_aald, v_iast, v_last, v_bast, v_zast, v_alen_0, v_alen_1, v_alen_2, v_alen_3, v_alen_4, v_j_45, v_j_46, v_j_47, v_j_48, v_j_49, v_j_50, v_j_51, v_j_52, v_j_53, v_j_54, v_j_55, v_j_56, v_goto, v_sw, v_ret_i, v_ret_z, v_ret, v_cpy, v_iv_1, v_iv_2, v_iv_3, v_iv_4, v_iv_5, v_iv_6, v_is2_1, v_is2_2, v_is2_3, v_ivJ, List.nil_append, List.cons_append, rf_0_0, rf_0_1, rf_0_2, rf_0_3, rf_0_4, rf_0_5, rf_0_6, rf_0_7, rf_0_8, rf_0_9, rf_1_0, rf_1_2, rf_4_0, rf_4_1, rf_4_2, rf_5_8, rf_5_9, rf_5_10, rf_5_11, rf_5_12, rf_13_0, rf_13_1, rf_14_0, rf_14_1, rf_14_2, rf_15_8, rf_15_9, rf_15_10, rf_15_11, rf_15_12, rf_23_0, rf_23_1, rf_23_2, rf_24_8, rf_24_9, rf_24_10, rf_24_11, rf_24_12, rf_32_6, rf_34_0, rf_34_1, rf_34_2, rf_34_3, rf_35_8, rf_35_9, rf_35_10, rf_35_11, rf_35_12, rf_43_0, rf_43_1, rf_43_2, rf_43_3, rf_45_0, rf_45_1, rf_46_0, rf_46_1, rf_46_2, rf_46_3, rf_46_4, rf_46_5, rf_47_0, rf_47_1, rf_49_0, rf_49_1, rf_49_2, rf_49_3, rf_49_4, rf_49_5, rf_53_0, rf_53_1, rf_53_2, rf_53_3, rf_53_4, rf_53_5, rf_53_6, rf_53_7, rf_53_9, rf_53_10, rf_53_11, rf_53_12, rf_53_13, rf_54_0, rf_54_1, rf_55_1, rf_55_2, rf_55_3, rf_67_1, rf_67_6, rf_67_7, rf_67_8, rf_67_9, rf_67_10, rf_67_22, rf_67_23, rf_67_28, rf_67_30, rf_67_32, rf_67_33, rf_67_38, rf_67_39, rf_67_48, rf_67_49, rf_67_51, rf_67_52, rf_67_53, rf_67_54, rf_67_55, rf_67_60, rf_67_61, rf_67_62, up_s, up_b, up_j, p0, p1, p2, p3, e5, e6, e7, e8, if_neg (show ¬ (1 : Int) = 0 by omega), if_neg hk1, if_pos (show (1 : Int) ≠ 0 by omega), b_176_40, k_176_40, b_176_42, k_176_42]
  refine XC.mono T (fun r M2 h9 => ?_)
  obtain ⟨x, rfl, h10⟩ := h9
  simp (disch := first | exact nl_i _ | exact nl_r _ | exact Nat.le_of_ble_eq_true rfl | exact Or.inl rfl | exact Or.inr rfl | exact w8_lo _ | exact w8_hi _ | decide | omega) only [v_fall, v_il_0, v_al_0, v_is_0, v_as_0, v_inc_0, v_ll_0, v_ls_0, v_il_1, v_al_1, v_is_1, v_as_1, v_inc_1, v_ll_1, v_ls_1, v_il_2, v_al_2, v_is_2, v_as_2, v_inc_2, v_ll_2, v_ls_2, v_il_3, v_al_3, v_is_3, v_as_3, v_inc_3, v_ll_3, v_ls_3, v_il_4, v_al_4, v_is_4, v_as_4, v_inc_4, v_ll_4, v_ls_4, v_il_5, v_al_5, v_is_5, v_as_5, v_inc_5, v_ll_5, v_ls_5, v_il_6, v_al_6, v_is_6, v_as_6, v_inc_6, v_il_7, v_al_7, v_is_7, v_as_7, v_inc_7, v_il_8, v_al_8, v_is_8, v_as_8, v_inc_8, v_il_9, v_al_9, v_is_9, v_as_9, v_inc_9, v_il_10, v_al_10, v_is_10, v_as_10, v_inc_10, v_il_11, v_al_11, v_is_11, v_as_11, v_inc_11, v_il_12, v_al_12, v_is_12, v_as_12, v_inc_12, v_il_13, v_al_13, v_is_13, v_as_13, v_inc_13, v_c_8, v_c_9, v_c_10, v_c_11, v_c_12, v_c_13, v_c_14, v_b_15, v_b_16, v_b_17, v_b_21, v_b_22, v_b_23, v_b_24, v_b_25, v_b_26, v_b_18, v_b_19, v_b_20, v_b_27, v_b_28, v_b_29, v_b_30, v_b_31, v_dup_i, v_dup_r, v_dup2, v_pop, v_gi, v_gl, v_gr, v_pi, v_pl, v_pz, v_iald, v_lald, v_bald, v_zald, v_aald, v_iast, v_last, v_bast, v_zast, v_alen_0, v_alen_1, v_alen_2, v_alen_3, v_alen_4, v_j_45, v_j_46, v_j_47, v_j_48, v_j_49, v_j_50, v_j_51, v_j_52, v_j_53, v_j_54, v_j_55, v_j_56, v_goto, v_sw, v_ret_i, v_ret_z, v_ret, v_cpy, v_iv_1, v_iv_2, v_iv_3, v_iv_4, v_iv_5, v_iv_6, v_is2_1, v_is2_2, v_is2_3, v_ivJ, List.nil_append, List.cons_append, rf_0_0, rf_0_1, rf_0_2, rf_0_3, rf_0_4, rf_0_5, rf_0_6, rf_0_7, rf_0_8, rf_0_9, rf_1_0, rf_1_2, rf_4_0, rf_4_1, rf_4_2, rf_5_8, rf_5_9, rf_5_10, rf_5_11, rf_5_12, rf_13_0, rf_13_1, rf_14_0, rf_14_1, rf_14_2, rf_15_8, rf_15_9, rf_15_10, rf_15_11, rf_15_12, rf_23_0, rf_23_1, rf_23_2, rf_24_8, rf_24_9, rf_24_10, rf_24_11, rf_24_12, rf_32_6, rf_34_0, rf_34_1, rf_34_2, rf_34_3, rf_35_8, rf_35_9, rf_35_10, rf_35_11, rf_35_12, rf_43_0, rf_43_1, rf_43_2, rf_43_3, rf_45_0, rf_45_1, rf_46_0, rf_46_1, rf_46_2, rf_46_3, rf_46_4, rf_46_5, rf_47_0, rf_47_1, rf_49_0, rf_49_1, rf_49_2, rf_49_3, rf_49_4, rf_49_5, rf_53_0, rf_53_1, rf_53_2, rf_53_3, rf_53_4, rf_53_5, rf_53_6, rf_53_7, rf_53_9, rf_53_10, rf_53_11, rf_53_12, rf_53_13, rf_54_0, rf_54_1, rf_55_1, rf_55_2, rf_55_3, rf_67_1, rf_67_6, rf_67_7, rf_67_8, rf_67_9, rf_67_10, rf_67_22, rf_67_23, rf_67_28, rf_67_30, rf_67_32, rf_67_33, rf_67_38, rf_67_39, rf_67_48, rf_67_49, rf_67_51, rf_67_52, rf_67_53, rf_67_54, rf_67_55, rf_67_60, rf_67_61, rf_67_62, up_s, up_b, up_j]
  exact h10
end TX
theorem iv_10 {M : Mem} {a : Nat → Int} (ha : ∀ j, I32 (a j)) (hI : Inv M) : Step2 104 176 [aI (a 1), aI (a 2)] M Inv := by
  unfold Step2
  obtain ⟨w, l, hG, hM, r3, r4⟩ := hI.gs
  have hn := hG.n
  have rb := hI.RI.2.2.1
  have r0 := hI.RI.1
  have hF := hI.F
  have v0 := hI.V.1.1
  have v5 := hI.V.1.2.2.2.2.2.1
  have v6 := hI.V.1.2.2.2.2.2.2.1
  have v7 := hI.V.1.2.2.2.2.2.2.2
  have r5 := hI.RI.2.2.2.2.2.1
  have r6 := hI.RI.2.2.2.2.2.2.1
  have r7 := hI.RI.2.2.2.2.2.2.2.1
  have hc := hF.b (by omega)
  have hcm : ∀ k, 0 ≤ k → k < 24 → 0 ≤ M 69 (359 + k) ∧ M 69 (359 + k) ≤ 100 := fun k k0 k1 => by
    have := hF k k0 k1
    omega
  have cc : M 69 3 * M 69 4 = ((w * l : Nat) : Int) := by rw [hM.2.2.1, hM.2.2.2, Int.natCast_mul]
  by_cases hf : (0 ≤ a 1 ∧ a 1 < ((w * l : Nat) : Int)) ∧ M 11 (a 1) ≠ -1 ∧ (0 ≤ a 2 ∧ a 2 < M 5 0)
  · obtain ⟨k, hk⟩ : ∃ k : Nat, a 1 = (k : Int) := ⟨(a 1).toNat, by omega⟩
    obtain ⟨⟨h1, h2⟩, h3, h4⟩ := hf
    rw [hk] at h1 h2 h3 ⊢
    have hk2 : k < w * l := by omega
    obtain ⟨side, hsd⟩ : ∃ s, M 6 (a 2 * 3 + 0) = s := ⟨_, rfl⟩
    have hsd2 : M 6 (3 * a 2) = side := by rw [← hsd]; congr 1; omega
    have hs : 1 ≤ side ∧ side ≤ 3 := by
      rw [← hsd2]
      exact (hI.RI.2.2.2.2.2.2.2.2.1 (a 2) h4.1 h4.2).1
    have hsm : M 69 (8 + 3 * a 2) = side := (hI.V.2.1 (3 * a 2) (by omega) (by omega)).trans hsd2
    obtain ⟨R, hR⟩ : ∃ R, tkR w (w * l) (setN (w * l) (fun i => decide (M 11 (i : Int) ≠ -1))).testBit k (M 5 5) (M 5 6) (M 5 7) side = R := ⟨_, rfl⟩
    rw [x_tk1 (d := 10) hG k (a 2) side hk2 (ha 2) hI.RI hc h3 h4 hsd hs R hR]
    have c69 : tkM M 45 R 69 = M 69 := tkM_r (by decide)
    have hfk := hF k (by omega) (by omega)
    refine m_tk1 (d := 11) (hM.cg (by rw [c69]) (by rw [c69])) k (a 2) side hk2 (ha 2) (by rw [c69, v0]; exact r0) (by rw [c69]; exact hcm) (by rw [c69]; omega) (by rw [c69, v0]; exact h4) (by rw [c69]; exact hsm) hs (by rw [c69, v5]; omega) (by rw [c69, v6]; exact r6) (by rw [c69, v7]; exact r7) R ?_ (fun M2 hT => ?_)
    · rw [gP_rft hn, c69, v5, v6, v7, ← hR, raft_eq hF hn]
    · refine ⟨eqr_i rfl, ?_⟩
      have A : AgX (fun b j => b = 45 ∨ b = 74 ∨ b = 75 ∨ b = 76 ∨ (b = 67 ∧ (j = 0 ∨ (24 ≤ j ∧ j ≤ 27) ∨ j = 29))) M (up (up (up (up (up M2 76 0 R.2.1) 76 1 R.2.2.1) 76 2 R.2.2.2.1) 76 3 R.2.2.2.2) 67 29 1) := fun b j hx => by
        unfold up
        rw [if_neg (by omega), if_neg (by omega), if_neg (by omega), if_neg (by omega), if_neg (by omega), hT b j (by omega) (by omega), rftM_o (by omega), up_b' (by omega), tkM_b (by omega)]
      refine ⟨xT A (by unfold suT; omega) hI.1, xS A (by unfold suS; omega) hI.S, xF A (by unfold suF; omega) hI.fa, xN A (by unfold suN; omega) hI.N, xG A (by unfold suG; omega) hI.G, xK0 A (by unfold suK; omega) hI.K0, xK1 A (by unfold suK; omega) hI.K1, Or.inr ?_, xP A (by unfold suP; omega) hI.pas, xH A (by unfold suH; omega) hI.hir, xJ A (by unfold suJ; omega) hI.jud, xC A (by unfold suC; omega) hI.con⟩
      have B : ∀ j, up (up (up (up (up M2 76 0 R.2.1) 76 1 R.2.2.1) 76 2 R.2.2.2.1) 76 3 R.2.2.2.2) 67 29 1 45 j = tkM M 45 R 45 j := fun j => by
        rw [up_b (by decide), up_b (by decide), up_b (by decide), up_b (by decide), up_b (by decide), hT 45 j (by decide) (by omega), rftM_o (by decide), up_b (by decide)]
      rw [B, B, B, B, tkM_3, tkM_4, tkM_5, tkM_6]
      refine ⟨up_s, ?_, ?_, ?_, ?_⟩
      · rw [up_b (by decide), up_j (by decide), up_j (by decide), up_j (by decide), up_s]
      · rw [up_b (by decide), up_j (by decide), up_j (by decide), up_s]
      · rw [up_b (by decide), up_j (by decide), up_s]
      · rw [up_b (by decide), up_s]
  · rw [x_tk0 (d := 14) (a 1) (a 2) ((w * l : Nat) : Int) (ha 1) (ha 2) hG.2.2.2.2.1 ⟨by omega, by omega⟩ hI.RI hc hf, m_tk0 (d := 13) (a 1) (a 2) ((w * l : Nat) : Int) (ha 1) (ha 2) cc ⟨by omega, by omega⟩ (by rw [v0]; exact r0) hcm (fun h9 => hf ⟨h9.1, fun h10 => ?_, by rw [← v0]; exact h9.2.2⟩)]
    · exact ⟨eqr_i rfl, hI.thr⟩
    · have := (hF (a 1) h9.1.1 (by omega)).1
      exact h9.2.1 (by omega)
