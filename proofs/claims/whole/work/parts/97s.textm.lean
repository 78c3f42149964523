/-! TEXTS on the reference's side: the state -/
def tmX (b : Nat) (j : Int) : Prop := (b = 67 ∧ (j = 4 ∨ (11 ≤ j ∧ j ≤ 18) ∨ j = 20)) ∨ b = 70 ∨ b = 71 ∨ (b = 72 ∧ 17 ≤ j)
def tmG (b : Nat) (j : Int) : Prop := (b = 67 ∧ (j = 4 ∨ (11 ≤ j ∧ j ≤ 14) ∨ j = 17 ∨ j = 18 ∨ j = 20)) ∨ b = 70 ∨ b = 71 ∨ (b = 72 ∧ 17 ≤ j)
theorem tmG_X {b : Nat} {j : Int} (h : tmG b j) : tmX b j := by
  unfold tmG at h
  unfold tmX
  omega
def hadM (s : Nat) : Nat := 8 * (s % 2) + 32 * (s / 2)
def RB (M0 : Mem) (k : Int) (p : Nat) (M : Mem) : Prop := AgX tmX M0 M ∧ (small M 70 117 ∧ small M 71 240) ∧ M 67 15 = k ∧ M 67 16 = (p : Int)
def RDm (M : Mem) (d : PD) (nq nl nb : Int) (nn nm : Nat) : Prop := (∀ k, 0 ≤ k → k ≤ 7 → M 70 k = dR d k) ∧ (∀ i, 0 ≤ i → i < nq → M 70 (8 + i) = dQ d i) ∧ (∀ i, 0 ≤ i → i < nl → M 70 (32 + i) = dL d i) ∧ (∀ i, 0 ≤ i → i < nb → M 70 (81 + i) = dB d i) ∧ (∀ i : Nat, i < nn → M 72 (17 + (i : Int)) = nm256 (dN d i)) ∧ (∀ i : Nat, i < nm → M 72 (25 + (i : Int)) = nm256 (dM d i)) ∧ (dS d < 16 → M 67 20 = ((hadM (dS d) : Nat) : Int)) ∧ (nq ≤ 24 ∧ nl ≤ 49 ∧ nb ≤ 36 ∧ nn ≤ 8 ∧ nm ≤ 9)
def RG (T : Int → Int) (len lim most : Nat) (M0 M : Mem) (t : Tok) (d : PD) (nq nl nb : Int) (nn nm : Nat) : Prop := lim = min len most ∧ RTx M T len most ∧ RTk M len most t ∧ TF T len lim 0 t ∧ AgX tmG M0 M ∧ (small M 70 117 ∧ small M 71 240) ∧ M 73 = ML0 73 ∧ RDm M d nq nl nb nn nm
def prm : List Nat := [0, 10, 1, 11, 2, 12, 3, 4, 5, 6, 7, 8, 9, 13, 14, 15, 16]
theorem rsv_m : ∀ k : Nat, k < 17 → ML0 73 (k : Int) = nm256 (rsvF (prm.getD k 0)) ∧ prm.getD k 0 < 17 := by decide +kernel
theorem prm_s : ∀ i : Nat, i < 17 → ∃ k : Nat, k < 17 ∧ prm.getD k 0 = i := by decide +kernel
theorem rsv_i : ∀ i : Nat, i < 17 → ∀ j : Nat, j < 17 → rsvF i = rsvF j → i = j := by decide +kernel
theorem nm256_63 {w : List Nat} (h : vld w) : 0 ≤ nm256 w ∧ nm256 w < 281474976710656 := by
  have h1 := (nm_b w h.2).2
  have h2 : 256 ^ w.length ≤ 256 ^ 6 := Nat.pow_le_pow_right (by decide) h.1
  have h3 : (256 : Nat) ^ 6 = 281474976710656 := by decide
  omega
theorem w64_nm {w : List Nat} (h : vld w) : w64 (nm256 w) = nm256 w := by
  have := nm256_63 h
  exact w64_of (by omega) (by omega)
theorem cmp_eq (x : Int) : cmp64 x x = 0 := by
  unfold cmp64
  rw [if_neg (Int.lt_irrefl _), if_pos rfl]
theorem cmp_ne {x y : Int} (hx : w64 x = x) (hy : w64 y = y) (h : ¬ x = y) : (-1 ≤ cmp64 x y ∧ cmp64 x y ≤ 1) ∧ ¬ cmp64 x y = 0 := by
  unfold cmp64
  rw [hx, hy]
  by_cases c : x < y
  · rw [if_pos c]; decide
  · rw [if_neg c, if_neg h]; decide
theorem vld_r {i : Nat} (h : i < 17) : vld (rsvF i) := rsv_ok i h
section XM
variable {d : Nat} {M M0 : Mem} {Q : List AV → Mem → Prop} {T : Int → Int} {len lim most : Nat} {t : Tok} {D : PD} {nq nl nb : Int} {nn nm : Nat}
/-- the letters of a word -/
theorem TOK.wd {p : Nat} (h : TOK len lim p t) (c : tK t = 1 ∨ tK t = 2) : vld (tL t) := by
  rcases c with c | c
  · obtain ⟨a1, a2, a3, a4⟩ := h.2.2.1 c
    rw [← a3]
    exact vld_r (by omega)
  · exact h.vl c
theorem s_bad (k : Int) : XC d 141 [aR 22 0 67, aI k] M Q ↔ Q [aI 0] (up (up M 67 15 k) 67 16 (M 67 12)) := by
  rw [e_141, k_141_0]
  simp (disch := first | exact nl_i _ | exact nl_r _ | exact Nat.le_of_ble_eq_true rfl | exact Or.inl rfl | exact Or.inr rfl | exact w8_lo _ | exact w8_hi _ | decide | omega) only [v_fall, v_il_0, v_al_0, v_is_0, v_as_0, v_inc_0, v_ll_0, v_ls_0, v_il_1, v_al_1, v_is_1, v_as_1, v_inc_1, v_ll_1, v_ls_1, v_il_2, v_al_2, v_is_2, v_as_2, v_inc_2, v_ll_2, v_ls_2, v_il_3, v_al_3, v_is_3, v_as_3, v_inc_3, v_ll_3, v_ls_3, v_il_4, v_al_4, v_is_4, v_as_4, v_inc_4, v_ll_4, v_ls_4, v_il_5, v_al_5, v_is_5, v_as_5, v_inc_5, v_ll_5, v_ls_5, v_il_6, v_al_6, v_is_6, v_as_6, v_inc_6, v_il_7, v_al_7, v_is_7, v_as_7, v_inc_7, v_il_8, v_al_8, v_is_8, v_as_8, v_inc_8, v_il_9, v_al_9, v_is_9, v_as_9, v_inc_9, v_il_10, v_al_10, v_is_10, v_as_10, v_inc_10, v_il_11, v_al_11, v_is_11, v_as_11, v_inc_11, v_il_12, v_al_12, v_is_12, v_as_12, v_inc_12, v_il_13, v_al_13, v_is_13, v_as_13, v_inc_13, v_c_8, v_c_9, v_c_10, v_c_11, v_c_12, v_c_13, v_c_14, v_b_15, v_b_16, v_b_17, v_b_21, v_b_22, v_b_23, v_b_24, v_b_25, v_b_26, v_b_18, v_b_19, v_b_20, v_b_27, v_b_28, v_b_29, v_b_30, v_b_31, v_dup_i, v_dup_r, v_dup2, v_pop, v_gi, v_gl, v_gr, v_pi, v_pl, v_pz, v_iald, v_lald, v_bald, v_zald, v_aald, v_iast, v_last, v_bast, v_zast, v_alen_0, v_alen_1, v_alen_2, v_alen_3, v_alen_4, v_j_45, v_j_46, v_j_47, v_j_48, v_j_49, v_j_50, v_j_51, v_j_52, v_j_53, v_j_54, v_j_55, v_j_56, v_goto, v_sw, v_ret_i, v_ret_z, v_ret, v_cpy, v_iv_1, v_iv_2, v_iv_3, v_iv_4, v_iv_5, v_iv_6, v_is2_1, v_is2_2, v_is2_3, v_ivJ, List.nil_append, List.cons_append, rf_0_0, rf_0_1, rf_0_2, rf_0_3, rf_0_4, rf_0_5, rf_0_6, rf_0_7, rf_0_8, rf_0_9, rf_1_0, rf_1_2, rf_4_0, rf_4_1, rf_4_2, rf_5_8, rf_5_9, rf_5_10, rf_5_11, rf_5_12, rf_13_0, rf_13_1, rf_14_0, rf_14_1, rf_14_2, rf_15_8, rf_15_9, rf_15_10, rf_15_11, rf_15_12, rf_23_0, rf_23_1, rf_23_2, rf_24_8, rf_24_9, rf_24_10, rf_24_11, rf_24_12, rf_32_6, rf_34_0, rf_34_1, rf_34_2, rf_34_3, rf_35_8, rf_35_9, rf_35_10, rf_35_11, rf_35_12, rf_43_0, rf_43_1, rf_43_2, rf_43_3, rf_45_0, rf_45_1, rf_46_0, rf_46_1, rf_46_2, rf_46_3, rf_46_4, rf_46_5, rf_47_0, rf_47_1, rf_49_0, rf_49_1, rf_49_2, rf_49_3, rf_49_4, rf_49_5, rf_53_0, rf_53_1, rf_53_2, rf_53_3, rf_53_4, rf_53_5, rf_53_6, rf_53_7, rf_53_9, rf_53_10, rf_53_11, rf_53_12, rf_53_13, rf_54_0, rf_54_1, rf_55_1, rf_55_2, rf_55_3, rf_67_1, rf_67_6, rf_67_7, rf_67_8, rf_67_9, rf_67_10, rf_67_22, rf_67_23, rf_67_28, rf_67_30, rf_67_32, rf_67_33, rf_67_38, rf_67_39, rf_67_48, rf_67_49, rf_67_51, rf_67_52, rf_67_53, rf_67_54, rf_67_55, rf_67_60, rf_67_61, rf_67_62, up_s, up_b, up_j, w_sm, ↓if_pos, ↓if_neg,  ]
theorem RG.tk (h : RG T len lim most M0 M t D nq nl nb nn nm) : TOK len lim 0 t := h.2.2.2.1.tk (by rw [h.1]; omega)
theorem tokM_v : tokM len most 1 = 1 ∧ tokM len most 2 = 1 ∧ tokM len most 3 = 2 ∧ tokM len most 4 = 3 ∧ tokM len most 5 = 4 ∧ (most < len → tokM len most 0 = 4) ∧ (¬ most < len → tokM len most 0 = 0) := by
  unfold tokM
  refine ⟨rfl, rfl, rfl, rfl, rfl, fun c => ?_, fun c => ?_⟩
  · rw [if_pos rfl, if_pos c]
  · rw [if_pos rfl, if_neg c]
theorem tokM_all (k : Int) (h : 0 ≤ k ∧ k ≤ 5) : (0 ≤ tokM len most k ∧ tokM len most k ≤ 4) ∧ (tokM len most k = 1 ↔ (k = 1 ∨ k = 2)) ∧ (tokM len most k = 2 ↔ k = 3) ∧ (tokM len most k = 3 ↔ k = 4) ∧ (tokM len most k = 0 ↔ (k = 0 ∧ ¬ most < len)) := by
  obtain ⟨v1, v2, v3, v4, v5, v6, v7⟩ := tokM_v (len := len) (most := most)
  rcases (show k = 0 ∨ k = 1 ∨ k = 2 ∨ k = 3 ∨ k = 4 ∨ k = 5 by omega) with rfl | rfl | rfl | rfl | rfl | rfl
  · by_cases c : most < len
    · rw [v6 c]; omega
    · rw [v7 c]; omega
  · rw [v1]; omega
  · rw [v2]; omega
  · rw [v3]; omega
  · rw [v4]; omega
  · rw [v5]; omega
theorem tokM_b (k : Int) (h : 0 ≤ k ∧ k ≤ 5) : 0 ≤ tokM len most k ∧ tokM len most k ≤ 4 := (tokM_all k h).1
theorem tokM_1 (k : Int) (h : 0 ≤ k ∧ k ≤ 5) : tokM len most k = 1 ↔ (k = 1 ∨ k = 2) := (tokM_all k h).2.1
theorem tokM_2 (k : Int) (h : 0 ≤ k ∧ k ≤ 5) : tokM len most k = 2 ↔ k = 3 := (tokM_all k h).2.2.1
theorem tokM_3 (k : Int) (h : 0 ≤ k ∧ k ≤ 5) : tokM len most k = 3 ↔ k = 4 := (tokM_all k h).2.2.2.1
theorem tokM_0 (k : Int) (h : 0 ≤ k ∧ k ≤ 5) : tokM len most k = 0 ↔ (k = 0 ∧ ¬ most < len) := (tokM_all k h).2.2.2.2
theorem RG.k (h : RG T len lim most M0 M t D nq nl nb nn nm) {M' : Mem} {t' : Tok} (hA : AgX mkX M M') (hK : RTk M' len most t') (hF : TF T len lim 0 t') : RG T len lim most M0 M' t' D nq nl nb nn nm := by
  obtain ⟨a0, a1, a2, a3, a4, a5, a6, b1, b2, b3, b4, b5, b6, b7, b8⟩ := h
  have f : ∀ b, b ≠ 67 → M' b = M b := fun b hb => hA.fn (fun j => by unfold mkX; omega)
  refine ⟨a0, a1.m hA, hK, hF, fun b j hx => ?_, ⟨small_cg (f 70 (by decide)) a5.1, small_cg (f 71 (by decide)) a5.2⟩, by rw [f 73 (by decide)]; exact a6, ?_⟩
  · rw [hA b j (by unfold mkX; unfold tmG at hx; omega)]
    exact a4 b j hx
  · unfold RDm
    rw [f 70 (by decide), f 72 (by decide), hA 67 20 (by unfold mkX; omega)]
    exact ⟨b1, b2, b3, b4, b5, b6, b7, b8⟩
theorem h_next (h : RG T len lim most M0 M t D nq nl nb nn nm) (h1 : 1 ≤ tK t ∧ tK t ≤ 4) (kk : ∀ M', AgX mkX M M' → RG T len lim most M0 M' (nt T len lim t) D nq nl nb nn nm → Q [] M') : XC (d + 1) 140 [aR 22 0 67] M Q := by
  have hk := h.tk
  refine s_next h.2.1 lim h.1 (tX t) (hk.2.1 h1.1 h1.2).2 (h.2.2.1.2.2.2.2.2 h1.1 h1.2) (fun M' hA hK => kk M' hA (h.k hA hK ?_))
  exact (h.2.2.2.1.nt (by rw [h.1]; omega) h1).w (Nat.zero_le _)
theorem h_isWord (h : RG T len lim most M0 M t D nq nl nb nn nm) (i : Nat) (w : Int) (hi : i < 17) (hw : w = nm256 (rsvF i)) : XC d 142 [aR 22 0 67, aL w] M Q ↔ Q [aI (if tK t = 1 ∧ tV t = (i : Int) then 1 else 0)] M := by
  have hk := h.tk
  have tb := tokM_b (len := len) (most := most) (tK t) hk.1
  have t1 := tokM_1 (len := len) (most := most) (tK t) hk.1
  have e11 := h.2.2.1.1
  have e17 := h.2.2.1.2.2.1
  have w1 : w64 w = w := by rw [hw]; exact w64_nm (vld_r hi)
  rw [e_142, k_142_0]
  by_cases c : tK t = 1 ∨ tK t = 2
  · have e17' := e17 c
    have w2 := w64_nm (hk.wd c)
    rw [t1.mpr c] at e11
    have key : nm256 (tL t) = w ↔ (tK t = 1 ∧ tV t = (i : Int)) := by
      rw [hw]
      constructor
      · intro h9
        have h8 := nm256_inj (hk.wd c).2 (vld_r hi).2 h9
        rcases c with c | c
        · obtain ⟨a1, a2, a3, -⟩ := hk.2.2.1 c
          have := rsv_i (tV t).toNat (by omega) i hi (a3.trans h8)
          exact ⟨c, by omega⟩
        · have f := (hk.2.2.2.1 c).2.2
          rcases fnd_sp (F := rsvF) (w := tL t) (n := 17) with ⟨f1, f2⟩ | ⟨j, f1, f2, f3⟩
          · exact absurd h8.symm (f2 i hi)
          · omega
      · intro h9
        obtain ⟨a1, a2, a3, -⟩ := hk.2.2.1 h9.1
        rw [← a3]
        congr 2
        omega
    by_cases c2 : nm256 (tL t) = w
    · rw [if_pos (key.mp c2)]
      rw [c2] at e17'
      have z := cmp_eq w
      simp (disch := first | exact nl_i _ | exact nl_r _ | exact Nat.le_of_ble_eq_true rfl | exact Or.inl rfl | exact Or.inr rfl | exact w8_lo _ | exact w8_hi _ | decide | omega) only [v_fall, v_il_0, v_al_0, v_is_0, v_as_0, v_inc_0, v_ll_0, v_ls_0, v_il_1, v_al_1, v_is_1, v_as_1, v_inc_1, v_ll_1, v_ls_1, v_il_2, v_al_2, v_is_2, v_as_2, v_inc_2, v_ll_2, v_ls_2, v_il_3, v_al_3, v_is_3, v_as_3, v_inc_3, v_ll_3, v_ls_3, v_il_4, v_al_4, v_is_4, v_as_4, v_inc_4, v_ll_4, v_ls_4, v_il_5, v_al_5, v_is_5, v_as_5, v_inc_5, v_ll_5, v_ls_5, v_il_6, v_al_6, v_is_6, v_as_6, v_inc_6, v_il_7, v_al_7, v_is_7, v_as_7, v_inc_7, v_il_8, v_al_8, v_is_8, v_as_8, v_inc_8, v_il_9, v_al_9, v_is_9, v_as_9, v_inc_9, v_il_10, v_al_10, v_is_10, v_as_10, v_inc_10, v_il_11, v_al_11, v_is_11, v_as_11, v_inc_11, v_il_12, v_al_12, v_is_12, v_as_12, v_inc_12, v_il_13, v_al_13, v_is_13, v_as_13, v_inc_13, v_c_8, v_c_9, v_c_10, v_c_11, v_c_12, v_c_13, v_c_14, v_b_15, v_b_16, v_b_17, v_b_21, v_b_22, v_b_23, v_b_24, v_b_25, v_b_26, v_b_18, v_b_19, v_b_20, v_b_27, v_b_28, v_b_29, v_b_30, v_b_31, v_dup_i, v_dup_r, v_dup2, v_pop, v_gi, v_gl, v_gr, v_pi, v_pl, v_pz, v_iald, v_lald, v_bald, v_zald, v_aald, v_iast, v_last, v_bast, v_zast, v_alen_0, v_alen_1, v_alen_2, v_alen_3, v_alen_4, v_j_45, v_j_46, v_j_47, v_j_48, v_j_49, v_j_50, v_j_51, v_j_52, v_j_53, v_j_54, v_j_55, v_j_56, v_goto, v_sw, v_ret_i, v_ret_z, v_ret, v_cpy, v_iv_1, v_iv_2, v_iv_3, v_iv_4, v_iv_5, v_iv_6, v_is2_1, v_is2_2, v_is2_3, v_ivJ, List.nil_append, List.cons_append, rf_0_0, rf_0_1, rf_0_2, rf_0_3, rf_0_4, rf_0_5, rf_0_6, rf_0_7, rf_0_8, rf_0_9, rf_1_0, rf_1_2, rf_4_0, rf_4_1, rf_4_2, rf_5_8, rf_5_9, rf_5_10, rf_5_11, rf_5_12, rf_13_0, rf_13_1, rf_14_0, rf_14_1, rf_14_2, rf_15_8, rf_15_9, rf_15_10, rf_15_11, rf_15_12, rf_23_0, rf_23_1, rf_23_2, rf_24_8, rf_24_9, rf_24_10, rf_24_11, rf_24_12, rf_32_6, rf_34_0, rf_34_1, rf_34_2, rf_34_3, rf_35_8, rf_35_9, rf_35_10, rf_35_11, rf_35_12, rf_43_0, rf_43_1, rf_43_2, rf_43_3, rf_45_0, rf_45_1, rf_46_0, rf_46_1, rf_46_2, rf_46_3, rf_46_4, rf_46_5, rf_47_0, rf_47_1, rf_49_0, rf_49_1, rf_49_2, rf_49_3, rf_49_4, rf_49_5, rf_53_0, rf_53_1, rf_53_2, rf_53_3, rf_53_4, rf_53_5, rf_53_6, rf_53_7, rf_53_9, rf_53_10, rf_53_11, rf_53_12, rf_53_13, rf_54_0, rf_54_1, rf_55_1, rf_55_2, rf_55_3, rf_67_1, rf_67_6, rf_67_7, rf_67_8, rf_67_9, rf_67_10, rf_67_22, rf_67_23, rf_67_28, rf_67_30, rf_67_32, rf_67_33, rf_67_38, rf_67_39, rf_67_48, rf_67_49, rf_67_51, rf_67_52, rf_67_53, rf_67_54, rf_67_55, rf_67_60, rf_67_61, rf_67_62, up_s, up_b, up_j, b_142_21, k_142_21, b_142_22, k_142_22, w_sm, ↓if_pos, ↓if_neg,  e11, e17', z]
    · rw [if_neg (fun h9 => c2 (key.mpr h9))]
      obtain ⟨z1, z2⟩ := cmp_ne w2 w1 c2
      simp (disch := first | exact nl_i _ | exact nl_r _ | exact Nat.le_of_ble_eq_true rfl | exact Or.inl rfl | exact Or.inr rfl | exact w8_lo _ | exact w8_hi _ | decide | omega) only [v_fall, v_il_0, v_al_0, v_is_0, v_as_0, v_inc_0, v_ll_0, v_ls_0, v_il_1, v_al_1, v_is_1, v_as_1, v_inc_1, v_ll_1, v_ls_1, v_il_2, v_al_2, v_is_2, v_as_2, v_inc_2, v_ll_2, v_ls_2, v_il_3, v_al_3, v_is_3, v_as_3, v_inc_3, v_ll_3, v_ls_3, v_il_4, v_al_4, v_is_4, v_as_4, v_inc_4, v_ll_4, v_ls_4, v_il_5, v_al_5, v_is_5, v_as_5, v_inc_5, v_ll_5, v_ls_5, v_il_6, v_al_6, v_is_6, v_as_6, v_inc_6, v_il_7, v_al_7, v_is_7, v_as_7, v_inc_7, v_il_8, v_al_8, v_is_8, v_as_8, v_inc_8, v_il_9, v_al_9, v_is_9, v_as_9, v_inc_9, v_il_10, v_al_10, v_is_10, v_as_10, v_inc_10, v_il_11, v_al_11, v_is_11, v_as_11, v_inc_11, v_il_12, v_al_12, v_is_12, v_as_12, v_inc_12, v_il_13, v_al_13, v_is_13, v_as_13, v_inc_13, v_c_8, v_c_9, v_c_10, v_c_11, v_c_12, v_c_13, v_c_14, v_b_15, v_b_16, v_b_17, v_b_21, v_b_22, v_b_23, v_b_24, v_b_25, v_b_26, v_b_18, v_b_19, v_b_20, v_b_27, v_b_28, v_b_29, v_b_30, v_b_31, v_dup_i, v_dup_r, v_dup2, v_pop, v_gi, v_gl, v_gr, v_pi, v_pl, v_pz, v_iald, v_lald, v_bald, v_zald, v_aald, v_iast, v_last, v_bast, v_zast, v_alen_0, v_alen_1, v_alen_2, v_alen_3, v_alen_4, v_j_45, v_j_46, v_j_47, v_j_48, v_j_49, v_j_50, v_j_51, v_j_52, v_j_53, v_j_54, v_j_55, v_j_56, v_goto, v_sw, v_ret_i, v_ret_z, v_ret, v_cpy, v_iv_1, v_iv_2, v_iv_3, v_iv_4, v_iv_5, v_iv_6, v_is2_1, v_is2_2, v_is2_3, v_ivJ, List.nil_append, List.cons_append, rf_0_0, rf_0_1, rf_0_2, rf_0_3, rf_0_4, rf_0_5, rf_0_6, rf_0_7, rf_0_8, rf_0_9, rf_1_0, rf_1_2, rf_4_0, rf_4_1, rf_4_2, rf_5_8, rf_5_9, rf_5_10, rf_5_11, rf_5_12, rf_13_0, rf_13_1, rf_14_0, rf_14_1, rf_14_2, rf_15_8, rf_15_9, rf_15_10, rf_15_11, rf_15_12, rf_23_0, rf_23_1, rf_23_2, rf_24_8, rf_24_9, rf_24_10, rf_24_11, rf_24_12, rf_32_6, rf_34_0, rf_34_1, rf_34_2, rf_34_3, rf_35_8, rf_35_9, rf_35_10, rf_35_11, rf_35_12, rf_43_0, rf_43_1, rf_43_2, rf_43_3, rf_45_0, rf_45_1, rf_46_0, rf_46_1, rf_46_2, rf_46_3, rf_46_4, rf_46_5, rf_47_0, rf_47_1, rf_49_0, rf_49_1, rf_49_2, rf_49_3, rf_49_4, rf_49_5, rf_53_0, rf_53_1, rf_53_2, rf_53_3, rf_53_4, rf_53_5, rf_53_6, rf_53_7, rf_53_9, rf_53_10, rf_53_11, rf_53_12, rf_53_13, rf_54_0, rf_54_1, rf_55_1, rf_55_2, rf_55_3, rf_67_1, rf_67_6, rf_67_7, rf_67_8, rf_67_9, rf_67_10, rf_67_22, rf_67_23, rf_67_28, rf_67_30, rf_67_32, rf_67_33, rf_67_38, rf_67_39, rf_67_48, rf_67_49, rf_67_51, rf_67_52, rf_67_53, rf_67_54, rf_67_55, rf_67_60, rf_67_61, rf_67_62, up_s, up_b, up_j, b_142_21, k_142_21, b_142_22, k_142_22, w_sm, ↓if_pos, ↓if_neg,  e11, e17']
  · have n1 : ¬ tokM len most (tK t) = 1 := fun h9 => c (t1.mp h9)
    rw [if_neg (fun h9 => c (Or.inl h9.1))]
    simp (disch := first | exact nl_i _ | exact nl_r _ | exact Nat.le_of_ble_eq_true rfl | exact Or.inl rfl | exact Or.inr rfl | exact w8_lo _ | exact w8_hi _ | decide | omega) only [v_fall, v_il_0, v_al_0, v_is_0, v_as_0, v_inc_0, v_ll_0, v_ls_0, v_il_1, v_al_1, v_is_1, v_as_1, v_inc_1, v_ll_1, v_ls_1, v_il_2, v_al_2, v_is_2, v_as_2, v_inc_2, v_ll_2, v_ls_2, v_il_3, v_al_3, v_is_3, v_as_3, v_inc_3, v_ll_3, v_ls_3, v_il_4, v_al_4, v_is_4, v_as_4, v_inc_4, v_ll_4, v_ls_4, v_il_5, v_al_5, v_is_5, v_as_5, v_inc_5, v_ll_5, v_ls_5, v_il_6, v_al_6, v_is_6, v_as_6, v_inc_6, v_il_7, v_al_7, v_is_7, v_as_7, v_inc_7, v_il_8, v_al_8, v_is_8, v_as_8, v_inc_8, v_il_9, v_al_9, v_is_9, v_as_9, v_inc_9, v_il_10, v_al_10, v_is_10, v_as_10, v_inc_10, v_il_11, v_al_11, v_is_11, v_as_11, v_inc_11, v_il_12, v_al_12, v_is_12, v_as_12, v_inc_12, v_il_13, v_al_13, v_is_13, v_as_13, v_inc_13, v_c_8, v_c_9, v_c_10, v_c_11, v_c_12, v_c_13, v_c_14, v_b_15, v_b_16, v_b_17, v_b_21, v_b_22, v_b_23, v_b_24, v_b_25, v_b_26, v_b_18, v_b_19, v_b_20, v_b_27, v_b_28, v_b_29, v_b_30, v_b_31, v_dup_i, v_dup_r, v_dup2, v_pop, v_gi, v_gl, v_gr, v_pi, v_pl, v_pz, v_iald, v_lald, v_bald, v_zald, v_aald, v_iast, v_last, v_bast, v_zast, v_alen_0, v_alen_1, v_alen_2, v_alen_3, v_alen_4, v_j_45, v_j_46, v_j_47, v_j_48, v_j_49, v_j_50, v_j_51, v_j_52, v_j_53, v_j_54, v_j_55, v_j_56, v_goto, v_sw, v_ret_i, v_ret_z, v_ret, v_cpy, v_iv_1, v_iv_2, v_iv_3, v_iv_4, v_iv_5, v_iv_6, v_is2_1, v_is2_2, v_is2_3, v_ivJ, List.nil_append, List.cons_append, rf_0_0, rf_0_1, rf_0_2, rf_0_3, rf_0_4, rf_0_5, rf_0_6, rf_0_7, rf_0_8, rf_0_9, rf_1_0, rf_1_2, rf_4_0, rf_4_1, rf_4_2, rf_5_8, rf_5_9, rf_5_10, rf_5_11, rf_5_12, rf_13_0, rf_13_1, rf_14_0, rf_14_1, rf_14_2, rf_15_8, rf_15_9, rf_15_10, rf_15_11, rf_15_12, rf_23_0, rf_23_1, rf_23_2, rf_24_8, rf_24_9, rf_24_10, rf_24_11, rf_24_12, rf_32_6, rf_34_0, rf_34_1, rf_34_2, rf_34_3, rf_35_8, rf_35_9, rf_35_10, rf_35_11, rf_35_12, rf_43_0, rf_43_1, rf_43_2, rf_43_3, rf_45_0, rf_45_1, rf_46_0, rf_46_1, rf_46_2, rf_46_3, rf_46_4, rf_46_5, rf_47_0, rf_47_1, rf_49_0, rf_49_1, rf_49_2, rf_49_3, rf_49_4, rf_49_5, rf_53_0, rf_53_1, rf_53_2, rf_53_3, rf_53_4, rf_53_5, rf_53_6, rf_53_7, rf_53_9, rf_53_10, rf_53_11, rf_53_12, rf_53_13, rf_54_0, rf_54_1, rf_55_1, rf_55_2, rf_55_3, rf_67_1, rf_67_6, rf_67_7, rf_67_8, rf_67_9, rf_67_10, rf_67_22, rf_67_23, rf_67_28, rf_67_30, rf_67_32, rf_67_33, rf_67_38, rf_67_39, rf_67_48, rf_67_49, rf_67_51, rf_67_52, rf_67_53, rf_67_54, rf_67_55, rf_67_60, rf_67_61, rf_67_62, up_s, up_b, up_j, b_142_21, k_142_21, b_142_22, k_142_22, w_sm, ↓if_pos, ↓if_neg,  e11]
end XM
