/-! BEST on the reference's side: its codes -/
def e5 (c i : Nat) : Nat := if dg c i = 0 then 0 else (i + 1) * 5 ^ (dg c i - 1)
def rcd (c : Nat) : Nat := e5 c 0 + e5 c 1 + e5 c 2 + e5 c 3
def rcB (c : Nat) : Bool := !vcdB c || (decide (rcd c < 15625) && (List.range 6).all (fun k => decide (rcd c / 5 ^ k % 5 = if occ c k < 4 then occ c k + 1 else 0)))
theorem rcB_all : (List.range 4096).all rcB = true := by decide +kernel
theorem rcd_sp {m n c : Nat} (hv : vcd m n c) (hn : n ≤ 6) : rcd c < 15625 ∧ ∀ k, k < 6 → rcd c / 5 ^ k % 5 = if occ c k < 4 then occ c k + 1 else 0 := by
  have h := rcB_all
  rw [List.all_eq_true] at h
  have h1 := h c (List.mem_range.mpr hv.1)
  unfold rcB at h1
  rw [vcd_B hv hn, Bool.not_true, Bool.false_or, Bool.and_eq_true, decide_eq_true_iff, List.all_eq_true] at h1
  exact ⟨h1.1, fun k hk => of_decide_eq_true (h1.2 k (List.mem_range.mpr hk))⟩
theorem e5_z {c i : Nat} (h : dg c i = 0) : e5 c i = 0 := if_pos h
theorem e5_k {c i k : Nat} (h : dg c i = k + 1) : e5 c i = (i + 1) * 5 ^ k := by
  unfold e5
  rw [if_neg (by omega), h]
  rfl
theorem e5_cg {c c2 i : Nat} (h : dg c i = dg c2 i) : e5 c i = e5 c2 i := by
  unfold e5
  rw [h]
theorem rcd_put {c c2 i : Nat} (hi : i < 4) (h : ∀ j, j < 4 → j ≠ i → dg c2 j = dg c j) : rcd c2 + e5 c i = rcd c + e5 c2 i := by
  unfold rcd
  rcases i4 hi with rfl | rfl | rfl | rfl
  · rw [e5_cg (h 1 (by decide) (by decide)), e5_cg (h 2 (by decide) (by decide)), e5_cg (h 3 (by decide) (by decide))]; omega
  · rw [e5_cg (h 0 (by decide) (by decide)), e5_cg (h 2 (by decide) (by decide)), e5_cg (h 3 (by decide) (by decide))]; omega
  · rw [e5_cg (h 0 (by decide) (by decide)), e5_cg (h 1 (by decide) (by decide)), e5_cg (h 3 (by decide) (by decide))]; omega
  · rw [e5_cg (h 0 (by decide) (by decide)), e5_cg (h 1 (by decide) (by decide)), e5_cg (h 2 (by decide) (by decide))]; omega
theorem rcd_ad {c i k : Nat} (hi : i < 4) (h : dg c i = 0) (hk : k < 7) : rcd (adc c i k) = rcd c + (i + 1) * 5 ^ k := by
  obtain ⟨d1, d2⟩ := dg_adc hi h hk
  have := rcd_put hi d2
  rw [e5_z h, e5_k d1] at this
  omega
theorem rcd_rm {c i k : Nat} (hi : i < 4) (h : dg c i = k + 1) : rcd c = rcd (rmc c i) + (i + 1) * 5 ^ k := by
  obtain ⟨d1, d2⟩ := dg_rmc (c := c) hi
  have := rcd_put hi d2
  rw [e5_z d1, e5_k h] at this
  omega
theorem rcd_inj {m n c c2 : Nat} (h1 : vcd m n c) (h2 : vcd m n c2) (hn : n ≤ 6) (h : rcd c = rcd c2) : c = c2 := by
  have s1 := (rcd_sp h1 hn).2
  have s2 := (rcd_sp h2 hn).2
  have oE : ∀ k, k < 6 → occ c k = occ c2 k := fun k hk => by
    have a1 := s1 k hk
    have a2 := s2 k hk
    rw [h, a2] at a1
    rcases occ_4 (c := c) (k := k) with q1 | q1
    · rcases occ_4 (c := c2) (k := k) with q2 | q2
      · rw [if_pos q1, if_pos q2] at a1; omega
      · rw [if_pos q1, if_neg (by omega)] at a1; omega
    · rcases occ_4 (c := c2) (k := k) with q2 | q2
      · rw [if_pos q2, if_neg (show ¬ occ c k < 4 by omega)] at a1; omega
      · omega
  refine dg_ext h1.1 h2.1 (fun i hi => ?_)
  have step : ∀ {a b : Nat}, vcd m n a → (∀ k, k < 6 → occ a k = occ b k) → dg a i ≠ 0 → dg b i = dg a i := fun {a b} hv he hne => by
    obtain ⟨k, hk⟩ : ∃ k, dg a i = k + 1 := ⟨dg a i - 1, by omega⟩
    have k6 : k < 6 := by have := hv.2.2.1 i hi; omega
    have o := occ_is hv hi hk
    rw [he k k6] at o
    rcases occ_sp b k with ⟨q, -⟩ | ⟨-, q⟩
    · omega
    · rw [o] at q
      omega
  by_cases c1 : dg c i = 0
  · by_cases c2 : dg c2 i = 0
    · rw [c1, c2]
    · exact step h2 (fun k hk => (oE k hk).symm) c2
  · exact (step h1 oE c1).symm
theorem rcd_0 : rcd 0 = 0 := by decide
theorem div_i5 {a b : Int} (ha : 0 ≤ a ∧ a < 2147483648) (hb : 0 < b ∧ b < 2147483648) : div32 a b = a / b := by
  obtain ⟨n, rfl⟩ : ∃ n : Nat, a = (n : Int) := ⟨a.toNat, by omega⟩
  obtain ⟨m, rfl⟩ : ∃ m : Nat, b = (m : Int) := ⟨b.toNat, by omega⟩
  rw [div_nat n m (by omega) (by omega)]
  exact Int.natCast_ediv n m
/-! sums -/
def sumN : Nat → (Nat → Nat) → Nat
  | 0, _ => 0
  | n + 1, f => sumN n f + f n
theorem sumN_le {f g : Nat → Nat} : ∀ {n : Nat}, (∀ c, c < n → f c ≤ g c) → sumN n f ≤ sumN n g
  | 0, _ => Nat.le_refl 0
  | n + 1, h => by
    have h1 := sumN_le (f := f) (g := g) (n := n) (fun c hc => h c (by omega))
    have h2 := h n (Nat.lt_succ_self n)
    unfold sumN
    omega
theorem sumN_lt {f g : Nat → Nat} {x : Nat} : ∀ {n : Nat}, (∀ c, c < n → f c ≤ g c) → x < n → f x < g x → sumN n f < sumN n g
  | 0, _, hx, _ => absurd hx (Nat.not_lt_zero x)
  | n + 1, h, hx, hl => by
    unfold sumN
    have h2 := h n (Nat.lt_succ_self n)
    by_cases e : x = n
    · have h1 := sumN_le (f := f) (g := g) (n := n) (fun c hc => h c (by omega))
      rw [e] at hl
      omega
    · have h1 := sumN_lt (n := n) (fun c hc => h c (by omega)) (by omega) hl
      omega
section RC
variable {d : Nat} {M M0 : Mem} {Q : List AV → Mem → Prop} {w l m : Nat} {wh : Nat → Int}
theorem s_digit_l : ∀ (t i k : Nat), i + t = k → k < 7 → (XL d 209 4 [aI (k : Int), aI ((5 ^ i : Nat) : Int), aI (i : Int)] [] M Q ↔ Q [aI ((5 ^ k : Nat) : Int)] M)
  | 0, i, k, h, hk => by
    have e : i = k := by omega
    have hp : (5 : Nat) ^ k ≤ 5 ^ 6 := Nat.pow_le_pow_right (by decide) (by omega)
    rw [e, b_209_4, k_209_4]
    simp (disch := first | exact nl_i _ | exact nl_r _ | exact Nat.le_of_ble_eq_true rfl | exact Or.inl rfl | exact Or.inr rfl | exact w8_lo _ | exact w8_hi _ | decide | omega) only [v_fall, v_il_0, v_al_0, v_is_0, v_as_0, v_inc_0, v_ll_0, v_ls_0, v_il_1, v_al_1, v_is_1, v_as_1, v_inc_1, v_ll_1, v_ls_1, v_il_2, v_al_2, v_is_2, v_as_2, v_inc_2, v_ll_2, v_ls_2, v_il_3, v_al_3, v_is_3, v_as_3, v_inc_3, v_ll_3, v_ls_3, v_il_4, v_al_4, v_is_4, v_as_4, v_inc_4, v_ll_4, v_ls_4, v_il_5, v_al_5, v_is_5, v_as_5, v_inc_5, v_ll_5, v_ls_5, v_il_6, v_al_6, v_is_6, v_as_6, v_inc_6, v_il_7, v_al_7, v_is_7, v_as_7, v_inc_7, v_il_8, v_al_8, v_is_8, v_as_8, v_inc_8, v_il_9, v_al_9, v_is_9, v_as_9, v_inc_9, v_il_10, v_al_10, v_is_10, v_as_10, v_inc_10, v_il_11, v_al_11, v_is_11, v_as_11, v_inc_11, v_il_12, v_al_12, v_is_12, v_as_12, v_inc_12, v_il_13, v_al_13, v_is_13, v_as_13, v_inc_13, v_c_8, v_c_9, v_c_10, v_c_11, v_c_12, v_c_13, v_c_14, v_b_15, v_b_16, v_b_17, v_b_21, v_b_22, v_b_23, v_b_24, v_b_25, v_b_26, v_b_18, v_b_19, v_b_20, v_b_27, v_b_28, v_b_29, v_b_30, v_b_31, v_dup_i, v_dup_r, v_dup2, v_pop, v_gi, v_gl, v_gr, v_pi, v_pl, v_pz, v_iald, v_lald, v_bald, v_zald, v_aald, v_iast, v_last, v_bast, v_zast, v_alen_0, v_alen_1, v_alen_2, v_alen_3, v_alen_4, v_j_45, v_j_46, v_j_47, v_j_48, v_j_49, v_j_50, v_j_51, v_j_52, v_j_53, v_j_54, v_j_55, v_j_56, v_goto, v_sw, v_ret_i, v_ret_z, v_ret, v_cpy, v_iv_1, v_iv_2, v_iv_3, v_iv_4, v_iv_5, v_iv_6, v_is2_1, v_is2_2, v_is2_3, v_ivJ, List.nil_append, List.cons_append, rf_0_0, rf_0_1, rf_0_2, rf_0_3, rf_0_4, rf_0_5, rf_0_6, rf_0_7, rf_0_8, rf_0_9, rf_1_0, rf_1_2, rf_4_0, rf_4_1, rf_4_2, rf_5_8, rf_5_9, rf_5_10, rf_5_11, rf_5_12, rf_13_0, rf_13_1, rf_14_0, rf_14_1, rf_14_2, rf_15_8, rf_15_9, rf_15_10, rf_15_11, rf_15_12, rf_23_0, rf_23_1, rf_23_2, rf_24_8, rf_24_9, rf_24_10, rf_24_11, rf_24_12, rf_32_6, rf_34_0, rf_34_1, rf_34_2, rf_34_3, rf_35_8, rf_35_9, rf_35_10, rf_35_11, rf_35_12, rf_43_0, rf_43_1, rf_43_2, rf_43_3, rf_45_0, rf_45_1, rf_46_0, rf_46_1, rf_46_2, rf_46_3, rf_46_4, rf_46_5, rf_47_0, rf_47_1, rf_49_0, rf_49_1, rf_49_2, rf_49_3, rf_49_4, rf_49_5, rf_53_0, rf_53_1, rf_53_2, rf_53_3, rf_53_4, rf_53_5, rf_53_6, rf_53_7, rf_53_9, rf_53_10, rf_53_11, rf_53_12, rf_53_13, rf_54_0, rf_54_1, rf_55_1, rf_55_2, rf_55_3, rf_67_1, rf_67_6, rf_67_7, rf_67_8, rf_67_9, rf_67_10, rf_67_22, rf_67_23, rf_67_28, rf_67_30, rf_67_32, rf_67_33, rf_67_38, rf_67_39, rf_67_48, rf_67_49, rf_67_51, rf_67_52, rf_67_53, rf_67_54, rf_67_55, rf_67_60, rf_67_61, rf_67_62, up_s, up_b, up_j, b_209_19, k_209_19, w_sm, ↓if_pos, ↓if_neg,  ]
  | t + 1, i, k, h, hk => by
    have hp : (5 : Nat) ^ i ≤ 5 ^ 6 := Nat.pow_le_pow_right (by decide) (by omega)
    have ih := s_digit_l t (i + 1) k (by omega) hk
    have e1 : ((5 ^ (i + 1) : Nat) : Int) = 5 * ((5 ^ i : Nat) : Int) := by rw [Nat.pow_succ]; omega
    rw [e1, Int.natCast_add] at ih
    rw [← ih, b_209_4, k_209_4]
    simp (disch := first | exact nl_i _ | exact nl_r _ | exact Nat.le_of_ble_eq_true rfl | exact Or.inl rfl | exact Or.inr rfl | exact w8_lo _ | exact w8_hi _ | decide | omega) only [v_fall, v_il_0, v_al_0, v_is_0, v_as_0, v_inc_0, v_ll_0, v_ls_0, v_il_1, v_al_1, v_is_1, v_as_1, v_inc_1, v_ll_1, v_ls_1, v_il_2, v_al_2, v_is_2, v_as_2, v_inc_2, v_ll_2, v_ls_2, v_il_3, v_al_3, v_is_3, v_as_3, v_inc_3, v_ll_3, v_ls_3, v_il_4, v_al_4, v_is_4, v_as_4, v_inc_4, v_ll_4, v_ls_4, v_il_5, v_al_5, v_is_5, v_as_5, v_inc_5, v_ll_5, v_ls_5, v_il_6, v_al_6, v_is_6, v_as_6, v_inc_6, v_il_7, v_al_7, v_is_7, v_as_7, v_inc_7, v_il_8, v_al_8, v_is_8, v_as_8, v_inc_8, v_il_9, v_al_9, v_is_9, v_as_9, v_inc_9, v_il_10, v_al_10, v_is_10, v_as_10, v_inc_10, v_il_11, v_al_11, v_is_11, v_as_11, v_inc_11, v_il_12, v_al_12, v_is_12, v_as_12, v_inc_12, v_il_13, v_al_13, v_is_13, v_as_13, v_inc_13, v_c_8, v_c_9, v_c_10, v_c_11, v_c_12, v_c_13, v_c_14, v_b_15, v_b_16, v_b_17, v_b_21, v_b_22, v_b_23, v_b_24, v_b_25, v_b_26, v_b_18, v_b_19, v_b_20, v_b_27, v_b_28, v_b_29, v_b_30, v_b_31, v_dup_i, v_dup_r, v_dup2, v_pop, v_gi, v_gl, v_gr, v_pi, v_pl, v_pz, v_iald, v_lald, v_bald, v_zald, v_aald, v_iast, v_last, v_bast, v_zast, v_alen_0, v_alen_1, v_alen_2, v_alen_3, v_alen_4, v_j_45, v_j_46, v_j_47, v_j_48, v_j_49, v_j_50, v_j_51, v_j_52, v_j_53, v_j_54, v_j_55, v_j_56, v_goto, v_sw, v_ret_i, v_ret_z, v_ret, v_cpy, v_iv_1, v_iv_2, v_iv_3, v_iv_4, v_iv_5, v_iv_6, v_is2_1, v_is2_2, v_is2_3, v_ivJ, List.nil_append, List.cons_append, rf_0_0, rf_0_1, rf_0_2, rf_0_3, rf_0_4, rf_0_5, rf_0_6, rf_0_7, rf_0_8, rf_0_9, rf_1_0, rf_1_2, rf_4_0, rf_4_1, rf_4_2, rf_5_8, rf_5_9, rf_5_10, rf_5_11, rf_5_12, rf_13_0, rf_13_1, rf_14_0, rf_14_1, rf_14_2, rf_15_8, rf_15_9, rf_15_10, rf_15_11, rf_15_12, rf_23_0, rf_23_1, rf_23_2, rf_24_8, rf_24_9, rf_24_10, rf_24_11, rf_24_12, rf_32_6, rf_34_0, rf_34_1, rf_34_2, rf_34_3, rf_35_8, rf_35_9, rf_35_10, rf_35_11, rf_35_12, rf_43_0, rf_43_1, rf_43_2, rf_43_3, rf_45_0, rf_45_1, rf_46_0, rf_46_1, rf_46_2, rf_46_3, rf_46_4, rf_46_5, rf_47_0, rf_47_1, rf_49_0, rf_49_1, rf_49_2, rf_49_3, rf_49_4, rf_49_5, rf_53_0, rf_53_1, rf_53_2, rf_53_3, rf_53_4, rf_53_5, rf_53_6, rf_53_7, rf_53_9, rf_53_10, rf_53_11, rf_53_12, rf_53_13, rf_54_0, rf_54_1, rf_55_1, rf_55_2, rf_55_3, rf_67_1, rf_67_6, rf_67_7, rf_67_8, rf_67_9, rf_67_10, rf_67_22, rf_67_23, rf_67_28, rf_67_30, rf_67_32, rf_67_33, rf_67_38, rf_67_39, rf_67_48, rf_67_49, rf_67_51, rf_67_52, rf_67_53, rf_67_54, rf_67_55, rf_67_60, rf_67_61, rf_67_62, up_s, up_b, up_j, b_209_19, k_209_19, w_sm, ↓if_pos, ↓if_neg,  ]
    exact Iff.rfl
theorem s_digit (k : Nat) (hk : k < 7) : XC d 209 [aI (k : Int)] M Q ↔ Q [aI ((5 ^ k : Nat) : Int)] M := by
  have g := s_digit_l (d := d) (M := M) (Q := Q) k 0 k (by omega) hk
  rw [← g, e_209, k_209_0]
  simp (disch := first | exact nl_i _ | exact nl_r _ | exact Nat.le_of_ble_eq_true rfl | exact Or.inl rfl | exact Or.inr rfl | exact w8_lo _ | exact w8_hi _ | decide | omega) only [v_fall, v_il_0, v_al_0, v_is_0, v_as_0, v_inc_0, v_ll_0, v_ls_0, v_il_1, v_al_1, v_is_1, v_as_1, v_inc_1, v_ll_1, v_ls_1, v_il_2, v_al_2, v_is_2, v_as_2, v_inc_2, v_ll_2, v_ls_2, v_il_3, v_al_3, v_is_3, v_as_3, v_inc_3, v_ll_3, v_ls_3, v_il_4, v_al_4, v_is_4, v_as_4, v_inc_4, v_ll_4, v_ls_4, v_il_5, v_al_5, v_is_5, v_as_5, v_inc_5, v_ll_5, v_ls_5, v_il_6, v_al_6, v_is_6, v_as_6, v_inc_6, v_il_7, v_al_7, v_is_7, v_as_7, v_inc_7, v_il_8, v_al_8, v_is_8, v_as_8, v_inc_8, v_il_9, v_al_9, v_is_9, v_as_9, v_inc_9, v_il_10, v_al_10, v_is_10, v_as_10, v_inc_10, v_il_11, v_al_11, v_is_11, v_as_11, v_inc_11, v_il_12, v_al_12, v_is_12, v_as_12, v_inc_12, v_il_13, v_al_13, v_is_13, v_as_13, v_inc_13, v_c_8, v_c_9, v_c_10, v_c_11, v_c_12, v_c_13, v_c_14, v_b_15, v_b_16, v_b_17, v_b_21, v_b_22, v_b_23, v_b_24, v_b_25, v_b_26, v_b_18, v_b_19, v_b_20, v_b_27, v_b_28, v_b_29, v_b_30, v_b_31, v_dup_i, v_dup_r, v_dup2, v_pop, v_gi, v_gl, v_gr, v_pi, v_pl, v_pz, v_iald, v_lald, v_bald, v_zald, v_aald, v_iast, v_last, v_bast, v_zast, v_alen_0, v_alen_1, v_alen_2, v_alen_3, v_alen_4, v_j_45, v_j_46, v_j_47, v_j_48, v_j_49, v_j_50, v_j_51, v_j_52, v_j_53, v_j_54, v_j_55, v_j_56, v_goto, v_sw, v_ret_i, v_ret_z, v_ret, v_cpy, v_iv_1, v_iv_2, v_iv_3, v_iv_4, v_iv_5, v_iv_6, v_is2_1, v_is2_2, v_is2_3, v_ivJ, List.nil_append, List.cons_append, rf_0_0, rf_0_1, rf_0_2, rf_0_3, rf_0_4, rf_0_5, rf_0_6, rf_0_7, rf_0_8, rf_0_9, rf_1_0, rf_1_2, rf_4_0, rf_4_1, rf_4_2, rf_5_8, rf_5_9, rf_5_10, rf_5_11, rf_5_12, rf_13_0, rf_13_1, rf_14_0, rf_14_1, rf_14_2, rf_15_8, rf_15_9, rf_15_10, rf_15_11, rf_15_12, rf_23_0, rf_23_1, rf_23_2, rf_24_8, rf_24_9, rf_24_10, rf_24_11, rf_24_12, rf_32_6, rf_34_0, rf_34_1, rf_34_2, rf_34_3, rf_35_8, rf_35_9, rf_35_10, rf_35_11, rf_35_12, rf_43_0, rf_43_1, rf_43_2, rf_43_3, rf_45_0, rf_45_1, rf_46_0, rf_46_1, rf_46_2, rf_46_3, rf_46_4, rf_46_5, rf_47_0, rf_47_1, rf_49_0, rf_49_1, rf_49_2, rf_49_3, rf_49_4, rf_49_5, rf_53_0, rf_53_1, rf_53_2, rf_53_3, rf_53_4, rf_53_5, rf_53_6, rf_53_7, rf_53_9, rf_53_10, rf_53_11, rf_53_12, rf_53_13, rf_54_0, rf_54_1, rf_55_1, rf_55_2, rf_55_3, rf_67_1, rf_67_6, rf_67_7, rf_67_8, rf_67_9, rf_67_10, rf_67_22, rf_67_23, rf_67_28, rf_67_30, rf_67_32, rf_67_33, rf_67_38, rf_67_39, rf_67_48, rf_67_49, rf_67_51, rf_67_52, rf_67_53, rf_67_54, rf_67_55, rf_67_60, rf_67_61, rf_67_62, up_s, up_b, up_j, b_209_19, k_209_19, w_sm, ↓if_pos, ↓if_neg,  ]
  exact Iff.rfl
theorem un_1 (u le k g9 x : Int) (hk : 0 ≤ k ∧ k < 6) (hl : 0 ≤ le ∧ le < 15625) (hg : g9 = if 0 < le % 5 then x + 1 else 0) (hx : 0 < le % 5 → M 84 (le % 5 - 1) = x) : XL d 208 4 [aR 22 0 67, aI u, aI le, aI k] [] M Q ↔ XL d 208 4 [aR 22 0 67, aI u, aI (le / 5), aI (k + 1)] [] (up M 74 k g9) Q := by
  have r5 : rem32 le 5 = le % 5 := rem_i ⟨hl.1, by omega⟩ (by decide)
  have d5 : div32 le 5 = le / 5 := div_i5 ⟨hl.1, by omega⟩ (by decide)
  have b5 : 0 ≤ le % 5 ∧ le % 5 < 5 := by omega
  rw [b_208_4, k_208_4]
  by_cases c : 0 < le % 5
  · have hx' := hx c
    rw [if_pos c] at hg
    subst hg
    generalize le % 5 = y at *
    simp (disch := first | exact nl_i _ | exact nl_r _ | exact Nat.le_of_ble_eq_true rfl | exact Or.inl rfl | exact Or.inr rfl | exact w8_lo _ | exact w8_hi _ | decide | omega) only [v_fall, v_il_0, v_al_0, v_is_0, v_as_0, v_inc_0, v_ll_0, v_ls_0, v_il_1, v_al_1, v_is_1, v_as_1, v_inc_1, v_ll_1, v_ls_1, v_il_2, v_al_2, v_is_2, v_as_2, v_inc_2, v_ll_2, v_ls_2, v_il_3, v_al_3, v_is_3, v_as_3, v_inc_3, v_ll_3, v_ls_3, v_il_4, v_al_4, v_is_4, v_as_4, v_inc_4, v_ll_4, v_ls_4, v_il_5, v_al_5, v_is_5, v_as_5, v_inc_5, v_ll_5, v_ls_5, v_il_6, v_al_6, v_is_6, v_as_6, v_inc_6, v_il_7, v_al_7, v_is_7, v_as_7, v_inc_7, v_il_8, v_al_8, v_is_8, v_as_8, v_inc_8, v_il_9, v_al_9, v_is_9, v_as_9, v_inc_9, v_il_10, v_al_10, v_is_10, v_as_10, v_inc_10, v_il_11, v_al_11, v_is_11, v_as_11, v_inc_11, v_il_12, v_al_12, v_is_12, v_as_12, v_inc_12, v_il_13, v_al_13, v_is_13, v_as_13, v_inc_13, v_c_8, v_c_9, v_c_10, v_c_11, v_c_12, v_c_13, v_c_14, v_b_15, v_b_16, v_b_17, v_b_21, v_b_22, v_b_23, v_b_24, v_b_25, v_b_26, v_b_18, v_b_19, v_b_20, v_b_27, v_b_28, v_b_29, v_b_30, v_b_31, v_dup_i, v_dup_r, v_dup2, v_pop, v_gi, v_gl, v_gr, v_pi, v_pl, v_pz, v_iald, v_lald, v_bald, v_zald, v_aald, v_iast, v_last, v_bast, v_zast, v_alen_0, v_alen_1, v_alen_2, v_alen_3, v_alen_4, v_j_45, v_j_46, v_j_47, v_j_48, v_j_49, v_j_50, v_j_51, v_j_52, v_j_53, v_j_54, v_j_55, v_j_56, v_goto, v_sw, v_ret_i, v_ret_z, v_ret, v_cpy, v_iv_1, v_iv_2, v_iv_3, v_iv_4, v_iv_5, v_iv_6, v_is2_1, v_is2_2, v_is2_3, v_ivJ, List.nil_append, List.cons_append, rf_0_0, rf_0_1, rf_0_2, rf_0_3, rf_0_4, rf_0_5, rf_0_6, rf_0_7, rf_0_8, rf_0_9, rf_1_0, rf_1_2, rf_4_0, rf_4_1, rf_4_2, rf_5_8, rf_5_9, rf_5_10, rf_5_11, rf_5_12, rf_13_0, rf_13_1, rf_14_0, rf_14_1, rf_14_2, rf_15_8, rf_15_9, rf_15_10, rf_15_11, rf_15_12, rf_23_0, rf_23_1, rf_23_2, rf_24_8, rf_24_9, rf_24_10, rf_24_11, rf_24_12, rf_32_6, rf_34_0, rf_34_1, rf_34_2, rf_34_3, rf_35_8, rf_35_9, rf_35_10, rf_35_11, rf_35_12, rf_43_0, rf_43_1, rf_43_2, rf_43_3, rf_45_0, rf_45_1, rf_46_0, rf_46_1, rf_46_2, rf_46_3, rf_46_4, rf_46_5, rf_47_0, rf_47_1, rf_49_0, rf_49_1, rf_49_2, rf_49_3, rf_49_4, rf_49_5, rf_53_0, rf_53_1, rf_53_2, rf_53_3, rf_53_4, rf_53_5, rf_53_6, rf_53_7, rf_53_9, rf_53_10, rf_53_11, rf_53_12, rf_53_13, rf_54_0, rf_54_1, rf_55_1, rf_55_2, rf_55_3, rf_67_1, rf_67_6, rf_67_7, rf_67_8, rf_67_9, rf_67_10, rf_67_22, rf_67_23, rf_67_28, rf_67_30, rf_67_32, rf_67_33, rf_67_38, rf_67_39, rf_67_48, rf_67_49, rf_67_51, rf_67_52, rf_67_53, rf_67_54, rf_67_55, rf_67_60, rf_67_61, rf_67_62, up_s, up_b, up_j, b_208_42, k_208_42, b_208_43, k_208_43, b_208_56, k_208_56, b_208_57, k_208_57, b_208_64, k_208_64, w_sm, ↓if_pos, ↓if_neg,  r5, d5, hx']
  · rw [if_neg c] at hg
    subst hg
    generalize le % 5 = y at *
    simp (disch := first | exact nl_i _ | exact nl_r _ | exact Nat.le_of_ble_eq_true rfl | exact Or.inl rfl | exact Or.inr rfl | exact w8_lo _ | exact w8_hi _ | decide | omega) only [v_fall, v_il_0, v_al_0, v_is_0, v_as_0, v_inc_0, v_ll_0, v_ls_0, v_il_1, v_al_1, v_is_1, v_as_1, v_inc_1, v_ll_1, v_ls_1, v_il_2, v_al_2, v_is_2, v_as_2, v_inc_2, v_ll_2, v_ls_2, v_il_3, v_al_3, v_is_3, v_as_3, v_inc_3, v_ll_3, v_ls_3, v_il_4, v_al_4, v_is_4, v_as_4, v_inc_4, v_ll_4, v_ls_4, v_il_5, v_al_5, v_is_5, v_as_5, v_inc_5, v_ll_5, v_ls_5, v_il_6, v_al_6, v_is_6, v_as_6, v_inc_6, v_il_7, v_al_7, v_is_7, v_as_7, v_inc_7, v_il_8, v_al_8, v_is_8, v_as_8, v_inc_8, v_il_9, v_al_9, v_is_9, v_as_9, v_inc_9, v_il_10, v_al_10, v_is_10, v_as_10, v_inc_10, v_il_11, v_al_11, v_is_11, v_as_11, v_inc_11, v_il_12, v_al_12, v_is_12, v_as_12, v_inc_12, v_il_13, v_al_13, v_is_13, v_as_13, v_inc_13, v_c_8, v_c_9, v_c_10, v_c_11, v_c_12, v_c_13, v_c_14, v_b_15, v_b_16, v_b_17, v_b_21, v_b_22, v_b_23, v_b_24, v_b_25, v_b_26, v_b_18, v_b_19, v_b_20, v_b_27, v_b_28, v_b_29, v_b_30, v_b_31, v_dup_i, v_dup_r, v_dup2, v_pop, v_gi, v_gl, v_gr, v_pi, v_pl, v_pz, v_iald, v_lald, v_bald, v_zald, v_aald, v_iast, v_last, v_bast, v_zast, v_alen_0, v_alen_1, v_alen_2, v_alen_3, v_alen_4, v_j_45, v_j_46, v_j_47, v_j_48, v_j_49, v_j_50, v_j_51, v_j_52, v_j_53, v_j_54, v_j_55, v_j_56, v_goto, v_sw, v_ret_i, v_ret_z, v_ret, v_cpy, v_iv_1, v_iv_2, v_iv_3, v_iv_4, v_iv_5, v_iv_6, v_is2_1, v_is2_2, v_is2_3, v_ivJ, List.nil_append, List.cons_append, rf_0_0, rf_0_1, rf_0_2, rf_0_3, rf_0_4, rf_0_5, rf_0_6, rf_0_7, rf_0_8, rf_0_9, rf_1_0, rf_1_2, rf_4_0, rf_4_1, rf_4_2, rf_5_8, rf_5_9, rf_5_10, rf_5_11, rf_5_12, rf_13_0, rf_13_1, rf_14_0, rf_14_1, rf_14_2, rf_15_8, rf_15_9, rf_15_10, rf_15_11, rf_15_12, rf_23_0, rf_23_1, rf_23_2, rf_24_8, rf_24_9, rf_24_10, rf_24_11, rf_24_12, rf_32_6, rf_34_0, rf_34_1, rf_34_2, rf_34_3, rf_35_8, rf_35_9, rf_35_10, rf_35_11, rf_35_12, rf_43_0, rf_43_1, rf_43_2, rf_43_3, rf_45_0, rf_45_1, rf_46_0, rf_46_1, rf_46_2, rf_46_3, rf_46_4, rf_46_5, rf_47_0, rf_47_1, rf_49_0, rf_49_1, rf_49_2, rf_49_3, rf_49_4, rf_49_5, rf_53_0, rf_53_1, rf_53_2, rf_53_3, rf_53_4, rf_53_5, rf_53_6, rf_53_7, rf_53_9, rf_53_10, rf_53_11, rf_53_12, rf_53_13, rf_54_0, rf_54_1, rf_55_1, rf_55_2, rf_55_3, rf_67_1, rf_67_6, rf_67_7, rf_67_8, rf_67_9, rf_67_10, rf_67_22, rf_67_23, rf_67_28, rf_67_30, rf_67_32, rf_67_33, rf_67_38, rf_67_39, rf_67_48, rf_67_49, rf_67_51, rf_67_52, rf_67_53, rf_67_54, rf_67_55, rf_67_60, rf_67_61, rf_67_62, up_s, up_b, up_j, b_208_42, k_208_42, b_208_43, k_208_43, b_208_56, k_208_56, b_208_57, k_208_57, b_208_64, k_208_64, w_sm, ↓if_pos, ↓if_neg,  r5, d5]
theorem un_2 (u le k : Int) (hk : 6 ≤ k ∧ k < 24) : XL d 208 4 [aR 22 0 67, aI u, aI le, aI k] [] M Q ↔ XL d 208 4 [aR 22 0 67, aI u, aI 0, aI (k + 1)] [] (up M 74 k 0) Q := by
  rw [b_208_4, k_208_4]
  simp (disch := first | exact nl_i _ | exact nl_r _ | exact Nat.le_of_ble_eq_true rfl | exact Or.inl rfl | exact Or.inr rfl | exact w8_lo _ | exact w8_hi _ | decide | omega) only [v_fall, v_il_0, v_al_0, v_is_0, v_as_0, v_inc_0, v_ll_0, v_ls_0, v_il_1, v_al_1, v_is_1, v_as_1, v_inc_1, v_ll_1, v_ls_1, v_il_2, v_al_2, v_is_2, v_as_2, v_inc_2, v_ll_2, v_ls_2, v_il_3, v_al_3, v_is_3, v_as_3, v_inc_3, v_ll_3, v_ls_3, v_il_4, v_al_4, v_is_4, v_as_4, v_inc_4, v_ll_4, v_ls_4, v_il_5, v_al_5, v_is_5, v_as_5, v_inc_5, v_ll_5, v_ls_5, v_il_6, v_al_6, v_is_6, v_as_6, v_inc_6, v_il_7, v_al_7, v_is_7, v_as_7, v_inc_7, v_il_8, v_al_8, v_is_8, v_as_8, v_inc_8, v_il_9, v_al_9, v_is_9, v_as_9, v_inc_9, v_il_10, v_al_10, v_is_10, v_as_10, v_inc_10, v_il_11, v_al_11, v_is_11, v_as_11, v_inc_11, v_il_12, v_al_12, v_is_12, v_as_12, v_inc_12, v_il_13, v_al_13, v_is_13, v_as_13, v_inc_13, v_c_8, v_c_9, v_c_10, v_c_11, v_c_12, v_c_13, v_c_14, v_b_15, v_b_16, v_b_17, v_b_21, v_b_22, v_b_23, v_b_24, v_b_25, v_b_26, v_b_18, v_b_19, v_b_20, v_b_27, v_b_28, v_b_29, v_b_30, v_b_31, v_dup_i, v_dup_r, v_dup2, v_pop, v_gi, v_gl, v_gr, v_pi, v_pl, v_pz, v_iald, v_lald, v_bald, v_zald, v_aald, v_iast, v_last, v_bast, v_zast, v_alen_0, v_alen_1, v_alen_2, v_alen_3, v_alen_4, v_j_45, v_j_46, v_j_47, v_j_48, v_j_49, v_j_50, v_j_51, v_j_52, v_j_53, v_j_54, v_j_55, v_j_56, v_goto, v_sw, v_ret_i, v_ret_z, v_ret, v_cpy, v_iv_1, v_iv_2, v_iv_3, v_iv_4, v_iv_5, v_iv_6, v_is2_1, v_is2_2, v_is2_3, v_ivJ, List.nil_append, List.cons_append, rf_0_0, rf_0_1, rf_0_2, rf_0_3, rf_0_4, rf_0_5, rf_0_6, rf_0_7, rf_0_8, rf_0_9, rf_1_0, rf_1_2, rf_4_0, rf_4_1, rf_4_2, rf_5_8, rf_5_9, rf_5_10, rf_5_11, rf_5_12, rf_13_0, rf_13_1, rf_14_0, rf_14_1, rf_14_2, rf_15_8, rf_15_9, rf_15_10, rf_15_11, rf_15_12, rf_23_0, rf_23_1, rf_23_2, rf_24_8, rf_24_9, rf_24_10, rf_24_11, rf_24_12, rf_32_6, rf_34_0, rf_34_1, rf_34_2, rf_34_3, rf_35_8, rf_35_9, rf_35_10, rf_35_11, rf_35_12, rf_43_0, rf_43_1, rf_43_2, rf_43_3, rf_45_0, rf_45_1, rf_46_0, rf_46_1, rf_46_2, rf_46_3, rf_46_4, rf_46_5, rf_47_0, rf_47_1, rf_49_0, rf_49_1, rf_49_2, rf_49_3, rf_49_4, rf_49_5, rf_53_0, rf_53_1, rf_53_2, rf_53_3, rf_53_4, rf_53_5, rf_53_6, rf_53_7, rf_53_9, rf_53_10, rf_53_11, rf_53_12, rf_53_13, rf_54_0, rf_54_1, rf_55_1, rf_55_2, rf_55_3, rf_67_1, rf_67_6, rf_67_7, rf_67_8, rf_67_9, rf_67_10, rf_67_22, rf_67_23, rf_67_28, rf_67_30, rf_67_32, rf_67_33, rf_67_38, rf_67_39, rf_67_48, rf_67_49, rf_67_51, rf_67_52, rf_67_53, rf_67_54, rf_67_55, rf_67_60, rf_67_61, rf_67_62, up_s, up_b, up_j, b_208_42, k_208_42, b_208_43, k_208_43, b_208_56, k_208_56, b_208_57, k_208_57, b_208_64, k_208_64, w_sm, ↓if_pos, ↓if_neg,  ]
theorem un_3 (u le : Int) : XL d 208 4 [aR 22 0 67, aI u, aI le, aI 24] [] M Q ↔ Q [] M := by
  rw [b_208_4, k_208_4]
  simp (disch := first | exact nl_i _ | exact nl_r _ | exact Nat.le_of_ble_eq_true rfl | exact Or.inl rfl | exact Or.inr rfl | exact w8_lo _ | exact w8_hi _ | decide | omega) only [v_fall, v_il_0, v_al_0, v_is_0, v_as_0, v_inc_0, v_ll_0, v_ls_0, v_il_1, v_al_1, v_is_1, v_as_1, v_inc_1, v_ll_1, v_ls_1, v_il_2, v_al_2, v_is_2, v_as_2, v_inc_2, v_ll_2, v_ls_2, v_il_3, v_al_3, v_is_3, v_as_3, v_inc_3, v_ll_3, v_ls_3, v_il_4, v_al_4, v_is_4, v_as_4, v_inc_4, v_ll_4, v_ls_4, v_il_5, v_al_5, v_is_5, v_as_5, v_inc_5, v_ll_5, v_ls_5, v_il_6, v_al_6, v_is_6, v_as_6, v_inc_6, v_il_7, v_al_7, v_is_7, v_as_7, v_inc_7, v_il_8, v_al_8, v_is_8, v_as_8, v_inc_8, v_il_9, v_al_9, v_is_9, v_as_9, v_inc_9, v_il_10, v_al_10, v_is_10, v_as_10, v_inc_10, v_il_11, v_al_11, v_is_11, v_as_11, v_inc_11, v_il_12, v_al_12, v_is_12, v_as_12, v_inc_12, v_il_13, v_al_13, v_is_13, v_as_13, v_inc_13, v_c_8, v_c_9, v_c_10, v_c_11, v_c_12, v_c_13, v_c_14, v_b_15, v_b_16, v_b_17, v_b_21, v_b_22, v_b_23, v_b_24, v_b_25, v_b_26, v_b_18, v_b_19, v_b_20, v_b_27, v_b_28, v_b_29, v_b_30, v_b_31, v_dup_i, v_dup_r, v_dup2, v_pop, v_gi, v_gl, v_gr, v_pi, v_pl, v_pz, v_iald, v_lald, v_bald, v_zald, v_aald, v_iast, v_last, v_bast, v_zast, v_alen_0, v_alen_1, v_alen_2, v_alen_3, v_alen_4, v_j_45, v_j_46, v_j_47, v_j_48, v_j_49, v_j_50, v_j_51, v_j_52, v_j_53, v_j_54, v_j_55, v_j_56, v_goto, v_sw, v_ret_i, v_ret_z, v_ret, v_cpy, v_iv_1, v_iv_2, v_iv_3, v_iv_4, v_iv_5, v_iv_6, v_is2_1, v_is2_2, v_is2_3, v_ivJ, List.nil_append, List.cons_append, rf_0_0, rf_0_1, rf_0_2, rf_0_3, rf_0_4, rf_0_5, rf_0_6, rf_0_7, rf_0_8, rf_0_9, rf_1_0, rf_1_2, rf_4_0, rf_4_1, rf_4_2, rf_5_8, rf_5_9, rf_5_10, rf_5_11, rf_5_12, rf_13_0, rf_13_1, rf_14_0, rf_14_1, rf_14_2, rf_15_8, rf_15_9, rf_15_10, rf_15_11, rf_15_12, rf_23_0, rf_23_1, rf_23_2, rf_24_8, rf_24_9, rf_24_10, rf_24_11, rf_24_12, rf_32_6, rf_34_0, rf_34_1, rf_34_2, rf_34_3, rf_35_8, rf_35_9, rf_35_10, rf_35_11, rf_35_12, rf_43_0, rf_43_1, rf_43_2, rf_43_3, rf_45_0, rf_45_1, rf_46_0, rf_46_1, rf_46_2, rf_46_3, rf_46_4, rf_46_5, rf_47_0, rf_47_1, rf_49_0, rf_49_1, rf_49_2, rf_49_3, rf_49_4, rf_49_5, rf_53_0, rf_53_1, rf_53_2, rf_53_3, rf_53_4, rf_53_5, rf_53_6, rf_53_7, rf_53_9, rf_53_10, rf_53_11, rf_53_12, rf_53_13, rf_54_0, rf_54_1, rf_55_1, rf_55_2, rf_55_3, rf_67_1, rf_67_6, rf_67_7, rf_67_8, rf_67_9, rf_67_10, rf_67_22, rf_67_23, rf_67_28, rf_67_30, rf_67_32, rf_67_33, rf_67_38, rf_67_39, rf_67_48, rf_67_49, rf_67_51, rf_67_52, rf_67_53, rf_67_54, rf_67_55, rf_67_60, rf_67_61, rf_67_62, up_s, up_b, up_j, b_208_42, k_208_42, b_208_43, k_208_43, b_208_56, k_208_56, b_208_57, k_208_57, b_208_64, k_208_64, w_sm, ↓if_pos, ↓if_neg,  ]
theorem un_l2 (c : Nat) (u : Int) (hc : ∀ k : Nat, 6 ≤ k → occ c k = 4) (kk : ∀ M', AgX (fun b _ => b = 74) M0 M' → (∀ j, 0 ≤ j → j < 24 → M' 74 j = RFc wh c j + 1) → Q [] M') : ∀ (t k : Nat) (le : Int) (M : Mem), k + t = 24 → 6 ≤ k → AgX (fun b _ => b = 74) M0 M → (∀ j, 0 ≤ j → j < (k : Int) → M 74 j = RFc wh c j + 1) → XL d 208 4 [aR 22 0 67, aI u, aI le, aI (k : Int)] [] M Q
  | 0, k, le, M, h, h6, hA, hT => by
    have e : k = 24 := by omega
    rw [e] at hT ⊢
    have g := kk M hA hT
    exact (un_3 u le).mpr g
  | t + 1, k, le, M, h, h6, hA, hT => by
    rw [un_2 u le (k : Int) ⟨by omega, by omega⟩]
    have g := un_l2 c u hc kk t (k + 1) 0 (up M 74 (k : Int) 0) (by omega) (by omega) (fun b j hb => by rw [up_b hb]; exact hA b j hb) (fun j j0 j1 => by
      by_cases e : j = (k : Int)
      · rw [e, up_s]
        unfold RFc
        rw [show ((k : Int)).toNat = k by omega, if_neg (by rw [hc k h6]; omega)]
        rfl
      · rw [up_j e]; exact hT j j0 (by omega))
    rw [Int.natCast_add] at g
    exact g
theorem un_l1 {n : Nat} (c : Nat) (u : Int) (hv : vcd m n c) (hn : n ≤ 6) (hw : ∀ i : Nat, i < m → M0 84 (i : Int) = wh i) (kk : ∀ M', AgX (fun b _ => b = 74) M0 M' → (∀ j, 0 ≤ j → j < 24 → M' 74 j = RFc wh c j + 1) → Q [] M') : ∀ (t k : Nat) (M : Mem), k + t = 6 → AgX (fun b _ => b = 74) M0 M → (∀ j, 0 ≤ j → j < (k : Int) → M 74 j = RFc wh c j + 1) → XL d 208 4 [aR 22 0 67, aI u, aI ((rcd c / 5 ^ k : Nat) : Int), aI (k : Int)] [] M Q
  | 0, k, M, h, hA, hT => by
    have e : k = 6 := by omega
    rw [e] at hT ⊢
    exact un_l2 (M0 := M0) (wh := wh) c u (fun k hk => occ_f.mpr (fun i hi => by have := hv.2.2.1 i hi; omega)) kk 18 6 _ M (by omega) (by decide) hA hT
  | t + 1, k, M, h, hA, hT => by
    obtain ⟨s1, s2⟩ := rcd_sp hv hn
    have sk := s2 k (by omega)
    have dle : rcd c / 5 ^ k ≤ rcd c := Nat.div_le_self _ _
    have em : ((rcd c / 5 ^ k : Nat) : Int) % 5 = ((rcd c / 5 ^ k % 5 : Nat) : Int) := (Int.natCast_emod _ 5).symm
    have ed : ((rcd c / 5 ^ k : Nat) : Int) / 5 = ((rcd c / 5 ^ (k + 1) : Nat) : Int) := by
      rw [Nat.pow_succ, ← Nat.div_div_eq_div_mul]
      exact (Int.natCast_ediv _ 5).symm
    have rec9 := un_l1 c u hv hn hw kk t (k + 1)
    have cont : ∀ g9 : Int, g9 = RFc wh c (k : Int) + 1 → XL d 208 4 [aR 22 0 67, aI u, aI ((rcd c / 5 ^ (k + 1) : Nat) : Int), aI ((k : Int) + 1)] [] (up M 74 (k : Int) g9) Q := fun g9 hg => by
      have g := rec9 (up M 74 (k : Int) g9) (by omega) (fun b j hb => by rw [up_b hb]; exact hA b j hb) (fun j j0 j1 => by
        by_cases e : j = (k : Int)
        · rw [e, up_s]; exact hg
        · rw [up_j e]; exact hT j j0 (by omega))
      rw [Int.natCast_add] at g
      exact g
    have yb : 0 ≤ ((rcd c / 5 ^ k : Nat) : Int) ∧ ((rcd c / 5 ^ k : Nat) : Int) < 15625 := by
      clear em ed sk
      generalize rcd c / 5 ^ k = y at dle
      omega
    rw [un_1 u _ (k : Int) _ (wh (occ c k)) ⟨by omega, by omega⟩ yb rfl (fun hpos => by
      rw [em, sk] at hpos ⊢
      by_cases c9 : occ c k < 4
      · rw [if_pos c9]
        rw [show ((occ c k + 1 : Nat) : Int) - 1 = (occ c k : Int) by omega, hA 84 _ (by simp)]
        exact hw _ (vcd_occ hv c9).2
      · rw [if_neg c9] at hpos
        exact absurd hpos (by decide)), ed]
    refine cont _ ?_
    rw [em, sk]
    unfold RFc
    rw [show ((k : Int)).toNat = k by omega]
    by_cases c9 : occ c k < 4
    · rw [if_pos c9, if_pos (by omega), if_pos ⟨by omega, c9⟩]
    · rw [if_neg c9, if_neg (by decide), if_neg (fun h9 => c9 h9.2)]
      rfl
theorem s_unfold {n : Nat} (c : Nat) (hv : vcd m n c) (hn : n ≤ 6) (hw : ∀ i : Nat, i < m → M 84 (i : Int) = wh i) (kk : ∀ M', AgX (fun b _ => b = 74) M M' → (∀ j, 0 ≤ j → j < 24 → M' 74 j = RFc wh c j + 1) → Q [] M') : XC d 208 [aR 22 0 67, aI ((rcd c : Nat) : Int)] M Q := by
  have g := un_l1 (d := d) (Q := Q) c ((rcd c : Nat) : Int) hv hn hw kk 6 0 M (by omega) (fun _ _ _ => rfl) (fun j j0 j1 => absurd j1 (by omega))
  rw [Nat.pow_zero, Nat.div_one] at g
  clear kk
  generalize ((rcd c : Nat) : Int) = u at *
  rw [e_208, k_208_0]
  simp (disch := first | exact nl_i _ | exact nl_r _ | exact Nat.le_of_ble_eq_true rfl | exact Or.inl rfl | exact Or.inr rfl | exact w8_lo _ | exact w8_hi _ | decide | omega) only [v_fall, v_il_0, v_al_0, v_is_0, v_as_0, v_inc_0, v_ll_0, v_ls_0, v_il_1, v_al_1, v_is_1, v_as_1, v_inc_1, v_ll_1, v_ls_1, v_il_2, v_al_2, v_is_2, v_as_2, v_inc_2, v_ll_2, v_ls_2, v_il_3, v_al_3, v_is_3, v_as_3, v_inc_3, v_ll_3, v_ls_3, v_il_4, v_al_4, v_is_4, v_as_4, v_inc_4, v_ll_4, v_ls_4, v_il_5, v_al_5, v_is_5, v_as_5, v_inc_5, v_ll_5, v_ls_5, v_il_6, v_al_6, v_is_6, v_as_6, v_inc_6, v_il_7, v_al_7, v_is_7, v_as_7, v_inc_7, v_il_8, v_al_8, v_is_8, v_as_8, v_inc_8, v_il_9, v_al_9, v_is_9, v_as_9, v_inc_9, v_il_10, v_al_10, v_is_10, v_as_10, v_inc_10, v_il_11, v_al_11, v_is_11, v_as_11, v_inc_11, v_il_12, v_al_12, v_is_12, v_as_12, v_inc_12, v_il_13, v_al_13, v_is_13, v_as_13, v_inc_13, v_c_8, v_c_9, v_c_10, v_c_11, v_c_12, v_c_13, v_c_14, v_b_15, v_b_16, v_b_17, v_b_21, v_b_22, v_b_23, v_b_24, v_b_25, v_b_26, v_b_18, v_b_19, v_b_20, v_b_27, v_b_28, v_b_29, v_b_30, v_b_31, v_dup_i, v_dup_r, v_dup2, v_pop, v_gi, v_gl, v_gr, v_pi, v_pl, v_pz, v_iald, v_lald, v_bald, v_zald, v_aald, v_iast, v_last, v_bast, v_zast, v_alen_0, v_alen_1, v_alen_2, v_alen_3, v_alen_4, v_j_45, v_j_46, v_j_47, v_j_48, v_j_49, v_j_50, v_j_51, v_j_52, v_j_53, v_j_54, v_j_55, v_j_56, v_goto, v_sw, v_ret_i, v_ret_z, v_ret, v_cpy, v_iv_1, v_iv_2, v_iv_3, v_iv_4, v_iv_5, v_iv_6, v_is2_1, v_is2_2, v_is2_3, v_ivJ, List.nil_append, List.cons_append, rf_0_0, rf_0_1, rf_0_2, rf_0_3, rf_0_4, rf_0_5, rf_0_6, rf_0_7, rf_0_8, rf_0_9, rf_1_0, rf_1_2, rf_4_0, rf_4_1, rf_4_2, rf_5_8, rf_5_9, rf_5_10, rf_5_11, rf_5_12, rf_13_0, rf_13_1, rf_14_0, rf_14_1, rf_14_2, rf_15_8, rf_15_9, rf_15_10, rf_15_11, rf_15_12, rf_23_0, rf_23_1, rf_23_2, rf_24_8, rf_24_9, rf_24_10, rf_24_11, rf_24_12, rf_32_6, rf_34_0, rf_34_1, rf_34_2, rf_34_3, rf_35_8, rf_35_9, rf_35_10, rf_35_11, rf_35_12, rf_43_0, rf_43_1, rf_43_2, rf_43_3, rf_45_0, rf_45_1, rf_46_0, rf_46_1, rf_46_2, rf_46_3, rf_46_4, rf_46_5, rf_47_0, rf_47_1, rf_49_0, rf_49_1, rf_49_2, rf_49_3, rf_49_4, rf_49_5, rf_53_0, rf_53_1, rf_53_2, rf_53_3, rf_53_4, rf_53_5, rf_53_6, rf_53_7, rf_53_9, rf_53_10, rf_53_11, rf_53_12, rf_53_13, rf_54_0, rf_54_1, rf_55_1, rf_55_2, rf_55_3, rf_67_1, rf_67_6, rf_67_7, rf_67_8, rf_67_9, rf_67_10, rf_67_22, rf_67_23, rf_67_28, rf_67_30, rf_67_32, rf_67_33, rf_67_38, rf_67_39, rf_67_48, rf_67_49, rf_67_51, rf_67_52, rf_67_53, rf_67_54, rf_67_55, rf_67_60, rf_67_61, rf_67_62, up_s, up_b, up_j, b_208_42, k_208_42, b_208_43, k_208_43, b_208_56, k_208_56, b_208_57, k_208_57, b_208_64, k_208_64, w_sm, ↓if_pos, ↓if_neg,  ]
  exact g
end RC
