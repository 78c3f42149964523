/-! FITS: from the first to the last that has a BARGE -/
/-- the box of the CELLS ahead of m; a0, c0 before any -/
def bxI (w m : Nat) (R : Int → Int) (a0 c0 a b c e : Int) : Prop :=
  (∀ i : Nat, i < m → R i ≠ -1 → (a ≤ ((i % w : Nat) : Int) ∧ ((i % w : Nat) : Int) ≤ b) ∧ c ≤ ((i / w : Nat) : Int) ∧ ((i / w : Nat) : Int) ≤ e) ∧
  (((∀ i : Nat, i < m → R i = -1) ∧ a = a0 ∧ b = -1 ∧ c = c0 ∧ e = -1) ∨ ((∃ i : Nat, i < m ∧ R i ≠ -1 ∧ ((i % w : Nat) : Int) = a) ∧ (∃ i : Nat, i < m ∧ R i ≠ -1 ∧ ((i % w : Nat) : Int) = b) ∧ (∃ i : Nat, i < m ∧ R i ≠ -1 ∧ ((i / w : Nat) : Int) = c) ∧ ∃ i : Nat, i < m ∧ R i ≠ -1 ∧ ((i / w : Nat) : Int) = e))
theorem bxI_0 {w : Nat} {R : Int → Int} {a0 c0 : Int} : bxI w 0 R a0 c0 a0 (-1) c0 (-1) := ⟨fun i hi => absurd hi (Nat.not_lt_zero i), Or.inl ⟨fun i hi => absurd hi (Nat.not_lt_zero i), rfl, rfl, rfl, rfl⟩⟩
theorem bxI_n {w m : Nat} {R : Int → Int} {a0 c0 a b c e : Int} (h : bxI w m R a0 c0 a b c e) (hm : R m = -1) : bxI w (m + 1) R a0 c0 a b c e := by
  obtain ⟨h1, h2⟩ := h
  refine ⟨fun i hi hr => ?_, ?_⟩
  · by_cases e9 : i = m
    · rw [e9] at hr; exact absurd hm hr
    · exact h1 i (by omega) hr
  · rcases h2 with ⟨q1, q2⟩ | ⟨⟨i1, p1, q1⟩, ⟨i2, p2, q2⟩, ⟨i3, p3, q3⟩, i4, p4, q4⟩
    · refine Or.inl ⟨fun i hi => ?_, q2⟩
      by_cases e9 : i = m
      · rw [e9]; exact hm
      · exact q1 i (by omega)
    · exact Or.inr ⟨⟨i1, by omega, q1⟩, ⟨i2, by omega, q2⟩, ⟨i3, by omega, q3⟩, i4, by omega, q4⟩
theorem bxI_y {w m : Nat} {R : Int → Int} {a0 c0 a b c e : Int} (h : bxI w m R a0 c0 a b c e) (hm : R m ≠ -1) (ha : ((m % w : Nat) : Int) < a0) (hc : ((m / w : Nat) : Int) < c0) (a' b' c' e' : Int) (g1 : a' = if ((m % w : Nat) : Int) < a then ((m % w : Nat) : Int) else a) (g2 : b' = if b < ((m % w : Nat) : Int) then ((m % w : Nat) : Int) else b) (g3 : c' = if ((m / w : Nat) : Int) < c then ((m / w : Nat) : Int) else c) (g4 : e' = ((m / w : Nat) : Int)) : bxI w (m + 1) R a0 c0 a' b' c' e' := by
  obtain ⟨h1, h2⟩ := h
  have k1 : a' ≤ a ∧ a' ≤ ((m % w : Nat) : Int) ∧ (a' = a ∨ a' = ((m % w : Nat) : Int)) := by
    by_cases c9 : ((m % w : Nat) : Int) < a
    · rw [if_pos c9] at g1; omega
    · rw [if_neg c9] at g1; omega
  have k2 : b ≤ b' ∧ ((m % w : Nat) : Int) ≤ b' ∧ (b' = b ∨ b' = ((m % w : Nat) : Int)) := by
    by_cases c9 : b < ((m % w : Nat) : Int)
    · rw [if_pos c9] at g2; omega
    · rw [if_neg c9] at g2; omega
  have k3 : c' ≤ c ∧ c' ≤ ((m / w : Nat) : Int) ∧ (c' = c ∨ c' = ((m / w : Nat) : Int)) := by
    by_cases c9 : ((m / w : Nat) : Int) < c
    · rw [if_pos c9] at g3; omega
    · rw [if_neg c9] at g3; omega
  clear g1 g2 g3
  refine ⟨fun i hi hr => ?_, Or.inr ?_⟩
  · by_cases e9 : i = m
    · rw [e9]; omega
    · have q := h1 i (by omega) hr
      have q5 : i / w ≤ m / w := Nat.div_le_div_right (by omega)
      omega
  · rcases h2 with ⟨q1, q2, q3, q4, q5⟩ | ⟨⟨i1, p1, q1, r1⟩, ⟨i2, p2, q2, r2⟩, ⟨i3, p3, q3, r3⟩, i4, p4, q4, r4⟩
    · exact ⟨⟨m, by omega, hm, by omega⟩, ⟨m, by omega, hm, by omega⟩, ⟨m, by omega, hm, by omega⟩, m, by omega, hm, by omega⟩
    · refine ⟨?_, ?_, ?_, m, by omega, hm, by omega⟩
      · rcases k1.2.2 with h | h
        · exact ⟨i1, by omega, q1, by omega⟩
        · exact ⟨m, by omega, hm, by omega⟩
      · rcases k2.2.2 with h | h
        · exact ⟨i2, by omega, q2, by omega⟩
        · exact ⟨m, by omega, hm, by omega⟩
      · rcases k3.2.2 with h | h
        · exact ⟨i3, by omega, q3, by omega⟩
        · exact ⟨m, by omega, hm, by omega⟩
/-- FITS -/
def fitP (w n : Nat) (R D : Int → Int) (broad long deep edge : Int) : Prop :=
  (∀ i : Nat, i < n → R i ≠ -1 → D (R i) ≤ deep) ∧ ∀ a b c e : Int, ((∀ i : Nat, i < n → R i ≠ -1 → (a ≤ ((i % w : Nat) : Int) ∧ ((i % w : Nat) : Int) ≤ b) ∧ c ≤ ((i / w : Nat) : Int) ∧ ((i / w : Nat) : Int) ≤ e) ∧ (∃ i : Nat, i < n ∧ R i ≠ -1 ∧ ((i % w : Nat) : Int) = a) ∧ (∃ i : Nat, i < n ∧ R i ≠ -1 ∧ ((i % w : Nat) : Int) = b) ∧ (∃ i : Nat, i < n ∧ R i ≠ -1 ∧ ((i / w : Nat) : Int) = c) ∧ ∃ i : Nat, i < n ∧ R i ≠ -1 ∧ ((i / w : Nat) : Int) = e) →
    b - a + 1 ≤ broad ∧ e - c + 1 ≤ long ∧ (b - a + 1 = broad → ∀ i : Nat, i < n → R i ≠ -1 → (((i % w : Nat) : Int) = a ∨ ((i % w : Nat) : Int) = b) → D (R i) ≤ edge)
theorem fitP_0 {w n : Nat} {R D : Int → Int} {broad long deep edge : Int} (h : ∀ i : Nat, i < n → R i = -1) : fitP w n R D broad long deep edge :=
  ⟨fun i hi hr => absurd (h i hi) hr, fun a b c e ⟨_, ⟨i, hi, hr, _⟩, _⟩ => absurd (h i hi) hr⟩
theorem fitP_x {w n : Nat} {R D : Int → Int} {broad long deep edge a0 c0 a b c e : Int} (hb : bxI w n R a0 c0 a b c e) (hne : ¬ ∀ i : Nat, i < n → R i = -1) : fitP w n R D broad long deep edge ↔ (∀ i : Nat, i < n → R i ≠ -1 → D (R i) ≤ deep) ∧ b - a + 1 ≤ broad ∧ e - c + 1 ≤ long ∧ (b - a + 1 = broad → ∀ i : Nat, i < n → R i ≠ -1 → (((i % w : Nat) : Int) = a ∨ ((i % w : Nat) : Int) = b) → D (R i) ≤ edge) := by
  obtain ⟨h1, h2⟩ := hb
  have h3 := h2.resolve_left (fun h => hne h.1)
  constructor
  · intro h
    exact ⟨h.1, h.2 a b c e ⟨h1, h3⟩⟩
  · rintro ⟨g1, g2⟩
    refine ⟨g1, ?_⟩
    rintro a' b' c' e' ⟨f1, ⟨i1, p1, q1, r1⟩, ⟨i2, p2, q2, r2⟩, ⟨i3, p3, q3, r3⟩, i4, p4, q4, r4⟩
    obtain ⟨⟨j1, s1, t1, u1⟩, ⟨j2, s2, t2, u2⟩, ⟨j3, s3, t3, u3⟩, j4, s4, t4, u4⟩ := h3
    have x1 := h1 i1 p1 q1
    have x2 := h1 i2 p2 q2
    have x3 := h1 i3 p3 q3
    have x4 := h1 i4 p4 q4
    have y1 := f1 j1 s1 t1
    have y2 := f1 j2 s2 t2
    have y3 := f1 j3 s3 t3
    have y4 := f1 j4 s4 t4
    rw [show a' = a by omega, show b' = b by omega, show c' = c by omega, show e' = e by omega]
    exact g2
theorem fitP_cg1 {w n : Nat} {R R2 D D2 : Int → Int} {broad long deep edge : Int} (hR : ∀ i : Nat, i < n → R i = R2 i) (hD : ∀ i : Nat, i < n → R i ≠ -1 → D (R i) = D2 (R i)) (h : fitP w n R D broad long deep edge) : fitP w n R2 D2 broad long deep edge := by
  have hR2 : ∀ i : Nat, i < n → R2 i ≠ -1 → R i ≠ -1 := fun i hi h => by rw [hR i hi]; exact h
  have hD2 : ∀ i : Nat, i < n → R2 i ≠ -1 → D2 (R2 i) = D (R i) := fun i hi h => by rw [hD i hi (hR2 i hi h), hR i hi]
  have hR3 : ∀ i : Nat, i < n → R i ≠ -1 → R2 i ≠ -1 := fun i hi h => by rw [← hR i hi]; exact h
  refine ⟨fun i hi hr => by rw [hD2 i hi hr]; exact h.1 i hi (hR2 i hi hr), ?_⟩
  rintro a b c e ⟨f1, ⟨i1, p1, q1, r1⟩, ⟨i2, p2, q2, r2⟩, ⟨i3, p3, q3, r3⟩, i4, p4, q4, r4⟩
  obtain ⟨g1, g2, g3⟩ := h.2 a b c e ⟨fun i hi hr => f1 i hi (hR3 i hi hr), ⟨i1, p1, hR2 i1 p1 q1, r1⟩, ⟨i2, p2, hR2 i2 p2 q2, r2⟩, ⟨i3, p3, hR2 i3 p3 q3, r3⟩, i4, p4, hR2 i4 p4 q4, r4⟩
  exact ⟨g1, g2, fun hh i hi hr hc => by rw [hD2 i hi hr]; exact g3 hh i hi (hR2 i hi hr) hc⟩
theorem fitP_cg {w n : Nat} {R R2 D D2 : Int → Int} {broad long deep edge : Int} (hR : ∀ i : Nat, i < n → R i = R2 i) (hD : ∀ i : Nat, i < n → R i ≠ -1 → D (R i) = D2 (R i)) : fitP w n R D broad long deep edge ↔ fitP w n R2 D2 broad long deep edge :=
  ⟨fitP_cg1 hR hD, fitP_cg1 (fun i hi => (hR i hi).symm) (fun i hi h => by rw [← hR i hi] at h ⊢; exact (hD i hi h).symm)⟩
/-- what measure leaves -/
def mbx (M : Mem) (a b c e : Int) : Mem := up (up (up (up M 43 4 a) 43 5 b) 43 6 c) 43 7 e
theorem mbx_b {M : Mem} {a b c e : Int} {x : Nat} (h : x ≠ 43) : mbx M a b c e x = M x := by
  unfold mbx
  rw [up_r h, up_r h, up_r h, up_r h]
theorem mbx_4 {M : Mem} {a b c e : Int} : mbx M a b c e 43 4 = a := by
  unfold mbx
  rw [up_j (by decide), up_j (by decide), up_j (by decide), up_s]
theorem mbx_5 {M : Mem} {a b c e : Int} : mbx M a b c e 43 5 = b := by
  unfold mbx
  rw [up_j (by decide), up_j (by decide), up_s]
theorem mbx_6 {M : Mem} {a b c e : Int} : mbx M a b c e 43 6 = c := by
  unfold mbx
  rw [up_j (by decide), up_s]
theorem mbx_7 {M : Mem} {a b c e : Int} : mbx M a b c e 43 7 = e := by
  unfold mbx
  rw [up_s]
theorem mbx_m {M : Mem} {a b c e a' b' c' e' : Int} : up (up (up (up (mbx M a b c e) 43 6 c') 43 7 e') 43 4 a') 43 5 b' = mbx M a' b' c' e' := by
  funext x j
  unfold mbx up
  by_cases hx : x = 43
  · subst hx
    by_cases h4 : j = 4
    · subst h4; simp
    · by_cases h5 : j = 5
      · subst h5; simp
      · by_cases h6 : j = 6
        · subst h6; simp
        · by_cases h7 : j = 7
          · subst h7; simp
          · simp [h4, h5, h6, h7]
  · simp [hx]
section ME
variable {d : Nat} {M : Mem} {Q : List AV → Mem → Prop}
theorem me_1 (ca : Nat) (r k w i x a b c e a' b' c' e' : Int) (hca : ca ≠ 43) (hw : M 32 0 = w) (hwb : 1 ≤ w ∧ w ≤ 4) (hk : 0 ≤ k ∧ k < w) (hr : 0 ≤ r ∧ r < 6) (hi : r * w + k = i) (hib : 0 ≤ i ∧ i < 24) (hx : M ca i = x) (hxb : -1 ≤ x ∧ x < 9) (hab : (0 ≤ a ∧ a ≤ 9) ∧ (-1 ≤ b ∧ b ≤ 9) ∧ (0 ≤ c ∧ c ≤ 9)) (g1 : a' = if k < a then k else a) (g2 : b' = if b < k then k else b) (g3 : c' = if r < c then r else c) (g4 : e' = r) : XL (d + 1) 47 36 [aR 14 0 43, aR 0 24 ca, aI r, aI k] [] (mbx M a b c e) Q ↔ (if x = -1 then XL (d + 1) 47 36 [aR 14 0 43, aR 0 24 ca, aI r, aI (k + 1)] [] (mbx M a b c e) Q else XL (d + 1) 47 36 [aR 14 0 43, aR 0 24 ca, aI r, aI (k + 1)] [] (mbx M a' b' c' e') Q) := by
  have r1 : mbx M a b c e 32 0 = w := by rw [mbx_b (by decide)]; exact hw
  have r2 : mbx M a b c e ca i = x := by rw [mbx_b hca]; exact hx
  rw [b_47_36, k_47_36]
  by_cases h : x = -1
  · simp (disch := first | exact nl_i _ | exact nl_r _ | exact Nat.le_of_ble_eq_true rfl | exact Or.inl rfl | exact Or.inr rfl | exact w8_lo _ | exact w8_hi _ | decide | omega) only [v_fall, v_il_0, v_al_0, v_is_0, v_as_0, v_inc_0, v_ll_0, v_ls_0, v_il_1, v_al_1, v_is_1, v_as_1, v_inc_1, v_ll_1, v_ls_1, v_il_2, v_al_2, v_is_2, v_as_2, v_inc_2, v_ll_2, v_ls_2, v_il_3, v_al_3, v_is_3, v_as_3, v_inc_3, v_ll_3, v_ls_3, v_il_4, v_al_4, v_is_4, v_as_4, v_inc_4, v_ll_4, v_ls_4, v_il_5, v_al_5, v_is_5, v_as_5, v_inc_5, v_ll_5, v_ls_5, v_il_6, v_al_6, v_is_6, v_as_6, v_inc_6, v_il_7, v_al_7, v_is_7, v_as_7, v_inc_7, v_il_8, v_al_8, v_is_8, v_as_8, v_inc_8, v_il_9, v_al_9, v_is_9, v_as_9, v_inc_9, v_il_10, v_al_10, v_is_10, v_as_10, v_inc_10, v_il_11, v_al_11, v_is_11, v_as_11, v_inc_11, v_il_12, v_al_12, v_is_12, v_as_12, v_inc_12, v_il_13, v_al_13, v_is_13, v_as_13, v_inc_13, v_c_8, v_c_9, v_c_10, v_c_11, v_c_12, v_c_13, v_c_14, v_b_15, v_b_16, v_b_17, v_b_21, v_b_22, v_b_23, v_b_24, v_b_25, v_b_26, v_b_18, v_b_19, v_b_20, v_b_27, v_b_28, v_b_29, v_b_30, v_b_31, v_dup_i, v_dup_r, v_dup2, v_pop, v_gi, v_gl, v_gr, v_pi, v_pl, v_pz, v_iald, v_lald, v_bald, v_zald, v_aald, v_iast, v_last, v_bast, v_zast, v_alen_0, v_alen_1, v_alen_2, v_alen_3, v_alen_4, v_j_45, v_j_46, v_j_47, v_j_48, v_j_49, v_j_50, v_j_51, v_j_52, v_j_53, v_j_54, v_j_55, v_j_56, v_goto, v_sw, v_ret_i, v_ret_z, v_ret, v_cpy, v_iv_1, v_iv_2, v_iv_3, v_iv_4, v_iv_5, v_iv_6, v_is2_1, v_is2_2, v_is2_3, v_ivJ, List.nil_append, List.cons_append, rf_0_0, rf_0_1, rf_0_2, rf_0_3, rf_0_4, rf_0_5, rf_0_6, rf_0_7, rf_0_8, rf_0_9, rf_1_0, rf_1_2, rf_4_0, rf_4_1, rf_4_2, rf_5_8, rf_5_9, rf_5_10, rf_5_11, rf_5_12, rf_13_0, rf_13_1, rf_14_0, rf_14_1, rf_14_2, rf_15_8, rf_15_9, rf_15_10, rf_15_11, rf_15_12, rf_23_0, rf_23_1, rf_23_2, rf_24_8, rf_24_9, rf_24_10, rf_24_11, rf_24_12, rf_32_6, rf_34_0, rf_34_1, rf_34_2, rf_34_3, rf_35_8, rf_35_9, rf_35_10, rf_35_11, rf_35_12, rf_43_0, rf_43_1, rf_43_2, rf_43_3, rf_45_0, rf_45_1, rf_46_0, rf_46_1, rf_46_2, rf_46_3, rf_46_4, rf_46_5, rf_47_0, rf_47_1, rf_49_0, rf_49_1, rf_49_2, rf_49_3, rf_49_4, rf_49_5, rf_53_0, rf_53_1, rf_53_2, rf_53_3, rf_53_4, rf_53_5, rf_53_6, rf_53_7, rf_53_9, rf_53_10, rf_53_11, rf_53_12, rf_53_13, rf_54_0, rf_54_1, rf_55_1, rf_55_2, rf_55_3, rf_67_1, rf_67_6, rf_67_7, rf_67_8, rf_67_9, rf_67_10, rf_67_22, rf_67_23, rf_67_28, rf_67_30, rf_67_32, rf_67_33, rf_67_38, rf_67_39, rf_67_48, rf_67_49, rf_67_51, rf_67_52, rf_67_53, rf_67_54, rf_67_55, rf_67_60, rf_67_61, rf_67_62, up_s, up_b, up_j, b_47_105, k_47_105, b_47_111, k_47_111, b_47_117, k_47_117, w_sm, ↓if_pos, ↓if_neg,  r1, r2, hi]
  · rw [if_neg h]
    rw [← mbx_m (a := a) (b := b) (c := c) (e := e) (a' := a') (b' := b') (c' := c') (e' := e'), g1, g2, g3, g4]
    simp (disch := first | exact nl_i _ | exact nl_r _ | exact Nat.le_of_ble_eq_true rfl | exact Or.inl rfl | exact Or.inr rfl | exact w8_lo _ | exact w8_hi _ | decide | omega) only [v_fall, v_il_0, v_al_0, v_is_0, v_as_0, v_inc_0, v_ll_0, v_ls_0, v_il_1, v_al_1, v_is_1, v_as_1, v_inc_1, v_ll_1, v_ls_1, v_il_2, v_al_2, v_is_2, v_as_2, v_inc_2, v_ll_2, v_ls_2, v_il_3, v_al_3, v_is_3, v_as_3, v_inc_3, v_ll_3, v_ls_3, v_il_4, v_al_4, v_is_4, v_as_4, v_inc_4, v_ll_4, v_ls_4, v_il_5, v_al_5, v_is_5, v_as_5, v_inc_5, v_ll_5, v_ls_5, v_il_6, v_al_6, v_is_6, v_as_6, v_inc_6, v_il_7, v_al_7, v_is_7, v_as_7, v_inc_7, v_il_8, v_al_8, v_is_8, v_as_8, v_inc_8, v_il_9, v_al_9, v_is_9, v_as_9, v_inc_9, v_il_10, v_al_10, v_is_10, v_as_10, v_inc_10, v_il_11, v_al_11, v_is_11, v_as_11, v_inc_11, v_il_12, v_al_12, v_is_12, v_as_12, v_inc_12, v_il_13, v_al_13, v_is_13, v_as_13, v_inc_13, v_c_8, v_c_9, v_c_10, v_c_11, v_c_12, v_c_13, v_c_14, v_b_15, v_b_16, v_b_17, v_b_21, v_b_22, v_b_23, v_b_24, v_b_25, v_b_26, v_b_18, v_b_19, v_b_20, v_b_27, v_b_28, v_b_29, v_b_30, v_b_31, v_dup_i, v_dup_r, v_dup2, v_pop, v_gi, v_gl, v_gr, v_pi, v_pl, v_pz, v_iald, v_lald, v_bald, v_zald, v_aald, v_iast, v_last, v_bast, v_zast, v_alen_0, v_alen_1, v_alen_2, v_alen_3, v_alen_4, v_j_45, v_j_46, v_j_47, v_j_48, v_j_49, v_j_50, v_j_51, v_j_52, v_j_53, v_j_54, v_j_55, v_j_56, v_goto, v_sw, v_ret_i, v_ret_z, v_ret, v_cpy, v_iv_1, v_iv_2, v_iv_3, v_iv_4, v_iv_5, v_iv_6, v_is2_1, v_is2_2, v_is2_3, v_ivJ, List.nil_append, List.cons_append, rf_0_0, rf_0_1, rf_0_2, rf_0_3, rf_0_4, rf_0_5, rf_0_6, rf_0_7, rf_0_8, rf_0_9, rf_1_0, rf_1_2, rf_4_0, rf_4_1, rf_4_2, rf_5_8, rf_5_9, rf_5_10, rf_5_11, rf_5_12, rf_13_0, rf_13_1, rf_14_0, rf_14_1, rf_14_2, rf_15_8, rf_15_9, rf_15_10, rf_15_11, rf_15_12, rf_23_0, rf_23_1, rf_23_2, rf_24_8, rf_24_9, rf_24_10, rf_24_11, rf_24_12, rf_32_6, rf_34_0, rf_34_1, rf_34_2, rf_34_3, rf_35_8, rf_35_9, rf_35_10, rf_35_11, rf_35_12, rf_43_0, rf_43_1, rf_43_2, rf_43_3, rf_45_0, rf_45_1, rf_46_0, rf_46_1, rf_46_2, rf_46_3, rf_46_4, rf_46_5, rf_47_0, rf_47_1, rf_49_0, rf_49_1, rf_49_2, rf_49_3, rf_49_4, rf_49_5, rf_53_0, rf_53_1, rf_53_2, rf_53_3, rf_53_4, rf_53_5, rf_53_6, rf_53_7, rf_53_9, rf_53_10, rf_53_11, rf_53_12, rf_53_13, rf_54_0, rf_54_1, rf_55_1, rf_55_2, rf_55_3, rf_67_1, rf_67_6, rf_67_7, rf_67_8, rf_67_9, rf_67_10, rf_67_22, rf_67_23, rf_67_28, rf_67_30, rf_67_32, rf_67_33, rf_67_38, rf_67_39, rf_67_48, rf_67_49, rf_67_51, rf_67_52, rf_67_53, rf_67_54, rf_67_55, rf_67_60, rf_67_61, rf_67_62, up_s, up_b, up_j, b_47_105, k_47_105, b_47_111, k_47_111, b_47_117, k_47_117, w_sm, ↓if_pos, ↓if_neg,  r1, r2, hi, s_min, s_max, mbx_4, mbx_5, mbx_6, mbx_7]
theorem me_2 (r w : Int) (o1 : AV) (hw : M 32 0 = w) (hwb : 1 ≤ w ∧ w ≤ 4) : XL d 47 36 [aR 14 0 43, o1, aI r, aI w] [] M Q ↔ XL d 47 23 [aR 14 0 43, o1, aI (r + 1), aI w] [] M Q := by
  rw [b_47_36, k_47_36]
  simp (disch := first | exact nl_i _ | exact nl_r _ | exact Nat.le_of_ble_eq_true rfl | exact Or.inl rfl | exact Or.inr rfl | exact w8_lo _ | exact w8_hi _ | decide | omega) only [v_fall, v_il_0, v_al_0, v_is_0, v_as_0, v_inc_0, v_ll_0, v_ls_0, v_il_1, v_al_1, v_is_1, v_as_1, v_inc_1, v_ll_1, v_ls_1, v_il_2, v_al_2, v_is_2, v_as_2, v_inc_2, v_ll_2, v_ls_2, v_il_3, v_al_3, v_is_3, v_as_3, v_inc_3, v_ll_3, v_ls_3, v_il_4, v_al_4, v_is_4, v_as_4, v_inc_4, v_ll_4, v_ls_4, v_il_5, v_al_5, v_is_5, v_as_5, v_inc_5, v_ll_5, v_ls_5, v_il_6, v_al_6, v_is_6, v_as_6, v_inc_6, v_il_7, v_al_7, v_is_7, v_as_7, v_inc_7, v_il_8, v_al_8, v_is_8, v_as_8, v_inc_8, v_il_9, v_al_9, v_is_9, v_as_9, v_inc_9, v_il_10, v_al_10, v_is_10, v_as_10, v_inc_10, v_il_11, v_al_11, v_is_11, v_as_11, v_inc_11, v_il_12, v_al_12, v_is_12, v_as_12, v_inc_12, v_il_13, v_al_13, v_is_13, v_as_13, v_inc_13, v_c_8, v_c_9, v_c_10, v_c_11, v_c_12, v_c_13, v_c_14, v_b_15, v_b_16, v_b_17, v_b_21, v_b_22, v_b_23, v_b_24, v_b_25, v_b_26, v_b_18, v_b_19, v_b_20, v_b_27, v_b_28, v_b_29, v_b_30, v_b_31, v_dup_i, v_dup_r, v_dup2, v_pop, v_gi, v_gl, v_gr, v_pi, v_pl, v_pz, v_iald, v_lald, v_bald, v_zald, v_aald, v_iast, v_last, v_bast, v_zast, v_alen_0, v_alen_1, v_alen_2, v_alen_3, v_alen_4, v_j_45, v_j_46, v_j_47, v_j_48, v_j_49, v_j_50, v_j_51, v_j_52, v_j_53, v_j_54, v_j_55, v_j_56, v_goto, v_sw, v_ret_i, v_ret_z, v_ret, v_cpy, v_iv_1, v_iv_2, v_iv_3, v_iv_4, v_iv_5, v_iv_6, v_is2_1, v_is2_2, v_is2_3, v_ivJ, List.nil_append, List.cons_append, rf_0_0, rf_0_1, rf_0_2, rf_0_3, rf_0_4, rf_0_5, rf_0_6, rf_0_7, rf_0_8, rf_0_9, rf_1_0, rf_1_2, rf_4_0, rf_4_1, rf_4_2, rf_5_8, rf_5_9, rf_5_10, rf_5_11, rf_5_12, rf_13_0, rf_13_1, rf_14_0, rf_14_1, rf_14_2, rf_15_8, rf_15_9, rf_15_10, rf_15_11, rf_15_12, rf_23_0, rf_23_1, rf_23_2, rf_24_8, rf_24_9, rf_24_10, rf_24_11, rf_24_12, rf_32_6, rf_34_0, rf_34_1, rf_34_2, rf_34_3, rf_35_8, rf_35_9, rf_35_10, rf_35_11, rf_35_12, rf_43_0, rf_43_1, rf_43_2, rf_43_3, rf_45_0, rf_45_1, rf_46_0, rf_46_1, rf_46_2, rf_46_3, rf_46_4, rf_46_5, rf_47_0, rf_47_1, rf_49_0, rf_49_1, rf_49_2, rf_49_3, rf_49_4, rf_49_5, rf_53_0, rf_53_1, rf_53_2, rf_53_3, rf_53_4, rf_53_5, rf_53_6, rf_53_7, rf_53_9, rf_53_10, rf_53_11, rf_53_12, rf_53_13, rf_54_0, rf_54_1, rf_55_1, rf_55_2, rf_55_3, rf_67_1, rf_67_6, rf_67_7, rf_67_8, rf_67_9, rf_67_10, rf_67_22, rf_67_23, rf_67_28, rf_67_30, rf_67_32, rf_67_33, rf_67_38, rf_67_39, rf_67_48, rf_67_49, rf_67_51, rf_67_52, rf_67_53, rf_67_54, rf_67_55, rf_67_60, rf_67_61, rf_67_62, up_s, up_b, up_j, b_47_105, k_47_105, b_47_111, k_47_111, b_47_117, k_47_117, w_sm, ↓if_pos, ↓if_neg,  hw]
theorem me_3 (r l : Int) (o1 o3 : AV) (hl : M 32 1 = l) (hlb : 1 ≤ l ∧ l ≤ 6) (hr : 0 ≤ r ∧ r ≤ l) : XL d 47 23 [aR 14 0 43, o1, aI r, o3] [] M Q ↔ (if r < l then XL d 47 36 [aR 14 0 43, o1, aI r, aI 0] [] M Q else Q [] M) := by
  rw [b_47_23, k_47_23]
  by_cases h : r < l
  · simp (disch := first | exact nl_i _ | exact nl_r _ | exact Nat.le_of_ble_eq_true rfl | exact Or.inl rfl | exact Or.inr rfl | exact w8_lo _ | exact w8_hi _ | decide | omega) only [v_fall, v_il_0, v_al_0, v_is_0, v_as_0, v_inc_0, v_ll_0, v_ls_0, v_il_1, v_al_1, v_is_1, v_as_1, v_inc_1, v_ll_1, v_ls_1, v_il_2, v_al_2, v_is_2, v_as_2, v_inc_2, v_ll_2, v_ls_2, v_il_3, v_al_3, v_is_3, v_as_3, v_inc_3, v_ll_3, v_ls_3, v_il_4, v_al_4, v_is_4, v_as_4, v_inc_4, v_ll_4, v_ls_4, v_il_5, v_al_5, v_is_5, v_as_5, v_inc_5, v_ll_5, v_ls_5, v_il_6, v_al_6, v_is_6, v_as_6, v_inc_6, v_il_7, v_al_7, v_is_7, v_as_7, v_inc_7, v_il_8, v_al_8, v_is_8, v_as_8, v_inc_8, v_il_9, v_al_9, v_is_9, v_as_9, v_inc_9, v_il_10, v_al_10, v_is_10, v_as_10, v_inc_10, v_il_11, v_al_11, v_is_11, v_as_11, v_inc_11, v_il_12, v_al_12, v_is_12, v_as_12, v_inc_12, v_il_13, v_al_13, v_is_13, v_as_13, v_inc_13, v_c_8, v_c_9, v_c_10, v_c_11, v_c_12, v_c_13, v_c_14, v_b_15, v_b_16, v_b_17, v_b_21, v_b_22, v_b_23, v_b_24, v_b_25, v_b_26, v_b_18, v_b_19, v_b_20, v_b_27, v_b_28, v_b_29, v_b_30, v_b_31, v_dup_i, v_dup_r, v_dup2, v_pop, v_gi, v_gl, v_gr, v_pi, v_pl, v_pz, v_iald, v_lald, v_bald, v_zald, v_aald, v_iast, v_last, v_bast, v_zast, v_alen_0, v_alen_1, v_alen_2, v_alen_3, v_alen_4, v_j_45, v_j_46, v_j_47, v_j_48, v_j_49, v_j_50, v_j_51, v_j_52, v_j_53, v_j_54, v_j_55, v_j_56, v_goto, v_sw, v_ret_i, v_ret_z, v_ret, v_cpy, v_iv_1, v_iv_2, v_iv_3, v_iv_4, v_iv_5, v_iv_6, v_is2_1, v_is2_2, v_is2_3, v_ivJ, List.nil_append, List.cons_append, rf_0_0, rf_0_1, rf_0_2, rf_0_3, rf_0_4, rf_0_5, rf_0_6, rf_0_7, rf_0_8, rf_0_9, rf_1_0, rf_1_2, rf_4_0, rf_4_1, rf_4_2, rf_5_8, rf_5_9, rf_5_10, rf_5_11, rf_5_12, rf_13_0, rf_13_1, rf_14_0, rf_14_1, rf_14_2, rf_15_8, rf_15_9, rf_15_10, rf_15_11, rf_15_12, rf_23_0, rf_23_1, rf_23_2, rf_24_8, rf_24_9, rf_24_10, rf_24_11, rf_24_12, rf_32_6, rf_34_0, rf_34_1, rf_34_2, rf_34_3, rf_35_8, rf_35_9, rf_35_10, rf_35_11, rf_35_12, rf_43_0, rf_43_1, rf_43_2, rf_43_3, rf_45_0, rf_45_1, rf_46_0, rf_46_1, rf_46_2, rf_46_3, rf_46_4, rf_46_5, rf_47_0, rf_47_1, rf_49_0, rf_49_1, rf_49_2, rf_49_3, rf_49_4, rf_49_5, rf_53_0, rf_53_1, rf_53_2, rf_53_3, rf_53_4, rf_53_5, rf_53_6, rf_53_7, rf_53_9, rf_53_10, rf_53_11, rf_53_12, rf_53_13, rf_54_0, rf_54_1, rf_55_1, rf_55_2, rf_55_3, rf_67_1, rf_67_6, rf_67_7, rf_67_8, rf_67_9, rf_67_10, rf_67_22, rf_67_23, rf_67_28, rf_67_30, rf_67_32, rf_67_33, rf_67_38, rf_67_39, rf_67_48, rf_67_49, rf_67_51, rf_67_52, rf_67_53, rf_67_54, rf_67_55, rf_67_60, rf_67_61, rf_67_62, up_s, up_b, up_j, b_47_105, k_47_105, b_47_111, k_47_111, b_47_117, k_47_117, w_sm, ↓if_pos, ↓if_neg,  hl]
  · simp (disch := first | exact nl_i _ | exact nl_r _ | exact Nat.le_of_ble_eq_true rfl | exact Or.inl rfl | exact Or.inr rfl | exact w8_lo _ | exact w8_hi _ | decide | omega) only [v_fall, v_il_0, v_al_0, v_is_0, v_as_0, v_inc_0, v_ll_0, v_ls_0, v_il_1, v_al_1, v_is_1, v_as_1, v_inc_1, v_ll_1, v_ls_1, v_il_2, v_al_2, v_is_2, v_as_2, v_inc_2, v_ll_2, v_ls_2, v_il_3, v_al_3, v_is_3, v_as_3, v_inc_3, v_ll_3, v_ls_3, v_il_4, v_al_4, v_is_4, v_as_4, v_inc_4, v_ll_4, v_ls_4, v_il_5, v_al_5, v_is_5, v_as_5, v_inc_5, v_ll_5, v_ls_5, v_il_6, v_al_6, v_is_6, v_as_6, v_inc_6, v_il_7, v_al_7, v_is_7, v_as_7, v_inc_7, v_il_8, v_al_8, v_is_8, v_as_8, v_inc_8, v_il_9, v_al_9, v_is_9, v_as_9, v_inc_9, v_il_10, v_al_10, v_is_10, v_as_10, v_inc_10, v_il_11, v_al_11, v_is_11, v_as_11, v_inc_11, v_il_12, v_al_12, v_is_12, v_as_12, v_inc_12, v_il_13, v_al_13, v_is_13, v_as_13, v_inc_13, v_c_8, v_c_9, v_c_10, v_c_11, v_c_12, v_c_13, v_c_14, v_b_15, v_b_16, v_b_17, v_b_21, v_b_22, v_b_23, v_b_24, v_b_25, v_b_26, v_b_18, v_b_19, v_b_20, v_b_27, v_b_28, v_b_29, v_b_30, v_b_31, v_dup_i, v_dup_r, v_dup2, v_pop, v_gi, v_gl, v_gr, v_pi, v_pl, v_pz, v_iald, v_lald, v_bald, v_zald, v_aald, v_iast, v_last, v_bast, v_zast, v_alen_0, v_alen_1, v_alen_2, v_alen_3, v_alen_4, v_j_45, v_j_46, v_j_47, v_j_48, v_j_49, v_j_50, v_j_51, v_j_52, v_j_53, v_j_54, v_j_55, v_j_56, v_goto, v_sw, v_ret_i, v_ret_z, v_ret, v_cpy, v_iv_1, v_iv_2, v_iv_3, v_iv_4, v_iv_5, v_iv_6, v_is2_1, v_is2_2, v_is2_3, v_ivJ, List.nil_append, List.cons_append, rf_0_0, rf_0_1, rf_0_2, rf_0_3, rf_0_4, rf_0_5, rf_0_6, rf_0_7, rf_0_8, rf_0_9, rf_1_0, rf_1_2, rf_4_0, rf_4_1, rf_4_2, rf_5_8, rf_5_9, rf_5_10, rf_5_11, rf_5_12, rf_13_0, rf_13_1, rf_14_0, rf_14_1, rf_14_2, rf_15_8, rf_15_9, rf_15_10, rf_15_11, rf_15_12, rf_23_0, rf_23_1, rf_23_2, rf_24_8, rf_24_9, rf_24_10, rf_24_11, rf_24_12, rf_32_6, rf_34_0, rf_34_1, rf_34_2, rf_34_3, rf_35_8, rf_35_9, rf_35_10, rf_35_11, rf_35_12, rf_43_0, rf_43_1, rf_43_2, rf_43_3, rf_45_0, rf_45_1, rf_46_0, rf_46_1, rf_46_2, rf_46_3, rf_46_4, rf_46_5, rf_47_0, rf_47_1, rf_49_0, rf_49_1, rf_49_2, rf_49_3, rf_49_4, rf_49_5, rf_53_0, rf_53_1, rf_53_2, rf_53_3, rf_53_4, rf_53_5, rf_53_6, rf_53_7, rf_53_9, rf_53_10, rf_53_11, rf_53_12, rf_53_13, rf_54_0, rf_54_1, rf_55_1, rf_55_2, rf_55_3, rf_67_1, rf_67_6, rf_67_7, rf_67_8, rf_67_9, rf_67_10, rf_67_22, rf_67_23, rf_67_28, rf_67_30, rf_67_32, rf_67_33, rf_67_38, rf_67_39, rf_67_48, rf_67_49, rf_67_51, rf_67_52, rf_67_53, rf_67_54, rf_67_55, rf_67_60, rf_67_61, rf_67_62, up_s, up_b, up_j, b_47_105, k_47_105, b_47_111, k_47_111, b_47_117, k_47_117, w_sm, ↓if_pos, ↓if_neg,  hl]
theorem bx_bd {w n : Nat} {R : Int → Int} {a b c e : Int} (hw : 1 ≤ w ∧ w ≤ 4) (hn : n ≤ w * 6) (h : bxI w n R 4 6 a b c e) : ((0 ≤ a ∧ a ≤ 9) ∧ (-1 ≤ b ∧ b ≤ 9) ∧ (0 ≤ c ∧ c ≤ 9)) ∧ -1 ≤ e ∧ e ≤ 9 := by
  rcases h.2 with ⟨_, h1, h2, h3, h4⟩ | ⟨⟨i1, p1, q1, r1⟩, ⟨i2, p2, q2, r2⟩, ⟨i3, p3, q3, r3⟩, i4, p4, q4, r4⟩
  · omega
  · have a1 : i1 % w < w := Nat.mod_lt _ (by omega)
    have a2 : i2 % w < w := Nat.mod_lt _ (by omega)
    have a3 : i3 / w < 6 := Nat.div_lt_of_lt_mul (by omega)
    have a4 : i4 / w < 6 := Nat.div_lt_of_lt_mul (by omega)
    generalize i1 % w = y1 at a1 r1
    generalize i2 % w = y2 at a2 r2
    generalize i3 / w = y3 at a3 r3
    generalize i4 / w = y4 at a4 r4
    omega
theorem me_row {w l : Nat} (hG : GS M w l) (ca : Nat) (R : Int → Int) (hR : R = M ca) (hca : ca ≠ 43) (hc : ∀ k, 0 ≤ k → k < 24 → -1 ≤ M ca k ∧ M ca k < 9) (r : Nat) (hr : r < l) (kk : ∀ a b c e, bxI w ((r + 1) * w) R 4 6 a b c e → XL (d + 1) 47 23 [aR 14 0 43, aR 0 24 ca, aI ((r : Int) + 1), aI (w : Int)] [] (mbx M a b c e) Q) : ∀ (t k : Nat) (a b c e : Int), k + t = w → bxI w (r * w + k) R 4 6 a b c e → XL (d + 1) 47 36 [aR 14 0 43, aR 0 24 ca, aI (r : Int), aI (k : Int)] [] (mbx M a b c e) Q
  | 0, k, a, b, c, e, h, hB => by
    have e9 : k = w := by omega
    rw [e9, me_2 (r : Int) (w : Int) _ (by rw [mbx_b (by decide)]; exact hG.2.2.1) (by have := hG.1; omega)]
    refine kk a b c e ?_
    rw [e9] at hB
    rw [Nat.add_mul, Nat.one_mul]
    exact hB
  | t + 1, k, a, b, c, e, h, hB => by
    have hn := hG.n
    have w4 := hG.1
    have l6 := hG.2.1
    have hk : k < w := by omega
    have hil := cell_lt hr hk
    obtain ⟨m1, m2⟩ := cell_m (r := r) hk
    have hbd := bx_bd w4 (show r * w + k ≤ w * 6 by have := Nat.mul_le_mul_left w l6.2; omega) hB
    generalize hi : r * w + k = i at hil m1 m2 hB hbd
    have hii : (r : Int) * (w : Int) + (k : Int) = (i : Int) := by rw [← Int.natCast_mul, ← Int.natCast_add, hi]
    have ci := hc (i : Int) (by omega) (by omega)
    rw [me_1 (d := d) ca (r : Int) (k : Int) (w : Int) (i : Int) (M ca i) a b c e _ _ _ _ hca hG.2.2.1 ⟨by omega, by omega⟩ ⟨by omega, by omega⟩ ⟨by omega, by omega⟩ hii ⟨by omega, by omega⟩ rfl ci hbd.1 rfl rfl rfl rfl]
    by_cases c1 : M ca (i : Int) = -1
    · rw [if_pos c1]
      have g := me_row hG ca R hR hca hc r hr kk t (k + 1) a b c e (by omega) (by rw [show r * w + (k + 1) = i + 1 by omega]; exact bxI_n hB (by rw [hR]; exact c1))
      rw [Int.natCast_add] at g
      exact g
    · rw [if_neg c1]
      have g := me_row hG ca R hR hca hc r hr kk t (k + 1) (if (k : Int) < a then (k : Int) else a) (if b < (k : Int) then (k : Int) else b) (if (r : Int) < c then (r : Int) else c) (r : Int) (by omega) (by
        rw [show r * w + (k + 1) = i + 1 by omega]
        exact bxI_y hB (by rw [hR]; exact c1) (by omega) (by omega) _ _ _ _ (by rw [m1]) (by rw [m1]) (by rw [m2]) (by rw [m2]))
      rw [Int.natCast_add] at g
      exact g
theorem me_all {w l : Nat} (hG : GS M w l) (ca : Nat) (R : Int → Int) (hR : R = M ca) (hca : ca ≠ 43) (hc : ∀ k, 0 ≤ k → k < 24 → -1 ≤ M ca k ∧ M ca k < 9) (kk : ∀ a b c e, bxI w (w * l) R 4 6 a b c e → Q [] (mbx M a b c e)) : ∀ (t r : Nat) (a b c e : Int) (o3 : AV), r + t = l → bxI w (r * w) R 4 6 a b c e → XL (d + 1) 47 23 [aR 14 0 43, aR 0 24 ca, aI (r : Int), o3] [] (mbx M a b c e) Q
  | 0, r, a, b, c, e, o3, h, hB => by
    have e9 : r = l := by omega
    rw [me_3 (r : Int) (l : Int) _ _ (by rw [mbx_b (by decide)]; exact hG.2.2.2.1) (by have := hG.2.1; omega) ⟨by omega, by omega⟩, if_neg (by omega)]
    refine kk a b c e ?_
    rw [e9, Nat.mul_comm l w] at hB
    exact hB
  | t + 1, r, a, b, c, e, o3, h, hB => by
    rw [me_3 (r : Int) (l : Int) _ _ (by rw [mbx_b (by decide)]; exact hG.2.2.2.1) (by have := hG.2.1; omega) ⟨by omega, by omega⟩, if_pos (by omega)]
    refine me_row hG ca R hR hca hc r (by omega) (fun a b c e hB' => ?_) w 0 a b c e (by omega) (by rw [Nat.add_zero]; exact hB)
    have g := me_all hG ca R hR hca hc kk t (r + 1) a b c e (aI (w : Int)) (by omega) hB'
    rw [Int.natCast_add] at g
    exact g
theorem s_measure {w l : Nat} (hG : GS M w l) (ca : Nat) (hca : ca ≠ 43) (hc : ∀ k, 0 ≤ k → k < 24 → -1 ≤ M ca k ∧ M ca k < 9) (kk : ∀ a b c e, bxI w (w * l) (M ca) 4 6 a b c e → Q [] (mbx M a b c e)) : XC (d + 1) 47 [aR 14 0 43, aR 0 24 ca] M Q := by
  have g := me_all (d := d) (Q := Q) hG ca (M ca) rfl hca hc kk l 0 4 (-1) 6 (-1) aU (by omega) (by rw [Nat.zero_mul]; exact bxI_0)
  rw [e_47, k_47_0]
  simp (disch := first | exact nl_i _ | exact nl_r _ | exact Nat.le_of_ble_eq_true rfl | exact Or.inl rfl | exact Or.inr rfl | exact w8_lo _ | exact w8_hi _ | decide | omega) only [v_fall, v_il_0, v_al_0, v_is_0, v_as_0, v_inc_0, v_ll_0, v_ls_0, v_il_1, v_al_1, v_is_1, v_as_1, v_inc_1, v_ll_1, v_ls_1, v_il_2, v_al_2, v_is_2, v_as_2, v_inc_2, v_ll_2, v_ls_2, v_il_3, v_al_3, v_is_3, v_as_3, v_inc_3, v_ll_3, v_ls_3, v_il_4, v_al_4, v_is_4, v_as_4, v_inc_4, v_ll_4, v_ls_4, v_il_5, v_al_5, v_is_5, v_as_5, v_inc_5, v_ll_5, v_ls_5, v_il_6, v_al_6, v_is_6, v_as_6, v_inc_6, v_il_7, v_al_7, v_is_7, v_as_7, v_inc_7, v_il_8, v_al_8, v_is_8, v_as_8, v_inc_8, v_il_9, v_al_9, v_is_9, v_as_9, v_inc_9, v_il_10, v_al_10, v_is_10, v_as_10, v_inc_10, v_il_11, v_al_11, v_is_11, v_as_11, v_inc_11, v_il_12, v_al_12, v_is_12, v_as_12, v_inc_12, v_il_13, v_al_13, v_is_13, v_as_13, v_inc_13, v_c_8, v_c_9, v_c_10, v_c_11, v_c_12, v_c_13, v_c_14, v_b_15, v_b_16, v_b_17, v_b_21, v_b_22, v_b_23, v_b_24, v_b_25, v_b_26, v_b_18, v_b_19, v_b_20, v_b_27, v_b_28, v_b_29, v_b_30, v_b_31, v_dup_i, v_dup_r, v_dup2, v_pop, v_gi, v_gl, v_gr, v_pi, v_pl, v_pz, v_iald, v_lald, v_bald, v_zald, v_aald, v_iast, v_last, v_bast, v_zast, v_alen_0, v_alen_1, v_alen_2, v_alen_3, v_alen_4, v_j_45, v_j_46, v_j_47, v_j_48, v_j_49, v_j_50, v_j_51, v_j_52, v_j_53, v_j_54, v_j_55, v_j_56, v_goto, v_sw, v_ret_i, v_ret_z, v_ret, v_cpy, v_iv_1, v_iv_2, v_iv_3, v_iv_4, v_iv_5, v_iv_6, v_is2_1, v_is2_2, v_is2_3, v_ivJ, List.nil_append, List.cons_append, rf_0_0, rf_0_1, rf_0_2, rf_0_3, rf_0_4, rf_0_5, rf_0_6, rf_0_7, rf_0_8, rf_0_9, rf_1_0, rf_1_2, rf_4_0, rf_4_1, rf_4_2, rf_5_8, rf_5_9, rf_5_10, rf_5_11, rf_5_12, rf_13_0, rf_13_1, rf_14_0, rf_14_1, rf_14_2, rf_15_8, rf_15_9, rf_15_10, rf_15_11, rf_15_12, rf_23_0, rf_23_1, rf_23_2, rf_24_8, rf_24_9, rf_24_10, rf_24_11, rf_24_12, rf_32_6, rf_34_0, rf_34_1, rf_34_2, rf_34_3, rf_35_8, rf_35_9, rf_35_10, rf_35_11, rf_35_12, rf_43_0, rf_43_1, rf_43_2, rf_43_3, rf_45_0, rf_45_1, rf_46_0, rf_46_1, rf_46_2, rf_46_3, rf_46_4, rf_46_5, rf_47_0, rf_47_1, rf_49_0, rf_49_1, rf_49_2, rf_49_3, rf_49_4, rf_49_5, rf_53_0, rf_53_1, rf_53_2, rf_53_3, rf_53_4, rf_53_5, rf_53_6, rf_53_7, rf_53_9, rf_53_10, rf_53_11, rf_53_12, rf_53_13, rf_54_0, rf_54_1, rf_55_1, rf_55_2, rf_55_3, rf_67_1, rf_67_6, rf_67_7, rf_67_8, rf_67_9, rf_67_10, rf_67_22, rf_67_23, rf_67_28, rf_67_30, rf_67_32, rf_67_33, rf_67_38, rf_67_39, rf_67_48, rf_67_49, rf_67_51, rf_67_52, rf_67_53, rf_67_54, rf_67_55, rf_67_60, rf_67_61, rf_67_62, up_s, up_b, up_j, b_47_105, k_47_105, b_47_111, k_47_111, b_47_117, k_47_117, w_sm, ↓if_pos, ↓if_neg,  ]
  exact g
end ME
