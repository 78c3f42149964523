/-! FIRST on the reference's side: comesOff from QUAY to QUAY -/
theorem of_init {w n : Nat} {sd : Int} {b R T : Int → Int} {k : Int} (hT : ∀ i : Nat, i < n → T (i : Int) = rfK b R k (i : Int)) : offI (clrP w n sd) (pR n (rfK b R (k + 1))) (dueP n b R (k + 1)) (pR n T) := by
  have pT : ∀ i, pR n T i = true ↔ i < n ∧ R (i : Int) ≠ -1 ∧ k < b (4 * R (i : Int) + 1) := fun i => by
    rw [pR_lt]
    constructor
    · rintro ⟨h1, h2⟩
      rw [hT i h1] at h2
      obtain ⟨e1, e2, e3⟩ := rfK_ne h2
      exact ⟨h1, e1, e2⟩
    · rintro ⟨h1, h2, h3⟩
      refine ⟨h1, ?_⟩
      rw [hT i h1, rfK_y h2 h3]
      exact h2
  have dueT : ∀ i, dueP n b R (k + 1) i = true ↔ i < n ∧ R (i : Int) ≠ -1 ∧ b (4 * R (i : Int) + 1) = k + 1 := fun i => decide_eq_true_iff
  have keepE : (fun i => pR n T i && !dueP n b R (k + 1) i) = pR n (rfK b R (k + 1)) := by
    funext i
    have h : (pR n T i && !dueP n b R (k + 1) i) = true ↔ pR n (rfK b R (k + 1)) i = true := by
      rw [Bool.and_eq_true, Bool.not_eq_true', pT, pR_lt]
      constructor
      · rintro ⟨⟨h1, h2, h3⟩, h4⟩
        have h5 : ¬ dueP n b R (k + 1) i = true := by rw [h4]; decide
        rw [dueT] at h5
        have h6 : b (4 * R (i : Int) + 1) ≠ k + 1 := fun e => h5 ⟨h1, h2, e⟩
        exact ⟨h1, by rw [rfK_y h2 (by omega)]; exact h2⟩
      · rintro ⟨h1, h2⟩
        obtain ⟨e1, e2, e3⟩ := rfK_ne h2
        refine ⟨⟨h1, e1, by omega⟩, ?_⟩
        cases hx : dueP n b R (k + 1) i
        · rfl
        · have := (dueT i).mp hx
          omega
    exact Bool.eq_iff_iff.mpr h
  have h := offI_0 (C := clrP w n sd) (P := pR n T) (due := dueP n b R (k + 1)) (fun i hi => by
    have := (dueT i).mp hi
    exact (pT i).mpr ⟨this.1, this.2.1, by omega⟩)
  rw [keepE] at h
  exact h
theorem of_end {w n : Nat} {sd : Int} {b R T T1 : Int → Int} {k : Int} (hT : ∀ i : Nat, i < n → T (i : Int) = rfK b R k (i : Int)) (hO : offI (clrP w n sd) (pR n (rfK b R (k + 1))) (dueP n b R (k + 1)) (pR n T1)) (hs : subR n T1 T) (z : ∀ i, dueP n b R (k + 1) i = true → pR n T1 i = false) {i : Nat} (hi : i < n) : T1 (i : Int) = rfK b R (k + 1) (i : Int) := by
  cases hx : pR n T1 i
  · have c1 : T1 (i : Int) = -1 := by
      apply Classical.byContradiction
      intro h9
      rw [pR_lt.mpr ⟨hi, h9⟩] at hx
      exact absurd hx (by decide)
    rw [c1]
    apply Classical.byContradiction
    intro h9
    have := hO.1 i (pR_lt.mpr ⟨hi, fun h => h9 h.symm⟩)
    rw [hx] at this
    exact absurd this (by decide)
  · have c1 := pR_lt.mp hx
    have c2 := hs i hi c1.2
    rcases hO.2.1 i hx with h9 | h9
    · have c3 := rfK_ne (pR_lt.mp h9).2
      rw [c3.2.2, c2, hT i hi, rfK_y c3.1 (by omega)]
    · rw [z i h9] at hx
      exact absurd hx (by decide)
theorem rfK_out {n : Nat} {m : Int} {b R : Int → Int} {k j : Int} {C : Nat} (hR : jRaft n m R C) (j0 : 0 ≤ j) (j1 : j < 24) (hj : (n : Int) ≤ j) : rfK b R k j = -1 := rfK_n (fun h => h.1 ((hR.1 j j0 j1).2 hj))
theorem jRaft_rfK {n : Nat} {m : Int} {b R : Int → Int} {k : Int} {C : Nat} (hR : jRaft n m R C) : jRaft n m (rfK b R k) C := by
  refine ⟨fun j j0 j1 => ⟨?_, fun hj => rfK_out hR j0 j1 hj⟩, fun i j i0 i1 j0 j1 h => ?_, fun j j0 j1 h => ?_⟩
  · have h1 := (hR.1 j j0 j1).1
    rcases rfK_b (b := b) (R := R) (k := k) (j := j) with e | e <;> rw [e] <;> omega
  · by_cases c : rfK b R k i = -1
    · exact Or.inl c
    · obtain ⟨a1, a2, a3⟩ := rfK_ne c
      have c2 : rfK b R k j ≠ -1 := by rw [← h]; exact c
      obtain ⟨b1, b2, b3⟩ := rfK_ne c2
      rw [a3, b3] at h
      rcases hR.2.1 i j i0 i1 j0 j1 h with h9 | h9
      · exact absurd h9 a1
      · exact Or.inr h9
  · obtain ⟨a1, a2, a3⟩ := rfK_ne h
    rw [a3]
    exact hR.2.2 j j0 j1 a1
theorem cnt_mt {n : Nat} {R : Int → Int} : cnt n (pR n R) = 0 ↔ mtR n R := by
  constructor
  · intro h i hi
    apply Classical.byContradiction
    intro h1
    have := cnt_pos (p := pR n R) (n := n) ⟨i, hi, pR_lt.mpr ⟨hi, h1⟩⟩
    omega
  · intro h
    refine cnt_z (fun i hi => ?_)
    cases hx : pR n R i
    · rfl
    · exact absurd (h i hi) (pR_lt.mp hx).2
section CL
variable {d : Nat} {M M0 : Mem} {Q : List AV → Mem → Prop} {w l : Nat} {r q lg b : Int → Int} {fl : Int}
theorem cf_mt (R : Int → Int) (kk : ∀ M', AgX fX M0 M' → Q [aI (cb (rgd w l r q lg b fl R))] M') (k : Nat) {o3 o4 o5 o6 : AV} (hA : AgX fX M0 M) (hm : mtR (w * l) (rfK b R (k : Int))) (hP : ∀ i : Nat, i < k → ¬ mtR (w * l) (rfK b R i) → ¬ legA w l r lg b fl (rfK b R i) i 0 < 0 ∧ offK w l q b R ((i : Int) + 1)) : XL (d + 6) 205 7 [aR 22 0 67, aI ((cnt (w * l) (pR (w * l) (rfK b R (k : Int))) : Nat) : Int), aI (k : Int), o3, o4, o5, o6] [] M Q := by
  rw [cf_6 _ (k : Int) o3 o4 o5 o6 (by rw [cnt_mt.mpr hm]; rfl)]
  have g := kk M hA
  have h9 : rgd w l r q lg b fl R := fun i hi hm3 => by
    by_cases hik : i < k
    · exact hP i hik hm3
    · exact absurd (mt_later hm (by omega)) hm3
  rw [cb_t h9] at g
  exact g
theorem cf_l (hV : RivM M0 w l r q lg b fl) (m : Nat) (hL : TL M0 r b m) (R : Int → Int) (hR : jRaft (w * l) (r 2) R 511) (hin : ∀ i : Nat, i < w * l → R (i : Int) ≠ -1 → ∃ j : Nat, j < m ∧ M0 82 (j : Int) = R (i : Int)) (L : Nat) (hr1 : r 1 = (L : Int)) (kk : ∀ M', AgX fX M0 M' → Q [aI (cb (rgd w l r q lg b fl R))] M') : ∀ (t k : Nat) (M : Mem) (o3 o4 o5 o6 : AV), k + t = L → AgX fX M0 M → (∀ j, 0 ≤ j → j < 24 → M 74 j = rfK b R (k : Int) j + 1) → (∀ i : Nat, i < k → ¬ mtR (w * l) (rfK b R i) → ¬ legA w l r lg b fl (rfK b R i) i 0 < 0 ∧ offK w l q b R ((i : Int) + 1)) → XL (d + 6) 205 7 [aR 22 0 67, aI ((cnt (w * l) (pR (w * l) (rfK b R (k : Int))) : Nat) : Int), aI (k : Int), o3, o4, o5, o6] [] M Q
  | 0, k, M, o3, o4, o5, o6, h, hA, hT, hP => by
    have hn : w * l ≤ 24 := hV.1.n
    have hLE0 := hV.2.2.1.1
    refine cf_mt R kk k hA (fun i hi => rfK_n (fun h9 => ?_)) hP
    have h1 := (hR.1 (i : Int) (by omega) (by omega)).1
    have h2 := (hV.2.1.2.2.2.2.2.2.2.2.2 (R (i : Int)) (by omega) h1.2).2.1
    omega
  | t + 1, k, M, o3, o4, o5, o6, h, hA, hT, hP => by
    have hn : w * l ≤ 24 := hV.1.n
    have r0 := hV.2.1.1
    have r1 := hV.2.1.2.1
    have r2 := hV.2.1.2.2.1
    have hLE0 := hV.2.2.1.1
    have cl := cnt_le (p := pR (w * l) (rfK b R (k : Int))) (n := w * l)
    have hkL : (k : Int) < r 1 := by omega
    by_cases hm : mtR (w * l) (rfK b R (k : Int))
    · exact cf_mt R kk k hA hm hP
    · have hc0 : cnt (w * l) (pR (w * l) (rfK b R (k : Int))) ≠ 0 := fun e => hm (cnt_mt.mp e)
      have e69 : M 69 = M0 69 := hA.fn (fun j => by unfold fX; omega)
      have e31 : M 67 31 = -1 := by rw [hA 67 31 (by unfold fX; omega)]; exact hV.2.2.2.2.2.2.2
      have hnot : ∀ (X : Prop), ((¬ legA w l r lg b fl (rfK b R k) k 0 < 0 ∧ offK w l q b R ((k : Int) + 1)) → X) → ¬ X → ¬ rgd w l r q lg b fl R := fun X h1 h2 h3 => h2 (h1 (h3 k hkL hm))
      have hq9 := hV.2.1.2.2.2.2.2.2.2.2.1 ((k : Int) + 1) (by omega) (by omega)
      refine cf_7 (d := d + 5) _ (k : Int) (q (3 * ((k : Int) + 1))) o3 o4 o5 o6 ⟨by omega, by omega⟩ ⟨by omega, by omega⟩ ?_
      refine s_legT (d := d) hV e69 (-1) e31 (by omega) (rfK b R (k : Int)) 511 (jRaft_rfK hR) hT (k : Int) ⟨by omega, hkL⟩ 0 (by rw [if_neg (by omega)]) _ rfl (fun M1 hA1 => ?_)
      have hA1' : AgX fX M0 M1 := fun c j hc => by
        rw [hA1 c j (fun e => hc (by unfold lgX at e; unfold fX; omega))]
        exact hA c j hc
      have T1 : ∀ j, 0 ≤ j → j < 24 → M1 74 j = rfK b R (k : Int) j + 1 := fun j j0 j1 => by
        rw [hA1 74 j (by unfold lgX; omega)]
        exact hT j j0 j1
      have hLE := hV.2.2.1.2 (k : Int) (by omega) hkL
      have gb := goV_b (w := w) (l := l) (P := pR (w * l) (rfK b R (k : Int))) (t := lg (7 * (k : Int) + 5)) (mi := lg (7 * (k : Int) + 2)) (ea := lg (7 * (k : Int) + 6)) (kn := r 5) hV.1.1 hV.1.2.1 hLE.2.2.2.2.2.1.1 hLE.2.2.1 hLE.2.2.2.2.2.2 ⟨by have := hV.2.1.2.2.2.2.2.1; omega, hV.2.1.2.2.2.2.2.1.2⟩
      have lb : -10 ≤ legA w l r lg b fl (rfK b R (k : Int)) (k : Int) 0 ∧ legA w l r lg b fl (rfK b R (k : Int)) (k : Int) 0 ≤ 100000 := by
        unfold legA legV
        split
        · omega
        · split
          · omega
          · split <;> omega
      refine ⟨_, rfl, lb, ?_⟩
      by_cases hv : legA w l r lg b fl (rfK b R (k : Int)) (k : Int) 0 < 0
      · left
        refine ⟨hv, ?_⟩
        have g := kk M1 hA1'
        rw [cb_f (hnot _ (fun h9 => h9.1) (fun h9 => h9 hv))] at g
        exact g
      · right
        refine ⟨by omega, ?_, ?_⟩
        · rw [hA1 69 _ (by unfold lgX; omega), e69]
          exact hV.qq (by omega) (by omega)
        · have hs : q (3 * ((k : Int) + 1)) = 1 ∨ q (3 * ((k : Int) + 1)) = 2 ∨ q (3 * ((k : Int) + 1)) = 3 := by omega
          have hdue : ∀ i, dueP (w * l) b R ((k : Int) + 1) i = true ↔ i < w * l ∧ rfK b R (k : Int) (i : Int) ≠ -1 ∧ b (4 * rfK b R (k : Int) (i : Int) + 1) = (k : Int) + 1 := fun i => by
            unfold dueP
            rw [decide_eq_true_iff]
            constructor
            · rintro ⟨h1, h2, h3⟩
              have e3 := rfK_y (b := b) (k := (k : Int)) h2 (by omega)
              rw [e3]
              exact ⟨h1, h2, h3⟩
            · rintro ⟨h1, h2, h3⟩
              obtain ⟨e1, e2, e3⟩ := rfK_ne h2
              rw [e3] at h3
              exact ⟨h1, e1, h3⟩
          have hin' : ∀ i : Nat, i < w * l → rfK b R (k : Int) (i : Int) ≠ -1 → ∃ j : Nat, j < m ∧ M0 82 (j : Int) = rfK b R (k : Int) (i : Int) := fun i hi hne => by
            obtain ⟨e1, e2, e3⟩ := rfK_ne hne
            rw [e3]
            exact hin i hi e1
          have hRO : RO w (w * l) (q (3 * ((k : Int) + 1))) (pR (w * l) (rfK b R ((k : Int) + 1))) (dueP (w * l) b R ((k : Int) + 1)) (rfK b R (k : Int)) M0 M1 (rfK b R (k : Int)) := ⟨hA1', T1, subR.refl, fun j j0 j1 => rfK_out hR (by omega) j1 j0, of_init (fun _ _ => rfl)⟩
          refine cf_ro (d := d) hV m hL k (by omega) (jRaft_rfK hR) hin' hs hdue (fun M2 T2 o6 hC2 he2 => ?_) _ M1 (rfK b R (k : Int)) o5 o6 (Nat.le_refl _) hRO
          have offE : offK w l q b R ((k : Int) + 1) ↔ ∀ z, dueP (w * l) b R ((k : Int) + 1) z = true → pR (w * l) T2 z = false := offI_e hC2.2.2.2.2 he2
          refine cf_ch (d := d) hV m hL k (by omega) (jRaft_rfK hR) hin' hdue hC2 _ _ _ o6 (fun hno => ?_) (fun hall => ?_) m 0 (by omega) (fun j hj => absurd hj (Nat.not_lt_zero j))
          · have g := kk M2 hC2.1
            rw [cb_f (hnot _ (fun h9 => offE.mp h9.2) hno)] at g
            exact g
          · have e2 : ∀ i : Nat, i < w * l → T2 (i : Int) = rfK b R ((k : Int) + 1) (i : Int) := fun i hi => of_end (fun _ _ => rfl) hC2.2.2.2.2 hC2.2.2.1 hall hi
            rw [pR_cg e2]
            have g := cf_l hV m hL R hR hin L hr1 kk t (k + 1) M2 (aI (q (3 * ((k : Int) + 1)))) (aI 0) (aI (m : Int)) o6 (by omega) hC2.1 (fun j j0 j1 => ?_) (fun i hi hmi => ?_)
            · rw [Int.natCast_add] at g
              exact g
            · rw [hC2.2.1 j j0 j1, Int.natCast_add]
              by_cases hj : j < ((w * l : Nat) : Int)
              · have := e2 j.toNat (by omega)
                rw [show ((j.toNat : Nat) : Int) = j by omega] at this
                rw [this]
                rfl
              · rw [hC2.2.2.2.1 j (by omega) j1, rfK_out hR j0 j1 (by omega)]
            · by_cases hik : i < k
              · exact hP i hik hmi
              · have e : i = k := by omega
                rw [e]
                exact ⟨hv, offE.mpr hall⟩
theorem s_comesOff (hV : RivM M w l r q lg b fl) (m : Nat) (hL : TL M r b m) (R : Int → Int) (hR : jRaft (w * l) (r 2) R 511) (hin : ∀ i : Nat, i < w * l → R (i : Int) ≠ -1 → ∃ j : Nat, j < m ∧ M 82 (j : Int) = R (i : Int)) (hcnt : cnt (w * l) (pR (w * l) R) = m) (hT : ∀ j, 0 ≤ j → j < 24 → M 74 j = R j + 1) (kk : ∀ M', AgX fX M M' → Q [aI (cb (rgd w l r q lg b fl R))] M') : XC (d + 6) 205 [aR 22 0 67] M Q := by
  have hn : w * l ≤ 24 := hV.1.n
  have r1 := hV.2.1.2.1
  have e0 : ∀ i : Nat, i < w * l → rfK b R ((0 : Nat) : Int) (i : Int) = R (i : Int) := fun i hi => rfK_0 (fun i hi hne => by
    obtain ⟨j, j1, j2⟩ := hin i hi hne
    have := (hL.2.2 j j1).2.2
    rw [j2] at this
    exact this) hi
  have g := cf_l (d := d) (Q := Q) hV m hL R hR hin (r 1).toNat (by omega) kk (r 1).toNat 0 M aU aU aU aU (by omega) (fun _ _ _ => rfl) (fun j j0 j1 => by
    rw [hT j j0 j1]
    by_cases hj : j < ((w * l : Nat) : Int)
    · have := e0 j.toNat (by omega)
      rw [show ((j.toNat : Nat) : Int) = j by omega] at this
      rw [this]
    · rw [rfK_out hR j0 j1 (by omega), (hR.1 j j0 j1).2 (by omega)]) (fun i hi => absurd hi (Nat.not_lt_zero i))
  rw [pR_cg e0, hcnt] at g
  have hm := hL.1
  clear kk hV hin hcnt e0
  rw [e_205, k_205_0]
  simp (disch := first | exact nl_i _ | exact nl_r _ | exact Nat.le_of_ble_eq_true rfl | exact Or.inl rfl | exact Or.inr rfl | exact w8_lo _ | exact w8_hi _ | decide | omega) only [v_fall, v_il_0, v_al_0, v_is_0, v_as_0, v_inc_0, v_ll_0, v_ls_0, v_il_1, v_al_1, v_is_1, v_as_1, v_inc_1, v_ll_1, v_ls_1, v_il_2, v_al_2, v_is_2, v_as_2, v_inc_2, v_ll_2, v_ls_2, v_il_3, v_al_3, v_is_3, v_as_3, v_inc_3, v_ll_3, v_ls_3, v_il_4, v_al_4, v_is_4, v_as_4, v_inc_4, v_ll_4, v_ls_4, v_il_5, v_al_5, v_is_5, v_as_5, v_inc_5, v_ll_5, v_ls_5, v_il_6, v_al_6, v_is_6, v_as_6, v_inc_6, v_il_7, v_al_7, v_is_7, v_as_7, v_inc_7, v_il_8, v_al_8, v_is_8, v_as_8, v_inc_8, v_il_9, v_al_9, v_is_9, v_as_9, v_inc_9, v_il_10, v_al_10, v_is_10, v_as_10, v_inc_10, v_il_11, v_al_11, v_is_11, v_as_11, v_inc_11, v_il_12, v_al_12, v_is_12, v_as_12, v_inc_12, v_il_13, v_al_13, v_is_13, v_as_13, v_inc_13, v_c_8, v_c_9, v_c_10, v_c_11, v_c_12, v_c_13, v_c_14, v_b_15, v_b_16, v_b_17, v_b_21, v_b_22, v_b_23, v_b_24, v_b_25, v_b_26, v_b_18, v_b_19, v_b_20, v_b_27, v_b_28, v_b_29, v_b_30, v_b_31, v_dup_i, v_dup_r, v_dup2, v_pop, v_gi, v_gl, v_gr, v_pi, v_pl, v_pz, v_iald, v_lald, v_bald, v_zald, v_aald, v_iast, v_last, v_bast, v_zast, v_alen_0, v_alen_1, v_alen_2, v_alen_3, v_alen_4, v_j_45, v_j_46, v_j_47, v_j_48, v_j_49, v_j_50, v_j_51, v_j_52, v_j_53, v_j_54, v_j_55, v_j_56, v_goto, v_sw, v_ret_i, v_ret_z, v_ret, v_cpy, v_iv_1, v_iv_2, v_iv_3, v_iv_4, v_iv_5, v_iv_6, v_is2_1, v_is2_2, v_is2_3, v_ivJ, List.nil_append, List.cons_append, rf_0_0, rf_0_1, rf_0_2, rf_0_3, rf_0_4, rf_0_5, rf_0_6, rf_0_7, rf_0_8, rf_0_9, rf_1_0, rf_1_2, rf_4_0, rf_4_1, rf_4_2, rf_5_8, rf_5_9, rf_5_10, rf_5_11, rf_5_12, rf_13_0, rf_13_1, rf_14_0, rf_14_1, rf_14_2, rf_15_8, rf_15_9, rf_15_10, rf_15_11, rf_15_12, rf_23_0, rf_23_1, rf_23_2, rf_24_8, rf_24_9, rf_24_10, rf_24_11, rf_24_12, rf_32_6, rf_34_0, rf_34_1, rf_34_2, rf_34_3, rf_35_8, rf_35_9, rf_35_10, rf_35_11, rf_35_12, rf_43_0, rf_43_1, rf_43_2, rf_43_3, rf_45_0, rf_45_1, rf_46_0, rf_46_1, rf_46_2, rf_46_3, rf_46_4, rf_46_5, rf_47_0, rf_47_1, rf_49_0, rf_49_1, rf_49_2, rf_49_3, rf_49_4, rf_49_5, rf_53_0, rf_53_1, rf_53_2, rf_53_3, rf_53_4, rf_53_5, rf_53_6, rf_53_7, rf_53_9, rf_53_10, rf_53_11, rf_53_12, rf_53_13, rf_54_0, rf_54_1, rf_55_1, rf_55_2, rf_55_3, rf_67_1, rf_67_6, rf_67_7, rf_67_8, rf_67_9, rf_67_10, rf_67_22, rf_67_23, rf_67_28, rf_67_30, rf_67_32, rf_67_33, rf_67_38, rf_67_39, rf_67_48, rf_67_49, rf_67_51, rf_67_52, rf_67_53, rf_67_54, rf_67_55, rf_67_60, rf_67_61, rf_67_62, up_s, up_b, up_j, b_205_21, k_205_21, b_205_106, k_205_106, b_205_120, k_205_120, b_205_126, k_205_126, b_205_129, k_205_129, b_205_174, k_205_174, b_205_180, k_205_180, b_205_186, k_205_186, w_sm, ↓if_pos, ↓if_neg,  hm]
  exact g
end CL
