/-! FIRST on the class's side: goesUpWell, whole -/
def gX (b : Nat) (j : Int) : Prop := b = 43 ∨ b = 44 ∨ b = 52
theorem pR_cg {n : Nat} {R R2 : Int → Int} (h : ∀ i : Nat, i < n → R (i : Int) = R2 (i : Int)) : pR n R = pR n R2 := by
  funext i
  exact Bool.eq_iff_iff.mpr (by
    rw [pR_lt, pR_lt]
    exact ⟨fun h1 => ⟨h1.1, by rw [← h i h1.1]; exact h1.2⟩, fun h1 => ⟨h1.1, by rw [h i h1.1]; exact h1.2⟩⟩)
theorem mt_bits {n : Nat} {R : Int → Int} : setN n (fun i => decide (R (i : Int) ≠ -1)) = 0 ↔ mtR n R := by
  have e : ∀ i, (setN n (fun i => decide (R (i : Int) ≠ -1))).testBit i = pR n R i := fun _ => rfl
  constructor
  · intro h i hi
    have h1 := e i
    rw [h, Nat.zero_testBit] at h1
    apply Classical.byContradiction
    intro h2
    rw [pR_lt.mpr ⟨hi, h2⟩] at h1
    exact absurd h1 (by decide)
  · intro h
    apply Nat.eq_of_testBit_eq
    intro i
    rw [e, Nat.zero_testBit]
    cases hx : pR n R i
    · rfl
    · have := pR_lt.mp hx
      exact absurd (h i this.1) this.2
theorem mt_later {n : Nat} {b R : Int → Int} {k k2 : Int} (h : mtR n (rfK b R k)) (hk : k ≤ k2) : mtR n (rfK b R k2) := fun i hi => by
  apply Classical.byContradiction
  intro h1
  obtain ⟨h2, h3, -⟩ := rfK_ne h1
  have := h i hi
  rw [rfK_y h2 (by omega)] at this
  exact h2 this
section GU
variable {d : Nat} {M M0 : Mem} {Q : List AV → Mem → Prop} {w l : Nat}
def guV (w l : Nat) (r q lg b : Int → Int) (fl z : Int) (R : Int → Int) : Prop := noAp w (w * l) b R ∧ ∀ k : Nat, (k : Int) < r 1 → ¬ mtR (w * l) (rfK b R k) → (z = 1 → Conn w (w * l) (pR (w * l) (rfK b R k))) ∧ pgK w l r q lg b fl R k
theorem guV_0 {r q lg b : Int → Int} {fl : Int} {R : Int → Int} : guV w l r q lg b fl 0 R ↔ pgd w l r q lg b fl R := ⟨fun h => ⟨h.1, fun k hk hm => (h.2 k hk hm).2⟩, fun h => ⟨h.1, fun k hk hm => ⟨fun h9 => absurd h9 (by decide), h.2 k hk hm⟩⟩⟩
theorem guV_1 {r q lg b : Int → Int} {fl : Int} {R : Int → Int} : guV w l r q lg b fl 1 R ↔ wgd w l r q lg b fl R := ⟨fun h => ⟨h.1, fun k hk hm => ⟨(h.2 k hk hm).1 rfl, (h.2 k hk hm).2⟩⟩, fun h => ⟨h.1, fun k hk hm => ⟨fun _ => (h.2 k hk hm).1, (h.2 k hk hm).2⟩⟩⟩
theorem gu_l (hV : Riv M0 w l) (R : Int → Int) (hR : rOk (w * l) (M0 5 2) R) (hcnt : cnt (w * l) (pR (w * l) R) ≤ 6) (L : Nat) (hL : M0 5 1 = (L : Int)) (z : Int) (hz : z = 0 ∨ z = 1) (k1 : ∀ M', AgX gX M0 M' → (∀ k : Nat, (k : Int) < M0 5 1 → ¬ mtR (w * l) (rfK (M0 8) R k) → (z = 1 → Conn w (w * l) (pR (w * l) (rfK (M0 8) R k))) ∧ pgK w l (M0 5) (M0 6) (M0 7) (M0 8) (M0 4 4) R k) → Q [aI 1] M') (k0 : ∀ M', AgX gX M0 M' → ¬ (∀ k : Nat, (k : Int) < M0 5 1 → ¬ mtR (w * l) (rfK (M0 8) R k) → (z = 1 → Conn w (w * l) (pR (w * l) (rfK (M0 8) R k))) ∧ pgK w l (M0 5) (M0 6) (M0 7) (M0 8) (M0 4 4) R k) → Q [aI 0] M') : ∀ (t k : Nat) (M : Mem), k + t = L → AgX gX M0 M → (∀ j, 0 ≤ j → j < 24 → M 52 j = rfK (M0 8) R (k : Int) j) → (∀ i : Nat, i < k → ¬ mtR (w * l) (rfK (M0 8) R i) → (z = 1 → Conn w (w * l) (pR (w * l) (rfK (M0 8) R i))) ∧ pgK w l (M0 5) (M0 6) (M0 7) (M0 8) (M0 4 4) R i) → XL (d + 3) 62 45 [aR 16 0 49, aI z, aI ((setN (w * l) (fun i => decide (M 52 (i : Int) ≠ -1)) : Nat) : Int), aI (k : Int)] [] M Q
  | 0, k, M, h, hA, hT, hP => by
    have r1 := hV.2.1.2.1
    have e5 : M 5 = M0 5 := hA.fn (fun j => by unfold gX; omega)
    rw [gu_2 z _ (k : Int) (L : Int) (by rw [e5]; exact hL) (by omega) ⟨by omega, by omega⟩ (Or.inl (by omega))]
    exact k1 M hA (fun i hi hm => hP i (by omega) hm)
  | t + 1, k, M, h, hA, hT, hP => by
    have r1 := hV.2.1.2.1
    have hn := hV.1.n
    have r0 := hV.2.1.1
    have r2 := hV.2.1.2.2.1
    have r5 := hV.2.1.2.2.2.2.2.1
    have e5 : M 5 = M0 5 := hA.fn (fun j => by unfold gX; omega)
    have bl : setN (w * l) (fun i => decide (M 52 (i : Int) ≠ -1)) < 2 ^ (w * l) := setN_lt _
    have bp : (2 : Nat) ^ (w * l) ≤ 2 ^ 24 := Nat.pow_le_pow_right (by decide) hn
    have eT : ∀ i : Nat, i < w * l → M 52 (i : Int) = rfK (M0 8) R (k : Int) (i : Int) := fun i hi => hT (i : Int) (by omega) (by omega)
    have eP : (setN (w * l) (fun i => decide (M 52 (i : Int) ≠ -1))).testBit = pR (w * l) (rfK (M0 8) R (k : Int)) := pR_cg (R := M 52) eT
    by_cases hm : mtR (w * l) (rfK (M0 8) R (k : Int))
    · have hm2 : mtR (w * l) (M 52) := fun i hi => by rw [eT i hi]; exact hm i hi
      rw [gu_2 z _ (k : Int) (L : Int) (by rw [e5]; exact hL) (by omega) ⟨by omega, by omega⟩ (Or.inr (by rw [mt_bits.mpr hm2]; rfl))]
      refine k1 M hA (fun i hi hm3 => ?_)
      by_cases hik : i < k
      · exact hP i hik hm3
      · exact absurd (mt_later hm (by omega)) hm3
    · have hne : setN (w * l) (fun i => decide (M 52 (i : Int) ≠ -1)) ≠ 0 := fun h9 => hm (fun i hi => by rw [← eT i hi]; exact mt_bits.mp h9 i hi)
      have e32 : M 32 = M0 32 := hA.fn (fun j => by unfold gX; omega)
      have e33 : M 33 = M0 33 := hA.fn (fun j => by unfold gX; omega)
      have e8 : M 8 = M0 8 := hA.fn (fun j => by unfold gX; omega)
      have e7 : M 7 = M0 7 := hA.fn (fun j => by unfold gX; omega)
      have e6 : M 6 = M0 6 := hA.fn (fun j => by unfold gX; omega)
      have e4 : M 4 = M0 4 := hA.fn (fun j => by unfold gX; omega)
      have hG : GS M w l := hV.1.cg e32 e33
      have hLE := hV.2.2.1.2 (k : Int) (by omega) (by omega)
      have hLE0 := hV.2.2.1.1
      have hRk : ∀ j, 0 ≤ j → j < 24 → rfK (M0 8) R (k : Int) j = -1 ∨ rfK (M0 8) R (k : Int) j = R j := fun j _ _ => rfK_b
      have hc : ∀ j, 0 ≤ j → j < 24 → -1 ≤ M 52 j ∧ M 52 j < 9 := fun j j0 j1 => by
        have h1 := (hR j j0 j1).1
        rw [hT j j0 j1]
        rcases hRk j j0 j1 with e | e <;> rw [e] <;> omega
      have hdr : ∀ j, 0 ≤ j → j < 24 → M 52 j ≠ -1 → 0 ≤ M 8 (4 * M 52 j + 2) ∧ M 8 (4 * M 52 j + 2) ≤ 99 := fun j j0 j1 hj => by
        have h1 := (hR j j0 j1).1
        rw [hT j j0 j1] at hj ⊢
        obtain ⟨q1, q2, q3⟩ := rfK_ne hj
        rw [q3, e8]
        exact (hV.2.1.2.2.2.2.2.2.2.2.2 (R j) (by omega) h1.2).2.2.2.1
      have hnot : ∀ (X : Prop), (((z = 1 → Conn w (w * l) (pR (w * l) (rfK (M0 8) R k))) ∧ pgK w l (M0 5) (M0 6) (M0 7) (M0 8) (M0 4 4) R k) → X) → ¬ X → ¬ (∀ k : Nat, (k : Int) < M0 5 1 → ¬ mtR (w * l) (rfK (M0 8) R k) → (z = 1 → Conn w (w * l) (pR (w * l) (rfK (M0 8) R k))) ∧ pgK w l (M0 5) (M0 6) (M0 7) (M0 8) (M0 4 4) R k) := fun X h1 h2 h3 => h2 (h1 (h3 k (by omega) hm))
      refine gu_1 (d := d + 2) z _ (k : Int) (L : Int) (by rw [e5]; exact hL) (by omega) ⟨by omega, by omega⟩ ⟨by omega, w32_n (by omega)⟩ hz (cb (Conn w (w * l) (pR (w * l) (rfK (M0 8) R (k : Int))))) (fun _ Q' => by rw [s_hangs (d := d + 1) hG _ bl, eP]) cb_01 (fun z1 h0 => k0 M hA (hnot _ (fun h9 => h9.1 z1) (fun h9 => by rw [cb_t h9] at h0; exact absurd h0 (by decide)))) (fun hcn => ?_)
      refine s_hasRoom (d := d) hG 52 (by decide) hc hdr (k : Int) 0 (M 7 (7 * (k : Int))) (M 7 (7 * (k : Int) + 1)) (M 7 (7 * (k : Int) + 3)) (M 7 (7 * (k : Int) + 4)) (M 4 4) ⟨by omega, by omega⟩ ⟨by decide, by decide⟩ rfl rfl rfl rfl rfl ?_ (lgF w l (M0 7) (M0 8) (M0 4 4) (rfK (M0 8) R (k : Int)) (k : Int)) ?_ (fun M1 hO1 => ?_)
      · rw [e7, e4]
        have f4 := hV.2.2.2.1
        omega
      · unfold lgF
        rw [e7, e4, e8]
        exact fitP_cg (fun i hi => (eT i hi).symm) (fun _ _ _ => rfl)
      · refine ⟨_, rfl, ?_⟩
        have hA1 : AgX gX M0 M1 := fun x j hx => by
          unfold gX at hx
          rw [hO1 x (by omega)]
          exact hA x j hx
        by_cases hf : lgF w l (M0 7) (M0 8) (M0 4 4) (rfK (M0 8) R (k : Int)) (k : Int)
        · right
          refine ⟨cb_t hf, ?_⟩
          have hG1 : GS M1 w l := hG.cg (hO1 32 (by decide)) (hO1 33 (by decide))
          refine s_goMinutes (d := d) hG1 _ (by omega) (k : Int) (M 7 (7 * (k : Int) + 2)) (M 7 (7 * (k : Int) + 5)) (M 7 (7 * (k : Int) + 6)) (M 5 5) ⟨by omega, by omega⟩ (by rw [hO1 7 (by decide)]) (by rw [hO1 7 (by decide)]) (by rw [hO1 7 (by decide)]) (by rw [hO1 5 (by decide)]) (by rw [e7]; exact hLE.2.2.2.2.2.1) _ rfl (fun M2 hA2 => ?_)
          have hA2' : AgX gX M0 M2 := fun x j hx => by
            unfold gX at hx
            rw [hA2 x j (by omega)]
            exact hA1 x j hx
          have gE : goV w l (setN (w * l) (fun i => decide (M 52 (i : Int) ≠ -1))).testBit (M 7 (7 * (k : Int) + 5)) (M 7 (7 * (k : Int) + 2)) (M 7 (7 * (k : Int) + 6)) (M 5 5) = lgG w l (M0 5) (M0 7) (rfK (M0 8) R (k : Int)) (k : Int) := by
            rw [eP, e7, e5]
            rfl
          have gb := goV_b (w := w) (l := l) (P := pR (w * l) (rfK (M0 8) R (k : Int))) (t := M0 7 (7 * (k : Int) + 5)) (mi := M0 7 (7 * (k : Int) + 2)) (ea := M0 7 (7 * (k : Int) + 6)) (kn := M0 5 5) hV.1.1 hV.1.2.1 hLE.2.2.2.2.2.1.1 hLE.2.2.1 hLE.2.2.2.2.2.2 ⟨by omega, by omega⟩
          have gE2 : goV w l (pR (w * l) (rfK (M0 8) R (k : Int))) (M0 7 (7 * (k : Int) + 5)) (M0 7 (7 * (k : Int) + 2)) (M0 7 (7 * (k : Int) + 6)) (M0 5 5) = lgG w l (M0 5) (M0 7) (rfK (M0 8) R (k : Int)) (k : Int) := rfl
          rw [gE2] at gb
          rw [gE]
          refine ⟨_, rfl, by omega, ?_⟩
          by_cases hg : lgG w l (M0 5) (M0 7) (rfK (M0 8) R (k : Int)) (k : Int) = -1
          · exact Or.inl ⟨hg, k0 M2 hA2' (hnot _ (fun h9 => h9.2.2.1) (fun h9 => h9 hg))⟩
          · right
            refine ⟨hg, ?_⟩
            have f5 : M2 5 = M0 5 := hA2'.fn (fun j => by unfold gX; omega)
            have f6 : M2 6 = M0 6 := hA2'.fn (fun j => by unfold gX; omega)
            have f8 : M2 8 = M0 8 := hA2'.fn (fun j => by unfold gX; omega)
            have f52 : M2 52 = M 52 := funext fun j => by
              rw [hA2 52 j (by omega), hO1 52 (by decide)]
            have hG2 : GS M2 w l := hV.1.cg (hA2'.fn (fun j => by unfold gX; omega)) (hA2'.fn (fun j => by unfold gX; omega))
            refine s_comeOff (d := d) hG2 (by rw [f5, f6, f8]; exact hV.2.1) R k (by rw [f5]; omega) (fun j j0 j1 => by rw [f52, f8]; exact hT j j0 j1) (by rw [f5]; exact hR) hcnt (fun M3 hA3 hT3 => ?_)
            rw [f6, f8] at hT3 ⊢
            have hA3' : AgX gX M0 M3 := fun x j hx => by
              unfold gX at hx
              rw [hA3 x j (by omega)]
              exact hA2' x j hx
            refine ⟨_, rfl, ?_⟩
            by_cases ho : offK w l (M0 6) (M0 8) R ((k : Int) + 1)
            · right
              have hT4 := hT3 ho
              refine ⟨cb_t ho, _, fun Q' => s_bitsOf (w * l) 52 (by rw [hA3'.fn (b := 32) (fun j => by unfold gX; omega)]; exact hV.1.2.2.2.2.1) hn (fun j j0 j1 => ?_), ?_⟩
              · have h1 := (hR j j0 j1).1
                rw [hT4 j j0 j1]
                rcases rfK_b (b := M0 8) (R := R) (k := (k : Int) + 1) (j := j) with e | e <;> rw [e] <;> omega
              · have g := gu_l hV R hR hcnt L hL z hz k1 k0 t (k + 1) M3 (by omega) hA3' (fun j j0 j1 => by rw [Int.natCast_add]; exact hT4 j j0 j1) (fun i hi hm4 => ?_)
                · rw [Int.natCast_add] at g
                  exact g
                · by_cases hik : i < k
                  · exact hP i hik hm4
                  · have e : i = k := by omega
                    rw [e]
                    refine ⟨fun z1 => ?_, hf, hg, ho⟩
                    have := hcn z1
                    apply Classical.byContradiction
                    intro h9
                    rw [cb_f h9] at this
                    exact absurd this (by decide)
            · exact Or.inl ⟨cb_f ho, k0 M3 hA3' (hnot _ (fun h9 => h9.2.2.2) ho)⟩
        · exact Or.inl ⟨cb_f hf, k0 M1 hA1 (hnot _ (fun h9 => h9.2.1) hf)⟩
theorem s_goesUpW (hV : Riv M w l) (R : Int → Int) (hM : M 51 = R) (hR : rOk (w * l) (M 5 2) R) (hcnt : cnt (w * l) (pR (w * l) R) ≤ 6) (hto : ∀ j, 0 ≤ j → j < 24 → R j ≠ -1 → 0 < M 8 (4 * R j + 1)) (z : Int) (hz : z = 0 ∨ z = 1) (kk : ∀ M', AgX gX M M' → Q [aI (cb (guV w l (M 5) (M 6) (M 7) (M 8) (M 4 4) z R))] M') : XC (d + 3) 62 [aR 16 0 49, aI z] M Q := by
  have hn := hV.1.n
  have r1 := hV.2.1.2.1
  have r2 := hV.2.1.2.2.1
  have hc : ∀ j, 0 ≤ j → j < 24 → -1 ≤ M 51 j ∧ M 51 j < 9 := fun j j0 j1 => by
    have h1 := (hR j j0 j1).1
    rw [hM]
    omega
  obtain ⟨L, hL⟩ : ∃ L : Nat, M 5 1 = (L : Int) := ⟨(M 5 1).toNat, by omega⟩
  have p1 : ∀ Q', XC (d + 2) 45 [aR 14 0 43, aR 0 24 51] M Q' ↔ Q' [aI (cb (noAp w (w * l) (M 8) R))] M := fun Q' => by rw [s_keeps (d := d + 1) hV.1 51 hc, hM]
  by_cases hno : noAp w (w * l) (M 8) R
  · rw [cb_t hno] at p1
    obtain ⟨M1, hM1⟩ : ∃ M1, M1 = cpy M 51 52 0 0 24 := ⟨_, rfl⟩
    have o1 : ∀ x, x ≠ 52 → M1 x = M x := fun x hx => by
      funext j
      rw [hM1]
      exact cpy_b hx
    have t1 : ∀ j, 0 ≤ j → j < 24 → M1 52 j = R j := fun j j0 j1 => by
      rw [hM1, ← hM]
      exact cpy_0 j0 j1
    have p2 : ∀ Q', XC (d + 2) 5 [aR 10 0 32, aR 0 24 52] M1 Q' ↔ Q' [aI ((setN (w * l) (fun i => decide (M1 52 (i : Int) ≠ -1)) : Nat) : Int)] M1 := fun Q' => s_bitsOf (w * l) 52 (by rw [o1 32 (by decide)]; exact hV.1.2.2.2.2.1) hn (fun j j0 j1 => by
      have h1 := (hR j j0 j1).1
      rw [t1 j j0 j1]
      omega)
    have g := gu_l (d := d) (Q := Q) hV R hR hcnt L hL z hz (fun M' hA' hv => by
      have k := kk M' hA'
      rw [cb_t ⟨hno, hv⟩] at k
      exact k) (fun M' hA' hv => by
      have k := kk M' hA'
      rw [cb_f (fun h9 => hv h9.2)] at k
      exact k) L 0 M1 (by omega) (fun x j hx => by
      unfold gX at hx
      rw [o1 x (by omega)]) (fun j j0 j1 => by
      rw [t1 j j0 j1]
      by_cases c : R j = -1
      · rw [rfK_n (fun h9 => h9.1 c), c]
      · exact (rfK_y c (hto j j0 j1 c)).symm) (fun i hi => absurd hi (Nat.not_lt_zero i))
    have g2 : XL (d + 3) 62 45 [aR 16 0 49, aI z, aI ((setN (w * l) (fun i => decide (M1 52 (i : Int) ≠ -1)) : Nat) : Int), aI 0] [] M1 Q := g
    clear g kk hV
    generalize ((setN (w * l) (fun i => decide (M1 52 (i : Int) ≠ -1)) : Nat) : Int) = bt at p2 g2
    rw [hM1] at p2 g2
    rw [e_62, k_62_0]
    simp (disch := first | exact nl_i _ | exact nl_r _ | exact Nat.le_of_ble_eq_true rfl | exact Or.inl rfl | exact Or.inr rfl | exact w8_lo _ | exact w8_hi _ | decide | omega) only [v_fall, v_il_0, v_al_0, v_is_0, v_as_0, v_inc_0, v_ll_0, v_ls_0, v_il_1, v_al_1, v_is_1, v_as_1, v_inc_1, v_ll_1, v_ls_1, v_il_2, v_al_2, v_is_2, v_as_2, v_inc_2, v_ll_2, v_ls_2, v_il_3, v_al_3, v_is_3, v_as_3, v_inc_3, v_ll_3, v_ls_3, v_il_4, v_al_4, v_is_4, v_as_4, v_inc_4, v_ll_4, v_ls_4, v_il_5, v_al_5, v_is_5, v_as_5, v_inc_5, v_ll_5, v_ls_5, v_il_6, v_al_6, v_is_6, v_as_6, v_inc_6, v_il_7, v_al_7, v_is_7, v_as_7, v_inc_7, v_il_8, v_al_8, v_is_8, v_as_8, v_inc_8, v_il_9, v_al_9, v_is_9, v_as_9, v_inc_9, v_il_10, v_al_10, v_is_10, v_as_10, v_inc_10, v_il_11, v_al_11, v_is_11, v_as_11, v_inc_11, v_il_12, v_al_12, v_is_12, v_as_12, v_inc_12, v_il_13, v_al_13, v_is_13, v_as_13, v_inc_13, v_c_8, v_c_9, v_c_10, v_c_11, v_c_12, v_c_13, v_c_14, v_b_15, v_b_16, v_b_17, v_b_21, v_b_22, v_b_23, v_b_24, v_b_25, v_b_26, v_b_18, v_b_19, v_b_20, v_b_27, v_b_28, v_b_29, v_b_30, v_b_31, v_dup_i, v_dup_r, v_dup2, v_pop, v_gi, v_gl, v_gr, v_pi, v_pl, v_pz, v_iald, v_lald, v_bald, v_zald, v_aald, v_iast, v_last, v_bast, v_zast, v_alen_0, v_alen_1, v_alen_2, v_alen_3, v_alen_4, v_j_45, v_j_46, v_j_47, v_j_48, v_j_49, v_j_50, v_j_51, v_j_52, v_j_53, v_j_54, v_j_55, v_j_56, v_goto, v_sw, v_ret_i, v_ret_z, v_ret, v_cpy, v_iv_1, v_iv_2, v_iv_3, v_iv_4, v_iv_5, v_iv_6, v_is2_1, v_is2_2, v_is2_3, v_ivJ, List.nil_append, List.cons_append, rf_0_0, rf_0_1, rf_0_2, rf_0_3, rf_0_4, rf_0_5, rf_0_6, rf_0_7, rf_0_8, rf_0_9, rf_1_0, rf_1_2, rf_4_0, rf_4_1, rf_4_2, rf_5_8, rf_5_9, rf_5_10, rf_5_11, rf_5_12, rf_13_0, rf_13_1, rf_14_0, rf_14_1, rf_14_2, rf_15_8, rf_15_9, rf_15_10, rf_15_11, rf_15_12, rf_23_0, rf_23_1, rf_23_2, rf_24_8, rf_24_9, rf_24_10, rf_24_11, rf_24_12, rf_32_6, rf_34_0, rf_34_1, rf_34_2, rf_34_3, rf_35_8, rf_35_9, rf_35_10, rf_35_11, rf_35_12, rf_43_0, rf_43_1, rf_43_2, rf_43_3, rf_45_0, rf_45_1, rf_46_0, rf_46_1, rf_46_2, rf_46_3, rf_46_4, rf_46_5, rf_47_0, rf_47_1, rf_49_0, rf_49_1, rf_49_2, rf_49_3, rf_49_4, rf_49_5, rf_53_0, rf_53_1, rf_53_2, rf_53_3, rf_53_4, rf_53_5, rf_53_6, rf_53_7, rf_53_9, rf_53_10, rf_53_11, rf_53_12, rf_53_13, rf_54_0, rf_54_1, rf_55_1, rf_55_2, rf_55_3, rf_67_1, rf_67_6, rf_67_7, rf_67_8, rf_67_9, rf_67_10, rf_67_22, rf_67_23, rf_67_28, rf_67_30, rf_67_32, rf_67_33, rf_67_38, rf_67_39, rf_67_48, rf_67_49, rf_67_51, rf_67_52, rf_67_53, rf_67_54, rf_67_55, rf_67_60, rf_67_61, rf_67_62, up_s, up_b, up_j, b_62_16, k_62_16, b_62_77, k_62_77, b_62_116, k_62_116, b_62_118, k_62_118, b_62_136, k_62_136, w_sm, ↓if_pos, ↓if_neg,  p1, p2]
    exact g2
  · rw [cb_f hno] at p1
    have k := kk M (fun _ _ _ => rfl)
    rw [cb_f (fun h9 => hno h9.1)] at k
    clear kk hV
    rw [e_62, k_62_0]
    simp (disch := first | exact nl_i _ | exact nl_r _ | exact Nat.le_of_ble_eq_true rfl | exact Or.inl rfl | exact Or.inr rfl | exact w8_lo _ | exact w8_hi _ | decide | omega) only [v_fall, v_il_0, v_al_0, v_is_0, v_as_0, v_inc_0, v_ll_0, v_ls_0, v_il_1, v_al_1, v_is_1, v_as_1, v_inc_1, v_ll_1, v_ls_1, v_il_2, v_al_2, v_is_2, v_as_2, v_inc_2, v_ll_2, v_ls_2, v_il_3, v_al_3, v_is_3, v_as_3, v_inc_3, v_ll_3, v_ls_3, v_il_4, v_al_4, v_is_4, v_as_4, v_inc_4, v_ll_4, v_ls_4, v_il_5, v_al_5, v_is_5, v_as_5, v_inc_5, v_ll_5, v_ls_5, v_il_6, v_al_6, v_is_6, v_as_6, v_inc_6, v_il_7, v_al_7, v_is_7, v_as_7, v_inc_7, v_il_8, v_al_8, v_is_8, v_as_8, v_inc_8, v_il_9, v_al_9, v_is_9, v_as_9, v_inc_9, v_il_10, v_al_10, v_is_10, v_as_10, v_inc_10, v_il_11, v_al_11, v_is_11, v_as_11, v_inc_11, v_il_12, v_al_12, v_is_12, v_as_12, v_inc_12, v_il_13, v_al_13, v_is_13, v_as_13, v_inc_13, v_c_8, v_c_9, v_c_10, v_c_11, v_c_12, v_c_13, v_c_14, v_b_15, v_b_16, v_b_17, v_b_21, v_b_22, v_b_23, v_b_24, v_b_25, v_b_26, v_b_18, v_b_19, v_b_20, v_b_27, v_b_28, v_b_29, v_b_30, v_b_31, v_dup_i, v_dup_r, v_dup2, v_pop, v_gi, v_gl, v_gr, v_pi, v_pl, v_pz, v_iald, v_lald, v_bald, v_zald, v_aald, v_iast, v_last, v_bast, v_zast, v_alen_0, v_alen_1, v_alen_2, v_alen_3, v_alen_4, v_j_45, v_j_46, v_j_47, v_j_48, v_j_49, v_j_50, v_j_51, v_j_52, v_j_53, v_j_54, v_j_55, v_j_56, v_goto, v_sw, v_ret_i, v_ret_z, v_ret, v_cpy, v_iv_1, v_iv_2, v_iv_3, v_iv_4, v_iv_5, v_iv_6, v_is2_1, v_is2_2, v_is2_3, v_ivJ, List.nil_append, List.cons_append, rf_0_0, rf_0_1, rf_0_2, rf_0_3, rf_0_4, rf_0_5, rf_0_6, rf_0_7, rf_0_8, rf_0_9, rf_1_0, rf_1_2, rf_4_0, rf_4_1, rf_4_2, rf_5_8, rf_5_9, rf_5_10, rf_5_11, rf_5_12, rf_13_0, rf_13_1, rf_14_0, rf_14_1, rf_14_2, rf_15_8, rf_15_9, rf_15_10, rf_15_11, rf_15_12, rf_23_0, rf_23_1, rf_23_2, rf_24_8, rf_24_9, rf_24_10, rf_24_11, rf_24_12, rf_32_6, rf_34_0, rf_34_1, rf_34_2, rf_34_3, rf_35_8, rf_35_9, rf_35_10, rf_35_11, rf_35_12, rf_43_0, rf_43_1, rf_43_2, rf_43_3, rf_45_0, rf_45_1, rf_46_0, rf_46_1, rf_46_2, rf_46_3, rf_46_4, rf_46_5, rf_47_0, rf_47_1, rf_49_0, rf_49_1, rf_49_2, rf_49_3, rf_49_4, rf_49_5, rf_53_0, rf_53_1, rf_53_2, rf_53_3, rf_53_4, rf_53_5, rf_53_6, rf_53_7, rf_53_9, rf_53_10, rf_53_11, rf_53_12, rf_53_13, rf_54_0, rf_54_1, rf_55_1, rf_55_2, rf_55_3, rf_67_1, rf_67_6, rf_67_7, rf_67_8, rf_67_9, rf_67_10, rf_67_22, rf_67_23, rf_67_28, rf_67_30, rf_67_32, rf_67_33, rf_67_38, rf_67_39, rf_67_48, rf_67_49, rf_67_51, rf_67_52, rf_67_53, rf_67_54, rf_67_55, rf_67_60, rf_67_61, rf_67_62, up_s, up_b, up_j, b_62_16, k_62_16, b_62_77, k_62_77, b_62_116, k_62_116, b_62_118, k_62_118, b_62_136, k_62_136, w_sm, ↓if_pos, ↓if_neg,  p1]
    exact k
end GU
