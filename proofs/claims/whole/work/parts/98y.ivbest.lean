/-! BEST, IN VAIN, LEFT OUT keep it -/
section CC
variable {d : Nat} {M M0 M1 M2 M3 B : Mem} {Q : List AV → Mem → Prop} {w l m : Nat}
def okK (M : Mem) (w l : Nat) (lo mi : Int) : Prop := (0 ≤ mi ∧ mi ≤ 1439) ∧ M 5 0 ≠ 0 ∧ w * l ≤ 6 ∧ M 5 2 ≤ (if lo < 0 then 4 else 5)
/-- the class side has run; the reference's begins -/
def pcX (b : Nat) (j : Int) : Prop := psX b j ∨ (b = 67 ∧ j = 0) ∨ (b = 0 ∧ j = 11)
theorem okC_u {m2 : Nat} {N lo : Int} (h : okC m N lo) (h2 : okC m2 N lo) : m2 = m := by
  unfold okC at h h2
  omega
theorem okC_of {lo mi : Int} (hk : okK M w l lo mi) (hlo : -1 ≤ lo ∧ lo < M 5 2) (h2 : 0 ≤ M 5 2 ∧ M 5 2 ≤ 9) : ∃ m, okC m (M 5 2) lo := by
  have := hk.2.2.2
  refine ⟨(if lo < 0 then M 5 2 else M 5 2 - 1).toNat, ?_⟩
  unfold okC
  by_cases cl : lo < 0
  · rw [if_pos cl] at this ⊢
    omega
  · rw [if_neg cl] at this ⊢
    omega
theorem x_se (hI : Inv M) (hG : GS M w l) (lo s mi : Int) (h : I32 mi) (hs : (lo < 0 ∧ s = 0) ∨ (0 ≤ lo ∧ s = 1)) : XC (d + 1) 123 [aR 21 0 0, aI mi, aI s] M Q ↔ Q [aI (cb (okK M w l lo mi))] M := by
  have r0 := hI.RI.1
  have r2 := hI.RI.2.2.1
  have hn := hG.n
  have e2 : M 32 2 = ((w * l : Nat) : Int) := hG.2.2.2.2.1
  rw [s_searchable (d := d) mi s ((w * l : Nat) : Int) (M 5 0) (M 5 2) h (by omega) rfl r0 rfl r2 e2 (by omega)]
  have e : (if (0 ≤ mi ∧ mi < 1440) ∧ 0 < M 5 0 ∧ M 5 2 - s ≤ 4 ∧ ((w * l : Nat) : Int) ≤ 6 then (1 : Int) else 0) = cb (okK M w l lo mi) := by
    by_cases c : okK M w l lo mi
    · rw [cb_t c, if_pos]
      obtain ⟨c1, c2, c3, c4⟩ := c
      rcases hs with ⟨h1, h2⟩ | ⟨h1, h2⟩
      · rw [if_pos h1] at c4
        omega
      · rw [if_neg (by omega)] at c4
        omega
    · rw [cb_f c, if_neg]
      rintro ⟨c1, c2, c3, c4⟩
      refine c ⟨by omega, by omega, by omega, ?_⟩
      rcases hs with ⟨h1, h2⟩ | ⟨h1, h2⟩
      · rw [if_pos h1]
        omega
      · rw [if_neg (by omega)]
        omega
  rw [e]
theorem pc_f (hB : AgX pcX M B) {b : Nat} (hb : ¬ (b = 0 ∨ b = 43 ∨ b = 44 ∨ (53 ≤ b ∧ b ≤ 67))) : B b = M b := hB.fn (fun j => by unfold pcX psX ppX seX; omega)
theorem m_cnt (hI : Inv M) (hM : GM M w l) (hB : AgX pcX M B) (lo iv mi : Int) (h : I32 mi) (hlo : -1 ≤ lo ∧ lo < M 5 2) (hiv : iv = -1 ∨ (0 ≤ iv ∧ iv < M 5 2 ∧ M 8 (4 * iv) < M 8 (4 * iv + 1))) (k0 : ¬ okK M w l lo mi → Q [aI 0] B) (k1 : okK M w l lo mi → ∀ M' m, okC m (M 5 2) lo → CR w l m (M 5) (M 6) (M 7) (M 8) (M 4 4) iv (whI lo) (cmF (M 5) (M 8) lo) (lvF (M 5) (M 8) lo iv) B → CM m (-1) (whI lo) B M' → AgX ctX B M' → Q [aI 1] M') : XC (d + 1) 214 [aR 22 0 67, aI lo, aI mi] B Q := by
  have hV := hI.V
  have r0 := hI.RI.1
  have r2 := hI.RI.2.2.1
  have hn : w * l ≤ 24 := hM.n
  have e69 : B 69 = M 69 := pc_f hB (by omega)
  have c21 : B 67 21 = -1 := by rw [hB 67 21 (by unfold pcX psX ppX seX; omega)]; exact hI.con.1
  have c31 : B 67 31 = -1 := by rw [hB 67 31 (by unfold pcX psX ppX seX; omega)]; exact hI.con.2.1
  have en : B 69 3 * B 69 4 = ((w * l : Nat) : Int) := by rw [e69, hM.2.2.1, hM.2.2.2, Int.natCast_mul]
  refine s_counts (d := d) lo mi ((w * l : Nat) : Int) (M 5 0) (M 5 2) h ⟨hlo.1, by omega⟩ (by rw [e69]; exact hV.1.1) r0 (by rw [e69]; exact hV.1.2.2.1) r2 en (by omega) hlo.2 (fun hf => k0 (fun hk => hf ⟨hk.1, hk.2.1, by have := hk.2.2.1; omega, hk.2.2.2⟩)) (fun hk M' m hC hA h56 hw => ?_)
  have hk' : okK M w l lo mi := ⟨hk.1, hk.2.1, by have := hk.2.2.1; omega, hk.2.2.2⟩
  refine k1 hk' M' m hC (CR_of (hM.of e69) hk'.2.2.1 hI.N.1 hI.L (by rw [e69]; exact hV) ⟨by rw [e69]; exact hI.W.2, hI.W.1⟩ (small_cg e69 hI.S.1) c21 c31 (by have := hk.2.1; omega) hC hiv) ⟨hA.fn (fun j => by unfold ctX; omega), by rw [hA 67 21 (by unfold ctX; omega)]; exact c21, h56, hw⟩ hA
/-- the answers are the same, and it holds again -/
theorem fin_b (hI : Inv M) (hB : AgX pcX M B) (h11 : B 0 11 = M 0 11) (hA : AgX ctX B M1) (hA2 : AgX (fun b j => bfX b j ∨ (b = 67 ∧ j = 21)) M1 M2) (h88 : ∀ i, M2 88 i = 0) (h21 : M2 67 21 = -1) : Inv M2 := by
  have o : ∀ b j, ¬ (pcX b j ∨ ctX b j ∨ bfX b j ∨ (b = 67 ∧ j = 21)) → M2 b j = M b j := fun b j hx => by
    rw [hA2 b j (fun h9 => hx (Or.inr (Or.inr h9))), hA b j (fun h9 => hx (Or.inr (Or.inl h9))), hB b j (fun h9 => hx (Or.inl h9))]
  refine inv_b hI (fun b j hx => ?_) h88 h21 ?_ ?_
  · unfold bwX scr at hx
    exact o b j (by unfold pcX psX ppX seX ctX bfX; omega)
  · rw [o 67 31 (by unfold pcX psX ppX seX ctX bfX; omega)]
    exact hI.con.2.1
  · rw [o 67 59 (by unfold pcX psX ppX seX ctX bfX; omega), hA2 0 11 (by unfold bfX; omega), hA 0 11 (by unfold ctX; omega), h11]
    exact hI.hir
theorem pc_of {wh cm lv : Nat → Int} {len : Nat} {f : Nat → Nat} (hL : LSe w l m wh cm lv len f M M1) : AgX pcX M (up M1 67 0 0) := fun b j hx => by
  unfold pcX at hx
  rw [up_b' (fun h9 => hx (Or.inr (Or.inl h9)))]
  exact hL.2.2 b j (fun h9 => hx (Or.inl h9))
theorem pc_0 : AgX pcX M (up M 67 0 0) := fun b j hx => up_b' (fun h9 => hx (Or.inr (Or.inl h9)))
theorem okB_i (hI : Inv M) (hM : GM M w l) {lo iv mi : Int} (hk : okK M w l lo mi) (hC : okC m (M 5 2) lo) (hiv : iv = -1 ∨ (0 ≤ iv ∧ iv < M 5 2 ∧ M 8 (4 * iv) < M 8 (4 * iv + 1))) : okB w l m (M 5) (M 6) (M 7) (M 8) (M 4 4) (whI lo) (cmF (M 5) (M 8) lo) (lvF (M 5) (M 8) lo iv) := by
  have r0 := hI.RI.1
  have := hk.2.1
  exact okB_of hM.1 hM.2.1 hk.2.2.1 hC hI.N.1 hI.L hI.W.1 (by omega) hiv
theorem iv_24 {a : Nat → Int} (ha : ∀ j, I32 (a j)) (hI : Inv M) : Step2 118 215 [aI (a 1)] M Inv := by
  unfold Step2
  obtain ⟨w, l, hG, hM, r3, r4⟩ := hI.gs
  have r2 := hI.RI.2.2.1
  have hRv : Riv M w l := ⟨hG, hI.N.1, hI.L, hI.W.1, r3, r4⟩
  have sx : ∀ Q', XC 14 123 [aR 21 0 0, aI (a 1), aI 0] M Q' ↔ Q' [aI (cb (okK M w l (-1) (a 1)))] M := fun Q' => x_se (d := 13) hI hG (-1) 0 (a 1) (ha 1) (Or.inl ⟨by decide, rfl⟩)
  by_cases hk : okK M w l (-1) (a 1)
  · rw [cb_t hk] at sx
    obtain ⟨m, hC⟩ := okC_of hk ⟨by decide, by omega⟩ r2
    refine x_be1 (d := 14) (a 1) sx (s_prepL (d := 8) hRv hk.2.2.1 m (-1) (-1) hC ⟨by decide, by decide⟩ (fun Ma len f hL => ⟨rfl, s_leastL (d := 9) hL (okB_i hI hM hk hC (Or.inl rfl)) (a 1) (-1) hk.1 ⟨by decide, by decide⟩ (fun Mb hLb => ⟨_, rfl, ?_⟩)⟩))
    have hB := pc_of hLb
    refine m_be1 (d := 14) (a 1) (m_cnt (d := 13) hI hM hB (-1) (-1) (a 1) (ha 1) ⟨by decide, by omega⟩ (Or.inl rfl) (fun h => absurd hk h) (fun _ Mc m2 hC2 hCR hCM hA2 => ⟨rfl, ?_⟩))
    obtain rfl := okC_u hC hC2
    refine s_bestFrom (d := 8) hCR hCM (hd := -1) (by
      rw [hA2 67 31 (by unfold ctX; omega), hB 67 31 (by unfold pcX psX ppX seX; omega)]
      exact hI.con.2.1) ⟨by decide, by decide⟩ (fun i => by
      rw [hA2 88 i (by unfold ctX; omega), hB 88 i (by unfold pcX psX ppX seX; omega)]
      exact hI.con.2.2.1 i) (a 1) hk.1 (fun Md hA3 h88 => ⟨_, rfl, eqr_i rfl, ?_⟩)
    refine fin_b hI hB (by rw [up_b (by decide)]; exact hLb.2.2 0 11 (by unfold psX ppX seX; omega)) hA2 (fun b j hx => hA3 b j (fun h9 => hx (Or.inl h9))) h88 ?_
    rw [hA3 67 21 (by unfold bfX; omega)]
    exact hCM.2.1
  · rw [cb_f hk] at sx
    rw [x_be0 (d := 14) (a 1) sx]
    exact m_be0 (d := 14) (a 1) (m_cnt (d := 13) hI hM pc_0 (-1) (-1) (a 1) (ha 1) ⟨by decide, by omega⟩ (Or.inl rfl) (fun _ => ⟨rfl, eqr_i rfl, hI.thr⟩) (fun h => absurd h hk))
theorem m_isB (hI : Inv M) (hB : AgX pcX M B) (q : Int) (hq : I32 q) : XC (d + 1) 159 [aR 22 0 67, aI q] B Q ↔ Q [aI (cb (0 ≤ q ∧ q < M 5 2))] B := by
  have e69 : B 69 = M 69 := pc_f hB (by omega)
  have r2 := hI.RI.2.2.1
  have e2 : B 69 2 = M 5 2 := by rw [e69]; exact hI.V.1.2.2.1
  rw [s_m_isBarge q hq (by rw [e2]; exact r2), e2]
  by_cases c : 0 ≤ q ∧ q < M 5 2
  · rw [cb_t c, bi_t (by omega)]
  · rw [cb_f c, bi_f (by omega)]
theorem m_goU (hI : Inv M) (hB : AgX pcX M B) (q : Int) (hq : 0 ≤ q ∧ q < M 5 2) : XC d 161 [aR 22 0 67, aI q] B Q ↔ Q [aI (cb (M 8 (4 * q) < M 8 (4 * q + 1)))] B := by
  have e69 : B 69 = M 69 := pc_f hB (by omega)
  have r2 := hI.RI.2.2.1
  have v := hI.V.2.2.2
  have e1 : B 69 (81 + 4 * q) = M 8 (4 * q) := by rw [e69]; exact v _ (by omega) (by omega)
  have e2 : B 69 (81 + 4 * q + 1) = M 8 (4 * q + 1) := by rw [e69, Int.add_assoc]; exact v _ (by omega) (by omega)
  rw [s_m_goesUp q (by omega) (small_cg e69 hI.S.1), e1, e2]
  by_cases c : M 8 (4 * q) < M 8 (4 * q + 1)
  · rw [cb_t c, bi_t c]
  · rw [cb_f c, bi_f c]
theorem x_hB (hI : Inv M) (q : Int) (hq : I32 q) : XC d 28 [aR 13 0 5, aI q] M Q ↔ Q [aI (cb (0 ≤ q ∧ q < M 5 2))] M := by
  rw [s_hasBarge q hq hI.RI]
  by_cases c : 0 ≤ q ∧ q < M 5 2
  · rw [cb_t c, bi_t c]
  · rw [cb_f c, bi_f c]
theorem x_gU (hI : Inv M) (q : Int) (hq : 0 ≤ q ∧ q < M 5 2) : XC (d + 1) 39 [aR 13 0 5, aI q] M Q ↔ Q [aI (cb (M 8 (4 * q) < M 8 (4 * q + 1)))] M := by
  rw [s_goesUp q hq hI.RI]
  by_cases c : M 8 (4 * q) < M 8 (4 * q + 1)
  · rw [cb_t c, bi_t c]
  · rw [cb_f c, bi_f c]
theorem iv_28 {a : Nat → Int} (ha : ∀ j, I32 (a j)) (hI : Inv M) : Step2 122 219 [aI (a 1), aI (a 2)] M Inv := by
  unfold Step2
  obtain ⟨w, l, hG, hM, r3, r4⟩ := hI.gs
  have r2 := hI.RI.2.2.1
  have hRv : Riv M w l := ⟨hG, hI.N.1, hI.L, hI.W.1, r3, r4⟩
  by_cases hb : 0 ≤ a 1 ∧ a 1 < M 5 2
  · have sx : ∀ Q', XC 14 123 [aR 21 0 0, aI (a 2), aI 1] M Q' ↔ Q' [aI (cb (okK M w l (a 1) (a 2)))] M := fun Q' => x_se (d := 13) hI hG (a 1) 1 (a 2) (ha 2) (Or.inr ⟨hb.1, rfl⟩)
    have sb : ∀ Q', XC 14 28 [aR 13 0 5, aI (a 1)] M Q' ↔ Q' [aI 1] M := fun Q' => by rw [x_hB hI (a 1) (ha 1), cb_t hb]
    by_cases hk : okK M w l (a 1) (a 2)
    · rw [cb_t hk] at sx
      obtain ⟨m, hC⟩ := okC_of hk ⟨by omega, hb.2⟩ r2
      refine x_wo1 (d := 14) (a 1) (a 2) sx sb (s_prepL (d := 8) hRv hk.2.2.1 m (a 1) (-1) hC ⟨by decide, by decide⟩ (fun Ma len f hL => ⟨rfl, s_leastL (d := 9) hL (okB_i hI hM hk hC (Or.inl rfl)) (a 2) (-1) hk.1 ⟨by decide, by decide⟩ (fun Mb hLb => ⟨_, rfl, ?_⟩)⟩))
      have hB := pc_of hLb
      refine m_wo1 (d := 14) (a 1) (a 2) (fun Q' => by rw [m_isB (d := 13) hI hB (a 1) (ha 1), cb_t hb]) (m_cnt (d := 13) hI hM hB (a 1) (-1) (a 2) (ha 2) ⟨by omega, hb.2⟩ (Or.inl rfl) (fun h => absurd hk h) (fun _ Mc m2 hC2 hCR hCM hA2 => ⟨rfl, ?_⟩))
      obtain rfl := okC_u hC hC2
      refine s_bestFrom (d := 8) hCR hCM (hd := -1) (by
        rw [hA2 67 31 (by unfold ctX; omega), hB 67 31 (by unfold pcX psX ppX seX; omega)]
        exact hI.con.2.1) ⟨by decide, by decide⟩ (fun i => by
        rw [hA2 88 i (by unfold ctX; omega), hB 88 i (by unfold pcX psX ppX seX; omega)]
        exact hI.con.2.2.1 i) (a 2) hk.1 (fun Md hA3 h88 => ⟨_, rfl, eqr_i rfl, ?_⟩)
      refine fin_b hI hB (by rw [up_b (by decide)]; exact hLb.2.2 0 11 (by unfold psX ppX seX; omega)) hA2 (fun b j hx => hA3 b j (fun h9 => hx (Or.inl h9))) h88 ?_
      rw [hA3 67 21 (by unfold bfX; omega)]
      exact hCM.2.1
    · rw [cb_f hk] at sx
      rw [x_wo0 (d := 14) (a 1) (a 2) 0 (Or.inl rfl) sx 1 (Or.inr rfl) sb (fun h => absurd h.1 (by decide))]
      exact m_wo0 (d := 14) (a 1) (a 2) 1 (Or.inr rfl) (fun Q' => by rw [m_isB (d := 13) hI pc_0 (a 1) (ha 1), cb_t hb]) (fun h => absurd h (by decide)) (fun _ => m_cnt (d := 13) hI hM pc_0 (a 1) (-1) (a 2) (ha 2) ⟨by omega, hb.2⟩ (Or.inl rfl) (fun _ => ⟨rfl, eqr_i rfl, hI.thr⟩) (fun h => absurd h hk))
  · have sx : ∀ Q', XC 14 123 [aR 21 0 0, aI (a 2), aI 1] M Q' ↔ Q' [aI (cb (okK M w l 1 (a 2)))] M := fun Q' => x_se (d := 13) hI hG 1 1 (a 2) (ha 2) (Or.inr ⟨by decide, rfl⟩)
    have sb : ∀ Q', XC 14 28 [aR 13 0 5, aI (a 1)] M Q' ↔ Q' [aI 0] M := fun Q' => by rw [x_hB hI (a 1) (ha 1), cb_f hb]
    rw [x_wo0 (d := 14) (a 1) (a 2) _ cb_01 sx 0 (Or.inl rfl) sb (fun h => absurd h.2 (by decide))]
    exact m_wo0 (d := 14) (a 1) (a 2) 0 (Or.inl rfl) (fun Q' => by rw [m_isB (d := 13) hI pc_0 (a 1) (ha 1), cb_f hb]) (fun _ => ⟨eqr_i rfl, hI.thr⟩) (fun h => absurd h (by decide))
theorem iv_27 {a : Nat → Int} (ha : ∀ j, I32 (a j)) (hI : Inv M) : Step2 121 218 [aI (a 1), aI (a 2)] M Inv := by
  unfold Step2
  obtain ⟨w, l, hG, hM, r3, r4⟩ := hI.gs
  have r2 := hI.RI.2.2.1
  have hRv : Riv M w l := ⟨hG, hI.N.1, hI.L, hI.W.1, r3, r4⟩
  have sx : ∀ Q', XC 14 123 [aR 21 0 0, aI (a 2), aI 0] M Q' ↔ Q' [aI (cb (okK M w l (-1) (a 2)))] M := fun Q' => x_se (d := 13) hI hG (-1) 0 (a 2) (ha 2) (Or.inl ⟨by decide, rfl⟩)
  have sb : ∀ Q', XC 14 28 [aR 13 0 5, aI (a 1)] M Q' ↔ Q' [aI (cb (0 ≤ a 1 ∧ a 1 < M 5 2))] M := fun Q' => x_hB hI (a 1) (ha 1)
  have mb : ∀ (B : Mem), AgX pcX M B → ∀ Q', XC 14 159 [aR 22 0 67, aI (a 1)] B Q' ↔ Q' [aI (cb (0 ≤ a 1 ∧ a 1 < M 5 2))] B := fun B hB Q' => m_isB (d := 13) hI hB (a 1) (ha 1)
  by_cases hb : 0 ≤ a 1 ∧ a 1 < M 5 2
  · rw [cb_t hb] at sb mb
    have sg : ∀ Q', XC 14 39 [aR 13 0 5, aI (a 1)] M Q' ↔ Q' [aI (cb (M 8 (4 * a 1) < M 8 (4 * a 1 + 1)))] M := fun Q' => x_gU (d := 13) hI (a 1) hb
    have mg : ∀ (B : Mem), AgX pcX M B → ∀ Q', XC 14 161 [aR 22 0 67, aI (a 1)] B Q' ↔ Q' [aI (cb (M 8 (4 * a 1) < M 8 (4 * a 1 + 1)))] B := fun B hB Q' => m_goU hI hB (a 1) hb
    by_cases hg : M 8 (4 * a 1) < M 8 (4 * a 1 + 1)
    · rw [cb_t hg] at sg mg
      by_cases hk : okK M w l (-1) (a 2)
      · rw [cb_t hk] at sx
        have hiv : a 1 = -1 ∨ (0 ≤ a 1 ∧ a 1 < M 5 2 ∧ M 8 (4 * a 1) < M 8 (4 * a 1 + 1)) := Or.inr ⟨hb.1, hb.2, hg⟩
        obtain ⟨m, hC⟩ := okC_of hk ⟨by decide, by omega⟩ r2
        refine x_va1 (d := 14) (a 1) (a 2) sx sb sg (s_prepL (d := 8) hRv hk.2.2.1 m (-1) (a 1) hC ⟨by omega, by omega⟩ (fun Ma len f hL => ⟨rfl, s_leastL (d := 9) hL (okB_i hI hM hk hC hiv) (a 2) (-1) hk.1 ⟨by decide, by decide⟩ (fun Mb hLb => ⟨_, rfl, ?_⟩)⟩))
        have hB := pc_of hLb
        refine m_va1 (d := 14) (a 1) (a 2) (mb _ hB) (mg _ hB) (m_cnt (d := 13) hI hM hB (-1) (a 1) (a 2) (ha 2) ⟨by decide, by omega⟩ hiv (fun h => absurd hk h) (fun _ Mc m2 hC2 hCR hCM hA2 => ⟨rfl, ?_⟩))
        obtain rfl := okC_u hC hC2
        refine s_bestFrom (d := 8) hCR ⟨(up_r (by decide)).trans hCM.1, up_s, by rw [up_j (by decide)]; exact hCM.2.2.1, fun i hi => by rw [up_b (by decide)]; exact hCM.2.2.2 i hi⟩ (hd := -1) (by
          rw [up_j (by decide), hA2 67 31 (by unfold ctX; omega), hB 67 31 (by unfold pcX psX ppX seX; omega)]
          exact hI.con.2.1) ⟨by decide, by decide⟩ (fun i => by
          rw [up_b (by decide), hA2 88 i (by unfold ctX; omega), hB 88 i (by unfold pcX psX ppX seX; omega)]
          exact hI.con.2.2.1 i) (a 2) hk.1 (fun Md hA3 h88 => ⟨_, rfl, eqr_i rfl, ?_⟩)
        refine fin_b hI hB (by rw [up_b (by decide)]; exact hLb.2.2 0 11 (by unfold psX ppX seX; omega)) hA2 (fun b j hx => ?_) (fun i => by rw [up_b (by decide)]; exact h88 i) up_s
        rw [up_b' (fun h9 => hx (Or.inr h9)), hA3 b j (fun h9 => hx (Or.inl h9)), up_b' (fun h9 => hx (Or.inr h9))]
      · rw [cb_f hk] at sx
        rw [x_va0 (d := 14) (a 1) (a 2) 0 (Or.inl rfl) sx 1 (Or.inr rfl) sb 1 (Or.inr rfl) (fun _ => sg) (fun h => absurd h.1 (by decide))]
        exact m_va0 (d := 14) (a 1) (a 2) 1 1 (Or.inr rfl) (Or.inr rfl) (mb _ pc_0) (fun _ => mg _ pc_0) (fun h => absurd ⟨rfl, rfl⟩ h) (fun _ _ => m_cnt (d := 13) hI hM pc_0 (-1) (-1) (a 2) (ha 2) ⟨by decide, by omega⟩ (Or.inl rfl) (fun _ => ⟨rfl, eqr_i rfl, hI.thr⟩) (fun h => absurd h hk))
    · rw [cb_f hg] at sg mg
      rw [x_va0 (d := 14) (a 1) (a 2) _ cb_01 sx 1 (Or.inr rfl) sb 0 (Or.inl rfl) (fun _ => sg) (fun h => absurd h.2.2 (by decide))]
      exact m_va0 (d := 14) (a 1) (a 2) 1 0 (Or.inr rfl) (Or.inl rfl) (mb _ pc_0) (fun _ => mg _ pc_0) (fun _ => ⟨eqr_i rfl, hI.thr⟩) (fun _ h => absurd h (by decide))
  · rw [cb_f hb] at sb mb
    rw [x_va0 (d := 14) (a 1) (a 2) _ cb_01 sx 0 (Or.inl rfl) sb 0 (Or.inl rfl) (fun h => absurd h (by decide)) (fun h => absurd h.2.1 (by decide))]
    exact m_va0 (d := 14) (a 1) (a 2) 0 0 (Or.inl rfl) (Or.inl rfl) (mb _ pc_0) (fun h => absurd h (by decide)) (fun _ => ⟨eqr_i rfl, hI.thr⟩) (fun h => absurd h (by decide))
end CC
