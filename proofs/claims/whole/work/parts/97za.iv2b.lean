/-! THE CALL river -/
theorem bgM_o {M : Mem} {b : Nat} {j : Int} (h : b < 4 ∨ 11 < b) : bgM M b j = M b j := by
  unfold bgM
  rw [up_b (by omega), up_b (by omega)]
  unfold filM
  rw [if_neg (by omega), cpRv_o (by omega)]
theorem bgM_12 {M : Mem} {j : Int} : bgM M 12 j = M 12 j := bgM_o (by decide)
theorem iv_2 {M : Mem} (hI : Inv M) : Step2 98 155 [] M Inv := by
  unfold Step2
  obtain ⟨⟨t1, t2, t3⟩, hT⟩ := hI
  have hSm := hT.1
  have hCon : ConR M := hT.2.2.2.2.2.2.2.2.2.2
  obtain ⟨len, hlen⟩ : ∃ len : Nat, M 1 1 = (len : Int) := ⟨(M 1 1).toNat, by omega⟩
  have hl : len ≤ 940 := by omega
  have bT : ∀ i, 0 ≤ M 2 i ∧ M 2 i < 256 := fun i => (t3 i).1
  have mT : ∀ i, and32 (M 68 i) 255 = M 2 i := fun i => oct_and (t3 i)
  refine s_x_river (d := 6) (T := M 2) hlen hl (fun i _ _ => rfl) bT hCon.2.2.2.1 hSm.2.2.1 ?_
  cases hp : pRiv (M 2) len (min len 900) 900 900 0 (tok (M 2) len (min len 900) 0) pd0 with
  | inl e =>
    intro M1 a1 a2 a3 a4
    have f1 : ∀ b j, ¬ (b = 1 ∨ (34 ≤ b ∧ b ≤ 42)) → up M1 1 1 0 b j = M b j := fun b j hx => by
      rw [up_b (by omega)]
      exact a1 b j (by unfold tcR; omega)
    have f1' : ∀ b, ¬ (b = 1 ∨ (34 ≤ b ∧ b ≤ 42)) → up M1 1 1 0 b = M b := fun b hx => funext fun j => f1 b j hx
    refine s_m_river (d := 9) (T := M 2) (by rw [f1 67 2 (by decide), t1, hlen]) hl (fun i _ _ => by rw [f1 68 i (by decide)]; exact mT i) bT (by rw [f1' 73 (by decide)]; exact hCon.2.2.2.2) (small_cg (f1' 70 (by decide)) hSm.2.2.2.2.2.2.1) (small_cg (f1' 71 (by decide)) hSm.2.2.2.2.2.2.2) ?_
    rw [hp]
    intro M2 c1 c2 c3 c4 c5
    refine ⟨eqr_i rfl, ?_⟩
    have g : ∀ b j, ¬ tmS b j → M2 b j = up M1 1 1 0 b j := c1
    have g' : ∀ b, b ≠ 67 → b ≠ 70 → b ≠ 71 → b ≠ 72 → M2 b = up M1 1 1 0 b := fun b h1 h2 h3 h4 => funext fun j => g b j (by unfold tmS; omega)
    have G : ∀ b, b ≠ 67 → b ≠ 70 → b ≠ 71 → b ≠ 72 → ¬ (b = 1 ∨ (34 ≤ b ∧ b ≤ 42)) → M2 b = M b := fun b h1 h2 h3 h4 h5 => (g' b h1 h2 h3 h4).trans (f1' b h5)
    have k72 : ∀ j, 0 ≤ j → j < 17 → M2 72 j = M 72 j := fun j h0 h1 => by rw [g 72 j (by unfold tmS; omega)]; exact f1 72 j (by decide)
    refine ⟨⟨?_, ?_, fun i => ?_⟩, InvT_n (M := M) (fun b j hx => ?_) hT ⟨small_cg (G 69 (by decide) (by decide) (by decide) (by decide) (by decide)) hSm.1, small_cg (G 7 (by decide) (by decide) (by decide) (by decide) (by decide)) hSm.2.1, ?_, c2, c3⟩ ?_ ?_ ?_⟩
    · rw [c5, g 1 1 (by unfold tmS; omega), up_s]
    · rw [g 1 1 (by unfold tmS; omega), up_s]; decide
    · rw [G 2 (by decide) (by decide) (by decide) (by decide) (by decide), G 68 (by decide) (by decide) (by decide) (by decide) (by decide)]
      exact t3 i
    · rw [g b j (by unfold tmS; unfold scrN at hx; omega)]
      exact f1 b j (by unfold scrN at hx; omega)
    · intro i h0 h1
      rw [g 37 i (by unfold tmS; omega), up_b (by decide)]
      exact a2 i h0 h1
    · rw [g 1 9 (by unfold tmS; omega), up_j (by decide), a3, c4]
    · have i3 := hT.2.2.1
      unfold NowR at i3 ⊢
      have k : ∀ b, 4 ≤ b → b ≤ 12 ∨ b = 69 → M2 b = M b := fun b h1 h2 => G b (by omega) (by omega) (by omega) (by omega) (by omega)
      rw [k 4 (by decide) (by decide), k 5 (by decide) (by decide), k 6 (by decide) (by decide), k 7 (by decide) (by decide), k 8 (by decide) (by decide), k 9 (by decide) (by decide), k 10 (by decide) (by decide), k 11 (by decide) (by decide), k 12 (by decide) (by decide), k 69 (by decide) (by decide)]
      exact ⟨i3.1, i3.2.1, i3.2.2.1, i3.2.2.2.1, i3.2.2.2.2.1, i3.2.2.2.2.2.1, NMf_cg ⟨i3.1.1.2, i3.1.2.2.1.2⟩ k72 i3.2.2.2.2.2.2⟩
    · have i4 := hT.2.2.2.1
      unfold GridR at i4 ⊢
      rw [G 32 (by decide) (by decide) (by decide) (by decide) (by decide), G 33 (by decide) (by decide) (by decide) (by decide) (by decide), G 5 (by decide) (by decide) (by decide) (by decide) (by decide)]
      exact i4
  | inr x =>
    intro Ma a1 a2 a3 a4 a5 M1 b1 b2
    have hf := pRiv_f hp
    obtain ⟨u, D, n⟩ := x
    have a1' : CGd (M 2) len (min len 900) Ma Ma u D := a1
    have hD : DI D := a2
    have hf' : ¬ dR D 1 + 1 < dR D 0 := hf
    have f0 : ∀ b j, ¬ (b = 1 ∨ (34 ≤ b ∧ b ≤ 42)) → up Ma 1 1 0 b j = M b j := fun b j hx => by
      rw [up_b (by omega)]
      exact a3 b j (by unfold tcR; omega)
    have f1 : ∀ b j, ¬ (b = 1 ∨ (4 ≤ b ∧ b ≤ 11) ∨ (32 ≤ b ∧ b ≤ 42)) → M1 b j = M b j := fun b j hx => by
      rw [b1 b j (by omega) (by omega), bgM_o (by omega), f0 b j (by omega)]
    have f1' : ∀ b, ¬ (b = 1 ∨ (4 ≤ b ∧ b ≤ 11) ∨ (32 ≤ b ∧ b ≤ 42)) → M1 b = M b := fun b hx => funext fun j => f1 b j hx
    refine s_m_river (d := 9) (T := M 2) (by rw [f1 67 2 (by decide), t1, hlen]) hl (fun i _ _ => by rw [f1 68 i (by decide)]; exact mT i) bT (by rw [f1' 73 (by decide)]; exact hCon.2.2.2.2) (small_cg (f1' 70 (by decide)) hSm.2.2.2.2.2.2.1) (small_cg (f1' 71 (by decide)) hSm.2.2.2.2.2.2.2) ?_
    rw [hp]
    intro Mr c1 c2 c3 c4 c5 M2 d1 d2 d3
    refine ⟨eqr_i rfl, ?_⟩
    have c1' : RGd (M 2) len (min len 900) 900 Mr Mr u D := c1
    have g : ∀ b j, ¬ (b = 67 ∨ (69 ≤ b ∧ b ≤ 72)) → M2 b j = M1 b j := fun b j hx => by
      rw [d1 b j (by omega) (by omega)]
      exact c3 b j (by unfold tmS; omega)
    have g67 : ∀ j, ¬ (j = 0 ∨ (2 ≤ j ∧ j ≤ 5) ∨ (11 ≤ j ∧ j ≤ 20)) → M2 67 j = M 67 j := fun j hj => by
      rw [d1 67 j (by omega) (by omega), c3 67 j (by unfold tmS; omega), f1 67 j (by decide)]
    obtain ⟨-, -, -, -, sC, r1, r2, r3, r4, r5, r6, r7⟩ := a1'
    obtain ⟨-, -, -, -, -, ⟨s70, s71⟩, -, m1, m2, m3, m4, m5, m6, m7, m8⟩ := c1'
    have R0 := hD.1.1
    have R1 := hD.1.2.1
    have R2 := hD.1.2.2.1
    have cp : ∀ b j, 4 ≤ b → b ≤ 11 → M2 b j = bgM (up Ma 1 1 0) b j := fun b j h1 h2 => by
      rw [g b j (by omega), b1 b j (by omega) (by omega)]
    have bg : ∀ b j, 5 ≤ b → b ≤ 10 → bgM (up Ma 1 1 0) b j = cpRv (up Ma 1 1 0) 35 5 b j := fun b j h1 h2 => by
      unfold bgM
      rw [up_b (by omega), up_b (by omega)]
      unfold filM
      rw [if_neg (by omega)]
    have e5 : ∀ k, 0 ≤ k → k ≤ 7 → M2 5 k = dR D k := fun k h0 h7 => by
      rw [cp 5 k (by decide) (by decide), bg 5 k (by decide) (by decide), cpRv_f h0 h7, up_b (by decide)]
      exact r1 k h0 h7
    have e6 : ∀ i, 0 ≤ i → i < 24 → M2 6 i = Ma 36 i := fun i h0 h9 => by
      rw [cp 6 i (by decide) (by decide), bg 6 i (by decide) (by decide)]
      exact (cpRv_1 (s := 35) (t := 5) (by decide) h0 h9).trans (up_b (by decide))
    have e7 : ∀ i, 0 ≤ i → i < 49 → M2 7 i = Ma 37 i := fun i h0 h9 => by
      rw [cp 7 i (by decide) (by decide), bg 7 i (by decide) (by decide)]
      exact (cpRv_2 (s := 35) (t := 5) (by decide) h0 h9).trans (up_b (by decide))
    have e8 : ∀ i, 0 ≤ i → i < 36 → M2 8 i = Ma 38 i := fun i h0 h9 => by
      rw [cp 8 i (by decide) (by decide), bg 8 i (by decide) (by decide)]
      exact (cpRv_3 (s := 35) (t := 5) (by decide) h0 h9).trans (up_b (by decide))
    have e9 : ∀ i, 0 ≤ i → i < 8 → M2 9 i = Ma 39 i := fun i h0 h9 => by
      rw [cp 9 i (by decide) (by decide), bg 9 i (by decide) (by decide)]
      exact (cpRv_4 (s := 35) (t := 5) (by decide) h0 h9).trans (up_b (by decide))
    have e10 : ∀ i, 0 ≤ i → i < 9 → M2 10 i = Ma 40 i := fun i h0 h9 => by
      rw [cp 10 i (by decide) (by decide), bg 10 i (by decide) (by decide)]
      exact (cpRv_5 (s := 35) (t := 5) (by decide) h0 h9).trans (up_b (by decide))
    have e11 : ∀ i, 0 ≤ i → i < 24 → M2 11 i = -1 := fun i h0 h9 => by
      rw [cp 11 i (by decide) (by decide)]
      unfold bgM
      rw [up_b (by decide), up_b (by decide)]
      unfold filM
      exact if_pos ⟨rfl, h0, h9⟩
    have q69 : ∀ j, 0 ≤ j → j < 117 → M2 69 j = Mr 70 j := fun j h0 h1 => by rw [d2 j h0 (by omega), if_pos h1]
    have z69 : ∀ j, 117 ≤ j → j < 383 → M2 69 j = 0 := fun j h0 h1 => by rw [d2 j (by omega) h1, if_neg (by omega)]
    have hN : NowR M2 := by
      refine st_new hD hf' ?_ ?_ e5 (fun i h0 h1 => ?_) (fun i h0 h1 => ?_) (fun i h0 h1 => ?_) (fun i hi => ⟨?_, ?_⟩) (fun i hi => ⟨?_, ?_⟩) (fun k h0 h1 => ⟨e11 k h0 h1, z69 _ (by omega) (by omega)⟩) ⟨z69 _ (by decide) (by decide), z69 _ (by decide) (by decide)⟩ (fun k h0 h7 => ?_) (fun i h0 h1 => ?_) (fun i h0 h1 => ?_) (fun i h0 h1 => ?_)
      · rw [cp 4 3 (by decide) (by decide)]
        unfold bgM
        rw [up_j (by decide), up_s]
      · rw [cp 4 4 (by decide) (by decide)]
        unfold bgM
        rw [up_s]
      · rw [e6 i h0 (by omega)]; exact r2 i h0 h1
      · rw [e7 i h0 (by omega)]; exact r3 i h0 h1
      · rw [e8 i h0 (by omega)]; exact r4 i h0 h1
      · rw [e9 _ (by omega) (by omega)]; exact r5 i hi
      · rw [d3 _ (by omega) (by omega)]; exact m5 i hi
      · rw [e10 _ (by omega) (by omega)]; exact r6 i hi
      · rw [d3 _ (by omega) (by omega), show (17 : Int) + (8 + (i : Int)) = 25 + (i : Int) by omega]; exact m6 i hi
      · rw [q69 k h0 (by omega)]; exact m1 k h0 h7
      · rw [q69 _ (by omega) (by omega)]; exact m2 i h0 h1
      · rw [q69 _ (by omega) (by omega)]; exact m3 i h0 h1
      · rw [q69 _ (by omega) (by omega)]; exact m4 i h0 h1
    refine ⟨⟨?_, ?_, fun i => ?_⟩, InvT_n (M := M) (fun b j hx => ?_) hT ⟨fun i h0 h1 => ?_, fun i h0 h1 => ?_, fun i h0 h1 => ?_, fun i h0 h1 => ?_, fun i h0 h1 => ?_⟩ ?_ hN ?_⟩
    · rw [d1 67 2 (by decide) (by decide), c4, g 1 1 (by decide), b1 1 1 (by decide) (by decide), bgM_o (by decide), up_s]
    · rw [g 1 1 (by decide), b1 1 1 (by decide) (by decide), bgM_o (by decide), up_s]; decide
    · rw [g 2 i (by decide), f1 2 i (by decide), d1 68 i (by omega) (by omega), c3 68 i (by unfold tmS; omega), f1 68 i (by decide)]
      exact t3 i
    · by_cases c : b = 67
      · rw [c]
        rw [c] at hx
        exact g67 j (by unfold scrN at hx; omega)
      · rw [g b j (by unfold scrN at hx; omega), f1 b j (by unfold scrN at hx; omega)]
    · by_cases c : i < 117
      · rw [q69 i h0 c]; exact s70 i h0 c
      · rw [z69 i (by omega) h1]; decide
    · rw [e7 i h0 h1]; exact sC i h0 h1
    · rw [g 37 i (by decide), b1 37 i (by decide) (by decide), bgM_o (by decide), up_b (by decide)]; exact sC i h0 h1
    · rw [d1 70 i (by omega) (by omega)]; exact s70 i h0 h1
    · rw [d1 71 i (by omega) (by omega)]; exact s71 i h0 h1
    · rw [g 1 9 (by decide), b1 1 9 (by decide) (by decide), bgM_o (by decide), up_j (by decide), a4, d1 67 15 (by decide) (by decide), c5]
    · obtain ⟨w, hw⟩ : ∃ w : Nat, dR D 3 = (w : Int) := ⟨(dR D 3).toNat, by have := hD.1.2.2.2.1; omega⟩
      obtain ⟨l, hl9⟩ : ∃ l : Nat, dR D 4 = (l : Int) := ⟨(dR D 4).toNat, by have := hD.1.2.2.2.2.1; omega⟩
      have hw4 : 1 ≤ w ∧ w ≤ 4 := by have := hD.1.2.2.2.1; omega
      have hl6 : 1 ≤ l ∧ l ≤ 6 := by have := hD.1.2.2.2.2.1; omega
      obtain ⟨x2, x3, x4, x5⟩ := b2 w l hw4 hl6 hw hl9
      have G32 : ∀ j, M2 32 j = M1 32 j := fun j => g 32 j (by decide)
      have G33 : ∀ j, M2 33 j = M1 33 j := fun j => g 33 j (by decide)
      exact ⟨w, l, hw4, hl6, by rw [e5 3 (by decide) (by decide)]; exact hw, by rw [e5 4 (by decide) (by decide)]; exact hl9, by rw [G32]; exact x2.1, by rw [G32]; exact x2.2.1, by rw [G32]; exact x2.2.2.1, by rw [G32]; exact x2.2.2.2, by rw [G32]; exact x3, by rw [G32]; exact x4, fun b hb k9 hk9 => by rw [G33]; exact x5 b hb k9 hk9⟩
