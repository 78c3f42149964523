/-! FIRST on the reference's side: comesOff, whole -/
def fX (b : Nat) (j : Int) : Prop := b = 74 ∨ b = 75 ∨ b = 77 ∨ b = 78 ∨ b = 79 ∨ (b = 67 ∧ (j = 34 ∨ j = 35))
def RO (w n : Nat) (sd : Int) (keep due : Nat → Bool) (T0 : Int → Int) (M0 M : Mem) (T : Int → Int) : Prop :=
  AgX fX M0 M ∧ (∀ k, 0 ≤ k → k < 24 → M 74 k = T k + 1) ∧ subR n T T0 ∧ (∀ j : Int, (n : Int) ≤ j → j < 24 → T j = -1) ∧ offI (clrP w n sd) keep due (pR n T)
/-- who is told -/
def TL (M0 : Mem) (r b : Int → Int) (m : Nat) : Prop := M0 67 50 = (m : Int) ∧ m ≤ 6 ∧ ∀ i : Nat, i < m → (0 ≤ M0 82 (i : Int) ∧ M0 82 (i : Int) < r 2) ∧ b (4 * M0 82 (i : Int)) = 0 ∧ 0 < b (4 * M0 82 (i : Int) + 1)
theorem cnt_off {n : Nat} {T : Int → Int} {k : Nat} (hk : k < n) (hT : pR n T k = true) : cnt n (pR n (updR T (k : Int) (-1))) + 1 = cnt n (pR n T) := by
  rw [pR_off]
  have h1 : cnt n (fun i => if i = k then false else pR n T i) < cnt n (pR n T) := cnt_lt (fun i hi h => by
    have h9 : (if i = k then false else pR n T i) = true := h
    by_cases e : i = k
    · rw [if_pos e] at h9; exact absurd h9 (by decide)
    · rw [if_neg e] at h9; exact h9) ⟨k, hk, hT, if_pos rfl⟩
  have h2 : cnt n (pR n T) ≤ cnt n (fun i => if i = k then false else pR n T i) + 1 := cnt_1 (k := k) (fun i hi hne h => by
    show (if i = k then false else pR n T i) = true
    rw [if_neg hne]
    exact h)
  omega
section RT
variable {d : Nat} {M M0 : Mem} {Q : List AV → Mem → Prop} {w l n : Nat} {r q lg b : Int → Int} {fl : Int} {sd : Int} {keep due : Nat → Bool} {T0 T : Int → Int}
theorem RO.f (h : RO w n sd keep due T0 M0 M T) {x : Nat} (hx : ¬ (x = 74 ∨ x = 75 ∨ x = 77 ∨ x = 78 ∨ x = 79 ∨ x = 67)) : M x = M0 x := funext fun j => h.1 x j (by unfold fX; omega)
theorem RO.bd (h : RO w n sd keep due T0 M0 M T) (hn : n ≤ 24) (hr : r 2 ≤ 9) (hT0 : jRaft n (r 2) T0 511) {k : Int} (k0 : 0 ≤ k) (k1 : k < 24) : -1 ≤ T k ∧ T k < r 2 ∧ (T k = -1 ∨ T k = T0 k) := by
  by_cases c : T k = -1
  · have := (hT0.1 k k0 k1).1
    omega
  · by_cases hk : k < (n : Int)
    · have e := h.2.2.1 k.toNat (by omega) (by rw [show ((k.toNat : Nat) : Int) = k by omega]; exact c)
      rw [show ((k.toNat : Nat) : Int) = k by omega] at e
      have := (hT0.1 k k0 k1).1
      omega
    · exact absurd (h.2.2.2.1 k (by omega) k1) c
theorem RO.g9 (h : RO w n sd keep due T0 M0 M T) (hn : n ≤ 24) (hr : r 2 ≤ 9) (hT0 : jRaft n (r 2) T0 511) : gB9 M := fun j j0 j1 => by
  have h1 := h.bd (r := r) hn hr hT0 j0 j1
  rw [h.2.1 j j0 j1]
  omega
theorem RO.gp (h : RO w n sd keep due T0 M0 M T) (hn : n ≤ 24) (hr : r 2 ≤ 9) (hT0 : jRaft n (r 2) T0 511) : gP M n = pR n T := (gP_st (M0 := M0) (r := r) hn h.2.1 (fun k k0 k1 => (h.bd (r := r) hn hr hT0 k0 k1).1)).symm
theorem RO.plc (h : RO w n sd keep due T0 M0 M T) (hn : n ≤ 24) {x : Int} : plc (gR M) x n = plc T x n := plc_cg (fun i hi => by
  unfold gR
  rw [h.2.1 (i : Int) (by omega) (by omega)]
  omega)
/-- one sweep over all that are told -/
theorem cf_al (hV : RivM M0 w l r q lg b fl) (m : Nat) (hL : TL M0 r b m) (k : Nat) (hk : k < 7) (hT0 : jRaft (w * l) (r 2) T0 511) (hin : ∀ i : Nat, i < w * l → T0 (i : Int) ≠ -1 → ∃ j : Nat, j < m ∧ M0 82 (j : Int) = T0 (i : Int)) (hs : sd = 1 ∨ sd = 2 ∨ sd = 3) (hdue : ∀ i, due i = true ↔ i < w * l ∧ T0 (i : Int) ≠ -1 ∧ b (4 * T0 (i : Int) + 1) = (k : Int) + 1) (c0 : Nat) (kk : ∀ M1 T1 more o6, RO w (w * l) sd keep due T0 M0 M1 T1 → ((more = 0 ∧ heS w (w * l) sd due (pR (w * l) T1)) ∨ (more = 1 ∧ cnt (w * l) (pR (w * l) T1) < c0)) → XL (d + 6) 205 49 [aR 22 0 67, aI ((cnt (w * l) (pR (w * l) T1) : Nat) : Int), aI (k : Int), aI sd, aI more, aI (m : Int), o6] [] M1 Q) : ∀ (t i : Nat) (M : Mem) (T : Int → Int) (more : Int) (o6 : AV), i + t = m → RO w (w * l) sd keep due T0 M0 M T → ((more = 0 ∧ ∀ j : Nat, j < i → ∀ z : Nat, z < w * l → T (z : Int) = M0 82 (j : Int) → due z = true → clrP w (w * l) sd (pR (w * l) T) z = false) ∧ cnt (w * l) (pR (w * l) T) ≤ c0 ∨ (more = 1 ∧ cnt (w * l) (pR (w * l) T) < c0)) → XL (d + 6) 205 49 [aR 22 0 67, aI ((cnt (w * l) (pR (w * l) T) : Nat) : Int), aI (k : Int), aI sd, aI more, aI (i : Int), o6] [] M Q
  | 0, i, M, T, more, o6, h, hC, hA => by
    have hn : w * l ≤ 24 := hV.1.n
    have r2 := hV.2.1.2.2.1
    have e : i = m := by omega
    rw [e]
    refine kk M T more o6 hC ?_
    rcases hA with ⟨⟨a1, a2⟩, -⟩ | a
    · refine Or.inl ⟨a1, fun z h1 h2 => ?_⟩
      obtain ⟨p1, p2⟩ := pR_lt.mp h1
      have p3 := hC.2.2.1 z p1 p2
      obtain ⟨j, j1, j2⟩ := hin z p1 (by rw [← p3]; exact p2)
      exact a2 j (by omega) z p1 (by rw [p3, j2]) h2
    · exact Or.inr a
  | t + 1, i, M, T, more, o6, h, hC, hA => by
    have hn : w * l ≤ 24 := hV.1.n
    have r2 := hV.2.1.2.2.1
    have r0 := hV.2.1.1
    have hi : i < m := by omega
    obtain ⟨x0, x1, x2⟩ := hL.2.2 i hi
    obtain ⟨x, hx⟩ : ∃ x, M0 82 (i : Int) = x := ⟨_, rfl⟩
    rw [hx] at x0 x1 x2
    have m6 := hL.2.1
    have e69 : M 69 = M0 69 := hC.f (by decide)
    have hG : GM M w l := hV.1.of e69
    have hg9 := hC.g9 (r := r) hn r2.2 hT0
    have hb9 := hV.2.1.2.2.2.2.2.2.2.2.2 x x0.1 x0.2
    have e21 : M 67 21 = -1 := by rw [hC.1 67 21 (by unfold fX; omega)]; exact hV.2.2.2.2.2.2.1
    have cl := cnt_le (p := pR (w * l) T) (n := w * l)
    have oE : offS r b x = b (4 * x + 1) := by
      unfold offS
      rw [if_pos (by omega)]
    have pE := hC.plc (x := x) hn
    have hp := plc_sp (R := T) (b := x) (n := w * l)
    have hpb : -1 ≤ plc T x (w * l) ∧ plc T x (w * l) < 24 := by
      rcases hp with ⟨h5, -⟩ | ⟨y, hy, hpy, -⟩ <;> omega
    refine cf_1 (d := d + 5) (aI sd) ((cnt (w * l) (pR (w * l) T) : Nat) : Int) (k : Int) sd more (i : Int) (m : Int) x (plc T x (w * l)) (offS r b x) o6 (by rw [hC.1 _ _ (by unfold fX; omega)]; exact hL.1) ⟨by omega, by omega, by omega⟩ (by rw [hC.f (by decide)]; exact hx) (fun Q' => by rw [s_place (d := d + 4) hG hg9.b x ⟨by omega, by omega⟩, pE]) hpb (fun _ Q' => s_m_offS (d := d + 4) hV e69 e21 x x0) (by omega) ⟨by omega, by omega⟩ ⟨by omega, by omega⟩ (fun hno => ?_) (fun hpl hof => ?_)
    · have g := cf_al hV m hL k hk hT0 hin hs hdue c0 kk t (i + 1) M T more (aI (plc T x (w * l))) (by omega) hC ?_
      · rw [Int.natCast_add] at g
        exact g
      · rcases hA with ⟨⟨a1, a2⟩, a3⟩ | a
        · refine Or.inl ⟨⟨a1, fun j hj z hz h1 h2 => ?_⟩, a3⟩
          by_cases e : j = i
          · rw [e, hx] at h1
            exfalso
            have h3 := (hdue z).mp h2
            have h4 := hC.2.2.1 z hz (by omega)
            rcases hno with h9 | h9
            · rcases hp with ⟨-, h5⟩ | ⟨y, h5, h6, -⟩
              · exact h5 z hz h1
              · omega
            · rw [oE, ← h1, h4] at h9
              exact h9 h3.2.2
          · exact a2 j (by omega) z hz h1 h2
        · exact Or.inr a
    · rcases hp with ⟨h5, -⟩ | ⟨y, hy, hpy, hTy⟩
      · exact absurd h5 hpl
      · rw [hpy]
        have hyT : T (y : Int) ≠ -1 := by omega
        have hy0 := hC.2.2.1 y hy hyT
        have hdy : due y = true := (hdue y).mpr ⟨hy, by omega, by rw [← hy0, hTy, ← oE]; exact hof⟩
        have hpy1 : pR (w * l) T y = true := pR_lt.mpr ⟨hy, hyT⟩
        refine s_isFree (d := d + 3) hG hg9.b y sd hy hs (fun M1 hA1 => ?_)
        rw [hC.gp (r := r) hn r2.2 hT0]
        have hC1 : RO w (w * l) sd keep due T0 M0 M1 T := ⟨fun c j hc => by
          rw [hA1 c j (fun e => hc (by unfold fX; omega))]
          exact hC.1 c j hc, fun z z0 z1 => by rw [hA1 74 z (by show ¬ ((74 : Nat) = 75); decide)]; exact hC.2.1 z z0 z1, hC.2.2⟩
        refine ⟨_, rfl, ?_⟩
        by_cases cc : clrP w (w * l) sd (pR (w * l) T) y = true
        · right
          rw [cc]
          refine ⟨rfl, ?_⟩
          have lt := cnt_off hy hpy1
          have eleft : ((cnt (w * l) (pR (w * l) T) : Nat) : Int) - 1 = ((cnt (w * l) (pR (w * l) (updR T (y : Int) (-1))) : Nat) : Int) := by omega
          rw [eleft]
          have g := cf_al hV m hL k hk hT0 hin hs hdue c0 kk t (i + 1) (up M1 74 (y : Int) 0) (updR T (y : Int) (-1)) 1 (aI (y : Int)) (by omega) ⟨fun c j hc => ?_, fun z z0 z1 => ?_, hC1.2.2.1.off, fun z z0 z1 => ?_, ?_⟩ (Or.inr ⟨rfl, by rcases hA with ⟨-, a⟩ | ⟨-, a⟩ <;> omega⟩)
          · rw [Int.natCast_add] at g
            exact g
          · rw [up_b' (fun e => hc (by unfold fX; omega))]
            exact hC1.1 c j hc
          · unfold updR
            by_cases e : z = (y : Int)
            · rw [e, up_s, if_pos rfl]
              decide
            · rw [up_j e, if_neg e]
              exact hC1.2.1 z z0 z1
          · unfold updR
            by_cases e : z = (y : Int)
            · rw [if_pos e]
            · rw [if_neg e]
              exact hC1.2.2.2.1 z z0 z1
          · rw [pR_off]
            exact offI_s clrP_mono hC1.2.2.2.2 hdy cc
        · left
          have cf : clrP w (w * l) sd (pR (w * l) T) y = false := by
            cases hx9 : clrP w (w * l) sd (pR (w * l) T) y
            · rfl
            · exact absurd hx9 cc
          rw [cf]
          refine ⟨rfl, ?_⟩
          have g := cf_al hV m hL k hk hT0 hin hs hdue c0 kk t (i + 1) M1 T more (aI (y : Int)) (by omega) hC1 ?_
          · rw [Int.natCast_add] at g
            exact g
          · rcases hA with ⟨⟨a1, a2⟩, a3⟩ | a
            · refine Or.inl ⟨⟨a1, fun j hj z hz h1 h2 => ?_⟩, a3⟩
              by_cases e : j = i
              · rw [e, hx] at h1
                have h3 := hC.2.2.1 z hz (by omega)
                have h4 : z = y := by
                  have h5 : T0 (z : Int) = T0 (y : Int) := by rw [← h3, ← hy0, h1, hTy]
                  rcases hT0.2.1 (z : Int) (y : Int) (by omega) (by omega) (by omega) (by omega) h5 with h6 | h6
                  · rw [← h3] at h6; omega
                  · omega
                rw [h4]
                exact cf
              · exact a2 j (by omega) z hz h1 h2
            · exact Or.inr a
theorem cf_ro (hV : RivM M0 w l r q lg b fl) (m : Nat) (hL : TL M0 r b m) (k : Nat) (hk : k < 7) (hT0 : jRaft (w * l) (r 2) T0 511) (hin : ∀ i : Nat, i < w * l → T0 (i : Int) ≠ -1 → ∃ j : Nat, j < m ∧ M0 82 (j : Int) = T0 (i : Int)) (hs : sd = 1 ∨ sd = 2 ∨ sd = 3) (hdue : ∀ i, due i = true ↔ i < w * l ∧ T0 (i : Int) ≠ -1 ∧ b (4 * T0 (i : Int) + 1) = (k : Int) + 1) (kk : ∀ M1 T1 o6, RO w (w * l) sd keep due T0 M0 M1 T1 → heS w (w * l) sd due (pR (w * l) T1) → XL (d + 6) 205 132 [aR 22 0 67, aI ((cnt (w * l) (pR (w * l) T1) : Nat) : Int), aI (k : Int), aI sd, aI 0, aI 0, o6] [] M1 Q) : ∀ (c : Nat) (M : Mem) (T : Int → Int) (o5 o6 : AV), cnt (w * l) (pR (w * l) T) ≤ c → RO w (w * l) sd keep due T0 M0 M T → XL (d + 6) 205 38 [aR 22 0 67, aI ((cnt (w * l) (pR (w * l) T) : Nat) : Int), aI (k : Int), aI sd, aI 1, o5, o6] [] M Q := by
  intro c
  induction c with
  | zero =>
    intro M T o5 o6 hc hC
    have m6 := hL.2.1
    rw [cf_3 _ _ _ o5 o6 1 (Or.inr rfl), if_pos rfl]
    have g := cf_al (d := d) (Q := Q) hV m hL k hk hT0 hin hs hdue 0 (fun M1 T1 more o6 hC1 hA1 => by
      rw [cf_2 _ _ _ o6 more (m : Int) (by rw [hC1.1 _ _ (by unfold fX; omega)]; exact hL.1) ⟨by omega, by omega⟩]
      rcases hA1 with ⟨a1, a2⟩ | ⟨-, a2⟩
      · rw [a1, cf_3 _ _ _ _ o6 0 (Or.inl rfl), if_neg (by decide)]
        exact kk M1 T1 o6 hC1 a2
      · exact absurd a2 (Nat.not_lt_zero _)) m 0 M T 0 o6 (by omega) hC (Or.inl ⟨⟨rfl, fun j hj => absurd hj (Nat.not_lt_zero j)⟩, hc⟩)
    exact g
  | succ c ih =>
    intro M T o5 o6 hc hC
    have m6 := hL.2.1
    rw [cf_3 _ _ _ o5 o6 1 (Or.inr rfl), if_pos rfl]
    have g := cf_al (d := d) (Q := Q) hV m hL k hk hT0 hin hs hdue (c + 1) (fun M1 T1 more o6 hC1 hA1 => by
      rw [cf_2 _ _ _ o6 more (m : Int) (by rw [hC1.1 _ _ (by unfold fX; omega)]; exact hL.1) ⟨by omega, by omega⟩]
      rcases hA1 with ⟨a1, a2⟩ | ⟨a1, a2⟩
      · rw [a1, cf_3 _ _ _ _ o6 0 (Or.inl rfl), if_neg (by decide)]
        exact kk M1 T1 o6 hC1 a2
      · rw [a1]
        exact ih M1 T1 _ o6 (by omega) hC1) m 0 M T 0 o6 (by omega) hC (Or.inl ⟨⟨rfl, fun j hj => absurd hj (Nat.not_lt_zero j)⟩, hc⟩)
    exact g
/-- whether all that are due are off -/
theorem cf_ch (hV : RivM M0 w l r q lg b fl) (m : Nat) (hL : TL M0 r b m) (k : Nat) (hk : k < 7) (hT0 : jRaft (w * l) (r 2) T0 511) (hin : ∀ i : Nat, i < w * l → T0 (i : Int) ≠ -1 → ∃ j : Nat, j < m ∧ M0 82 (j : Int) = T0 (i : Int)) (hdue : ∀ i, due i = true ↔ i < w * l ∧ T0 (i : Int) ≠ -1 ∧ b (4 * T0 (i : Int) + 1) = (k : Int) + 1) (hC : RO w (w * l) sd keep due T0 M0 M T) (left o3 o4 o6 : AV) (k0 : ¬ (∀ z, due z = true → pR (w * l) T z = false) → Q [aI 0] M) (kk : (∀ z, due z = true → pR (w * l) T z = false) → XL (d + 6) 205 7 [aR 22 0 67, left, aI ((k : Int) + 1), o3, o4, aI (m : Int), o6] [] M Q) : ∀ (t i : Nat), i + t = m → (∀ j : Nat, j < i → ∀ z : Nat, z < w * l → T (z : Int) = M0 82 (j : Int) → due z = true → False) → XL (d + 6) 205 132 [aR 22 0 67, left, aI (k : Int), o3, o4, aI (i : Int), o6] [] M Q
  | 0, i, h, hA => by
    have m6 := hL.2.1
    have e : i = m := by omega
    rw [e, cf_5 left o3 o4 o6 (k : Int) (m : Int) (by rw [hC.1 _ _ (by unfold fX; omega)]; exact hL.1) ⟨by omega, by omega⟩]
    refine kk (fun z hz => ?_)
    cases hx : pR (w * l) T z
    · rfl
    · exfalso
      obtain ⟨p1, p2⟩ := pR_lt.mp hx
      have p3 := hC.2.2.1 z p1 p2
      obtain ⟨j, j1, j2⟩ := hin z p1 (by rw [← p3]; exact p2)
      exact hA j (by omega) z p1 (by rw [p3, j2]) hz
  | t + 1, i, h, hA => by
    have hn : w * l ≤ 24 := hV.1.n
    have r2 := hV.2.1.2.2.1
    have r0 := hV.2.1.1
    have m6 := hL.2.1
    have hi : i < m := by omega
    obtain ⟨x0, x1, x2⟩ := hL.2.2 i hi
    obtain ⟨x, hx⟩ : ∃ x, M0 82 (i : Int) = x := ⟨_, rfl⟩
    rw [hx] at x0 x1 x2
    have e69 : M 69 = M0 69 := hC.f (by decide)
    have hG : GM M w l := hV.1.of e69
    have hg9 := hC.g9 (r := r) hn r2.2 hT0
    have hb9 := hV.2.1.2.2.2.2.2.2.2.2.2 x x0.1 x0.2
    have e21 : M 67 21 = -1 := by rw [hC.1 67 21 (by unfold fX; omega)]; exact hV.2.2.2.2.2.2.1
    have oE : offS r b x = b (4 * x + 1) := by
      unfold offS
      rw [if_pos (by omega)]
    have pE := hC.plc (x := x) hn
    have hp := plc_sp (R := T) (b := x) (n := w * l)
    have hpb : -1 ≤ plc T x (w * l) ∧ plc T x (w * l) < 24 := by
      rcases hp with ⟨h5, -⟩ | ⟨y, hy, hpy, -⟩ <;> omega
    rw [cf_4 (d := d + 5) left o3 o4 o6 (k : Int) (i : Int) (m : Int) x (plc T x (w * l)) (offS r b x) (by rw [hC.1 _ _ (by unfold fX; omega)]; exact hL.1) ⟨by omega, by omega, by omega⟩ (by rw [hC.f (by decide)]; exact hx) (fun Q' => s_m_offS (d := d + 4) hV e69 e21 x x0) (fun Q' => by rw [s_place (d := d + 4) hG hg9.b x ⟨by omega, by omega⟩, pE]) hpb (by omega) ⟨by omega, by omega⟩]
    by_cases c : offS r b x = (k : Int) + 1 ∧ plc T x (w * l) ≠ -1
    · rw [if_pos c]
      refine k0 (fun hall => ?_)
      rcases hp with ⟨h5, -⟩ | ⟨y, hy, hpy, hTy⟩
      · exact c.2 h5
      · have hyT : T (y : Int) ≠ -1 := by omega
        have hy0 := hC.2.2.1 y hy hyT
        have := hall y ((hdue y).mpr ⟨hy, by omega, by rw [← hy0, hTy, ← oE]; exact c.1⟩)
        rw [pR_lt.mpr ⟨hy, hyT⟩] at this
        exact absurd this (by decide)
    · rw [if_neg c]
      have g := cf_ch hV m hL k hk hT0 hin hdue hC left o3 o4 o6 k0 kk t (i + 1) (by omega) (fun j hj z hz h1 h2 => by
        by_cases e : j = i
        · rw [e, hx] at h1
          have h3 := (hdue z).mp h2
          have h4 := hC.2.2.1 z hz (by omega)
          refine c ⟨by rw [oE, ← h1, h4]; exact h3.2.2, ?_⟩
          rcases hp with ⟨-, h5⟩ | ⟨y, h5, h6, -⟩
          · exact absurd h1 (h5 z hz)
          · omega
        · exact hA j (by omega) z hz h1 h2)
      rw [Int.natCast_add] at g
      exact g
end RT
