/-! FIRST on the class's side: comeOff -/
def heS (w n : Nat) (sd : Int) (due S : Nat → Bool) : Prop := ∀ i, S i = true → due i = true → clrP w n sd S i = false
def CO (w n : Nat) (sd : Int) (keep due : Nat → Bool) (T0 : Int → Int) (M0 M : Mem) : Prop :=
  AgX (fun b _ => b = 52) M0 M ∧ subR n (M 52) T0 ∧ (∀ k, 0 ≤ k → k < 24 → -1 ≤ M 52 k ∧ M 52 k < 9) ∧ (∀ j : Int, (n : Int) ≤ j → j < 24 → M 52 j = -1) ∧ offI (clrP w n sd) keep due (pR n (M 52))
def dnN (n : Nat) (due : Nat → Bool) (T : Int → Int) : Nat := setN n (fun i => due i && pR n T i)
def dnC (n : Nat) (due : Nat → Bool) (T : Int → Int) : Nat := cnt n (fun i => due i && pR n T i)
theorem pR_off {n : Nat} {T : Int → Int} {k : Nat} : pR n (updR T (k : Int) (-1)) = fun i => if i = k then false else pR n T i := by
  funext i
  have h : pR n (updR T (k : Int) (-1)) i = true ↔ (if i = k then false else pR n T i) = true := by
    rw [pR_lt]
    by_cases e : i = k
    · rw [if_pos e]
      unfold updR
      rw [if_pos (by omega)]
      exact ⟨fun h => absurd rfl h.2, fun h => absurd h (by decide)⟩
    · rw [if_neg e, pR_lt]
      unfold updR
      rw [if_neg (by omega)]
  cases h1 : pR n (updR T (k : Int) (-1)) i <;> cases h2 : (if i = k then false else pR n T i)
  · rfl
  · have := h.mpr h2
    rw [h1] at this
    exact absurd this (by decide)
  · have := h.mp h1
    rw [h2] at this
    exact absurd this (by decide)
  · rfl
theorem subR.off {n : Nat} {T T0 : Int → Int} {k : Int} (h : subR n T T0) : subR n (updR T k (-1)) T0 := fun i hi hr => by
  unfold updR at hr ⊢
  by_cases e : (i : Int) = k
  · rw [if_pos e] at hr
    exact absurd rfl hr
  · rw [if_neg e] at hr ⊢
    exact h i hi hr
theorem dnN_t {n : Nat} {due : Nat → Bool} {T : Int → Int} (i : Nat) : (dnN n due T).testBit i = (due i && pR n T i) := by
  unfold dnN
  rw [setN_t]
  by_cases h : i < n
  · rw [decide_eq_true h, Bool.true_and]
  · have : pR n T i = false := by
      cases e : pR n T i
      · rfl
      · exact absurd (pR_lt.mp e).1 h
    rw [decide_eq_false h, this, Bool.and_false, Bool.and_false]
theorem dnN_lt {n : Nat} {due : Nat → Bool} {T : Int → Int} (hn : n ≤ 24) : dnN n due T < 16777216 := Nat.lt_of_lt_of_le (setN_lt n) (Nat.pow_le_pow_right (by decide) hn)
theorem dnN_off {n : Nat} {due : Nat → Bool} {T : Int → Int} {k : Nat} (hn : n ≤ 24) (hk : k < n) : and32 ((dnN n due T : Nat) : Int) (xor32 (shl32 1 (k : Int)) (-1)) = ((dnN n due (updR T (k : Int) (-1)) : Nat) : Int) := by
  have h := dnN_lt (due := due) (T := T) hn
  have hp : (2 : Nat) ^ k ≤ 2 ^ 24 := Nat.pow_le_pow_right (by decide) (by omega)
  rw [shl_1 k (by omega), andn32 _ _ (by omega) (by omega)]
  congr 1
  apply Nat.eq_of_testBit_eq
  intro i
  rw [andN_t, dnN_t, dnN_t, Nat.testBit_two_pow, pR_off]
  show (due i && pR n T i && !decide (k = i)) = (due i && (if i = k then false else pR n T i))
  by_cases e : i = k
  · rw [e, if_pos rfl, decide_eq_true rfl, Bool.and_false]
    rw [Bool.not_true, Bool.and_false]
  · rw [decide_eq_false (fun h => e h.symm), if_neg e]
    rw [Bool.not_false, Bool.and_true]
theorem dnC_off {n : Nat} {due : Nat → Bool} {T : Int → Int} {k : Nat} (hk : k < n) (hd : due k = true) (hT : pR n T k = true) : dnC n due (updR T (k : Int) (-1)) < dnC n due T := by
  unfold dnC
  rw [pR_off]
  refine cnt_lt (fun i hi h => ?_) ⟨k, hk, ?_, ?_⟩
  · have h9 : (due i && (if i = k then false else pR n T i)) = true := h
    show (due i && pR n T i) = true
    rw [Bool.and_eq_true] at h9 ⊢
    refine ⟨h9.1, ?_⟩
    by_cases e : i = k
    · rw [if_pos e] at h9
      exact absurd h9.2 (by decide)
    · rw [if_neg e] at h9
      exact h9.2
  · show (due k && pR n T k) = true
    rw [hd, hT]
    rfl
  · show (due k && (if k = k then false else pR n T k)) = false
    rw [if_pos rfl, Bool.and_false]
theorem up_52 {M : Mem} {k x : Int} : (up M 52 k x) 52 = updR (M 52) k x := by
  funext j
  unfold up updR
  by_cases e : j = k
  · rw [if_pos ⟨rfl, e⟩, if_pos e]
  · rw [if_neg (fun h => e h.2), if_neg e]
section CF
variable {d : Nat} {M M0 : Mem} {Q : List AV → Mem → Prop} {w l n : Nat} {sd : Int} {keep due : Nat → Bool} {T0 : Int → Int}
theorem CO.f (h : CO w n sd keep due T0 M0 M) {x : Nat} (hx : x ≠ 52) : M x = M0 x := funext fun j => h.1 x j hx
theorem cmo_al (hG : GS M0 w l) (hs : sd = 1 ∨ sd = 2 ∨ sd = 3) (S0 : Nat → Bool) (c0 : Nat) (o1 : AV) (j : Int) (kk : ∀ M1, CO w (w * l) sd keep due T0 M0 M1 → ((heS w (w * l) sd due (pR (w * l) (M1 52)) ∧ pR (w * l) (M1 52) = S0) ∨ (dnC (w * l) due (M1 52) < c0 ∧ ¬ heS w (w * l) sd due S0)) → XL (d + 2) 63 33 [aR 16 0 49, o1, aI sd, aI ((dnN (w * l) due (M1 52) : Nat) : Int), aI j, aI ((w * l : Nat) : Int)] [] M1 Q) : ∀ (t k : Nat) (M : Mem), k + t = w * l → CO w (w * l) sd keep due T0 M0 M → (((∀ i, i < k → pR (w * l) (M 52) i = true → due i = true → clrP w (w * l) sd (pR (w * l) (M 52)) i = false) ∧ pR (w * l) (M 52) = S0 ∧ dnC (w * l) due (M 52) = c0) ∨ (dnC (w * l) due (M 52) < c0 ∧ ¬ heS w (w * l) sd due S0)) → XL (d + 2) 63 33 [aR 16 0 49, o1, aI sd, aI ((dnN (w * l) due (M 52) : Nat) : Int), aI j, aI (k : Int)] [] M Q
  | 0, k, M, h, hC, hA => by
    have e : k = w * l := by omega
    rw [e]
    refine kk M hC ?_
    rcases hA with ⟨a1, a2, -⟩ | a
    · exact Or.inl ⟨fun i h1 h2 => a1 i (by rw [e]; exact (pR_lt.mp h1).1) h1 h2, a2⟩
    · exact Or.inr a
  | t + 1, k, M, h, hC, hA => by
    have hn := hG.n
    have hk : k < w * l := by omega
    have hG1 : GS M w l := hG.cg (hC.f (by decide)) (hC.f (by decide))
    have dl := dnN_lt (n := w * l) (due := due) (T := M 52) hn
    have dt := dnN_t (n := w * l) (due := due) (T := M 52) k
    have t1 := tb32 (dnN (w * l) due (M 52)) k (by omega) (by omega)
    rw [dt] at t1
    rw [cmo_1 (d := d + 1) o1 (aI j) sd _ (k : Int) ((w * l : Nat) : Int) _ _ _ hG1.2.2.2.2.1 ⟨by omega, by omega, by omega⟩ t1 (by cases (due k && pR (w * l) (M 52) k) <;> decide) (fun _ Q' => s_isClr (d := d) hG1 hC.2.2.1 sd hs k hk) (by cases (clrP w (w * l) sd (pR (w * l) (M 52)) k) <;> decide) (dnN_off hn hk)]
    have IH := cmo_al hG hs S0 c0 o1 j kk t (k + 1)
    by_cases c : (due k && pR (w * l) (M 52) k) = true ∧ clrP w (w * l) sd (pR (w * l) (M 52)) k = true
    · have c1 := Bool.and_eq_true _ _ |>.mp c.1
      rw [if_pos (by rw [c.1, c.2]; decide)]
      have g := IH (up M 52 (k : Int) (-1)) (by omega) ?_ ?_
      · rw [up_52, Int.natCast_add] at g
        exact g
      · refine ⟨fun b j hb => ?_, ?_, fun i i0 i1 => ?_, fun i i0 i1 => ?_, ?_⟩
        · rw [up_b hb]
          exact hC.1 b j hb
        · rw [up_52]
          exact hC.2.1.off
        · rw [up_52]
          unfold updR
          by_cases e : i = (k : Int)
          · rw [if_pos e]; decide
          · rw [if_neg e]; exact hC.2.2.1 i i0 i1
        · rw [up_52]
          unfold updR
          by_cases e : i = (k : Int)
          · rw [if_pos e]
          · rw [if_neg e]; exact hC.2.2.2.1 i i0 i1
        · rw [up_52, pR_off]
          exact offI_s clrP_mono hC.2.2.2.2 c1.1 c.2
      · right
        rw [up_52]
        have lt := dnC_off hk c1.1 c1.2
        rcases hA with ⟨a1, a2, a3⟩ | ⟨a1, a2⟩
        · refine ⟨by omega, fun h9 => ?_⟩
          have := h9 k (by rw [← a2]; exact c1.2) c1.1
          rw [← a2, c.2] at this
          exact absurd this (by decide)
        · exact ⟨by omega, a2⟩
    · rw [if_neg (fun h9 => c ⟨by
        have := h9.1
        cases hx : (due k && pR (w * l) (M 52) k)
        · rw [hx] at this; exact absurd this (by decide)
        · rfl, by
        have := h9.2
        cases hx : clrP w (w * l) sd (pR (w * l) (M 52)) k
        · rw [hx] at this; exact absurd this (by decide)
        · rfl⟩)]
      have g := IH M (by omega) hC ?_
      · rw [Int.natCast_add] at g
        exact g
      · rcases hA with ⟨a1, a2, a3⟩ | a
        · refine Or.inl ⟨fun i hi h1 h2 => ?_, a2, a3⟩
          by_cases e : i = k
          · rw [e] at h1 h2 ⊢
            cases hx : clrP w (w * l) sd (pR (w * l) (M 52)) k
            · rfl
            · exact absurd ⟨by rw [h1, h2]; rfl, hx⟩ c
          · exact a1 i (by omega) h1 h2
        · exact Or.inr a
theorem cmo_ro (hG : GS M0 w l) (hs : sd = 1 ∨ sd = 2 ∨ sd = 3) (o1 : AV) (k1 : ∀ M1, CO w (w * l) sd keep due T0 M0 M1 → dnN (w * l) due (M1 52) = 0 → Q [aI 1] M1) (k0 : ∀ M1, CO w (w * l) sd keep due T0 M0 M1 → dnN (w * l) due (M1 52) ≠ 0 → heS w (w * l) sd due (pR (w * l) (M1 52)) → Q [aI 0] M1) : ∀ (t j : Nat) (o5 : AV) (M : Mem), j + t = 6 → CO w (w * l) sd keep due T0 M0 M → (heS w (w * l) sd due (pR (w * l) (M 52)) ∨ dnC (w * l) due (M 52) + j ≤ 6) → XL (d + 2) 63 19 [aR 16 0 49, o1, aI sd, aI ((dnN (w * l) due (M 52) : Nat) : Int), aI (j : Int), o5] [] M Q
  | 0, j, o5, M, h, hC, hA => by
    have hn := hG.n
    have dl := dnN_lt (n := w * l) (due := due) (T := M 52) hn
    rw [cmo_3 (d := d + 2) o1 (aI sd) o5 _ (j : Int) ⟨by omega, by omega⟩ ⟨by omega, by omega⟩]
    by_cases c : dnN (w * l) due (M 52) = 0
    · rw [if_pos (by omega)]
      exact k1 M hC c
    · rw [if_neg (by omega), if_pos (by omega)]
      refine k0 M hC c ?_
      rcases hA with a | a
      · exact a
      · have : dnC (w * l) due (M 52) = 0 := by omega
        have z := (z_cnt (x := dnN (w * l) due (M 52)) (n := w * l) (setN_lt _)).mpr (by
          rw [← this]
          unfold dnC
          exact cnt_cg (fun i _ => dnN_t i))
        exact absurd z c
  | t + 1, j, o5, M, h, hC, hA => by
    have hn := hG.n
    have dl := dnN_lt (n := w * l) (due := due) (T := M 52) hn
    rw [cmo_3 (d := d + 2) o1 (aI sd) o5 _ (j : Int) ⟨by omega, by omega⟩ ⟨by omega, by omega⟩]
    by_cases c : dnN (w * l) due (M 52) = 0
    · rw [if_pos (by omega)]
      exact k1 M hC c
    · rw [if_neg (by omega), if_neg (by omega)]
      refine cmo_al hG hs (pR (w * l) (M 52)) (dnC (w * l) due (M 52)) o1 (j : Int) (fun M1 hC1 hA1 => ?_) (w * l) 0 M (by omega) hC (Or.inl ⟨fun i hi => absurd hi (Nat.not_lt_zero i), rfl, rfl⟩)
      rw [cmo_2 (d := d + 2) o1 (aI sd) _ (j : Int) ((w * l : Nat) : Int) (by rw [hC1.f (by decide)]; exact hG.2.2.2.2.1) (by omega)]
      have g := cmo_ro hG hs o1 k1 k0 t (j + 1) (aI ((w * l : Nat) : Int)) M1 (by omega) hC1 ?_
      · rw [Int.natCast_add] at g
        exact g
      · rcases hA1 with ⟨a1, -⟩ | ⟨a1, a2⟩
        · exact Or.inl a1
        · rcases hA with a | a
          · exact absurd a a2
          · exact Or.inr (by omega)
end CF
