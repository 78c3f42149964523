/-! BEST on the class's side: work, whole -/
def PW (w l m : Nat) (wh cm lv : Nat → Int) (M : Mem) (len : Nat) (f : Nat → Nat) : Prop :=
  Riv M w l ∧ w * l ≤ 6 ∧ m ≤ 4 ∧ M 53 8 = (m : Int) ∧ (∀ i : Nat, i < m → M 59 (i : Int) = wh i ∧ M 60 (i : Int) = cm i ∧ M 61 (i : Int) = lv i) ∧ LF2 m (w * l) M len f ∧ ∀ k : Int, 0 ≤ k → k < M 5 0 → CT w (w * l) (M 5 5) (M 5 6) (M 5 7) (M 6 (3 * k)) M (2 ^ (w * l)) 0
def clA (A : Nat → Int) (M : Mem) : Prop := ∀ c : Nat, c < 4096 → (M 65 (c : Int) = A c ∧ A c < 100000000) ∨ (M 65 (c : Int) = 500000000 ∧ A c = 100000000)
/-- what the search changes -/
def seX (b : Nat) (j : Int) : Prop := b = 43 ∨ b = 44 ∨ (63 ≤ b ∧ b ≤ 66) ∨ (b = 53 ∧ 14 ≤ j ∧ j ≤ 16)
section WP
variable {d : Nat} {M M0 : Mem} {Q : List AV → Mem → Prop} {w l m : Nat} {wh cm lv : Nat → Int} {len : Nat} {f : Nat → Nat} {A : Nat → Int} {s : Nat}
theorem PW.cg (h : PW w l m wh cm lv M0 len f) (hA : AgX seX M0 M) : PW w l m wh cm lv M len f := by
  obtain ⟨h1, h2, h3, h4, h5, h6, h7⟩ := h
  have e : ∀ b, ¬ (b = 43 ∨ b = 44 ∨ (63 ≤ b ∧ b ≤ 66) ∨ b = 53) → M b = M0 b := fun b hb => hA.fn (fun j => by unfold seX; omega)
  refine ⟨h1.cg (fun b hb => e b (by omega)), h2, h3, by rw [hA 53 8 (by unfold seX; omega)]; exact h4, fun i hi => by rw [e 59 (by omega), e 60 (by omega), e 61 (by omega)]; exact h5 i hi, ?_, ?_⟩
  · unfold LF2 LI at h6 ⊢
    rw [e 55 (by omega), e 56 (by omega), e 57 (by omega), e 58 (by omega)]
    exact h6
  · unfold CT at h7 ⊢
    rw [e 5 (by omega), e 6 (by omega), e 62 (by omega)]
    exact h7
def wkX (b : Nat) (j : Int) : Prop := b = 66 ∨ (b = 53 ∧ 14 ≤ j ∧ j ≤ 16)
theorem wo_l (hP : PW w l m wh cm lv M0 len f) (hok : okB w l m (M0 5) (M0 6) (M0 7) (M0 8) (M0 4 4) wh cm lv) (hBI : BI w l m cm lv s A) (hs : (s : Int) ≤ 2 * (M0 5 0 - 1)) (hcl : clA A M0) (kk : ∀ M' o4, AgX (fun b _ => b = 66) M0 M' → (∀ c, rdy M' c = if A c < 100000000 then iniS (M0 5) (M0 6) (s : Int) A c else 500000000) → XL (d + 3) 54 20 [aR 15 0 53, aI (s : Int), aI (quO (M0 5) (s : Int)), aI (len : Int), o4, aU, aU] [] M' Q) : ∀ (t a : Nat) (M : Mem) (o4 : AV), a + t = len → AgX (fun b _ => b = 66) M0 M → (∀ a', a' < a → A (f a') < 100000000 → rdy M (f a') = iniS (M0 5) (M0 6) (s : Int) A (f a')) → (∀ c, (∀ a', a' < a → A (f a') < 100000000 → f a' ≠ c) → rdy M c = 500000000) → XL (d + 3) 54 20 [aR 15 0 53, aI (s : Int), aI (quO (M0 5) (s : Int)), aI (a : Int), o4, aU, aU] [] M Q
  | 0, a, M, o4, h, hA, h1, h2 => by
    have e : a = len := by omega
    rw [e] at h1 h2 ⊢
    refine kk M o4 hA (fun c => ?_)
    by_cases hc : A c < 100000000
    · rw [if_pos hc]
      obtain ⟨a, a1, a2⟩ := hP.2.2.2.2.2.1.2.2.2 c ((hBI c).2 hc).1
      have := h1 a a1 (by rw [a2]; exact hc)
      rw [a2] at this
      exact this
    · rw [if_neg hc]
      exact h2 c (fun a' _ ha hfe => hc (by rw [← hfe]; exact ha))
  | t + 1, a, M, o4, h, hA, h1, h2 => by
    have hF := hP.2.2.2.2.2.1
    have hl := hF.2.1
    have hp := hF.2.2.1 a (by omega)
    have ea := (hF.1.2.1 a (by omega)).1
    have r0 := hok.2.2.2.2.1.1
    have hpl := hp.1
    have hq := quO_b (r := M0 5) (s := (s : Int)) ⟨by omega, hs⟩
    have hqq := hok.2.2.2.2.1.2.2.2.2.2.2.2.2.1 _ hq.1 hq.2
    have e6 : M 6 = M0 6 := hA.fn (fun j => by simp)
    have hb := hBI (f a)
    have ca := hcl (f a) hpl
    have e65 : M 65 ((f a : Nat) : Int) = M0 65 ((f a : Nat) : Int) := hA 65 _ (by simp)
    rw [wo_1 (d := d + 2) (s : Int) (quO (M0 5) (s : Int)) (a : Int) (len : Int) ((f a : Nat) : Int) (M0 65 ((f a : Nat) : Int)) (M0 65 ((f a : Nat) : Int) + wtV (M0 6 (3 * quO (M0 5) (s : Int) + 1)) (M0 6 (3 * quO (M0 5) (s : Int) + 2)) (M0 65 ((f a : Nat) : Int))) o4 aU aU ((hA 55 0 (by simp)).trans hF.1.1) ⟨by omega, by omega, by omega⟩ ((hA 56 _ (by simp)).trans ea) ⟨by omega, by omega⟩ e65 (by omega) (fun hlt Q' => by
      have X : ∀ Q2, Q2 [aI (M0 65 ((f a : Nat) : Int) + wtV (M0 6 (3 * quO (M0 5) (s : Int) + 1)) (M0 6 (3 * quO (M0 5) (s : Int) + 2)) (M0 65 ((f a : Nat) : Int)))] M → XC (d + 2) 43 [aR 13 0 5, aI (quO (M0 5) (s : Int)), aI (M0 65 ((f a : Nat) : Int))] M Q2 := fun Q2 => (s_openFrom (quO (M0 5) (s : Int)) (M0 65 ((f a : Nat) : Int)) _ _ _ ⟨hq.1, by omega⟩ (by rw [e6, show quO (M0 5) (s : Int) * 3 + 1 = 3 * quO (M0 5) (s : Int) + 1 by omega]) (by rw [e6, show quO (M0 5) (s : Int) * 3 + 2 = 3 * quO (M0 5) (s : Int) + 2 by omega]) hqq.2.1 (by omega) (by omega) rfl).mpr
      exact s_openFrom (quO (M0 5) (s : Int)) (M0 65 ((f a : Nat) : Int)) _ _ _ ⟨hq.1, by omega⟩ (by rw [e6, show quO (M0 5) (s : Int) * 3 + 1 = 3 * quO (M0 5) (s : Int) + 1 by omega]) (by rw [e6, show quO (M0 5) (s : Int) * 3 + 2 = 3 * quO (M0 5) (s : Int) + 2 by omega]) hqq.2.1 (by omega) (by omega) rfl)]
    have rec9 := wo_l hP hok hBI hs hcl kk t (a + 1)
    by_cases hlt : A (f a) < 100000000
    · have e1 : M0 65 ((f a : Nat) : Int) = A (f a) := by omega
      rw [e1, if_pos (by omega)]
      have g := rec9 (up M 66 ((f a : Nat) : Int) (A (f a) + wtV (M0 6 (3 * quO (M0 5) (s : Int) + 1)) (M0 6 (3 * quO (M0 5) (s : Int) + 2)) (A (f a)))) (aI ((f a : Nat) : Int)) (by omega) (fun b j hb => by rw [up_b hb]; exact hA b j hb) (fun a' ha' hc' => ?_) (fun c hno => ?_)
      · rw [Int.natCast_add] at g
        exact g
      · rw [rdy_up hpl]
        unfold updS
        by_cases e : f a' = f a
        · rw [if_pos e, e]
          unfold iniS wtS
          rw [if_pos hlt]
        · rw [if_neg e]
          have hne : a' ≠ a := fun h9 => e (by rw [h9])
          exact h1 a' (by omega) hc'
      · rw [rdy_up hpl]
        unfold updS
        rw [if_neg (fun h9 => hno a (Nat.lt_succ_self a) hlt h9.symm)]
        exact h2 c (fun a' ha' => hno a' (by omega))
    · have e1 : M0 65 ((f a : Nat) : Int) = 500000000 := by omega
      rw [e1, if_neg (by omega)]
      have g := rec9 M (aI ((f a : Nat) : Int)) (by omega) hA (fun a' ha' hc' => by
        by_cases e : a' = a
        · rw [e] at hc'; exact absurd hc' hlt
        · exact h1 a' (by omega) hc') (fun c hno => h2 c (fun a' ha' => hno a' (by omega)))
      rw [Int.natCast_add] at g
      exact g
theorem s_work (hP : PW w l m wh cm lv M len f) (hok : okB w l m (M 5) (M 6) (M 7) (M 8) (M 4 4) wh cm lv) (hBI : BI w l m cm lv s A) (hs : (s : Int) ≤ 2 * (M 5 0 - 1)) (hcl : clA A M) (kk : ∀ M', AgX wkX M M' → (∀ c, (rdy M' c < 100000000 ∧ rdy M' c = DS w l m (M 5) (M 6) cm lv (s : Int) A c) ∨ (rdy M' c = 500000000 ∧ DS w l m (M 5) (M 6) cm lv (s : Int) A c = 100000000)) → Q [] M') : XC (d + 3) 54 [aR 15 0 53, aI (s : Int)] M Q := by
  have r0 := hok.2.2.2.2.1.1
  have hRI : RI M := RI_f.mpr hP.1.2.1
  have hq := quO_b (r := M 5) (s := (s : Int)) ⟨by omega, hs⟩
  have hqq := hok.2.2.2.2.1.2.2.2.2.2.2.2.2.1 _ hq.1 hq.2
  obtain ⟨o1, o2, o3, o4⟩ := hBI.ok hok hs
  rw [wo_0 (d := d + 2) (s : Int) (quO (M 5) (s : Int)) (fun Q' => s_quayOf (d := d + 1) (s : Int) ⟨by omega, by omega⟩ hRI)]
  have rf : ∀ c, rdy (filM M 66 500000000 0 4096) c = 500000000 := fun c => by
    unfold rdy
    by_cases hc : c < 4096
    · rw [if_pos hc]; exact filM_at (by omega) (by omega)
    · rw [if_neg hc]
  refine wo_l (d := d) hP hok hBI hs hcl (fun M1 o4' hA1 hr1 => ?_) len 0 _ aU (by omega) (fun b j hb => by rw [filM_r hb]) (fun a' ha' => absurd ha' (Nat.not_lt_zero a')) (fun c _ => rf c)
  have hcb : ∀ i, i < m → (-100 ≤ cm i ∧ cm i ≤ 100) ∧ -100 ≤ lv i ∧ lv i ≤ 100 := fun i hi => by
    have := (hok.2.2.2.2.2.2.2.2.1 i hi).1
    omega
  have e6 : M1 6 = M 6 := hA1.fn (fun j => by simp)
  refine wo_2 (d := d + 2) (s : Int) (quO (M 5) (s : Int)) (len : Int) (M 6 (3 * quO (M 5) (s : Int))) o4' aU aU ((hA1 55 0 (by simp)).trans hP.2.2.2.2.2.1.1.1) ⟨by omega, by have := hP.2.2.2.2.2.1.2.1; omega⟩ hqq.1 ?_
  refine s_lookRound (d := d + 2) m cm lv (s : Int) hP.2.2.1 ((hA1 53 8 (by simp)).trans hP.2.2.2.1) (fun i hi => by rw [hA1 60 _ (by simp), hA1 61 _ (by simp)]; exact (hP.2.2.2.2.1 i hi).2) hcb ⟨by omega, by omega⟩ (fun M2 here stay hA2 hh hst hL => ⟨rfl, (here : Int), ((cnt 4 here.testBit : Nat) : Int), fun Q' => ?_, hh, fun M' Q' => ?_, ?_⟩)
  · rw [s_quayPart (quO (M 5) (s : Int)) 0 (by omega) (by omega), hA2 6 _ (by unfold lrX; omega), e6, show quO (M 5) (s : Int) * 3 + 0 = 3 * quO (M 5) (s : Int) by omega]
  · have h16 : here < 2 ^ 4 := Nat.lt_of_lt_of_le hL.1 (Nat.pow_le_pow_right (by decide) hP.2.2.1)
    rw [s_bitCount here (by omega), pcn_cnt, cnt_tail (m := 4) (n := 24) (by decide) (fun i h1 _ => tb_hi h16 h1)]
  · obtain ⟨M3, hM3⟩ : ∃ M3, M3 = up M2 53 16 ((M 6 (3 * quO (M 5) (s : Int)) - 1) * 384) := ⟨_, rfl⟩
    rw [← hM3]
    have A3 : AgX wkX M M3 := fun b j hb => by
      unfold wkX at hb
      rw [hM3, up_b' (by omega), hA2 b j (by unfold lrX; omega)]
      exact hA1 b j (by simp; omega)
    have P3 : PW w l m wh cm lv M3 len f := hP.cg (fun b j hb => A3 b j (by unfold wkX; unfold seX at hb; omega))
    have g5 : M3 5 = M 5 := A3.fn (fun j => by unfold wkX; omega)
    have g6 : M3 6 = M 6 := A3.fn (fun j => by unfold wkX; omega)
    have r66 : rdy M3 = rdy M1 := by
      funext c
      unfold rdy
      rw [hM3, up_b (by decide), hA2 66 _ (by unfold lrX; omega)]
    have hB : Bs w l m cm lv (s : Int) M3 len f here stay := by
      refine ⟨P3.1, P3.2.1, P3.2.2.1, P3.2.2.2.1, fun i hi => (P3.2.2.2.2.1 i hi).2, P3.2.2.2.2.2.1, ?_, ?_, ?_, ?_, ?_, hL.1, hL.2.1, hL.2.2, ⟨by omega, by omega⟩, hcb⟩
      · rw [g5, g6]; exact hqq.1
      · rw [g5, g6, hM3, up_s]
      · rw [g5]
        have := P3.2.2.2.2.2.2 (quO (M 5) (s : Int)) hq.1 (by rw [g5]; exact hq.2)
        rw [g5] at this
        exact this
      · rw [hM3, up_j (by decide)]; exact hh
      · rw [hM3, up_j (by decide)]; exact hst
    have hO : okW m (w * l) cm lv (s : Int) (tkS w l (M3 5) (M3 6) (s : Int)) (iniS (M 5) (M 6) (s : Int) A) := by rw [g5, g6]; exact o1
    have S0 : ∀ c, rdy M3 c = if A c < 100000000 then iniS (M 5) (M 6) (s : Int) A c else 500000000 := fun c => by rw [r66]; exact hr1 c
    have hsnd : sndS m (w * l) cm lv (s : Int) (tkS w l (M3 5) (M3 6) (s : Int)) (iniS (M 5) (M 6) (s : Int) A) (rdy M3) := fun c => by
      rw [S0 c]
      by_cases hc : A c < 100000000
      · rw [if_pos hc]
        have := o4 c hc
        exact ⟨by omega, fun _ => Wk.i this.2⟩
      · rw [if_neg hc]
        exact ⟨Int.le_refl _, fun h => absurd h (by decide)⟩
    have hle : ∀ c, iniS (M 5) (M 6) (s : Int) A c < 100000000 → rdy M3 c ≤ iniS (M 5) (M 6) (s : Int) A c := fun c hc => by
      rw [S0 c]
      by_cases hc2 : A c < 100000000
      · rw [if_pos hc2]; exact Int.le_refl _
      · unfold iniS at hc
        rw [if_neg hc2] at hc
        exact absurd hc (by decide)
    have fin : ∀ M', AgX (fun b _ => b = 66) M3 M' → (∀ c, (rdy M' c < 100000000 ∧ rdy M' c = dsV m (w * l) cm lv (s : Int) (tkS w l (M3 5) (M3 6) (s : Int)) (iniS (M 5) (M 6) (s : Int) A) c) ∨ (rdy M' c = 500000000 ∧ dsV m (w * l) cm lv (s : Int) (tkS w l (M3 5) (M3 6) (s : Int)) (iniS (M 5) (M 6) (s : Int) A) c = 100000000)) → Q [] M' := fun M' hA' hr' => by
      rw [g5, g6] at hr'
      exact kk M' (fun b j hb => by
        rw [hA' b j (fun e => hb (Or.inl e))]
        exact A3 b j hb) hr'
    by_cases hm0 : m = 0
    · have h0 : here = 0 := by
        have := hL.1
        rw [hm0] at this
        omega
      rw [h0, cnt_z (fun i _ => Nat.zero_testBit i), wk_4 _ 0 0 _ _ _ ⟨by decide, by decide, by decide⟩ (by decide) ⟨by decide, by decide⟩]
      refine fin M3 (fun _ _ _ => rfl) (fun c => cl_ds hO o2 o3 (by decide) (fun c hc => (hsnd c).2 hc) hle (fun x u v k hx => absurd hx (by omega)) (fun c => (hsnd c).1) c)
    · refine wk_m (d := d) hB hO o2 o3 _ (fun M' i qi hW hqi => fin M' hW.1 (fun c => WI.end hB hO o2 o3 hW hqi c)) 4096 M3 0 0 0 ⟨fun _ _ _ => rfl, hsnd, hle, by omega, by decide, fun x _ hb => ?_⟩ (Nat.sub_le _ _) (by decide) (by decide)
      rw [bk_0, Nat.zero_testBit] at hb
      exact absurd hb (by decide)
end WP
