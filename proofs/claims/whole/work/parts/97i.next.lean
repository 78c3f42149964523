/-! TOKENS on the reference's side: next -/
theorem nL_0 {T : Int → Int} {k n : Nat} (h : ∀ i : Nat, i < n → isL (T ((k : Int) + (i : Int))) = false) : nL T k n = 0 := cnt_z h
theorem nL_no {T : Int → Int} {k n : Nat} (h : nL T k n = 0) : ∀ i : Nat, i < n → isL (T ((k : Int) + (i : Int))) = false := fun i hi => by
  cases h8 : isL (T ((k : Int) + (i : Int)))
  · rfl
  · have := cnt_pos (p := fun i : Nat => isL (T ((k : Int) + (i : Int)))) (n := n) ⟨i, hi, h8⟩
    unfold nL at h
    omega
theorem L_noD {c : Int} (h : isL c = true) : isD c = false := by
  cases h9 : isD c
  · rfl
  · have a := of_decide_eq_true h
    have b := of_decide_eq_true h9
    omega
section NX
variable {d : Nat} {M M0 : Mem} {Q : List AV → Mem → Prop} {T : Int → Int} {len most : Nat}
/-- what holds within a run -/
def nRun (M0 : Mem) (T : Int → Int) (k n : Nat) (al : Int) (M : Mem) : Prop :=
  AgX mkX M0 M ∧ M 67 4 = (k : Int) + (n : Int) ∧ M 67 13 = (n : Int) ∧ M 67 12 = (k : Int) ∧ (al = 0 ∨ al = 1) ∧ (al = 1 ↔ ∀ i : Nat, i < n → isL (T ((k : Int) + (i : Int))) = isL (T (k : Int))) ∧ (0 ≤ M 67 17 ∧ (n < 6 → M 67 17 < 281474976710656) ∧ (n ≤ 5 → M 67 17 < ((256 ^ n : Nat) : Int))) ∧ (nD T k n = 0 → n ≤ 6 → M 67 17 = nm256 (lets T k n)) ∧ (nL T k n = 0 → n ≤ 4 → M 67 14 = digs T k n)
theorem nr_st (hT : RTx M0 T len most) (k n : Nat) (hn : k + n < len) (hw : isW (T ((k : Int) + (n : Int))) = true) (al sm : Int) (hs : sm = if isL (T (k : Int)) = true then 1 else 0) (o1 : AV) (hI : nRun M0 T k n al M) (kk : ∀ M' al', nRun M0 T k (n + 1) al' M' → XL (d + 1) 140 157 [aR 22 0 67, o1, aI sm, aI al'] [] M' Q) : XL (d + 1) 140 157 [aR 22 0 67, o1, aI sm, aI al] [] M Q := by
  obtain ⟨hA, h4, h13, h12, ha, hal, ⟨w0, w1, w2⟩, hW, hD⟩ := hI
  have h940 := hT.2.2.1
  have hx := hT.2.2.2.2.2 ((k : Int) + (n : Int))
  have pkx : pk T len ((k : Int) + (n : Int)) = T ((k : Int) + (n : Int)) := if_pos (by omega)
  have p1 : ∀ (M' : Mem) Q', AgX mkX M M' → M' 67 4 = (k : Int) + (n : Int) → (XC d 137 [aR 22 0 67] M' Q' ↔ Q' [aI (T ((k : Int) + (n : Int)))] M') := fun M' Q' hA' h' => by
    rw [s_pk (hT.m (fun y j hx => by rw [hA' y j hx]; exact hA y j hx)) _ ⟨by omega, by omega⟩ h', pkx]
  have hsm : sm = 0 ∨ sm = 1 := by
    by_cases c : isL (T (k : Int)) = true
    · rw [if_pos c] at hs; exact Or.inr hs
    · rw [if_neg c] at hs; exact Or.inl hs
  rw [nr_1 (d := d) (T ((k : Int) + (n : Int))) sm al o1 (fun Q' => p1 M Q' (fun _ _ _ => rfl) h4) hx hw hsm ha]
  obtain ⟨x, hxx⟩ : ∃ x, x = T ((k : Int) + (n : Int)) := ⟨_, rfl⟩
  rw [← hxx] at hx hw p1 ⊢
  obtain ⟨wd2, hwd⟩ : ∃ wd2, wd2 = (if n < 6 then M 67 17 * 256 + x else 0) := ⟨_, rfl⟩
  rw [nr_2 (d := d) x (n : Int) (M 67 17) (M 67 14) ((k : Int) + (n : Int)) _ _ _ _ p1 hx h13 ⟨by omega, by omega⟩ rfl rfl h4 wd2 (fun h9 => by
    have h6 : n < 6 := by omega
    have b1 := w1 h6
    have e1 : ((((M 67 17).toNat : Nat)) : Int) = M 67 17 := by omega
    have e2 : ((x.toNat : Nat) : Int) = x := by omega
    have := shl8or (M 67 17).toNat x.toNat (by omega) (by omega)
    rw [e1, e2] at this
    rw [this, hwd, if_pos h6]
    omega)]
  have eL : nL T k (n + 1) = nL T k n + (isL x).toNat := by rw [hxx]; rfl
  have eD : nD T k (n + 1) = nD T k n + (isD x).toNat := by rw [hxx]; rfl
  obtain ⟨al', hal'⟩ : ∃ al', al' = (if al = 1 ∧ (if isL x = true then (1 : Int) else 0) = sm then (1 : Int) else 0) := ⟨_, rfl⟩
  rw [← hal']
  have key : (if isL x = true then (1 : Int) else 0) = sm ↔ isL x = isL (T (k : Int)) := by
    rw [hs]
    cases isL x <;> cases isL (T (k : Int)) <;> simp
  obtain ⟨MM, hMM⟩ : ∃ MM, MM = (if (n : Int) < 4 then up (up M 67 17 wd2) 67 14 (10 * M 67 14 + x - 48) else if (n : Int) < 6 then up M 67 17 wd2 else M) := ⟨_, rfl⟩
  rw [← hMM]
  have oM : ∀ y j, ¬ (y = 67 ∧ (j = 14 ∨ j = 17)) → MM y j = M y j := fun y j hne => by
    rw [hMM]
    by_cases c1 : (n : Int) < 4
    · rw [if_pos c1, up_b' (by omega), up_b' (by omega)]
    · rw [if_neg c1]
      by_cases c2 : (n : Int) < 6
      · rw [if_pos c2, up_b' (by omega)]
      · rw [if_neg c2]
  have m17 : MM 67 17 = if n < 6 then wd2 else M 67 17 := by
    rw [hMM]
    by_cases c1 : (n : Int) < 4
    · rw [if_pos c1, if_pos (by omega), up_j (by decide), up_s]
    · rw [if_neg c1]
      by_cases c2 : (n : Int) < 6
      · rw [if_pos c2, if_pos (by omega), up_s]
      · rw [if_neg c2, if_neg (by omega)]
  have m14 : n < 4 → MM 67 14 = 10 * M 67 14 + x - 48 := fun h9 => by
    rw [hMM, if_pos (by omega), up_s]
  refine kk _ al' ⟨fun y j hne => ?_, ?_, ?_, ?_, ?_, ?_, ⟨?_, ?_, ?_⟩, ?_, ?_⟩
  · unfold mkX at hne
    rw [up_b' (by omega), up_b' (by omega), oM y j (by omega)]
    exact hA y j (by unfold mkX; omega)
  · rw [up_s]; omega
  · rw [up_j (by decide), up_s]; omega
  · rw [up_j (by decide), up_j (by decide), oM 67 12 (by decide)]; exact h12
  · by_cases c : al = 1 ∧ (if isL x = true then (1 : Int) else 0) = sm
    · rw [if_pos c] at hal'; exact Or.inr hal'
    · rw [if_neg c] at hal'; exact Or.inl hal'
  · constructor
    · intro h9 i hi
      have c : al = 1 ∧ (if isL x = true then (1 : Int) else 0) = sm := by
        apply Classical.byContradiction
        intro hc
        rw [if_neg hc] at hal'
        omega
      by_cases e : i = n
      · rw [e, ← hxx]; exact key.mp c.2
      · exact hal.mp c.1 i (by omega)
    · intro h9
      rw [hal', if_pos]
      exact ⟨hal.mpr (fun i hi => h9 i (by omega)), key.mpr (by rw [hxx]; exact h9 n (by omega))⟩
  · rw [up_j (by decide), up_j (by decide), m17]
    by_cases c : n < 6
    · rw [if_pos c, hwd, if_pos c]; omega
    · rw [if_neg c]; exact w0
  · intro h6
    rw [up_j (by decide), up_j (by decide), m17, if_pos (by omega), hwd, if_pos (by omega)]
    have b := w2 (by omega)
    have h2 : 256 ^ n ≤ 256 ^ 4 := Nat.pow_le_pow_right (by decide) (by omega)
    have h3 : (256 : Nat) ^ 4 = 4294967296 := by decide
    omega
  · intro h5
    rw [up_j (by decide), up_j (by decide), m17, if_pos (by omega), hwd, if_pos (by omega)]
    have b := w2 (by omega)
    rw [Nat.pow_succ]
    generalize 256 ^ n = z at b ⊢
    omega
  · intro h0 h6
    rw [eD] at h0
    have hl : isL x = true := by
      unfold isW at hw
      cases h9 : isD x
      · rw [h9, Bool.or_false] at hw; exact hw
      · rw [h9] at h0; exact absurd h0 (by show ¬ nD T k n + 1 = 0; omega)
    rw [up_j (by decide), up_j (by decide), m17, if_pos (by omega), hwd, if_pos (by omega), hW (by omega) (by omega)]
    have a := of_decide_eq_true hl
    show nm256 (lets T k n) * 256 + x = nm256 (lets T k n) * 256 + ((((T ((k : Int) + (n : Int)) - 96).toNat : Nat) : Int) + 96)
    rw [← hxx]
    omega
  · intro h0 h4'
    rw [eL] at h0
    rw [up_j (by decide), up_j (by decide), m14 (by omega), hD (by omega) (by omega)]
    show 10 * digs T k n + x - 48 = digs T k n * 10 + (T ((k : Int) + (n : Int)) - 48)
    rw [← hxx]
    omega
theorem nr_l (hT : RTx M0 T len most) (k e : Nat) (he : k ≤ e ∧ e ≤ len) (hr : ∀ i : Nat, k ≤ i → i < e → isW (T (i : Int)) = true) (hend : e < len → isW (T (e : Int)) = false) (sm : Int) (hs : sm = if isL (T (k : Int)) = true then 1 else 0) (o1 : AV) (kk : ∀ M' al, nRun M0 T k (e - k) al M' → Q [] (up M' 67 11 (if al = 0 ∨ (sm = 1 ∧ 6 < ((e - k : Nat) : Int)) ∨ (sm = 0 ∧ 4 < ((e - k : Nat) : Int)) then 4 else if sm = 1 then 1 else 2))) : ∀ (t n : Nat) (M : Mem) (al : Int), n + t = e - k → nRun M0 T k n al M → XL (d + 1) 140 157 [aR 22 0 67, o1, aI sm, aI al] [] M Q
  | 0, n, M, al, h, hI => by
    have e9 : n = e - k := by omega
    rw [e9] at hI
    have h940 := hT.2.2.1
    have hI2 := hI
    obtain ⟨hA, h4, h13, h12, ha, hal, -, -, -⟩ := hI2
    have e8 : (k : Int) + ((e - k : Nat) : Int) = (e : Int) := by omega
    rw [e8] at h4
    have hsm : sm = 0 ∨ sm = 1 := by
      by_cases c : isL (T (k : Int)) = true
      · rw [if_pos c] at hs; exact Or.inr hs
      · rw [if_neg c] at hs; exact Or.inl hs
    have hTM := hT.m hA
    have hpw : isW (pk T len (e : Int)) = false := by
      unfold pk
      by_cases c : (e : Int) < (len : Int)
      · rw [if_pos c]; exact hend (by omega)
      · rw [if_neg c]; decide
    rw [nr_e (d := d) (pk T len (e : Int)) sm al ((e - k : Nat) : Int) o1 (fun Q' => s_pk hTM (e : Int) ⟨by omega, by omega⟩ h4) (pk_b hTM _) hpw hsm ha h13 ⟨by omega, by omega⟩]
    exact kk M al hI
  | t + 1, n, M, al, h, hI => by
    have hw := hr (k + n) (by omega) (by omega)
    rw [Int.natCast_add] at hw
    exact nr_st hT k n (by omega) hw al sm hs o1 hI (fun M' al' hI' => nr_l hT k e he hr hend sm hs o1 kk t (n + 1) M' al' (by omega) hI')
theorem nx_l (hT : RTx M0 T len most) (e : Nat) (he : e ≤ len) (o1 o2 o3 : AV) (kk : ∀ M', AgX mkX M0 M' → M' 67 4 = (e : Int) → XL (d + 1) 140 0 [aR 22 0 67, o1, o2, o3] [] M' Q) : ∀ (t k : Nat) (M : Mem), k + t = e → (∀ i : Nat, k ≤ i → i < e → isB (T (i : Int)) = true) → AgX mkX M0 M → M 67 4 = (k : Int) → XL (d + 1) 140 0 [aR 22 0 67, o1, o2, o3] [] M Q
  | 0, k, M, h, _, hA, h4 => kk M hA (by rw [h4]; omega)
  | t + 1, k, M, h, hb, hA, h4 => by
    have h940 := hT.2.2.1
    have hb' := of_decide_eq_true (hb k (Nat.le_refl k) (by omega))
    have pkx : pk T len (k : Int) = T (k : Int) := if_pos (by omega)
    rw [nx_s (d := d) (k : Int) (T (k : Int)) o1 o2 o3 h4 (fun Q' => by rw [s_pk (hT.m hA) (k : Int) ⟨by omega, by omega⟩ h4, pkx]) hb']
    refine nx_l hT e he o1 o2 o3 kk t (k + 1) _ (by omega) (fun i h1 h2 => hb i (by omega) h2) (fun y j hx => ?_) ?_
    · rw [up_b' (by unfold mkX at hx; omega)]; exact hA y j hx
    · rw [up_s]; omega
theorem s_next (hT : RTx M T len most) (lim : Nat) (hlim : lim = min len most) (pos : Nat) (hp : pos ≤ len) (h4 : M 67 4 = (pos : Int)) (kk : ∀ M', AgX mkX M M' → RTk M' len most (tok T len lim pos) → Q [] M') : XC (d + 1) 140 [aR 22 0 67] M Q := by
  have h940 := hT.2.2.1
  have m940 := hT.2.2.2.1
  obtain ⟨b1, b2, b3, b4⟩ := runE_b (p := isB) (T := T) (lim - pos) pos
  obtain ⟨k, hk⟩ : ∃ k, k = runE isB T (lim - pos) pos := ⟨_, rfl⟩
  rw [← hk] at b1 b2 b3 b4
  have eTk : tok T len lim pos = if lim ≤ k then (0, 0, [], lim, pos) else if T (k : Int) = 59 then (4, 0, [], k, k + 1) else tokR T k (runE isW T (len - k) k) := by
    unfold tok
    rw [← hk]
  rw [eTk] at kk
  obtain ⟨a1, a2, a3, a4⟩ := runE_b (p := isB) (T := T) (len - pos) pos
  obtain ⟨e, hee⟩ : ∃ e, e = runE isB T (len - pos) pos := ⟨_, rfl⟩
  rw [← hee] at a1 a2 a3 a4
  have lle : lim ≤ len := by omega
  rw [e_140, ← b_140_0]
  refine nx_l (d := d) hT e (by omega) aU aU aU (fun M1 hA h4' => ?_) (e - pos) pos M (by omega) (fun i h1 h2 => a3 i h1 h2) (fun _ _ _ => rfl) h4
  have hT1 := hT.m hA
  have pkq : ∀ (M' : Mem) Q', AgX mkX M1 M' → M' 67 4 = (e : Int) → (XC d 137 [aR 22 0 67] M' Q' ↔ Q' [aI (pk T len (e : Int))] M') := fun M' Q' hA' h' => s_pk (hT1.m hA') _ ⟨by omega, by omega⟩ h'
  have bnd : (0 ≤ (e : Int) ∧ (e : Int) ≤ 940) ∧ (0 ≤ (len : Int) ∧ (len : Int) ≤ 940) ∧ (0 ≤ (most : Int) ∧ (most : Int) ≤ 940) := by omega
  have pnb : ¬ (pk T len (e : Int) = 32 ∨ pk T len (e : Int) = 10) := by
    unfold pk
    by_cases c : (e : Int) < (len : Int)
    · rw [if_pos c]
      exact of_decide_eq_false (a4 (by omega))
    · rw [if_neg c]; decide
  by_cases c1 : lim ≤ k
  · rw [if_pos c1] at kk
    have ge : lim ≤ e := by
      apply Classical.byContradiction
      intro hlt
      have h8 := a4 (by omega)
      rw [b3 e (by omega) (by omega)] at h8
      exact absurd h8 (by decide)
    by_cases c2 : most < len
    · have el : lim = most := by omega
      rw [nx_e1 (d := d) (e : Int) _ (len : Int) (most : Int) _ _ _ h4' hT1.1 hT1.2.1 bnd (fun Q' => pkq M1 Q' (fun _ _ _ => rfl) h4') (pk_b hT1 _) pnb ⟨by omega, by omega⟩]
      refine kk _ (fun y j hx => ?_) ⟨?_, ?_, fun h9 => absurd h9 (by show ¬ ((0 : Int) = 1 ∨ (0 : Int) = 2); decide), fun h9 => absurd h9 (by show ¬ (0 : Int) = 3; decide), fun h9 => absurd h9 (by show ¬ (0 : Int) = 4; decide), fun h9 => absurd h9 (by show ¬ (1 : Int) ≤ 0; decide)⟩
      · unfold mkX at hx
        rw [up_b' (by omega), up_b' (by omega), up_b' (by omega), up_b' (by omega)]
        exact hA y j (by unfold mkX; omega)
      · rw [up_s]
        show (4 : Int) = tokM len most 0
        unfold tokM
        rw [if_pos rfl, if_pos c2]
      · rw [up_j (by decide), up_s, ← el]
        rfl
    · have el : lim = len := by omega
      have ee : e = len := by omega
      have pn : pk T len (e : Int) = -1 := if_neg (by omega)
      rw [pn] at pkq
      rw [nx_e2 (d := d) (e : Int) (len : Int) (most : Int) _ _ _ h4' hT1.1 hT1.2.1 bnd pkq (by omega)]
      refine kk _ (fun y j hx => ?_) ⟨?_, ?_, fun h9 => absurd h9 (by show ¬ ((0 : Int) = 1 ∨ (0 : Int) = 2); decide), fun h9 => absurd h9 (by show ¬ (0 : Int) = 3; decide), fun h9 => absurd h9 (by show ¬ (0 : Int) = 4; decide), fun h9 => absurd h9 (by show ¬ (1 : Int) ≤ 0; decide)⟩
      · unfold mkX at hx
        rw [up_b' (by omega), up_b' (by omega), up_b' (by omega)]
        exact hA y j (by unfold mkX; omega)
      · rw [up_s]
        show (0 : Int) = tokM len most 0
        unfold tokM
        rw [if_pos rfl, if_neg c2]
      · rw [up_j (by decide), up_j (by decide), up_s, ee, ← el]
        rfl
  · rw [if_neg c1] at kk
    have ee : e = k := by
      rw [hee]
      refine runE_u b1 (by omega) b3 (fun _ => b4 (by omega))
    rw [ee] at h4' pkq bnd pnb
    have px : pk T len (k : Int) = T (k : Int) := if_pos (by omega)
    rw [px] at pkq pnb
    have tb := hT.2.2.2.2.2 (k : Int)
    have nl : ¬ ((most : Int) < (len : Int) ∧ (most : Int) ≤ (k : Int)) := by omega
    by_cases cw : isW (T (k : Int)) = true
    · have n59 : ¬ T (k : Int) = 59 := fun h9 => by rw [h9] at cw; exact absurd cw (by decide)
      rw [if_neg n59] at kk
      rw [nx_r (d := d) (k : Int) _ (len : Int) (most : Int) _ _ _ h4' hT1.1 hT1.2.1 bnd pkq tb pnb cw nl]
      obtain ⟨g1, g2, g3, g4⟩ := runE_b (p := isW) (T := T) (len - k) k
      obtain ⟨e9, he9⟩ : ∃ e9, e9 = runE isW T (len - k) k := ⟨_, rfl⟩
      rw [← he9] at g1 g2 g3 g4 kk
      have ek : k < e9 := by
        apply Classical.byContradiction
        intro hlt
        have e8 : e9 = k := by omega
        have h8 := g4 (by omega)
        rw [e8, cw] at h8
        exact absurd h8 (by decide)
      have run : ∀ i : Nat, i < e9 - k → isW (T ((k : Int) + (i : Int))) = true := fun i hi => by
        have := g3 (k + i) (by omega) (by omega)
        rw [Int.natCast_add] at this
        exact this
      have ld := run_ld (T := T) (k := k) (n := e9 - k) run
      refine nr_l (d := d) hT k e9 ⟨g1, by omega⟩ g3 (fun h => g4 (by omega)) _ rfl _ (fun M2 al hI => ?_) (e9 - k) 0 _ 1 (by omega) ⟨fun y j hx => ?_, ?_, ?_, ?_, Or.inr rfl, ⟨fun _ i hi => absurd hi (Nat.not_lt_zero i), fun _ => rfl⟩, ⟨?_, ?_, ?_⟩, fun _ _ => ?_, fun _ _ => ?_⟩
      · obtain ⟨hA2, i4, i13, i12, ial, hal, ⟨w0, w1, w2⟩, hW, hD⟩ := hI
        have e7 : (k : Int) + ((e9 - k : Nat) : Int) = (e9 : Int) := by omega
        rw [e7] at i4
        have fin : ∀ (kd v : Int) (ls : List Nat) (tv : Int), tokR T k e9 = (kd, v, ls, k, e9) → tv = tokM len most kd → ((kd = 1 ∨ kd = 2) → M2 67 17 = nm256 ls) → (kd = 3 → M2 67 14 = v) → ¬ kd = 4 → Q [] (up M2 67 11 tv) := fun kd v ls tv h1 h2 h3 h4 h5 => by
          refine kk _ (fun y j hx => ?_) ?_
          · rw [up_b' (by unfold mkX at hx; omega)]; exact hA2 y j hx
          · rw [h1]
            refine ⟨?_, ?_, fun h9 => ?_, fun h9 => ?_, fun h9 => absurd h9 h5, fun _ _ => ?_⟩
            · rw [up_s]; exact h2
            · rw [up_j (by decide)]; exact i12
            · rw [up_j (by decide)]; exact h3 h9
            · rw [up_j (by decide)]; exact h4 h9
            · rw [up_j (by decide)]; exact i4
        by_cases cl : isL (T (k : Int)) = true
        · rw [if_pos cl]
          have nl1 : 1 ≤ nL T k (e9 - k) := cnt_pos ⟨0, by omega, by rw [show (k : Int) + ((0 : Nat) : Int) = (k : Int) from Int.add_zero _]; exact cl⟩
          have alD : al = 1 ↔ nD T k (e9 - k) = 0 := by
            rw [hal]
            constructor
            · intro h9
              exact cnt_z (fun i hi => L_noD (by rw [h9 i hi]; exact cl))
            · intro h9 i hi
              rw [nL_all h9 run i hi, cl]
          by_cases cg : al = 0 ∨ ((1 : Int) = 1 ∧ 6 < ((e9 - k : Nat) : Int)) ∨ ((1 : Int) = 0 ∧ 4 < ((e9 - k : Nat) : Int))
          · rw [if_pos cg]
            refine fin 5 0 [] 4 ?_ (by unfold tokM; rfl) (fun h => by omega) (fun h => by omega) (by decide)
            unfold tokR
            rw [if_neg (by
              intro h9
              have := alD.mpr h9.1
              omega), if_neg (by omega)]
          · rw [if_neg cg, if_pos rfl]
            have a1' : al = 1 := by omega
            have d0 := alD.mp a1'
            have c9 : nD T k (e9 - k) = 0 ∧ 1 ≤ nL T k (e9 - k) ∧ nL T k (e9 - k) ≤ 6 := ⟨d0, nl1, by omega⟩
            have wd := hW d0 (by omega)
            by_cases cr : fnd rsvF (lets T k (e9 - k)) 17 = -1
            · refine fin 2 0 (lets T k (e9 - k)) 1 ?_ (by unfold tokM; rfl) (fun _ => wd) (fun h => by omega) (by decide)
              unfold tokR
              rw [if_pos c9, if_pos cr]
            · refine fin 1 (fnd rsvF (lets T k (e9 - k)) 17) (lets T k (e9 - k)) 1 ?_ (by unfold tokM; rfl) (fun _ => wd) (fun h => by omega) (by decide)
              unfold tokR
              rw [if_pos c9, if_neg cr]
        · have cl' : isL (T (k : Int)) = false := by simpa using cl
          rw [if_neg cl]
          have dk : isD (T (k : Int)) = true := by
            unfold isW at cw
            rw [cl', Bool.false_or] at cw
            exact cw
          have nd1 : 1 ≤ nD T k (e9 - k) := cnt_pos ⟨0, by omega, by rw [show (k : Int) + ((0 : Nat) : Int) = (k : Int) from Int.add_zero _]; exact dk⟩
          have alL : al = 1 ↔ nL T k (e9 - k) = 0 := by
            rw [hal]
            constructor
            · intro h9
              exact nL_0 (fun i hi => by rw [h9 i hi]; exact cl')
            · intro h9 i hi
              rw [nL_no h9 i hi, cl']
          by_cases cg : al = 0 ∨ ((0 : Int) = 1 ∧ 6 < ((e9 - k : Nat) : Int)) ∨ ((0 : Int) = 0 ∧ 4 < ((e9 - k : Nat) : Int))
          · rw [if_pos cg]
            refine fin 5 0 [] 4 ?_ (by unfold tokM; rfl) (fun h => by omega) (fun h => by omega) (by decide)
            unfold tokR
            rw [if_neg (by omega), if_neg (by
              intro h9
              have := alL.mpr h9.1
              omega)]
          · rw [if_neg cg, if_neg (show ¬ (0 : Int) = 1 by decide)]
            have a1' : al = 1 := by omega
            have l0 := alL.mp a1'
            refine fin 3 (digs T k (e9 - k)) [] 2 ?_ (by unfold tokM; rfl) (fun h => by omega) (fun _ => hD l0 (by omega)) (by decide)
            unfold tokR
            rw [if_neg (by omega), if_pos ⟨l0, by omega, by omega⟩]
      · unfold mkX at hx
        rw [up_b' (by omega), up_b' (by omega), up_b' (by omega), up_b' (by omega)]
        exact hA y j (by unfold mkX; omega)
      · rw [up_j (by decide), up_j (by decide), up_j (by decide), up_j (by decide), h4']
        exact (Int.add_zero _).symm
      · rw [up_j (by decide), up_j (by decide), up_s]; rfl
      · rw [up_j (by decide), up_j (by decide), up_j (by decide), up_s]
      · rw [up_j (by decide), up_s]; decide
      · intro _; rw [up_j (by decide), up_s]; decide
      · intro _; rw [up_j (by decide), up_s]; decide
      · rw [up_j (by decide), up_s]; rfl
      · rw [up_s]; rfl
    · have cw' : isW (T (k : Int)) = false := by simpa using cw
      rw [nx_p (d := d) (k : Int) _ (len : Int) (most : Int) _ _ _ h4' hT1.1 hT1.2.1 bnd pkq tb pnb cw' nl]
      have fA : ∀ (v : Int) y j, ¬ mkX y j → up (up (up (up (up M1 67 12 (k : Int)) 67 13 0) 67 11 v) 67 14 (T (k : Int))) 67 4 ((k : Int) + 1) y j = M y j := fun v y j hx => by
        unfold mkX at hx
        rw [up_b' (by omega), up_b' (by omega), up_b' (by omega), up_b' (by omega), up_b' (by omega)]
        exact hA y j (by unfold mkX; omega)
      by_cases c59 : T (k : Int) = 59
      · rw [if_pos c59] at kk ⊢
        refine kk _ (fA _) ⟨?_, ?_, fun h9 => absurd h9 (by show ¬ ((4 : Int) = 1 ∨ (4 : Int) = 2); decide), fun h9 => absurd h9 (by show ¬ (4 : Int) = 3; decide), fun _ => ?_, fun _ _ => ?_⟩
        · rw [up_j (by decide), up_j (by decide), up_s]; rfl
        · rw [up_j (by decide), up_j (by decide), up_j (by decide), up_j (by decide), up_s]; rfl
        · rw [up_j (by decide), up_s]; exact c59
        · rw [up_s]; exact (Int.natCast_add k 1).symm
      · rw [if_neg c59] at kk ⊢
        have e9 : runE isW T (len - k) k = k := runE_u (Nat.le_refl k) (by omega) (fun i h1 h2 => absurd h2 (by omega)) (fun _ => cw')
        have e8 : tokR T k (runE isW T (len - k) k) = (5, 0, [], k, k) := by
          rw [e9]
          unfold tokR
          rw [Nat.sub_self, if_neg (by show ¬ ((0 : Nat) = 0 ∧ 1 ≤ (0 : Nat) ∧ (0 : Nat) ≤ 6); decide), if_neg (by show ¬ ((0 : Nat) = 0 ∧ 1 ≤ (0 : Nat) ∧ (0 : Nat) ≤ 4); decide)]
        rw [e8] at kk
        refine kk _ (fA _) ⟨?_, ?_, fun h9 => absurd h9 (by show ¬ ((5 : Int) = 1 ∨ (5 : Int) = 2); decide), fun h9 => absurd h9 (by show ¬ (5 : Int) = 3; decide), fun h9 => absurd h9 (by show ¬ (5 : Int) = 4; decide), fun _ h9 => absurd h9 (by show ¬ (5 : Int) ≤ 4; decide)⟩
        · rw [up_j (by decide), up_j (by decide), up_s]; rfl
        · rw [up_j (by decide), up_j (by decide), up_j (by decide), up_j (by decide), up_s]; rfl
end NX
