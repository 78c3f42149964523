/-! TAKING: what it costs -/
def onW (w k b i : Nat) : Bool := if b = 0 then decide (i / w = k / w ∧ i < k) else if b = 1 then decide (i / w = k / w ∧ k < i) else decide (i % w = k % w ∧ k < i)
def hW (w : Nat) (P : Nat → Bool) (k b i : Nat) : Bool := onW w k b i && P i
def sW (w : Nat) (P : Nat → Bool) (k b i : Nat) : Bool := decide (i = k) || hW w P k b i
def uW0 (w : Nat) (P : Nat → Bool) (k b i : Nat) : Bool := k0 w P i && (sW w P k b i || sW w P k b (i + 1))
def uW1 (w : Nat) (P : Nat → Bool) (k b i : Nat) : Bool := k1 w P i && (sW w P k b i || sW w P k b (i + w))
def tW0 (w : Nat) (P : Nat → Bool) (k b i : Nat) : Bool := uW0 w P k b i && (!decide (i = k) && !decide (i + 1 = k))
def tW1 (w : Nat) (P : Nat → Bool) (k b i : Nat) : Bool := uW1 w P k b i && (!decide (i = k) && !decide (i + w = k))
def uN (w n : Nat) (P : Nat → Bool) (k b : Nat) : Nat := cnt n (uW0 w P k b) + cnt n (uW1 w P k b)
def tN (w n : Nat) (P : Nat → Bool) (k b : Nat) : Nat := cnt n (tW0 w P k b) + cnt n (tW1 w P k b)
def hN (w n : Nat) (P : Nat → Bool) (k b : Nat) : Nat := cnt n (hW w P k b)
theorem ut_b {w n : Nat} {P : Nat → Bool} {k b : Nat} : uN w n P k b ≤ 2 * n ∧ tN w n P k b ≤ 2 * n ∧ hN w n P k b ≤ n := by
  have h1 := cnt_le (p := uW0 w P k b) (n := n)
  have h2 := cnt_le (p := uW1 w P k b) (n := n)
  have h3 := cnt_le (p := tW0 w P k b) (n := n)
  have h4 := cnt_le (p := tW1 w P k b) (n := n)
  have h5 := cnt_le (p := hW w P k b) (n := n)
  unfold uN tN hN
  omega
/-- the others, and those nobody touches -/
def oP (P : Nat → Bool) (k i : Nat) : Bool := P i && !decide (k = i)
def nP (w : Nat) (P : Nat → Bool) (k b i : Nat) : Bool := oP P k i && !(hW w P k b i)
theorem kn_u0 {w : Nat} {P : Nat → Bool} {k b i : Nat} : (uW0 w P k b i).toNat + (k0 w (nP w P k b) i).toNat = (k0 w P i).toNat := by
  unfold uW0 k0 nP oP sW
  rw [show decide (i = k) = decide (k = i) from decide_eq_decide.mpr ⟨Eq.symm, Eq.symm⟩, show decide (i + 1 = k) = decide (k = i + 1) from decide_eq_decide.mpr ⟨Eq.symm, Eq.symm⟩]
  generalize P i = p1
  generalize P (i + 1) = p2
  generalize decide (i % w + 1 < w) = p3
  generalize decide (k = i) = p4
  generalize decide (k = i + 1) = p5
  generalize hW w P k b i = p6
  generalize hW w P k b (i + 1) = p7
  revert p1 p2 p3 p4 p5 p6 p7
  decide
theorem kn_u1 {w : Nat} {P : Nat → Bool} {k b i : Nat} : (uW1 w P k b i).toNat + (k1 w (nP w P k b) i).toNat = (k1 w P i).toNat := by
  unfold uW1 k1 nP oP sW
  rw [show decide (i = k) = decide (k = i) from decide_eq_decide.mpr ⟨Eq.symm, Eq.symm⟩, show decide (i + w = k) = decide (k = i + w) from decide_eq_decide.mpr ⟨Eq.symm, Eq.symm⟩]
  generalize P i = p1
  generalize P (i + w) = p2
  generalize decide (k = i) = p4
  generalize decide (k = i + w) = p5
  generalize hW w P k b i = p6
  generalize hW w P k b (i + w) = p7
  revert p1 p2 p4 p5 p6 p7
  decide
theorem kn_t0 {w : Nat} {P : Nat → Bool} {k b i : Nat} : (tW0 w P k b i).toNat + (k0 w (nP w P k b) i).toNat = (k0 w (oP P k) i).toNat := by
  unfold tW0 uW0 k0 nP oP sW
  rw [show decide (i = k) = decide (k = i) from decide_eq_decide.mpr ⟨Eq.symm, Eq.symm⟩, show decide (i + 1 = k) = decide (k = i + 1) from decide_eq_decide.mpr ⟨Eq.symm, Eq.symm⟩]
  generalize P i = p1
  generalize P (i + 1) = p2
  generalize decide (i % w + 1 < w) = p3
  generalize decide (k = i) = p4
  generalize decide (k = i + 1) = p5
  generalize hW w P k b i = p6
  generalize hW w P k b (i + 1) = p7
  revert p1 p2 p3 p4 p5 p6 p7
  decide
theorem kn_t1 {w : Nat} {P : Nat → Bool} {k b i : Nat} : (tW1 w P k b i).toNat + (k1 w (nP w P k b) i).toNat = (k1 w (oP P k) i).toNat := by
  unfold tW1 uW1 k1 nP oP sW
  rw [show decide (i = k) = decide (k = i) from decide_eq_decide.mpr ⟨Eq.symm, Eq.symm⟩, show decide (i + w = k) = decide (k = i + w) from decide_eq_decide.mpr ⟨Eq.symm, Eq.symm⟩]
  generalize P i = p1
  generalize P (i + w) = p2
  generalize decide (k = i) = p4
  generalize decide (k = i + w) = p5
  generalize hW w P k b i = p6
  generalize hW w P k b (i + w) = p7
  revert p1 p2 p4 p5 p6 p7
  decide
theorem kn_u {w n : Nat} {P : Nat → Bool} {k b : Nat} : uN w n P k b + KN w n (nP w P k b) = KN w n P := by
  have h0 := cnt_add (n := n) (fun i _ => kn_u0 (w := w) (P := P) (k := k) (b := b) (i := i))
  have h1 := cnt_add (n := n) (fun i _ => kn_u1 (w := w) (P := P) (k := k) (b := b) (i := i))
  unfold uN KN
  omega
theorem kn_t {w n : Nat} {P : Nat → Bool} {k b : Nat} : tN w n P k b + KN w n (nP w P k b) = KN w n (oP P k) := by
  have h0 := cnt_add (n := n) (fun i _ => kn_t0 (w := w) (P := P) (k := k) (b := b) (i := i))
  have h1 := cnt_add (n := n) (fun i _ => kn_t1 (w := w) (P := P) (k := k) (b := b) (i := i))
  unfold tN KN
  omega
/-- what one way needs: minutes, way, untied, tied, blockers -/
def tkT (w n : Nat) (P : Nat → Bool) (k : Nat) (kn ho tu : Int) (b : Nat) : Int × Int × Int × Int × Int :=
  (kn * (((uN w n P k b : Nat) : Int) + ((tN w n P k b : Nat) : Int)) + ho * ((hN w n P k b : Nat) : Int) + (if b = 2 then tu else 0), (b : Int), ((uN w n P k b : Nat) : Int), ((tN w n P k b : Nat) : Int), ((hN w n P k b : Nat) : Int))
def mnT (a b : Int × Int × Int × Int × Int) : Int × Int × Int × Int × Int := if b.1 < a.1 then b else a
/-- the way of a SIDE that needs the least -/
def tkR (w n : Nat) (P : Nat → Bool) (k : Nat) (kn ho tu : Int) (side : Int) : Int × Int × Int × Int × Int :=
  if side = 1 then mnT (tkT w n P k kn ho tu 0) (tkT w n P k kn ho tu 2) else if side = 2 then mnT (tkT w n P k kn ho tu 1) (tkT w n P k kn ho tu 2) else mnT (mnT (tkT w n P k kn ho tu 0) (tkT w n P k kn ho tu 1)) (tkT w n P k kn ho tu 2)
theorem mul_b {x y X Y : Int} (h1 : 0 ≤ x ∧ x ≤ X) (h2 : 0 ≤ y ∧ y ≤ Y) : 0 ≤ x * y ∧ x * y ≤ X * Y := ⟨Int.mul_nonneg h1.1 h2.1, Int.mul_le_mul h1.2 h2.2 h2.1 (Int.le_trans h1.1 h1.2)⟩
theorem tkT_b {w n : Nat} {P : Nat → Bool} {k : Nat} {kn ho tu : Int} {b : Nat} (hn : n ≤ 24) (h1 : 0 ≤ kn ∧ kn ≤ 60) (h2 : 0 ≤ ho ∧ ho ≤ 60) (h3 : 0 ≤ tu ∧ tu ≤ 60) : 0 ≤ (tkT w n P k kn ho tu b).1 ∧ (tkT w n P k kn ho tu b).1 ≤ 10000 := by
  have hb := ut_b (w := w) (n := n) (P := P) (k := k) (b := b)
  have m1 := mul_b h1 (show 0 ≤ ((uN w n P k b : Nat) : Int) + ((tN w n P k b : Nat) : Int) ∧ ((uN w n P k b : Nat) : Int) + ((tN w n P k b : Nat) : Int) ≤ 96 by omega)
  have m2 := mul_b h2 (show 0 ≤ ((hN w n P k b : Nat) : Int) ∧ ((hN w n P k b : Nat) : Int) ≤ 24 by omega)
  unfold tkT
  generalize kn * (((uN w n P k b : Nat) : Int) + ((tN w n P k b : Nat) : Int)) = x at *
  generalize ho * ((hN w n P k b : Nat) : Int) = y at *
  show 0 ≤ x + y + (if b = 2 then tu else 0) ∧ x + y + (if b = 2 then tu else 0) ≤ 10000
  by_cases e : b = 2
  · rw [if_pos e]; omega
  · rw [if_neg e]; omega
theorem mnT_b {a b : Int × Int × Int × Int × Int} (ha : 0 ≤ a.1 ∧ a.1 ≤ 10000) (hb : 0 ≤ b.1 ∧ b.1 ≤ 10000) : 0 ≤ (mnT a b).1 ∧ (mnT a b).1 ≤ 10000 := by
  unfold mnT
  by_cases h : b.1 < a.1
  · rw [if_pos h]; exact hb
  · rw [if_neg h]; exact ha
theorem tkR_b {w n : Nat} {P : Nat → Bool} {k : Nat} {kn ho tu side : Int} (hn : n ≤ 24) (h1 : 0 ≤ kn ∧ kn ≤ 60) (h2 : 0 ≤ ho ∧ ho ≤ 60) (h3 : 0 ≤ tu ∧ tu ≤ 60) : 0 ≤ (tkR w n P k kn ho tu side).1 ∧ (tkR w n P k kn ho tu side).1 ≤ 10000 := by
  unfold tkR
  by_cases e : side = 1
  · rw [if_pos e]; exact mnT_b (tkT_b hn h1 h2 h3) (tkT_b hn h1 h2 h3)
  · rw [if_neg e]
    by_cases e : side = 2
    · rw [if_pos e]; exact mnT_b (tkT_b hn h1 h2 h3) (tkT_b hn h1 h2 h3)
    · rw [if_neg e]; exact mnT_b (mnT_b (tkT_b hn h1 h2 h3) (tkT_b hn h1 h2 h3)) (tkT_b hn h1 h2 h3)
/-- the fields of a TAKING -/
def tkM (M : Mem) (t : Nat) (r : Int × Int × Int × Int × Int) : Mem := up (up (up (up (up M t 2 r.1) t 3 r.2.1) t 4 r.2.2.1) t 5 r.2.2.2.1) t 6 r.2.2.2.2
theorem tkM_b {M : Mem} {t b : Nat} {r : Int × Int × Int × Int × Int} {j : Int} (h : b ≠ t) : tkM M t r b j = M b j := by
  unfold tkM
  rw [up_b h, up_b h, up_b h, up_b h, up_b h]
theorem tkM_2 {M : Mem} {t : Nat} {r : Int × Int × Int × Int × Int} : tkM M t r t 2 = r.1 := by
  unfold tkM
  rw [up_j (by decide), up_j (by decide), up_j (by decide), up_j (by decide), up_s]
theorem tkM_3 {M : Mem} {t : Nat} {r : Int × Int × Int × Int × Int} : tkM M t r t 3 = r.2.1 := by
  unfold tkM
  rw [up_j (by decide), up_j (by decide), up_j (by decide), up_s]
theorem tkM_4 {M : Mem} {t : Nat} {r : Int × Int × Int × Int × Int} : tkM M t r t 4 = r.2.2.1 := by
  unfold tkM
  rw [up_j (by decide), up_j (by decide), up_s]
theorem tkM_5 {M : Mem} {t : Nat} {r : Int × Int × Int × Int × Int} : tkM M t r t 5 = r.2.2.2.1 := by
  unfold tkM
  rw [up_j (by decide), up_s]
theorem tkM_6 {M : Mem} {t : Nat} {r : Int × Int × Int × Int × Int} : tkM M t r t 6 = r.2.2.2.2 := by
  unfold tkM
  rw [up_s]
theorem tkM_tk {M : Mem} {t : Nat} {r s : Int × Int × Int × Int × Int} : tkM (tkM M t r) t s = tkM M t s := by
  funext b j
  unfold tkM up
  by_cases hb : b = t
  · subst hb
    by_cases h6 : j = 6
    · rw [if_pos ⟨rfl, h6⟩, if_pos ⟨rfl, h6⟩]
    · by_cases h5 : j = 5
      · simp [h5]
      · by_cases h4 : j = 4
        · simp [h4]
        · by_cases h3 : j = 3
          · simp [h3]
          · by_cases h2 : j = 2
            · simp [h2]
            · simp [h2, h3, h4, h5, h6]
  · simp [hb]
theorem tkM_min {M : Mem} {t : Nat} {a b : Int × Int × Int × Int × Int} : (if b.1 < a.1 then tkM (tkM M t a) t b else tkM M t a) = tkM M t (mnT a b) := by
  unfold mnT
  by_cases h : b.1 < a.1
  · rw [if_pos h, if_pos h, tkM_tk]
  · rw [if_neg h, if_neg h]
theorem tkM_up {M : Mem} {t : Nat} {x : Int} {a : Int × Int × Int × Int × Int} : tkM (up M t 2 x) t a = tkM M t a := by
  funext b j
  unfold tkM up
  by_cases hb : b = t
  · subst hb
    by_cases h2 : j = 2
    · simp [h2]
    · simp [h2]
  · simp [hb]
