/-! HANGING TOGETHER -/
noncomputable def cb (p : Prop) : Int := @ite Int p (Classical.propDecidable p) 1 0
theorem cb_t {p : Prop} (h : p) : cb p = 1 := by
  unfold cb
  rw [if_pos h]
theorem cb_f {p : Prop} (h : ¬ p) : cb p = 0 := by
  unfold cb
  rw [if_neg h]
theorem cb_cg {p q : Prop} (h : p ↔ q) : cb p = cb q := by rw [propext h]
theorem cb_01 {p : Prop} : cb p = 0 ∨ cb p = 1 := by
  by_cases h : p
  · exact Or.inr (cb_t h)
  · exact Or.inl (cb_f h)
/-- a set that no knot leaves -/
def kInv (w n : Nat) (P C : Nat → Bool) : Prop := (∀ i, i + 1 < n → i % w + 1 < w → P i = true → P (i + 1) = true → C i = C (i + 1)) ∧ (∀ i, i + w < n → P i = true → P (i + w) = true → C i = C (i + w))
def Conn (w n : Nat) (P : Nat → Bool) : Prop := ∀ C, kInv w n P C → ∀ i j, i < n → j < n → P i = true → P j = true → C i = C j
theorem conn_of {w n : Nat} {P R : Nat → Bool} {f : Nat} (hf : f < n) (hPf : P f = true) (hRf : R f = true) (hmin : ∀ C, kInv w n P C → ∀ i, i < n → R i = true → C i = C f) (hcl : kInv w n P R) : Conn w n P ↔ ∀ i, i < n → P i = true → R i = true := by
  constructor
  · intro h i hi hp
    rw [h R hcl i f hi hf hp hPf]
    exact hRf
  · intro h C hC i j hi hj hpi hpj
    rw [hmin C hC i hi (h i hi hpi), hmin C hC j hj (h j hj hpj)]
theorem conn_cg {w n : Nat} {P P2 : Nat → Bool} (h : ∀ i, i < n → P i = P2 i) : Conn w n P ↔ Conn w n P2 := by
  have g : ∀ {P P2 : Nat → Bool}, (∀ i, i < n → P i = P2 i) → Conn w n P → Conn w n P2 := by
    intro P P2 h hc C hC i j hi hj hpi hpj
    refine hc C ⟨fun a h1 h2 h3 h4 => hC.1 a h1 h2 (by rw [← h a (by omega)]; exact h3) (by rw [← h (a + 1) h1]; exact h4), fun a h1 h3 h4 => hC.2 a h1 (by rw [← h a (by omega)]; exact h3) (by rw [← h (a + w) h1]; exact h4)⟩ i j hi hj (by rw [h i hi]; exact hpi) (by rw [h j hj]; exact hpj)
  exact ⟨g h, g (fun i hi => (h i hi).symm)⟩
theorem cnt_lt {p q : Nat → Bool} : ∀ {n : Nat}, (∀ i, i < n → p i = true → q i = true) → (∃ i, i < n ∧ q i = true ∧ p i = false) → cnt n p < cnt n q
  | 0, _, ⟨i, hi, _⟩ => absurd hi (Nat.not_lt_zero i)
  | n + 1, h, ⟨i, hi, hq, hp⟩ => by
    have h1 := cnt_mono (p := p) (q := q) (n := n) (fun i hi => h i (by omega))
    have h2 : (p n).toNat ≤ (q n).toNat := by
      cases hp : p n
      · exact Nat.zero_le _
      · rw [h n (by omega) hp]; exact Nat.le_refl _
    unfold cnt
    by_cases e : i = n
    · subst e
      rw [hq, hp]
      have : (false : Bool).toNat = 0 := rfl
      have : (true : Bool).toNat = 1 := rfl
      omega
    · have h3 := cnt_lt (p := p) (q := q) (n := n) (fun i hi => h i (by omega)) ⟨i, by omega, hq, hp⟩
      omega
theorem cnt_eqA {p q : Nat → Bool} {n : Nat} (h : ∀ i, i < n → p i = true → q i = true) : cnt n p = cnt n q ↔ ∀ i, i < n → q i = true → p i = true := by
  constructor
  · intro he i hi hq
    by_cases hp : p i = true
    · exact hp
    · have := cnt_lt h ⟨i, hi, hq, by simpa using hp⟩
      omega
  · intro hb
    exact cnt_cg (fun i hi => Bool.eq_iff_iff.mpr ⟨h i hi, hb i hi⟩)
theorem cnt_pos {p : Nat → Bool} : ∀ {n : Nat}, (∃ i, i < n ∧ p i = true) → 1 ≤ cnt n p
  | 0, ⟨i, hi, _⟩ => absurd hi (Nat.not_lt_zero i)
  | n + 1, ⟨i, hi, hp⟩ => by
    unfold cnt
    by_cases e : i = n
    · subst e
      rw [hp]
      have : (true : Bool).toNat = 1 := rfl
      omega
    · have := cnt_pos (p := p) (n := n) ⟨i, by omega, hp⟩
      omega
/-! the class's side: floods of bits -/
theorem gLast_t {w l i : Nat} (hi : i < w * l) (hn : w * l ≤ 24) : (gLast w l).testBit i = decide (i % w = w - 1) := by
  rw [show (gLast w l).testBit i = (decide (i < 24) && decide (i < w * l ∧ i % w = w - 1)) from bitsN_t _ i, decide_eq_true (show i < 24 by omega), Bool.true_and]
  exact decide_eq_decide.mpr ⟨fun h => h.2, fun h => ⟨hi, h⟩⟩
theorem gFirst_t {w l i : Nat} (hi : i < w * l) (hn : w * l ≤ 24) : (gFirst w l).testBit i = decide (i % w = 0) := by
  rw [show (gFirst w l).testBit i = (decide (i < 24) && decide (i < w * l ∧ i % w = 0)) from bitsN_t _ i, decide_eq_true (show i < 24 by omega), Bool.true_and]
  exact decide_eq_decide.mpr ⟨fun h => h.2, fun h => ⟨hi, h⟩⟩
def besN (w l R : Nat) : Nat := ((andN R (gLast w l) * 2 ^ 1 ||| andN R (gFirst w l) / 2 ^ 1) ||| R * 2 ^ w) ||| R / 2 ^ w
def moreN (w l bits R : Nat) : Nat := (R ||| besN w l R) &&& bits
theorem more_t {w l bits R : Nat} (hw : 1 ≤ w ∧ w ≤ 4) (hl : 1 ≤ l ∧ l ≤ 6) (hR : R < 2 ^ (w * l)) (i : Nat) : (moreN w l bits R).testBit i = true ↔ bits.testBit i = true ∧ (R.testBit i = true ∨ (1 ≤ i ∧ R.testBit (i - 1) = true ∧ (i - 1) % w ≠ w - 1) ∨ (R.testBit (i + 1) = true ∧ (i + 1) % w ≠ 0) ∨ (w ≤ i ∧ R.testBit (i - w) = true) ∨ R.testBit (i + w) = true) := by
  have hn : w * l ≤ 24 := Nat.mul_le_mul hw.2 hl.2
  have f : ∀ j, R.testBit j = true → j < w * l := fun j hj => by
    by_cases h : j < w * l
    · exact h
    · rw [tb_hi hR (by omega)] at hj
      exact absurd hj (by decide)
  have q1 : ∀ j, (R.testBit j = true ∧ (gLast w l).testBit j = false) ↔ (R.testBit j = true ∧ j % w ≠ w - 1) := fun j => by
    constructor
    · intro h
      rw [gLast_t (f j h.1) hn] at h
      exact ⟨h.1, of_decide_eq_false h.2⟩
    · intro h
      rw [gLast_t (f j h.1) hn]
      exact ⟨h.1, decide_eq_false h.2⟩
  have q2 : ∀ j, (R.testBit j = true ∧ (gFirst w l).testBit j = false) ↔ (R.testBit j = true ∧ j % w ≠ 0) := fun j => by
    constructor
    · intro h
      rw [gFirst_t (f j h.1) hn] at h
      exact ⟨h.1, of_decide_eq_false h.2⟩
    · intro h
      rw [gFirst_t (f j h.1) hn]
      exact ⟨h.1, decide_eq_false h.2⟩
  unfold moreN besN
  simp only [Nat.testBit_and, Nat.testBit_or, shl_t, shr_t, andN_t, Bool.and_eq_true, Bool.or_eq_true, Bool.not_eq_true', decide_eq_true_eq, q1, q2]
  constructor
  · rintro ⟨h1, h2⟩
    refine ⟨h2, ?_⟩
    rcases h1 with h | ((h | h) | h) | h
    · exact Or.inl h
    · exact Or.inr (Or.inl h)
    · exact Or.inr (Or.inr (Or.inl h))
    · exact Or.inr (Or.inr (Or.inr (Or.inl h)))
    · exact Or.inr (Or.inr (Or.inr (Or.inr h)))
  · rintro ⟨h2, h1⟩
    refine ⟨?_, h2⟩
    rcases h1 with h | h | h | h | h
    · exact Or.inl h
    · exact Or.inr (Or.inl (Or.inl (Or.inl h)))
    · exact Or.inr (Or.inl (Or.inl (Or.inr h)))
    · exact Or.inr (Or.inl (Or.inr h))
    · exact Or.inr (Or.inr h)
/-- what the flood keeps -/
def hFl (w l bits f R : Nat) : Prop := R < 2 ^ (w * l) ∧ R.testBit f = true ∧ (∀ i, R.testBit i = true → bits.testBit i = true) ∧ ∀ C, kInv w (w * l) bits.testBit C → ∀ i, i < w * l → R.testBit i = true → C i = C f
theorem hFl_more {w l bits f R : Nat} (hw : 1 ≤ w ∧ w ≤ 4) (hl : 1 ≤ l ∧ l ≤ 6) (hb : bits < 2 ^ (w * l)) (h : hFl w l bits f R) : hFl w l bits f (moreN w l bits R) := by
  obtain ⟨h1, h2, h3, h4⟩ := h
  have w0 : 0 < w := hw.1
  refine ⟨Nat.and_lt_two_pow _ hb, ?_, fun i hi => ((more_t hw hl h1 i).mp hi).1, fun C hC i hi hm => ?_⟩
  · rw [more_t hw hl h1]
    exact ⟨h3 f h2, Or.inl h2⟩
  · obtain ⟨hbi, hh⟩ := (more_t hw hl h1 i).mp hm
    have f : ∀ j, R.testBit j = true → j < w * l := fun j hj => by
      by_cases h : j < w * l
      · exact h
      · rw [tb_hi h1 (by omega)] at hj
        exact absurd hj (by decide)
    rcases hh with h | ⟨ha, hb2, hc⟩ | ⟨ha, hb2⟩ | ⟨ha, hb2⟩ | ha
    · exact h4 C hC i hi h
    · have e : i - 1 + 1 = i := by omega
      have hm : (i - 1) % w < w := Nat.mod_lt _ w0
      have := hC.1 (i - 1) (by omega) (by omega) (h3 _ hb2) (by rw [e]; exact hbi)
      rw [e] at this
      rw [← this]
      exact h4 C hC (i - 1) (by omega) hb2
    · have hj := f _ ha
      have hm : i % w + 1 < w := by
        have hlt : i % w < w := Nat.mod_lt _ w0
        have h9 : (i + 1) % w = (i % w + 1) % w := (Nat.mod_add_mod i w 1).symm
        rw [h9] at hb2
        by_cases e : i % w + 1 = w
        · rw [e, Nat.mod_self] at hb2
          exact absurd rfl hb2
        · omega
      rw [hC.1 i (by omega) hm hbi (h3 _ ha)]
      exact h4 C hC (i + 1) hj ha
    · have e : i - w + w = i := by omega
      have := hC.2 (i - w) (by omega) (h3 _ hb2) (by rw [e]; exact hbi)
      rw [e] at this
      rw [← this]
      exact h4 C hC (i - w) (by omega) hb2
    · have hj := f _ ha
      rw [hC.2 i hj hbi (h3 _ ha)]
      exact h4 C hC (i + w) hj ha
theorem mod_s {i w : Nat} (hw : 1 ≤ w) (h : i % w + 1 < w) : (i + 1) % w ≠ 0 ∧ i % w ≠ w - 1 := by
  have e : (i + 1) % w = i % w + 1 := by
    rw [Nat.add_mod]
    have : 1 % w = 1 := Nat.mod_eq_of_lt (by omega)
    rw [this]
    exact Nat.mod_eq_of_lt h
  omega
theorem hFl_end {w l bits f R : Nat} (hw : 1 ≤ w ∧ w ≤ 4) (hl : 1 ≤ l ∧ l ≤ 6) (hb : bits < 2 ^ (w * l)) (h : hFl w l bits f R) (he : moreN w l bits R = R) : Conn w (w * l) bits.testBit ↔ R = bits := by
  obtain ⟨h1, h2, h3, h4⟩ := h
  have w0 : 0 < w := hw.1
  have hf : f < w * l := by
    by_cases h : f < w * l
    · exact h
    · rw [tb_hi h1 (by omega)] at h2
      exact absurd h2 (by decide)
  have hcl : kInv w (w * l) bits.testBit R.testBit := by
    constructor
    · intro i hi hm hp hp1
      have ms := mod_s hw.1 hm
      rw [Bool.eq_iff_iff]
      constructor
      · intro hr
        rw [← he, more_t hw hl h1]
        exact ⟨hp1, Or.inr (Or.inl ⟨by omega, by rw [Nat.add_sub_cancel]; exact hr, by rw [Nat.add_sub_cancel]; exact ms.2⟩)⟩
      · intro hr
        rw [← he, more_t hw hl h1]
        exact ⟨hp, Or.inr (Or.inr (Or.inl ⟨hr, ms.1⟩))⟩
    · intro i hi hp hp1
      rw [Bool.eq_iff_iff]
      constructor
      · intro hr
        rw [← he, more_t hw hl h1]
        exact ⟨hp1, Or.inr (Or.inr (Or.inr (Or.inl ⟨by omega, by rw [Nat.add_sub_cancel]; exact hr⟩)))⟩
      · intro hr
        rw [← he, more_t hw hl h1]
        exact ⟨hp, Or.inr (Or.inr (Or.inr (Or.inr hr)))⟩
  rw [conn_of (R := R.testBit) hf (h3 f h2) h2 h4 hcl]
  constructor
  · intro h9
    apply Nat.eq_of_testBit_eq
    intro i
    rw [Bool.eq_iff_iff]
    refine ⟨h3 i, fun hp => ?_⟩
    by_cases hi : i < w * l
    · exact h9 i hi hp
    · rw [tb_hi hb (by omega)] at hp
      exact absurd hp (by decide)
  · intro h9 i _ hp
    rw [h9]
    exact hp
theorem more_grow {w l bits f R : Nat} (hw : 1 ≤ w ∧ w ≤ 4) (hl : 1 ≤ l ∧ l ≤ 6) (hb : bits < 2 ^ (w * l)) (h : hFl w l bits f R) (hne : moreN w l bits R ≠ R) : cnt 24 R.testBit < cnt 24 (moreN w l bits R).testBit := by
  have hn : w * l ≤ 24 := Nat.mul_le_mul hw.2 hl.2
  have h2 := hFl_more hw hl hb h
  have sub : ∀ i, R.testBit i = true → (moreN w l bits R).testBit i = true := fun i hi => (more_t hw hl h.1 i).mpr ⟨h.2.2.1 i hi, Or.inl hi⟩
  apply cnt_lt (fun i _ => sub i)
  apply Classical.byContradiction
  intro hno
  apply hne
  apply Nat.eq_of_testBit_eq
  intro i
  rw [Bool.eq_iff_iff]
  refine ⟨fun hm => ?_, sub i⟩
  apply Classical.byContradiction
  intro hr
  apply hno
  refine ⟨i, ?_, hm, by simpa using hr⟩
  by_cases hi : i < 24
  · exact hi
  · rw [tb_hi h2.1 (by omega)] at hm
    exact absurd hm (by decide)
/-- the lowest bit -/
theorem low_pow : ∀ (x : Nat), x ≠ 0 → ∃ f m, x = 2 ^ f * (2 * m + 1) := by
  intro x
  induction x using Nat.strongRecOn with
  | ind x ih =>
    intro hx
    by_cases h : x % 2 = 1
    · exact ⟨0, x / 2, by omega⟩
    · obtain ⟨f, m, e⟩ := ih (x / 2) (by omega) (by omega)
      refine ⟨f + 1, m, ?_⟩
      rw [Nat.pow_succ, Nat.mul_comm (2 ^ f) 2, Nat.mul_assoc, ← e]
      omega
theorem low_tb {f m : Nat} : (2 ^ f * (2 * m + 1)).testBit f = true := by
  rw [Nat.mul_comm, shl_t, decide_eq_true (Nat.le_refl f), Nat.sub_self, Bool.true_and, Nat.testBit_zero]
  exact decide_eq_true (by omega)
theorem neg_and (x : Nat) (hx : x ≠ 0) (h : x < 2147483648) : and32 (x : Int) (-(x : Int)) = ((andN x (x - 1) : Nat) : Int) := by
  rw [← andn32 x (x - 1) h (by omega)]
  unfold and32 xor32
  have e : -(x : Int) = Int.negSucc (x - 1) := by
    rw [Int.negSucc_eq]
    omega
  show ((BitVec.ofInt 32 (x : Int)) &&& (BitVec.ofInt 32 (-(x : Int)))).toInt = ((BitVec.ofInt 32 (x : Int)) &&& (BitVec.ofInt 32 (((BitVec.ofInt 32 ((x - 1 : Nat) : Int)) ^^^ (BitVec.ofInt 32 (-1))).toInt))).toInt
  rw [BitVec.ofInt_toInt, e, BitVec.ofInt_negSucc_eq_not_ofNat, show BitVec.ofInt 32 (-1) = BitVec.allOnes 32 by decide, BitVec.xor_allOnes]
  simp only [BitVec.ofInt_natCast]
theorem low_and (x : Nat) (hx : x ≠ 0) (h : x < 16777216) : ∃ f, x.testBit f = true ∧ and32 (x : Int) (-(x : Int)) = ((2 ^ f : Nat) : Int) := by
  obtain ⟨f, m, e⟩ := low_pow x hx
  refine ⟨f, by rw [e]; exact low_tb, ?_⟩
  rw [neg_and x hx (by omega)]
  congr 1
  apply Nat.eq_of_testBit_eq
  intro i
  rw [andN_t, Nat.testBit_two_pow]
  have p0 : 0 < 2 ^ f := Nat.pow_pos (by decide)
  have e2 : x - 1 = (2 * m) * 2 ^ f + (2 ^ f - 1) := by
    rw [e, Nat.mul_add, Nat.mul_one, Nat.mul_comm (2 ^ f) (2 * m)]
    omega
  have e3 : x = (2 * m + 1) * 2 ^ f := by rw [e, Nat.mul_comm]
  rcases Nat.lt_trichotomy i f with h1 | h1 | h1
  · rw [e3, shl_t, decide_eq_false (by omega), decide_eq_false (by omega)]
    rfl
  · subst h1
    rw [decide_eq_true rfl]
    have t1 : x.testBit i = true := by rw [e]; exact low_tb
    have t2 : (x - 1).testBit i = false := by
      rw [e2, show (2 * m) * 2 ^ i + (2 ^ i - 1) = 2 ^ i * (2 * m) + (2 ^ i - 1) by rw [Nat.mul_comm], Nat.testBit_two_pow_mul_add _ (by omega)]
      rw [if_neg (by omega), Nat.sub_self, Nat.testBit_zero]
      exact decide_eq_false (by omega)
    rw [t1, t2]
    rfl
  · rw [decide_eq_false (by omega)]
    have t : (x - 1).testBit i = x.testBit i := by
      rw [e2, show (2 * m) * 2 ^ f + (2 ^ f - 1) = 2 ^ f * (2 * m) + (2 ^ f - 1) by rw [Nat.mul_comm], Nat.testBit_two_pow_mul_add _ (by omega), if_neg (by omega), e3, shl_t, decide_eq_true (show f ≤ i by omega), Bool.true_and]
      obtain ⟨g, hg⟩ : ∃ g, i - f = g + 1 := ⟨i - f - 1, by omega⟩
      rw [hg, Nat.testBit_succ, Nat.testBit_succ]
      congr 1
      omega
    rw [t]
    cases x.testBit i <;> rfl
section HT
variable {d : Nat} {M : Mem} {Q : List AV → Mem → Prop}
theorem be_s (x y1 y2 w a1 a2 t1 t2 t3 t4 u1 u2 r : Int) (f0 : M 32 0 = w) (f4 : M 32 4 = y2) (f5 : M 32 5 = y1) (g1 : and32 x (xor32 y1 (-1)) = a1) (g2 : and32 x (xor32 y2 (-1)) = a2) (g3 : shl32 a1 1 = t1) (g4 : shr32 a2 1 = t2) (g5 : shl32 x w = t3) (g6 : shr32 x w = t4) (g7 : or32 t1 t2 = u1) (g8 : or32 u1 t3 = u2) (g9 : or32 u2 t4 = r) : XC d 7 [aR 10 0 32, aI x] M Q ↔ Q [aI r] M := by
  rw [e_7, k_7_0]
  simp (disch := first | exact nl_i _ | exact nl_r _ | exact Nat.le_of_ble_eq_true rfl | exact Or.inl rfl | exact Or.inr rfl | exact w8_lo _ | exact w8_hi _ | decide | omega) only [v_fall, v_il_0, v_al_0, v_is_0, v_as_0, v_inc_0, v_ll_0, v_ls_0, v_il_1, v_al_1, v_is_1, v_as_1, v_inc_1, v_ll_1, v_ls_1, v_il_2, v_al_2, v_is_2, v_as_2, v_inc_2, v_ll_2, v_ls_2, v_il_3, v_al_3, v_is_3, v_as_3, v_inc_3, v_ll_3, v_ls_3, v_il_4, v_al_4, v_is_4, v_as_4, v_inc_4, v_ll_4, v_ls_4, v_il_5, v_al_5, v_is_5, v_as_5, v_inc_5, v_ll_5, v_ls_5, v_il_6, v_al_6, v_is_6, v_as_6, v_inc_6, v_il_7, v_al_7, v_is_7, v_as_7, v_inc_7, v_il_8, v_al_8, v_is_8, v_as_8, v_inc_8, v_il_9, v_al_9, v_is_9, v_as_9, v_inc_9, v_il_10, v_al_10, v_is_10, v_as_10, v_inc_10, v_il_11, v_al_11, v_is_11, v_as_11, v_inc_11, v_il_12, v_al_12, v_is_12, v_as_12, v_inc_12, v_il_13, v_al_13, v_is_13, v_as_13, v_inc_13, v_c_8, v_c_9, v_c_10, v_c_11, v_c_12, v_c_13, v_c_14, v_b_15, v_b_16, v_b_17, v_b_21, v_b_22, v_b_23, v_b_24, v_b_25, v_b_26, v_b_18, v_b_19, v_b_20, v_b_27, v_b_28, v_b_29, v_b_30, v_b_31, v_dup_i, v_dup_r, v_dup2, v_pop, v_gi, v_gl, v_gr, v_pi, v_pl, v_pz, v_iald, v_lald, v_bald, v_zald, v_aald, v_iast, v_last, v_bast, v_zast, v_alen_0, v_alen_1, v_alen_2, v_alen_3, v_alen_4, v_j_45, v_j_46, v_j_47, v_j_48, v_j_49, v_j_50, v_j_51, v_j_52, v_j_53, v_j_54, v_j_55, v_j_56, v_goto, v_sw, v_ret_i, v_ret_z, v_ret, v_cpy, v_iv_1, v_iv_2, v_iv_3, v_iv_4, v_iv_5, v_iv_6, v_is2_1, v_is2_2, v_is2_3, v_ivJ, List.nil_append, List.cons_append, rf_0_0, rf_0_1, rf_0_2, rf_0_3, rf_0_4, rf_0_5, rf_0_6, rf_0_7, rf_0_8, rf_0_9, rf_1_0, rf_1_2, rf_4_0, rf_4_1, rf_4_2, rf_5_8, rf_5_9, rf_5_10, rf_5_11, rf_5_12, rf_13_0, rf_13_1, rf_14_0, rf_14_1, rf_14_2, rf_15_8, rf_15_9, rf_15_10, rf_15_11, rf_15_12, rf_23_0, rf_23_1, rf_23_2, rf_24_8, rf_24_9, rf_24_10, rf_24_11, rf_24_12, rf_32_6, rf_34_0, rf_34_1, rf_34_2, rf_34_3, rf_35_8, rf_35_9, rf_35_10, rf_35_11, rf_35_12, rf_43_0, rf_43_1, rf_43_2, rf_43_3, rf_45_0, rf_45_1, rf_46_0, rf_46_1, rf_46_2, rf_46_3, rf_46_4, rf_46_5, rf_47_0, rf_47_1, rf_49_0, rf_49_1, rf_49_2, rf_49_3, rf_49_4, rf_49_5, rf_53_0, rf_53_1, rf_53_2, rf_53_3, rf_53_4, rf_53_5, rf_53_6, rf_53_7, rf_53_9, rf_53_10, rf_53_11, rf_53_12, rf_53_13, rf_54_0, rf_54_1, rf_55_1, rf_55_2, rf_55_3, rf_67_1, rf_67_6, rf_67_7, rf_67_8, rf_67_9, rf_67_10, rf_67_22, rf_67_23, rf_67_28, rf_67_30, rf_67_32, rf_67_33, rf_67_38, rf_67_39, rf_67_48, rf_67_49, rf_67_51, rf_67_52, rf_67_53, rf_67_54, rf_67_55, rf_67_60, rf_67_61, rf_67_62, f0, f4, f5, g1, g2, g3, g4, g5, g6, g7, g8, g9]
theorem s_beside {w l : Nat} (hG : GS M w l) (R : Nat) (hR : R < 2 ^ (w * l)) : XC d 7 [aR 10 0 32, aI (R : Int)] M Q ↔ Q [aI ((besN w l R : Nat) : Int)] M := by
  have h24 := lt24 hG.1 hG.2.1 hR
  have hs := bits_lt h24
  have gl : gLast w l < 2147483648 := bits_lt (bitsN_lt _)
  have gf : gFirst w l < 2147483648 := bits_lt (bitsN_lt _)
  have a1 : andN R (gLast w l) < 2 ^ 24 := andN_lt h24
  have a2 : andN R (gFirst w l) < 2 ^ 24 := andN_lt h24
  have w32' : w < 32 := Nat.lt_of_le_of_lt hG.1.2 (by decide)
  have p4 : 2 ^ w ≤ 2 ^ 4 := Nat.pow_le_pow_right (by decide) hG.1.2
  have m1 : R * 2 ^ w ≤ R * 2 ^ 4 := Nat.mul_le_mul_left R p4
  have b1 : andN R (gLast w l) * 2 ^ 1 < 2 ^ 28 := by
    clear m1 p4 a2 hs gl gf h24 hR
    omega
  have b2 : andN R (gFirst w l) / 2 ^ 1 < 2 ^ 28 := Nat.lt_of_le_of_lt (Nat.div_le_self _ _) (Nat.lt_trans a2 (by decide))
  have b3 : R * 2 ^ w < 2 ^ 28 := Nat.lt_of_le_of_lt m1 (by clear m1 p4 a1 a2 b1 b2 hs gl gf hR; omega)
  have b4 : R / 2 ^ w < 2 ^ 28 := Nat.lt_of_le_of_lt (Nat.div_le_self _ _) (Nat.lt_trans h24 (by decide))
  have c1 := Nat.or_lt_two_pow b1 b2
  have c2 := Nat.or_lt_two_pow c1 b3
  have k : (2 : Nat) ^ 28 < 2147483648 := by decide
  exact be_s (R : Int) ((gLast w l : Nat) : Int) ((gFirst w l : Nat) : Int) (w : Int) _ _ _ _ _ _ _ _ _ hG.2.2.1 hG.2.2.2.2.2.2.1 hG.2.2.2.2.2.2.2.1 (andn32 R (gLast w l) hs gl) (andn32 R (gFirst w l) hs gf) (shl_nat _ 1 (by decide) (Nat.lt_trans b1 k)) (shr_nat _ 1 (by decide) (bits_lt a2)) (shl_nat _ w w32' (Nat.lt_trans b3 k)) (shr_nat _ w w32' hs) (or_nat _ _ (Nat.lt_trans b1 k) (Nat.lt_trans b2 k)) (or_nat _ _ (Nat.lt_trans c1 k) (Nat.lt_trans b3 k)) (or_nat _ _ (Nat.lt_trans c2 k) (Nat.lt_trans b4 k))
theorem ht_s (bits R s B z R2 : Int) (o : AV) (p1 : ∀ Q', XC d 7 [aR 10 0 32, aI R] M Q' ↔ Q' [aI B] M) (g1 : or32 R B = z) (g2 : and32 z bits = R2) (hs : 0 ≤ s ∧ s < 24) (e3 : w32 R = R) (e4 : w32 R2 = R2) (e5 : w32 bits = bits) : XL (d + 1) 8 7 [aR 10 0 32, aI bits, aI R, aI s, o] [] M Q ↔ (if R2 = R then (if R = bits then Q [aI 1] M else Q [aI 0] M) else XL (d + 1) 8 7 [aR 10 0 32, aI bits, aI R2, aI (s + 1), aI R2] [] M Q) := by
  have e1 : w32 s = s := w_sm (by omega)
  have e2 : w32 24 = 24 := rfl
  have c0 : ¬ (24 : Int) ≤ s := by omega
  rw [b_8_7, k_8_7]
  by_cases h1 : R2 = R
  · rw [if_pos h1]
    have h1' : ¬ R2 ≠ R := fun h => h h1
    by_cases h2 : R = bits
    · rw [if_pos h2]
      have h2' : ¬ R ≠ bits := fun h => h h2
      simp (disch := first | exact nl_i _ | exact nl_r _ | exact Nat.le_of_ble_eq_true rfl | exact Or.inl rfl | exact Or.inr rfl | exact w8_lo _ | exact w8_hi _ | decide | omega) only [v_fall, v_il_0, v_al_0, v_is_0, v_as_0, v_inc_0, v_ll_0, v_ls_0, v_il_1, v_al_1, v_is_1, v_as_1, v_inc_1, v_ll_1, v_ls_1, v_il_2, v_al_2, v_is_2, v_as_2, v_inc_2, v_ll_2, v_ls_2, v_il_3, v_al_3, v_is_3, v_as_3, v_inc_3, v_ll_3, v_ls_3, v_il_4, v_al_4, v_is_4, v_as_4, v_inc_4, v_ll_4, v_ls_4, v_il_5, v_al_5, v_is_5, v_as_5, v_inc_5, v_ll_5, v_ls_5, v_il_6, v_al_6, v_is_6, v_as_6, v_inc_6, v_il_7, v_al_7, v_is_7, v_as_7, v_inc_7, v_il_8, v_al_8, v_is_8, v_as_8, v_inc_8, v_il_9, v_al_9, v_is_9, v_as_9, v_inc_9, v_il_10, v_al_10, v_is_10, v_as_10, v_inc_10, v_il_11, v_al_11, v_is_11, v_as_11, v_inc_11, v_il_12, v_al_12, v_is_12, v_as_12, v_inc_12, v_il_13, v_al_13, v_is_13, v_as_13, v_inc_13, v_c_8, v_c_9, v_c_10, v_c_11, v_c_12, v_c_13, v_c_14, v_b_15, v_b_16, v_b_17, v_b_21, v_b_22, v_b_23, v_b_24, v_b_25, v_b_26, v_b_18, v_b_19, v_b_20, v_b_27, v_b_28, v_b_29, v_b_30, v_b_31, v_dup_i, v_dup_r, v_dup2, v_pop, v_gi, v_gl, v_gr, v_pi, v_pl, v_pz, v_iald, v_lald, v_bald, v_zald, v_aald, v_iast, v_last, v_bast, v_zast, v_alen_0, v_alen_1, v_alen_2, v_alen_3, v_alen_4, v_j_45, v_j_46, v_j_47, v_j_48, v_j_49, v_j_50, v_j_51, v_j_52, v_j_53, v_j_54, v_j_55, v_j_56, v_goto, v_sw, v_ret_i, v_ret_z, v_ret, v_cpy, v_iv_1, v_iv_2, v_iv_3, v_iv_4, v_iv_5, v_iv_6, v_is2_1, v_is2_2, v_is2_3, v_ivJ, List.nil_append, List.cons_append, rf_0_0, rf_0_1, rf_0_2, rf_0_3, rf_0_4, rf_0_5, rf_0_6, rf_0_7, rf_0_8, rf_0_9, rf_1_0, rf_1_2, rf_4_0, rf_4_1, rf_4_2, rf_5_8, rf_5_9, rf_5_10, rf_5_11, rf_5_12, rf_13_0, rf_13_1, rf_14_0, rf_14_1, rf_14_2, rf_15_8, rf_15_9, rf_15_10, rf_15_11, rf_15_12, rf_23_0, rf_23_1, rf_23_2, rf_24_8, rf_24_9, rf_24_10, rf_24_11, rf_24_12, rf_32_6, rf_34_0, rf_34_1, rf_34_2, rf_34_3, rf_35_8, rf_35_9, rf_35_10, rf_35_11, rf_35_12, rf_43_0, rf_43_1, rf_43_2, rf_43_3, rf_45_0, rf_45_1, rf_46_0, rf_46_1, rf_46_2, rf_46_3, rf_46_4, rf_46_5, rf_47_0, rf_47_1, rf_49_0, rf_49_1, rf_49_2, rf_49_3, rf_49_4, rf_49_5, rf_53_0, rf_53_1, rf_53_2, rf_53_3, rf_53_4, rf_53_5, rf_53_6, rf_53_7, rf_53_9, rf_53_10, rf_53_11, rf_53_12, rf_53_13, rf_54_0, rf_54_1, rf_55_1, rf_55_2, rf_55_3, rf_67_1, rf_67_6, rf_67_7, rf_67_8, rf_67_9, rf_67_10, rf_67_22, rf_67_23, rf_67_28, rf_67_30, rf_67_32, rf_67_33, rf_67_38, rf_67_39, rf_67_48, rf_67_49, rf_67_51, rf_67_52, rf_67_53, rf_67_54, rf_67_55, rf_67_60, rf_67_61, rf_67_62, p1, g1, g2, e1, e2, e3, e4, e5, if_neg c0, if_neg h1', if_neg h2', b_8_42, k_8_42, b_8_52, k_8_52]
    · rw [if_neg h2]
      simp (disch := first | exact nl_i _ | exact nl_r _ | exact Nat.le_of_ble_eq_true rfl | exact Or.inl rfl | exact Or.inr rfl | exact w8_lo _ | exact w8_hi _ | decide | omega) only [v_fall, v_il_0, v_al_0, v_is_0, v_as_0, v_inc_0, v_ll_0, v_ls_0, v_il_1, v_al_1, v_is_1, v_as_1, v_inc_1, v_ll_1, v_ls_1, v_il_2, v_al_2, v_is_2, v_as_2, v_inc_2, v_ll_2, v_ls_2, v_il_3, v_al_3, v_is_3, v_as_3, v_inc_3, v_ll_3, v_ls_3, v_il_4, v_al_4, v_is_4, v_as_4, v_inc_4, v_ll_4, v_ls_4, v_il_5, v_al_5, v_is_5, v_as_5, v_inc_5, v_ll_5, v_ls_5, v_il_6, v_al_6, v_is_6, v_as_6, v_inc_6, v_il_7, v_al_7, v_is_7, v_as_7, v_inc_7, v_il_8, v_al_8, v_is_8, v_as_8, v_inc_8, v_il_9, v_al_9, v_is_9, v_as_9, v_inc_9, v_il_10, v_al_10, v_is_10, v_as_10, v_inc_10, v_il_11, v_al_11, v_is_11, v_as_11, v_inc_11, v_il_12, v_al_12, v_is_12, v_as_12, v_inc_12, v_il_13, v_al_13, v_is_13, v_as_13, v_inc_13, v_c_8, v_c_9, v_c_10, v_c_11, v_c_12, v_c_13, v_c_14, v_b_15, v_b_16, v_b_17, v_b_21, v_b_22, v_b_23, v_b_24, v_b_25, v_b_26, v_b_18, v_b_19, v_b_20, v_b_27, v_b_28, v_b_29, v_b_30, v_b_31, v_dup_i, v_dup_r, v_dup2, v_pop, v_gi, v_gl, v_gr, v_pi, v_pl, v_pz, v_iald, v_lald, v_bald, v_zald, v_aald, v_iast, v_last, v_bast, v_zast, v_alen_0, v_alen_1, v_alen_2, v_alen_3, v_alen_4, v_j_45, v_j_46, v_j_47, v_j_48, v_j_49, v_j_50, v_j_51, v_j_52, v_j_53, v_j_54, v_j_55, v_j_56, v_goto, v_sw, v_ret_i, v_ret_z, v_ret, v_cpy, v_iv_1, v_iv_2, v_iv_3, v_iv_4, v_iv_5, v_iv_6, v_is2_1, v_is2_2, v_is2_3, v_ivJ, List.nil_append, List.cons_append, rf_0_0, rf_0_1, rf_0_2, rf_0_3, rf_0_4, rf_0_5, rf_0_6, rf_0_7, rf_0_8, rf_0_9, rf_1_0, rf_1_2, rf_4_0, rf_4_1, rf_4_2, rf_5_8, rf_5_9, rf_5_10, rf_5_11, rf_5_12, rf_13_0, rf_13_1, rf_14_0, rf_14_1, rf_14_2, rf_15_8, rf_15_9, rf_15_10, rf_15_11, rf_15_12, rf_23_0, rf_23_1, rf_23_2, rf_24_8, rf_24_9, rf_24_10, rf_24_11, rf_24_12, rf_32_6, rf_34_0, rf_34_1, rf_34_2, rf_34_3, rf_35_8, rf_35_9, rf_35_10, rf_35_11, rf_35_12, rf_43_0, rf_43_1, rf_43_2, rf_43_3, rf_45_0, rf_45_1, rf_46_0, rf_46_1, rf_46_2, rf_46_3, rf_46_4, rf_46_5, rf_47_0, rf_47_1, rf_49_0, rf_49_1, rf_49_2, rf_49_3, rf_49_4, rf_49_5, rf_53_0, rf_53_1, rf_53_2, rf_53_3, rf_53_4, rf_53_5, rf_53_6, rf_53_7, rf_53_9, rf_53_10, rf_53_11, rf_53_12, rf_53_13, rf_54_0, rf_54_1, rf_55_1, rf_55_2, rf_55_3, rf_67_1, rf_67_6, rf_67_7, rf_67_8, rf_67_9, rf_67_10, rf_67_22, rf_67_23, rf_67_28, rf_67_30, rf_67_32, rf_67_33, rf_67_38, rf_67_39, rf_67_48, rf_67_49, rf_67_51, rf_67_52, rf_67_53, rf_67_54, rf_67_55, rf_67_60, rf_67_61, rf_67_62, p1, g1, g2, e1, e2, e3, e4, e5, if_neg c0, if_neg h1', if_pos h2, b_8_42, k_8_42, b_8_51, k_8_51, b_8_52, k_8_52]
  · rw [if_neg h1]
    simp (disch := first | exact nl_i _ | exact nl_r _ | exact Nat.le_of_ble_eq_true rfl | exact Or.inl rfl | exact Or.inr rfl | exact w8_lo _ | exact w8_hi _ | decide | omega) only [v_fall, v_il_0, v_al_0, v_is_0, v_as_0, v_inc_0, v_ll_0, v_ls_0, v_il_1, v_al_1, v_is_1, v_as_1, v_inc_1, v_ll_1, v_ls_1, v_il_2, v_al_2, v_is_2, v_as_2, v_inc_2, v_ll_2, v_ls_2, v_il_3, v_al_3, v_is_3, v_as_3, v_inc_3, v_ll_3, v_ls_3, v_il_4, v_al_4, v_is_4, v_as_4, v_inc_4, v_ll_4, v_ls_4, v_il_5, v_al_5, v_is_5, v_as_5, v_inc_5, v_ll_5, v_ls_5, v_il_6, v_al_6, v_is_6, v_as_6, v_inc_6, v_il_7, v_al_7, v_is_7, v_as_7, v_inc_7, v_il_8, v_al_8, v_is_8, v_as_8, v_inc_8, v_il_9, v_al_9, v_is_9, v_as_9, v_inc_9, v_il_10, v_al_10, v_is_10, v_as_10, v_inc_10, v_il_11, v_al_11, v_is_11, v_as_11, v_inc_11, v_il_12, v_al_12, v_is_12, v_as_12, v_inc_12, v_il_13, v_al_13, v_is_13, v_as_13, v_inc_13, v_c_8, v_c_9, v_c_10, v_c_11, v_c_12, v_c_13, v_c_14, v_b_15, v_b_16, v_b_17, v_b_21, v_b_22, v_b_23, v_b_24, v_b_25, v_b_26, v_b_18, v_b_19, v_b_20, v_b_27, v_b_28, v_b_29, v_b_30, v_b_31, v_dup_i, v_dup_r, v_dup2, v_pop, v_gi, v_gl, v_gr, v_pi, v_pl, v_pz, v_iald, v_lald, v_bald, v_zald, v_aald, v_iast, v_last, v_bast, v_zast, v_alen_0, v_alen_1, v_alen_2, v_alen_3, v_alen_4, v_j_45, v_j_46, v_j_47, v_j_48, v_j_49, v_j_50, v_j_51, v_j_52, v_j_53, v_j_54, v_j_55, v_j_56, v_goto, v_sw, v_ret_i, v_ret_z, v_ret, v_cpy, v_iv_1, v_iv_2, v_iv_3, v_iv_4, v_iv_5, v_iv_6, v_is2_1, v_is2_2, v_is2_3, v_ivJ, List.nil_append, List.cons_append, rf_0_0, rf_0_1, rf_0_2, rf_0_3, rf_0_4, rf_0_5, rf_0_6, rf_0_7, rf_0_8, rf_0_9, rf_1_0, rf_1_2, rf_4_0, rf_4_1, rf_4_2, rf_5_8, rf_5_9, rf_5_10, rf_5_11, rf_5_12, rf_13_0, rf_13_1, rf_14_0, rf_14_1, rf_14_2, rf_15_8, rf_15_9, rf_15_10, rf_15_11, rf_15_12, rf_23_0, rf_23_1, rf_23_2, rf_24_8, rf_24_9, rf_24_10, rf_24_11, rf_24_12, rf_32_6, rf_34_0, rf_34_1, rf_34_2, rf_34_3, rf_35_8, rf_35_9, rf_35_10, rf_35_11, rf_35_12, rf_43_0, rf_43_1, rf_43_2, rf_43_3, rf_45_0, rf_45_1, rf_46_0, rf_46_1, rf_46_2, rf_46_3, rf_46_4, rf_46_5, rf_47_0, rf_47_1, rf_49_0, rf_49_1, rf_49_2, rf_49_3, rf_49_4, rf_49_5, rf_53_0, rf_53_1, rf_53_2, rf_53_3, rf_53_4, rf_53_5, rf_53_6, rf_53_7, rf_53_9, rf_53_10, rf_53_11, rf_53_12, rf_53_13, rf_54_0, rf_54_1, rf_55_1, rf_55_2, rf_55_3, rf_67_1, rf_67_6, rf_67_7, rf_67_8, rf_67_9, rf_67_10, rf_67_22, rf_67_23, rf_67_28, rf_67_30, rf_67_32, rf_67_33, rf_67_38, rf_67_39, rf_67_48, rf_67_49, rf_67_51, rf_67_52, rf_67_53, rf_67_54, rf_67_55, rf_67_60, rf_67_61, rf_67_62, p1, g1, g2, e1, e2, e3, e4, e5, if_neg c0, if_pos h1, b_8_33, k_8_33]
theorem bes_lt {w l R : Nat} (hw : 1 ≤ w ∧ w ≤ 4) (h24 : R < 2 ^ 24) : besN w l R < 2 ^ 28 := by
  have a1 : andN R (gLast w l) < 2 ^ 24 := andN_lt h24
  have a2 : andN R (gFirst w l) < 2 ^ 24 := andN_lt h24
  have p4 : 2 ^ w ≤ 2 ^ 4 := Nat.pow_le_pow_right (by decide) hw.2
  have m1 : R * 2 ^ w ≤ R * 2 ^ 4 := Nat.mul_le_mul_left R p4
  have b4 : R / 2 ^ w < 2 ^ 28 := Nat.lt_of_le_of_lt (Nat.div_le_self _ _) (Nat.lt_trans h24 (by decide))
  have m2 : R * 2 ^ 4 < 2 ^ 28 := by
    clear a1 a2 p4 m1 b4
    omega
  have x1 : andN R (gLast w l) * 2 ^ 1 < 2 ^ 28 := by
    clear m1 p4 b4 a2 m2
    omega
  have x2 : andN R (gFirst w l) / 2 ^ 1 < 2 ^ 28 := Nat.lt_of_le_of_lt (Nat.div_le_self _ _) (Nat.lt_trans a2 (by decide))
  exact Nat.or_lt_two_pow (Nat.or_lt_two_pow (Nat.or_lt_two_pow x1 x2) (Nat.lt_of_le_of_lt m1 m2)) b4
theorem w32_n {x : Nat} (h : x < 2147483648) : w32 (x : Int) = (x : Int) := w32_of (by omega) (by omega)
theorem ht_l {w l : Nat} (hG : GS M w l) (bits f : Nat) (hb : bits < 2 ^ (w * l)) : ∀ (r s R : Nat) (o : AV), s + r = 24 → hFl w l bits f R → s + 1 ≤ cnt 24 R.testBit → (XL (d + 1) 8 7 [aR 10 0 32, aI (bits : Int), aI (R : Int), aI (s : Int), o] [] M Q ↔ Q [aI (cb (Conn w (w * l) bits.testBit))] M)
  | 0, s, R, o, h, hF, hc => by
    have h9 := cnt_le (p := R.testBit) (n := 24)
    clear hF hb
    omega
  | r + 1, s, R, o, h, hF, hc => by
    have h24 := lt24 hG.1 hG.2.1 hb
    have r24 := lt24 hG.1 hG.2.1 hF.1
    have hRs := bits_lt r24
    have bl := bes_lt (l := l) hG.1 r24
    have hm := hFl_more hG.1 hG.2.1 hb hF
    have g1 := or_nat R (besN w l R) hRs (Nat.lt_trans bl (by decide))
    have orl : R ||| besN w l R < 2 ^ 31 := Nat.or_lt_two_pow hRs (Nat.lt_trans bl (by decide))
    have g2 : and32 ((R ||| besN w l R : Nat) : Int) (bits : Int) = ((moreN w l bits R : Nat) : Int) := and_nat _ _ orl (bits_lt h24)
    have hs : (0 : Int) ≤ (s : Int) ∧ (s : Int) < 24 := by
      clear hF hb h24 r24 orl g1 g2 bl hm hRs hc
      omega
    rw [ht_s (d := d) (bits : Int) (R : Int) (s : Int) _ _ _ o (fun Q' => s_beside hG R hF.1) g1 g2 hs (w32_n hRs) (w32_n (bits_lt (lt24 hG.1 hG.2.1 hm.1))) (w32_n (bits_lt h24))]
    by_cases e : moreN w l bits R = R
    · rw [if_pos (by rw [e]), cb_cg (hFl_end hG.1 hG.2.1 hb hF e)]
      by_cases e9 : R = bits
      · rw [cb_t e9, if_pos (by rw [e9])]
      · rw [cb_f e9, if_neg (fun h9 => e9 (Int.natCast_inj.mp h9))]
    · rw [if_neg (fun h9 => e (Int.natCast_inj.mp h9))]
      have hlt := more_grow hG.1 hG.2.1 hb hF e
      have ih := ht_l hG bits f hb r (s + 1) (moreN w l bits R) (aI ((moreN w l bits R : Nat) : Int)) (by clear hlt hF hb h24 r24 orl g1 g2 bl hm hRs hc; omega) hm (by clear hF hb h24 r24 orl g1 g2 bl hm hRs; omega)
      exact ih
theorem s_hangs {w l : Nat} (hG : GS M w l) (bits : Nat) (hb : bits < 2 ^ (w * l)) : XC (d + 1) 8 [aR 10 0 32, aI (bits : Int)] M Q ↔ Q [aI (cb (Conn w (w * l) bits.testBit))] M := by
  have h24 := lt24 hG.1 hG.2.1 hb
  by_cases hz : bits = 0
  · subst hz
    have hc : Conn w (w * l) (Nat.testBit 0) := fun C _ i j _ _ h => by rw [Nat.zero_testBit] at h; exact absurd h (by decide)
    rw [cb_t hc]
    have p1 : ∀ Q', XC d 7 [aR 10 0 32, aI 0] M Q' ↔ Q' [aI 0] M := fun Q' => by
      have := s_beside (d := d) (Q := Q') hG 0 hb
      rw [show besN w l 0 = 0 by
        have z : ∀ y, andN 0 y = 0 := fun y => Nat.eq_of_testBit_eq (fun i => by rw [andN_t, Nat.zero_testBit]; rfl)
        unfold besN
        rw [z, z]
        simp] at this
      exact this
    have g0 : and32 0 (-0) = 0 := by decide
    have g1 : or32 0 0 = 0 := by decide
    have g2 : and32 0 0 = 0 := by decide
    have e1 : w32 0 = 0 := rfl
    have e2 : w32 24 = 24 := rfl
    clear hG h24 hb hc
    rw [e_8, k_8_0]
    show X (d + 1) _ _ [aR 10 0 32, aI 0, aU, aU, aU] [] M Q ↔ _
    simp (disch := first | exact nl_i _ | exact nl_r _ | exact Nat.le_of_ble_eq_true rfl | exact Or.inl rfl | exact Or.inr rfl | exact w8_lo _ | exact w8_hi _ | decide | omega) only [v_fall, v_il_0, v_al_0, v_is_0, v_as_0, v_inc_0, v_ll_0, v_ls_0, v_il_1, v_al_1, v_is_1, v_as_1, v_inc_1, v_ll_1, v_ls_1, v_il_2, v_al_2, v_is_2, v_as_2, v_inc_2, v_ll_2, v_ls_2, v_il_3, v_al_3, v_is_3, v_as_3, v_inc_3, v_ll_3, v_ls_3, v_il_4, v_al_4, v_is_4, v_as_4, v_inc_4, v_ll_4, v_ls_4, v_il_5, v_al_5, v_is_5, v_as_5, v_inc_5, v_ll_5, v_ls_5, v_il_6, v_al_6, v_is_6, v_as_6, v_inc_6, v_il_7, v_al_7, v_is_7, v_as_7, v_inc_7, v_il_8, v_al_8, v_is_8, v_as_8, v_inc_8, v_il_9, v_al_9, v_is_9, v_as_9, v_inc_9, v_il_10, v_al_10, v_is_10, v_as_10, v_inc_10, v_il_11, v_al_11, v_is_11, v_as_11, v_inc_11, v_il_12, v_al_12, v_is_12, v_as_12, v_inc_12, v_il_13, v_al_13, v_is_13, v_as_13, v_inc_13, v_c_8, v_c_9, v_c_10, v_c_11, v_c_12, v_c_13, v_c_14, v_b_15, v_b_16, v_b_17, v_b_21, v_b_22, v_b_23, v_b_24, v_b_25, v_b_26, v_b_18, v_b_19, v_b_20, v_b_27, v_b_28, v_b_29, v_b_30, v_b_31, v_dup_i, v_dup_r, v_dup2, v_pop, v_gi, v_gl, v_gr, v_pi, v_pl, v_pz, v_iald, v_lald, v_bald, v_zald, v_aald, v_iast, v_last, v_bast, v_zast, v_alen_0, v_alen_1, v_alen_2, v_alen_3, v_alen_4, v_j_45, v_j_46, v_j_47, v_j_48, v_j_49, v_j_50, v_j_51, v_j_52, v_j_53, v_j_54, v_j_55, v_j_56, v_goto, v_sw, v_ret_i, v_ret_z, v_ret, v_cpy, v_iv_1, v_iv_2, v_iv_3, v_iv_4, v_iv_5, v_iv_6, v_is2_1, v_is2_2, v_is2_3, v_ivJ, List.nil_append, List.cons_append, rf_0_0, rf_0_1, rf_0_2, rf_0_3, rf_0_4, rf_0_5, rf_0_6, rf_0_7, rf_0_8, rf_0_9, rf_1_0, rf_1_2, rf_4_0, rf_4_1, rf_4_2, rf_5_8, rf_5_9, rf_5_10, rf_5_11, rf_5_12, rf_13_0, rf_13_1, rf_14_0, rf_14_1, rf_14_2, rf_15_8, rf_15_9, rf_15_10, rf_15_11, rf_15_12, rf_23_0, rf_23_1, rf_23_2, rf_24_8, rf_24_9, rf_24_10, rf_24_11, rf_24_12, rf_32_6, rf_34_0, rf_34_1, rf_34_2, rf_34_3, rf_35_8, rf_35_9, rf_35_10, rf_35_11, rf_35_12, rf_43_0, rf_43_1, rf_43_2, rf_43_3, rf_45_0, rf_45_1, rf_46_0, rf_46_1, rf_46_2, rf_46_3, rf_46_4, rf_46_5, rf_47_0, rf_47_1, rf_49_0, rf_49_1, rf_49_2, rf_49_3, rf_49_4, rf_49_5, rf_53_0, rf_53_1, rf_53_2, rf_53_3, rf_53_4, rf_53_5, rf_53_6, rf_53_7, rf_53_9, rf_53_10, rf_53_11, rf_53_12, rf_53_13, rf_54_0, rf_54_1, rf_55_1, rf_55_2, rf_55_3, rf_67_1, rf_67_6, rf_67_7, rf_67_8, rf_67_9, rf_67_10, rf_67_22, rf_67_23, rf_67_28, rf_67_30, rf_67_32, rf_67_33, rf_67_38, rf_67_39, rf_67_48, rf_67_49, rf_67_51, rf_67_52, rf_67_53, rf_67_54, rf_67_55, rf_67_60, rf_67_61, rf_67_62, p1, g0, g1, g2, e1, e2, b_8_7, k_8_7, b_8_42, k_8_42, b_8_52, k_8_52, if_neg (show ¬ (24 : Int) ≤ 0 by omega), if_neg (show ¬ (0 : Int) ≠ 0 by omega)]
  · obtain ⟨f, hf, he⟩ := low_and bits hz h24
    have ff : f < w * l := by
      by_cases h : f < w * l
      · exact h
      · rw [tb_hi hb (by omega)] at hf
        exact absurd hf (by decide)
    have hn := hG.n
    have one : ∀ i, (2 ^ f).testBit i = true → i = f := fun i hi => by
      rw [Nat.testBit_two_pow] at hi
      exact (of_decide_eq_true hi).symm
    have tf : (2 ^ f).testBit f = true := by rw [Nat.testBit_two_pow]; exact decide_eq_true rfl
    have hF : hFl w l bits f (2 ^ f) := ⟨Nat.pow_lt_pow_right (by decide) ff, tf, fun i hi => by rw [one i hi]; exact hf, fun C _ i _ hi => by rw [one i hi]⟩
    have g := ht_l (d := d) (Q := Q) hG bits f hb 24 0 (2 ^ f) aU (by omega) hF (cnt_pos ⟨f, by omega, tf⟩)
    rw [← g]
    clear g hF tf one hG h24 hb hn ff hf
    generalize ((2 ^ f : Nat) : Int) = z at he ⊢
    rw [e_8, k_8_0]
    simp (disch := first | exact nl_i _ | exact nl_r _ | exact Nat.le_of_ble_eq_true rfl | exact Or.inl rfl | exact Or.inr rfl | exact w8_lo _ | exact w8_hi _ | decide | omega) only [v_fall, v_il_0, v_al_0, v_is_0, v_as_0, v_inc_0, v_ll_0, v_ls_0, v_il_1, v_al_1, v_is_1, v_as_1, v_inc_1, v_ll_1, v_ls_1, v_il_2, v_al_2, v_is_2, v_as_2, v_inc_2, v_ll_2, v_ls_2, v_il_3, v_al_3, v_is_3, v_as_3, v_inc_3, v_ll_3, v_ls_3, v_il_4, v_al_4, v_is_4, v_as_4, v_inc_4, v_ll_4, v_ls_4, v_il_5, v_al_5, v_is_5, v_as_5, v_inc_5, v_ll_5, v_ls_5, v_il_6, v_al_6, v_is_6, v_as_6, v_inc_6, v_il_7, v_al_7, v_is_7, v_as_7, v_inc_7, v_il_8, v_al_8, v_is_8, v_as_8, v_inc_8, v_il_9, v_al_9, v_is_9, v_as_9, v_inc_9, v_il_10, v_al_10, v_is_10, v_as_10, v_inc_10, v_il_11, v_al_11, v_is_11, v_as_11, v_inc_11, v_il_12, v_al_12, v_is_12, v_as_12, v_inc_12, v_il_13, v_al_13, v_is_13, v_as_13, v_inc_13, v_c_8, v_c_9, v_c_10, v_c_11, v_c_12, v_c_13, v_c_14, v_b_15, v_b_16, v_b_17, v_b_21, v_b_22, v_b_23, v_b_24, v_b_25, v_b_26, v_b_18, v_b_19, v_b_20, v_b_27, v_b_28, v_b_29, v_b_30, v_b_31, v_dup_i, v_dup_r, v_dup2, v_pop, v_gi, v_gl, v_gr, v_pi, v_pl, v_pz, v_iald, v_lald, v_bald, v_zald, v_aald, v_iast, v_last, v_bast, v_zast, v_alen_0, v_alen_1, v_alen_2, v_alen_3, v_alen_4, v_j_45, v_j_46, v_j_47, v_j_48, v_j_49, v_j_50, v_j_51, v_j_52, v_j_53, v_j_54, v_j_55, v_j_56, v_goto, v_sw, v_ret_i, v_ret_z, v_ret, v_cpy, v_iv_1, v_iv_2, v_iv_3, v_iv_4, v_iv_5, v_iv_6, v_is2_1, v_is2_2, v_is2_3, v_ivJ, List.nil_append, List.cons_append, rf_0_0, rf_0_1, rf_0_2, rf_0_3, rf_0_4, rf_0_5, rf_0_6, rf_0_7, rf_0_8, rf_0_9, rf_1_0, rf_1_2, rf_4_0, rf_4_1, rf_4_2, rf_5_8, rf_5_9, rf_5_10, rf_5_11, rf_5_12, rf_13_0, rf_13_1, rf_14_0, rf_14_1, rf_14_2, rf_15_8, rf_15_9, rf_15_10, rf_15_11, rf_15_12, rf_23_0, rf_23_1, rf_23_2, rf_24_8, rf_24_9, rf_24_10, rf_24_11, rf_24_12, rf_32_6, rf_34_0, rf_34_1, rf_34_2, rf_34_3, rf_35_8, rf_35_9, rf_35_10, rf_35_11, rf_35_12, rf_43_0, rf_43_1, rf_43_2, rf_43_3, rf_45_0, rf_45_1, rf_46_0, rf_46_1, rf_46_2, rf_46_3, rf_46_4, rf_46_5, rf_47_0, rf_47_1, rf_49_0, rf_49_1, rf_49_2, rf_49_3, rf_49_4, rf_49_5, rf_53_0, rf_53_1, rf_53_2, rf_53_3, rf_53_4, rf_53_5, rf_53_6, rf_53_7, rf_53_9, rf_53_10, rf_53_11, rf_53_12, rf_53_13, rf_54_0, rf_54_1, rf_55_1, rf_55_2, rf_55_3, rf_67_1, rf_67_6, rf_67_7, rf_67_8, rf_67_9, rf_67_10, rf_67_22, rf_67_23, rf_67_28, rf_67_30, rf_67_32, rf_67_33, rf_67_38, rf_67_39, rf_67_48, rf_67_49, rf_67_51, rf_67_52, rf_67_53, rf_67_54, rf_67_55, rf_67_60, rf_67_61, rf_67_62, he]
    rfl
end HT
