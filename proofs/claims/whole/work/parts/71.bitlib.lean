/-! BITS AS SETS: the library -/
/-- how many below n -/
def cnt : Nat → (Nat → Bool) → Nat
  | 0, _ => 0
  | n + 1, p => cnt n p + (p n).toNat
theorem cnt_cg {p q : Nat → Bool} : ∀ {n : Nat}, (∀ i, i < n → p i = q i) → cnt n p = cnt n q
  | 0, _ => rfl
  | n + 1, h => by
    unfold cnt
    rw [cnt_cg (fun i hi => h i (by omega)), h n (by omega)]
theorem cnt_tail {p : Nat → Bool} {m : Nat} : ∀ {n : Nat}, m ≤ n → (∀ i, m ≤ i → i < n → p i = false) → cnt n p = cnt m p
  | 0, h, _ => by rw [show m = 0 by omega]
  | n + 1, h, hp => by
    by_cases e : m = n + 1
    · rw [e]
    · rw [show cnt (n + 1) p = cnt n p + (p n).toNat from rfl, hp n (by omega) (by omega), cnt_tail (m := m) (n := n) (by omega) (fun i h1 h2 => hp i h1 (by omega))]
      rfl
theorem cnt_z {p : Nat → Bool} {n : Nat} (h : ∀ i, i < n → p i = false) : cnt n p = 0 := cnt_tail (m := 0) (Nat.zero_le n) (fun i _ hi => h i hi)
theorem cnt_le {p : Nat → Bool} : ∀ {n : Nat}, cnt n p ≤ n
  | 0 => Nat.le_refl 0
  | n + 1 => by
    have h := cnt_le (p := p) (n := n)
    have h2 : (p n).toNat ≤ 1 := Bool.toNat_le _
    unfold cnt
    omega
theorem cnt_mono {p q : Nat → Bool} : ∀ {n : Nat}, (∀ i, i < n → p i = true → q i = true) → cnt n p ≤ cnt n q
  | 0, _ => Nat.le_refl 0
  | n + 1, h => by
    have h1 := cnt_mono (p := p) (q := q) (n := n) (fun i hi => h i (by omega))
    have h2 : (p n).toNat ≤ (q n).toNat := by
      cases hp : p n
      · exact Nat.zero_le _
      · rw [h n (by omega) hp]; exact Nat.le_refl _
    unfold cnt
    omega
theorem cnt_add {p q r : Nat → Bool} : ∀ {n : Nat}, (∀ i, i < n → (p i).toNat + (q i).toNat = (r i).toNat) → cnt n p + cnt n q = cnt n r
  | 0, _ => rfl
  | n + 1, h => by
    have h1 := cnt_add (p := p) (q := q) (r := r) (n := n) (fun i hi => h i (by omega))
    have h2 := h n (by omega)
    unfold cnt
    omega
theorem cnt_low {p : Nat → Bool} : ∀ {n : Nat}, cnt (n + 1) p = (p 0).toNat + cnt n (fun i => p (i + 1))
  | 0 => by unfold cnt; unfold cnt; omega
  | n + 1 => by
    rw [show cnt (n + 1 + 1) p = cnt (n + 1) p + (p (n + 1)).toNat from rfl, cnt_low (n := n), show cnt (n + 1) (fun i => p (i + 1)) = cnt n (fun i => p (i + 1)) + (p (n + 1)).toNat from rfl]
    omega
theorem pcn_cnt : ∀ (k x : Nat), pcn k x = cnt k x.testBit
  | 0, _ => rfl
  | k + 1, x => by
    have e : (x.testBit 0).toNat = x % 2 := by
      rw [Nat.testBit_zero]
      rcases (show x % 2 = 0 ∨ x % 2 = 1 by omega) with h | h <;> rw [h] <;> rfl
    rw [pcn, pcn_cnt k (x / 2), cnt_low, e, cnt_cg (fun i _ => (Nat.testBit_succ x i).symm)]
/-- bits of x that are not in y -/
def andN (x y : Nat) : Nat := Nat.bitwise (fun a b => a && !b) x y
theorem andN_t (x y i : Nat) : (andN x y).testBit i = (x.testBit i && !y.testBit i) := by
  unfold andN
  rw [Nat.testBit_bitwise rfl]
theorem tb_hi {x n i : Nat} (h : x < 2 ^ n) (hi : n ≤ i) : x.testBit i = false := Nat.testBit_lt_two_pow (Nat.lt_of_lt_of_le h (Nat.pow_le_pow_right (by decide) hi))
theorem lt_of_tb {x n : Nat} (h : ∀ i, n ≤ i → x.testBit i = false) : x < 2 ^ n := Nat.lt_pow_two_of_testBit x h
theorem andN_lt {x y n : Nat} (h : x < 2 ^ n) : andN x y < 2 ^ n := lt_of_tb (fun i hi => by rw [andN_t, tb_hi h hi]; rfl)
theorem bv_nat {x : Nat} (h : x < 2147483648) : (BitVec.ofInt 32 (x : Int)).toNat = x := by rw [BitVec.toNat_ofInt]; omega
theorem andn32 (x y : Nat) (hx : x < 2147483648) (hy : y < 2147483648) : and32 (x : Int) (xor32 (y : Int) (-1)) = ((andN x y : Nat) : Int) := by
  unfold and32 xor32
  show ((BitVec.ofInt 32 (x : Int)) &&& (BitVec.ofInt 32 (((BitVec.ofInt 32 (y : Int)) ^^^ (BitVec.ofInt 32 (-1))).toInt))).toInt = _
  rw [BitVec.ofInt_toInt]
  have h3 : ((BitVec.ofInt 32 (x : Int)) &&& ((BitVec.ofInt 32 (y : Int)) ^^^ (BitVec.ofInt 32 (-1)))).toNat = andN x y := by
    apply Nat.eq_of_testBit_eq
    intro i
    rw [BitVec.testBit_toNat, BitVec.getLsbD_and, BitVec.getLsbD_xor, ← BitVec.testBit_toNat, ← BitVec.testBit_toNat, bv_nat hx, bv_nat hy, andN_t]
    by_cases hi : i < 32
    · have e : (BitVec.ofInt 32 (-1)).getLsbD i = true := by
        rw [show BitVec.ofInt 32 (-1) = BitVec.allOnes 32 by decide, BitVec.getLsbD_allOnes]
        exact decide_eq_true hi
      rw [e, Bool.xor_true]
    · rw [tb_hi (n := 31) hx (by omega)]
      rfl
  have h4 := andN_lt (y := y) (show x < 2 ^ 31 from hx)
  rw [BitVec.toInt_eq_toNat_of_lt (by rw [h3]; omega), h3]
theorem shl_nat (x b : Nat) (hb : b < 32) (h : x * 2 ^ b < 2147483648) : shl32 (x : Int) (b : Int) = ((x * 2 ^ b : Nat) : Int) := by
  rw [shl_n _ b hb, ← Int.natCast_mul]
  exact w32_of (by omega) (by omega)
theorem shl_1 (b : Nat) (hb : b < 31) : shl32 1 (b : Int) = ((2 ^ b : Nat) : Int) := by
  have h : 2 ^ b ≤ 2 ^ 30 := Nat.pow_le_pow_right (by decide) (by omega)
  have e := shl_nat 1 b (by omega) (by omega)
  rw [Nat.one_mul] at e
  exact e
theorem shr_nat (x b : Nat) (hb : b < 32) (hx : x < 2147483648) : shr32 (x : Int) (b : Int) = ((x / 2 ^ b : Nat) : Int) := by
  rw [shr_n _ b hb, w32_of (by omega) (by omega)]
  exact (Int.natCast_ediv x (2 ^ b)).symm
theorem tb32 (x b : Nat) (hb : b < 32) (hx : x < 2147483648) : and32 (shr32 (x : Int) (b : Int)) 1 = ((x.testBit b).toNat : Int) := by
  rw [shr_nat x b hb hx, and1]
  have e : (x / 2 ^ b) % 2 = (x.testBit b).toNat := by
    rw [Nat.testBit_eq_decide_div_mod_eq]
    rcases (show x / 2 ^ b % 2 = 0 ∨ x / 2 ^ b % 2 = 1 by omega) with h | h <;> rw [h] <;> rfl
  rw [← e]
  exact (Int.natCast_emod (x / 2 ^ b) 2).symm
theorem set32 (x b : Nat) (hb : b < 31) (hx : x < 2147483648) : or32 (x : Int) (shl32 1 (b : Int)) = ((x ||| 2 ^ b : Nat) : Int) := by
  have h : 2 ^ b ≤ 2 ^ 30 := Nat.pow_le_pow_right (by decide) (by omega)
  rw [shl_1 b hb]
  exact or_nat _ _ hx (by omega)
theorem set_t (x b i : Nat) : (x ||| 2 ^ b).testBit i = (x.testBit i || decide (b = i)) := by
  rw [Nat.testBit_or, Nat.testBit_two_pow]
theorem set_lt {x b n : Nat} (hx : x < 2 ^ n) (hb : b < n) : x ||| 2 ^ b < 2 ^ n := Nat.or_lt_two_pow hx (Nat.pow_lt_pow_right (by decide) hb)
theorem shr_t (x b i : Nat) : (x / 2 ^ b).testBit i = x.testBit (i + b) := by
  rw [← Nat.shiftRight_eq_div_pow, Nat.testBit_shiftRight, Nat.add_comm]
theorem shl_t (x b i : Nat) : (x * 2 ^ b).testBit i = (decide (b ≤ i) && x.testBit (i - b)) := by
  rw [← Nat.shiftLeft_eq, Nat.testBit_shiftLeft]
/-- the set of those below n that p names -/
def setN : Nat → (Nat → Bool) → Nat
  | 0, _ => 0
  | n + 1, p => if p n then setN n p ||| 2 ^ n else setN n p
theorem setN_t {p : Nat → Bool} : ∀ (n i : Nat), (setN n p).testBit i = (decide (i < n) && p i)
  | 0, i => by unfold setN; rw [Nat.zero_testBit]; simp
  | n + 1, i => by
    have ih := setN_t (p := p) n i
    unfold setN
    by_cases hp : p n = true
    · rw [if_pos hp, set_t, ih]
      by_cases e : n = i
      · subst e
        rw [hp]
        simp
      · rw [decide_eq_false e, Bool.or_false]
        congr 1
        exact decide_eq_decide.mpr (by omega)
    · rw [if_neg hp, ih]
      by_cases e : n = i
      · subst e
        rw [show p n = false by simpa using hp]
        simp
      · congr 1
        exact decide_eq_decide.mpr (by omega)
theorem setN_lt {p : Nat → Bool} (n : Nat) : setN n p < 2 ^ n := lt_of_tb (fun i hi => by rw [setN_t, decide_eq_false (by omega)]; rfl)
theorem bits_lt {x : Nat} (h : x < 2 ^ 24) : x < 2147483648 := by omega
