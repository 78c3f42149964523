/-! BITS: counting them -/
theorem and_nat (a b : Nat) (ha : a < 2147483648) (hb : b < 2147483648) : and32 (a : Int) (b : Int) = ((a &&& b : Nat) : Int) := by
  unfold and32
  show ((BitVec.ofInt 32 (a : Int)) &&& (BitVec.ofInt 32 (b : Int))).toInt = _
  have h1 : (BitVec.ofInt 32 (a : Int)).toNat = a := by rw [BitVec.toNat_ofInt]; omega
  have h2 : (BitVec.ofInt 32 (b : Int)).toNat = b := by rw [BitVec.toNat_ofInt]; omega
  have h3 : ((BitVec.ofInt 32 (a : Int)) &&& (BitVec.ofInt 32 (b : Int))).toNat = a &&& b := by rw [BitVec.toNat_and, h1, h2]
  have h4 : a &&& b ≤ a := Nat.and_le_left
  rw [BitVec.toInt_eq_toNat_of_lt (by rw [h3]; omega), h3]
theorem or_nat (a b : Nat) (ha : a < 2147483648) (hb : b < 2147483648) : or32 (a : Int) (b : Int) = ((a ||| b : Nat) : Int) := by
  unfold or32
  show ((BitVec.ofInt 32 (a : Int)) ||| (BitVec.ofInt 32 (b : Int))).toInt = _
  have h1 : (BitVec.ofInt 32 (a : Int)).toNat = a := by rw [BitVec.toNat_ofInt]; omega
  have h2 : (BitVec.ofInt 32 (b : Int)).toNat = b := by rw [BitVec.toNat_ofInt]; omega
  have h3 : ((BitVec.ofInt 32 (a : Int)) ||| (BitVec.ofInt 32 (b : Int))).toNat = a ||| b := by rw [BitVec.toNat_or, h1, h2]
  have h4 : a ||| b < 2 ^ 31 := Nat.or_lt_two_pow (by omega) (by omega)
  rw [BitVec.toInt_eq_toNat_of_lt (by rw [h3]; omega), h3]
theorem ush_k : ∀ n : Nat, n < 32 → (((Int32.ofInt (n : Int)).toUInt32 &&& Int32.toUInt32 31).toNat % 32) = n := by decide +kernel
theorem ushr_n (a n : Nat) (ha : a < 2147483648) (hn : n < 32) : ushr32 (a : Int) (n : Int) = ((a / 2 ^ n : Nat) : Int) := by
  unfold ushr32
  have h1 : ((Int32.ofInt (a : Int)).toUInt32).toNat = a := by
    show (BitVec.ofInt 32 (a : Int)).toNat = a
    rw [BitVec.toNat_ofInt]; omega
  have h3 : ((Int32.ofInt (a : Int)).toUInt32 >>> ((Int32.ofInt (n : Int)).toUInt32 &&& Int32.toUInt32 31)).toNat = a / 2 ^ n := by
    rw [UInt32.toNat_shiftRight, h1, ush_k n hn, Nat.shiftRight_eq_div_pow]
  have h4 : a / 2 ^ n ≤ a := Nat.div_le_self _ _
  show (((Int32.ofInt (a : Int)).toUInt32 >>> ((Int32.ofInt (n : Int)).toUInt32 &&& Int32.toUInt32 31)).toBitVec).toInt = _
  have h5 : (((Int32.ofInt (a : Int)).toUInt32 >>> ((Int32.ofInt (n : Int)).toUInt32 &&& Int32.toUInt32 31)).toBitVec).toNat = a / 2 ^ n := h3
  rw [BitVec.toInt_eq_toNat_of_lt (by rw [h5]; omega), h5]
/-- how many of the lowest k bits are set -/
def pcn : Nat → Nat → Nat
  | 0, _ => 0
  | k + 1, x => x % 2 + pcn k (x / 2)
theorem pcn_add (j k : Nat) : ∀ x : Nat, pcn (j + k) x = pcn j (x % 2 ^ j) + pcn k (x / 2 ^ j) := by
  induction j with
  | zero => intro x; simp [pcn]
  | succ j ih =>
    intro x
    rw [Nat.add_right_comm, pcn, pcn, ih]
    have e1 : 2 ^ (j + 1) = 2 * 2 ^ j := by rw [Nat.pow_succ, Nat.mul_comm]
    have e2 : x % 2 ^ (j + 1) % 2 = x % 2 := by rw [e1]; exact Nat.mod_mod_of_dvd _ ⟨_, rfl⟩
    have e3 : x % 2 ^ (j + 1) / 2 = x / 2 % 2 ^ j := by rw [e1, Nat.mod_mul_right_div_self]
    have e4 : x / 2 ^ (j + 1) = x / 2 / 2 ^ j := by rw [e1, Nat.div_div_eq_div_mul]
    rw [e2, e3, e4]
    omega
theorem and_b (y m : Nat) : y &&& m = (y % 256 &&& m % 256) + 256 * (y / 256 &&& m / 256) := by
  have h1 : (y &&& m) % 2 ^ 8 = (y % 2 ^ 8) &&& (m % 2 ^ 8) := Nat.and_mod_two_pow
  have h2 : (y &&& m) / 2 ^ 8 = (y / 2 ^ 8) &&& (m / 2 ^ 8) := Nat.and_div_two_pow
  have h3 := Nat.mod_add_div (y &&& m) (2 ^ 8)
  rw [h1, h2] at h3
  exact h3.symm
theorem and_4 (y m : Nat) : y &&& m = (y % 256 &&& m % 256) + 256 * ((y / 256 % 256 &&& m / 256 % 256) + 256 * ((y / 256 / 256 % 256 &&& m / 256 / 256 % 256) + 256 * (y / 256 / 256 / 256 &&& m / 256 / 256 / 256))) := by
  rw [and_b y m, and_b (y / 256) (m / 256), and_b (y / 256 / 256) (m / 256 / 256)]
theorem sw1 : ∀ a, a < 256 → ∀ t, t < 2 → (a / 2 + 128 * t) &&& 85 = (a / 2) &&& 85 := by decide +kernel
theorem sw1b : ∀ a, a < 256 → (a / 2) &&& 85 ≤ a := by decide +kernel
theorem sw2 : ∀ a, a < 256 → ∀ t, t < 4 → (a / 4 + 64 * t) &&& 51 = (a / 4) &&& 51 := by decide +kernel
/-- one byte's way -/
def by1 (a : Nat) : Nat := a - ((a / 2) &&& 85)
def by2 (u : Nat) : Nat := (u &&& 51) + ((u / 4) &&& 51)
theorem by_ok : ∀ a, a < 256 → by1 a < 256 ∧ by2 (by1 a) % 16 ≤ 4 ∧ by2 (by1 a) / 16 ≤ 4 ∧ by2 (by1 a) % 16 + by2 (by1 a) / 16 = pcn 8 a := by decide +kernel
theorem sw3 : ∀ p, p < 16 → ∀ q, q < 16 → (p + 16 * q) &&& 15 = p := by decide +kernel
theorem dig3 {y p q r : Nat} (hp : p < 256) (hq : q < 256) (hr : r < 256) (h : y = p + 256 * (q + 256 * r)) : y % 256 = p ∧ y / 256 % 256 = q ∧ y / 256 / 256 % 256 = r ∧ y / 256 / 256 / 256 = 0 := by
  have h1 : y / 256 = q + 256 * r := by omega
  have h2 : y / 256 / 256 = r := by rw [h1]; omega
  refine ⟨by omega, by rw [h1]; omega, by rw [h2]; omega, by rw [h2]; omega⟩
theorem w_4 {x p q r : Nat} (hp : p ≤ 8) (hq : q ≤ 8) (hr : r ≤ 8) (h : x = p + 256 * (q + 256 * r)) : ((x + x / 256) + (x + x / 256) / 65536) % 64 = p + q + r := by
  have h1 : x / 256 = q + 256 * r := by omega
  have h2 : x + x / 256 = (p + q) + 256 * (q + r) + 65536 * r := by omega
  have h3 : (x + x / 256) / 65536 = r := by rw [h2]; omega
  rw [h3, h2]
  omega
theorem w_5 {y z : Nat} (h : y % 64 = z) : and32 (y : Int) 63 = (z : Int) := by
  have h1 := and_mask (y : Int) 6 (by decide)
  rw [show ((2 ^ 6 - 1 : Nat) : Int) = 63 from rfl, show ((2 ^ 6 : Nat) : Int) = 64 from rfl] at h1
  rw [h1]
  omega
section SW
variable {x a b c : Nat}
theorem w_1 (ha : a < 256) (hb : b < 256) (hc : c < 256) (hx : x = a + 256 * (b + 256 * c)) : x - ((x / 2) &&& 1431655765) = by1 a + 256 * (by1 b + 256 * by1 c) := by
  have h : (x / 2) &&& 1431655765 = ((a / 2) &&& 85) + 256 * (((b / 2) &&& 85) + 256 * ((c / 2) &&& 85)) := by
    rw [and_4]
    rw [show x / 2 % 256 = a / 2 + 128 * (b % 2) by omega, show x / 2 / 256 % 256 = b / 2 + 128 * (c % 2) by omega, show x / 2 / 256 / 256 % 256 = c / 2 + 128 * 0 by omega, show x / 2 / 256 / 256 / 256 = 0 by omega, Nat.zero_and]
    rw [show 1431655765 % 256 = 85 from rfl]
    rw [sw1 a ha _ (by omega), sw1 b hb _ (by omega), sw1 c hc _ (by omega)]
    omega
  have h1 := sw1b a ha
  have h2 := sw1b b hb
  have h3 := sw1b c hc
  rw [h]
  unfold by1
  omega
theorem w_2 (ha : a < 256) (hb : b < 256) (hc : c < 256) (hx : x = a + 256 * (b + 256 * c)) : (x &&& 858993459) + ((x / 4) &&& 858993459) = by2 a + 256 * (by2 b + 256 * by2 c) := by
  have h : (x / 4) &&& 858993459 = ((a / 4) &&& 51) + 256 * (((b / 4) &&& 51) + 256 * ((c / 4) &&& 51)) := by
    rw [and_4]
    rw [show x / 4 % 256 = a / 4 + 64 * (b % 4) by omega, show x / 4 / 256 % 256 = b / 4 + 64 * (c % 4) by omega, show x / 4 / 256 / 256 % 256 = c / 4 + 64 * 0 by omega, show x / 4 / 256 / 256 / 256 = 0 by omega, Nat.zero_and]
    rw [show 858993459 % 256 = 51 from rfl]
    rw [sw2 a ha _ (by omega), sw2 b hb _ (by omega), sw2 c hc _ (by omega)]
    omega
  have h' : x &&& 858993459 = (a &&& 51) + 256 * ((b &&& 51) + 256 * (c &&& 51)) := by
    rw [and_4]
    rw [show x % 256 = a by omega, show x / 256 % 256 = b by omega, show x / 256 / 256 % 256 = c by omega, show x / 256 / 256 / 256 = 0 by omega, Nat.zero_and]
    rw [show 858993459 % 256 = 51 from rfl]
    omega
  rw [h, h']
  unfold by2
  omega
theorem w_3 (ha : a % 16 ≤ 4 ∧ a / 16 ≤ 4) (hb : b % 16 ≤ 4 ∧ b / 16 ≤ 4) (hc : c % 16 ≤ 4 ∧ c / 16 ≤ 4) (hx : x = a + 256 * (b + 256 * c)) : (x + x / 16) &&& 252645135 = (a % 16 + a / 16) + 256 * ((b % 16 + b / 16) + 256 * (c % 16 + c / 16)) := by
  have h16 : x / 16 = a / 16 + 16 * (b + 256 * c) := by omega
  obtain ⟨a0, ha0⟩ : ∃ a0, a0 = a % 16 := ⟨_, rfl⟩
  obtain ⟨a1, ha1⟩ : ∃ a1, a1 = a / 16 := ⟨_, rfl⟩
  obtain ⟨b0, hb0⟩ : ∃ b0, b0 = b % 16 := ⟨_, rfl⟩
  obtain ⟨b1, hb1⟩ : ∃ b1, b1 = b / 16 := ⟨_, rfl⟩
  obtain ⟨c0, hc0⟩ : ∃ c0, c0 = c % 16 := ⟨_, rfl⟩
  obtain ⟨c1, hc1⟩ : ∃ c1, c1 = c / 16 := ⟨_, rfl⟩
  have k1 : a = a0 + 16 * a1 := by omega
  have k2 : b = b0 + 16 * b1 := by omega
  have k3 : c = c0 + 16 * c1 := by omega
  rw [← ha0, ← ha1, ← hb0, ← hb1, ← hc0, ← hc1]
  rw [← ha0, ← ha1] at ha
  rw [← hb0, ← hb1] at hb
  rw [← hc0, ← hc1] at hc
  obtain ⟨y, hy⟩ : ∃ y, y = x + x / 16 := ⟨_, rfl⟩
  have hy2 : y = ((a0 + a1) + 16 * (a1 + b0)) + 256 * (((b0 + b1) + 16 * (b1 + c0)) + 256 * ((c0 + c1) + 16 * c1)) := by
    rw [hy, h16, ← ha1]
    omega
  rw [← hy]
  clear hy h16 ha0 ha1 hb0 hb1 hc0 hc1 k1 k2 k3 hx
  rw [and_4]
  obtain ⟨d1, d2, d3, d4⟩ := dig3 (by omega) (by omega) (by omega) hy2
  rw [d1, d2, d3, d4, Nat.zero_and]
  rw [show 252645135 % 256 = 15 from rfl]
  rw [sw3 _ (by omega) _ (by omega), sw3 _ (by omega) _ (by omega), sw3 _ (by omega) _ (by omega)]
  omega
end SW
section BC
variable {d : Nat} {M : Mem} {Q : List AV → Mem → Prop}
theorem s_bitCount (x : Nat) (hx : x < 16777216) : XC d 223 [aI (x : Int)] M Q ↔ Q [aI ((pcn 24 x : Nat) : Int)] M := by
  have ha : x % 256 < 256 := by omega
  have hb : x / 256 % 256 < 256 := by omega
  have hc : x / 65536 < 256 := by omega
  have oa := by_ok _ ha
  have ob := by_ok _ hb
  have oc := by_ok _ hc
  have e0 : x = x % 256 + 256 * (x / 256 % 256 + 256 * (x / 65536)) := by omega
  have e1 := w_1 ha hb hc e0
  have e2 := w_2 oa.1 ob.1 oc.1 e1
  have e3 := w_3 ⟨oa.2.1, oa.2.2.1⟩ ⟨ob.2.1, ob.2.2.1⟩ ⟨oc.2.1, oc.2.2.1⟩ e2
  have p0 : pcn 24 x = pcn 8 (x % 256) + pcn 8 (x / 256 % 256) + pcn 8 (x / 65536) := by
    rw [show (24 : Nat) = 8 + 16 from rfl, pcn_add 8 16, show (16 : Nat) = 8 + 8 from rfl, pcn_add 8 8, Nat.div_div_eq_div_mul]
    show pcn 8 (x % 256) + (pcn 8 (x / 256 % 256) + pcn 8 (x / 65536)) = _
    omega
  have h1 : (x / 2) &&& 1431655765 ≤ x / 2 := Nat.and_le_left
  generalize hA : x % 256 = a at *
  generalize hB : x / 256 % 256 = b at *
  generalize hC : x / 65536 = c at *
  generalize hx1 : x - ((x / 2) &&& 1431655765) = x1 at *
  generalize hx2 : (x1 &&& 858993459) + ((x1 / 4) &&& 858993459) = x2 at *
  generalize hx3 : (x2 + x2 / 16) &&& 252645135 = x3 at *
  have g1 : ushr32 (x : Int) 1 = ((x / 2 : Nat) : Int) := ushr_n x 1 (by omega) (by decide)
  have g2 : and32 ((x / 2 : Nat) : Int) 1431655765 = (((x / 2) &&& 1431655765 : Nat) : Int) := and_nat _ 1431655765 (by omega) (by decide)
  have g3 : (x : Int) - (((x / 2) &&& 1431655765 : Nat) : Int) = (x1 : Int) := by omega
  have b1 : x1 < 16777216 := by omega
  have g4 : and32 (x1 : Int) 858993459 = ((x1 &&& 858993459 : Nat) : Int) := and_nat _ 858993459 (by omega) (by decide)
  have g5 : ushr32 (x1 : Int) 2 = ((x1 / 4 : Nat) : Int) := ushr_n x1 2 (by omega) (by decide)
  have g6 : and32 ((x1 / 4 : Nat) : Int) 858993459 = (((x1 / 4) &&& 858993459 : Nat) : Int) := and_nat _ 858993459 (by omega) (by decide)
  have g7 : ((x1 &&& 858993459 : Nat) : Int) + (((x1 / 4) &&& 858993459 : Nat) : Int) = (x2 : Int) := by omega
  have b2 : x2 < 16777216 := by omega
  have g8 : ushr32 (x2 : Int) 4 = ((x2 / 16 : Nat) : Int) := ushr_n x2 4 (by omega) (by decide)
  have g9 : (x2 : Int) + ((x2 / 16 : Nat) : Int) = ((x2 + x2 / 16 : Nat) : Int) := by omega
  have g10 : and32 ((x2 + x2 / 16 : Nat) : Int) 252645135 = (x3 : Int) := by rw [← hx3]; exact and_nat _ 252645135 (by omega) (by decide)
  have b3 : x3 < 16777216 := by omega
  have g11 : ushr32 (x3 : Int) 8 = ((x3 / 256 : Nat) : Int) := ushr_n x3 8 (by omega) (by decide)
  have g12 : (x3 : Int) + ((x3 / 256 : Nat) : Int) = ((x3 + x3 / 256 : Nat) : Int) := by omega
  have g13 : ushr32 ((x3 + x3 / 256 : Nat) : Int) 16 = (((x3 + x3 / 256) / 65536 : Nat) : Int) := ushr_n (x3 + x3 / 256) 16 (by omega) (by decide)
  have g14 : ((x3 + x3 / 256 : Nat) : Int) + (((x3 + x3 / 256) / 65536 : Nat) : Int) = (((x3 + x3 / 256) + (x3 + x3 / 256) / 65536 : Nat) : Int) := by omega
  have g15 : and32 (((x3 + x3 / 256) + (x3 + x3 / 256) / 65536 : Nat) : Int) 63 = ((pcn 24 x : Nat) : Int) := w_5 (by
    rw [p0, ← oa.2.2.2, ← ob.2.2.2, ← oc.2.2.2]
    exact w_4 (Nat.add_le_add oa.2.1 oa.2.2.1) (Nat.add_le_add ob.2.1 ob.2.2.1) (Nat.add_le_add oc.2.1 oc.2.2.1) e3)
  simp (disch := first | exact nl_i _ | exact nl_r _ | exact Nat.le_of_ble_eq_true rfl | exact Or.inl rfl | exact Or.inr rfl | exact w8_lo _ | exact w8_hi _ | decide | omega) only [e_223, k_223_0, v_fall, v_il_0, v_al_0, v_is_0, v_as_0, v_inc_0, v_ll_0, v_ls_0, v_il_1, v_al_1, v_is_1, v_as_1, v_inc_1, v_ll_1, v_ls_1, v_il_2, v_al_2, v_is_2, v_as_2, v_inc_2, v_ll_2, v_ls_2, v_il_3, v_al_3, v_is_3, v_as_3, v_inc_3, v_ll_3, v_ls_3, v_il_4, v_al_4, v_is_4, v_as_4, v_inc_4, v_ll_4, v_ls_4, v_il_5, v_al_5, v_is_5, v_as_5, v_inc_5, v_ll_5, v_ls_5, v_il_6, v_al_6, v_is_6, v_as_6, v_inc_6, v_il_7, v_al_7, v_is_7, v_as_7, v_inc_7, v_il_8, v_al_8, v_is_8, v_as_8, v_inc_8, v_il_9, v_al_9, v_is_9, v_as_9, v_inc_9, v_il_10, v_al_10, v_is_10, v_as_10, v_inc_10, v_il_11, v_al_11, v_is_11, v_as_11, v_inc_11, v_il_12, v_al_12, v_is_12, v_as_12, v_inc_12, v_il_13, v_al_13, v_is_13, v_as_13, v_inc_13, v_c_8, v_c_9, v_c_10, v_c_11, v_c_12, v_c_13, v_c_14, v_b_15, v_b_16, v_b_17, v_b_21, v_b_22, v_b_23, v_b_24, v_b_25, v_b_26, v_b_18, v_b_19, v_b_20, v_b_27, v_b_28, v_b_29, v_b_30, v_b_31, v_dup_i, v_dup_r, v_dup2, v_pop, v_gi, v_gl, v_gr, v_pi, v_pl, v_pz, v_iald, v_lald, v_bald, v_zald, v_aald, v_iast, v_last, v_bast, v_zast, v_alen_0, v_alen_1, v_alen_2, v_alen_3, v_alen_4, v_j_45, v_j_46, v_j_47, v_j_48, v_j_49, v_j_50, v_j_51, v_j_52, v_j_53, v_j_54, v_j_55, v_j_56, v_goto, v_sw, v_ret_i, v_ret_z, v_ret, v_cpy, v_iv_1, v_iv_2, v_iv_3, v_iv_4, v_iv_5, v_iv_6, v_is2_1, v_is2_2, v_is2_3, v_ivJ, List.nil_append, List.cons_append, rf_0_0, rf_0_1, rf_0_2, rf_0_3, rf_0_4, rf_0_5, rf_0_6, rf_0_7, rf_0_8, rf_0_9, rf_1_0, rf_1_2, rf_4_0, rf_4_1, rf_4_2, rf_5_8, rf_5_9, rf_5_10, rf_5_11, rf_5_12, rf_13_0, rf_13_1, rf_14_0, rf_14_1, rf_14_2, rf_15_8, rf_15_9, rf_15_10, rf_15_11, rf_15_12, rf_23_0, rf_23_1, rf_23_2, rf_24_8, rf_24_9, rf_24_10, rf_24_11, rf_24_12, rf_32_6, rf_34_0, rf_34_1, rf_34_2, rf_34_3, rf_35_8, rf_35_9, rf_35_10, rf_35_11, rf_35_12, rf_43_0, rf_43_1, rf_43_2, rf_43_3, rf_45_0, rf_45_1, rf_46_0, rf_46_1, rf_46_2, rf_46_3, rf_46_4, rf_46_5, rf_47_0, rf_47_1, rf_49_0, rf_49_1, rf_49_2, rf_49_3, rf_49_4, rf_49_5, rf_53_0, rf_53_1, rf_53_2, rf_53_3, rf_53_4, rf_53_5, rf_53_6, rf_53_7, rf_53_9, rf_53_10, rf_53_11, rf_53_12, rf_53_13, rf_54_0, rf_54_1, rf_55_1, rf_55_2, rf_55_3, rf_67_1, rf_67_6, rf_67_7, rf_67_8, rf_67_9, rf_67_10, rf_67_22, rf_67_23, rf_67_28, rf_67_30, rf_67_32, rf_67_33, rf_67_38, rf_67_39, rf_67_48, rf_67_49, rf_67_51, rf_67_52, rf_67_53, rf_67_54, rf_67_55, rf_67_60, rf_67_61, rf_67_62, g1, g2, g3, g4, g5, g6, g7, g8, g9, g10, g11, g12, g13, g14, g15]
end BC
