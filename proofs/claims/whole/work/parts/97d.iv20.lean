/-! THE JUDGEMENT on the reference's side: does, judge; both sides -/
section MC
variable {d : Nat} {M M0 : Mem} {Q : List AV → Mem → Prop} {w l i : Nat} {r q lg b : Int → Int} {fl : Int} {S : JSt}
theorem mt_take (hV : RivM M0 w l r q lg b fl) (T : JSt) (hC : RJ M0 M T) (hT : jRaft (w * l) (r 2) (jR T) (jC T)) (hp : 0 ≤ jP T ∧ jP T ≤ 2 * (r 0 - 1)) (k : Nat) (hk : k < w * l) (A : Int × Int × Int × Int × Int) (hA : A = takJ w l r q (jR T) (jP T) (k : Int)) (z : Int) (hz : z = 0 ∨ z = 1) (kk : ∀ M2 M3, (∀ Q', XC (d + 3) 199 [aR 22 0 67, aI A.1, aI z] M2 Q' ↔ Q' [] M3) → RJ M0 M3 (jR T, jM T + A.1, jP T, jC T, jW T, jU T + (if z = 0 then A.2.2.1 else A.2.2.2.1), jT T + (if z = 0 then A.2.2.2.1 else A.2.2.1), jA T) → Q [aI A.1] M2) : XC (d + 3) 175 [aR 22 0 67, aI (k : Int), aI (q (3 * quO r (jP T)))] M Q := by
  have hG := hC.gm hV
  have hr := hC.rr hV
  have hn := hG.n
  have hq := quO_b hp
  have hh := hV.2.1.2.2.2.2.2.2.2.2.1 (quO r (jP T)) hq.1 hq.2
  have r5 := hV.2.1.2.2.2.2.2.1
  refine s_m_take hG (hC.g9 hV hT).b k (q (3 * quO r (jP T))) A (by rw [hr.2.2.2.2.1]; omega) (by rw [hr.2.2.2.2.2.1]; exact hV.2.1.2.2.2.2.2.2.1) (by rw [hr.2.2.2.2.2.2]; exact hV.2.1.2.2.2.2.2.2.2.1) (by rw [hr.2.2.2.2.1, hr.2.2.2.2.2.1, hr.2.2.2.2.2.2, hC.gp hn hT, hA]; rfl) hk hh.1 (fun M2 hB h24 h25 h26 h27 => ?_)
  obtain ⟨a1, a2, f41, f42, f43, f44, f45, f46, f47⟩ := hC
  have e : ∀ j, ¬ (24 ≤ j ∧ j ≤ 27) → M2 67 j = M 67 j := fun j hj => hB 67 j (by decide) (by omega)
  have g42 : M2 67 42 = jM T := by rw [e 42 (by decide)]; exact f42
  have g44 : M2 67 44 = jU T := by rw [e 44 (by decide)]; exact f44
  have g45 : M2 67 45 = jT T := by rw [e 45 (by decide)]; exact f45
  refine kk M2 _ (fun Q' => s_costs A.1 z _ _ _ _ _ hz h24 h25 g42 g44 g45) ⟨fun y j hx => ?_, fun k h0 h1 => ?_, ?_, ?_, ?_, ?_, ?_, ?_, ?_⟩
  · unfold mX at hx
    rw [up_b' (by omega), up_b' (by omega), up_b' (by omega), hB y j (by omega) (by omega)]
    exact a1 y j (by unfold mX; omega)
  · rw [up_b (by decide), up_b (by decide), up_b (by decide), hB 74 k (by decide) (by omega)]
    exact a2 k h0 h1
  · simp (disch := first | exact nl_i _ | exact nl_r _ | exact Nat.le_of_ble_eq_true rfl | exact Or.inl rfl | exact Or.inr rfl | exact w8_lo _ | exact w8_hi _ | decide | omega) only [up_s, up_b, up_j]; rw [e 41 (by decide)]; exact f41
  · rw [up_j (by decide), up_j (by decide)]; exact up_s
  · simp (disch := first | exact nl_i _ | exact nl_r _ | exact Nat.le_of_ble_eq_true rfl | exact Or.inl rfl | exact Or.inr rfl | exact w8_lo _ | exact w8_hi _ | decide | omega) only [up_s, up_b, up_j]; rw [e 43 (by decide)]; exact f43
  · rw [up_j (by decide)]; exact up_s
  · exact up_s
  · simp (disch := first | exact nl_i _ | exact nl_r _ | exact Nat.le_of_ble_eq_true rfl | exact Or.inl rfl | exact Or.inr rfl | exact w8_lo _ | exact w8_hi _ | decide | omega) only [up_s, up_b, up_j]; rw [e 46 (by decide)]; exact f46
  · simp (disch := first | exact nl_i _ | exact nl_r _ | exact Nat.le_of_ble_eq_true rfl | exact Or.inl rfl | exact Or.inr rfl | exact w8_lo _ | exact w8_hi _ | decide | omega) only [up_s, up_b, up_j]; rw [e 47 (by decide)]; exact f47
theorem RJ.wt (hV : RivM M0 w l r q lg b fl) (hC : RJ M0 M S) (hw : jW S = 0 ∨ jW S = 1) : RJ M0 (if jW S = 1 then M else up (up (up M 67 46 (jA S + wtJ r q S)) 67 42 (jM S + wtJ r q S)) 67 47 1) (wtd r q S) := by
  unfold wtd
  by_cases h : jW S = 1
  · rw [if_pos h, if_pos h]; exact hC
  · rw [if_neg h, if_neg h]
    obtain ⟨a1, a2, f41, f42, f43, f44, f45, f46, f47⟩ := hC
    refine ⟨fun y j hx => ?_, fun k h0 h1 => ?_, ?_, ?_, ?_, ?_, ?_, ?_, ?_⟩
    · unfold mX at hx
      rw [up_b' (by omega), up_b' (by omega), up_b' (by omega)]
      exact a1 y j (by unfold mX; omega)
    · rw [up_b (by decide), up_b (by decide), up_b (by decide)]
      exact a2 k h0 h1
    · simp (disch := first | exact nl_i _ | exact nl_r _ | exact Nat.le_of_ble_eq_true rfl | exact Or.inl rfl | exact Or.inr rfl | exact w8_lo _ | exact w8_hi _ | decide | omega) only [up_s, up_b, up_j]; exact f41
    · rw [up_j (by decide)]; exact up_s
    · simp (disch := first | exact nl_i _ | exact nl_r _ | exact Nat.le_of_ble_eq_true rfl | exact Or.inl rfl | exact Or.inr rfl | exact w8_lo _ | exact w8_hi _ | decide | omega) only [up_s, up_b, up_j]; exact f43
    · simp (disch := first | exact nl_i _ | exact nl_r _ | exact Nat.le_of_ble_eq_true rfl | exact Or.inl rfl | exact Or.inr rfl | exact w8_lo _ | exact w8_hi _ | decide | omega) only [up_s, up_b, up_j]; exact f44
    · simp (disch := first | exact nl_i _ | exact nl_r _ | exact Nat.le_of_ble_eq_true rfl | exact Or.inl rfl | exact Or.inr rfl | exact w8_lo _ | exact w8_hi _ | decide | omega) only [up_s, up_b, up_j]; exact f45
    · rw [up_j (by decide), up_j (by decide)]; exact up_s
    · exact up_s
theorem RJ.off (hC : RJ M0 M S) (k : Int) : RJ M0 (up M 74 k 0) (updR (jR S) k (-1), jM S, jP S, jC S, jW S, jU S, jT S, jA S) := by
  obtain ⟨a1, a2, f41, f42, f43, f44, f45, f46, f47⟩ := hC
  refine ⟨fun y j hx => ?_, fun j h0 h1 => ?_, ?_, ?_, ?_, ?_, ?_, ?_, ?_⟩
  · unfold mX at hx
    rw [up_b' (by omega)]
    exact a1 y j (by unfold mX; omega)
  · show _ = updR (jR S) k (-1) j + 1
    by_cases e : j = k
    · rw [e, updR_s, up_s]; rfl
    · rw [updR_j e, up_j e]; exact a2 j h0 h1
  all_goals (rw [up_b (by decide)]; assumption)
theorem RJ.on (hC : RJ M0 M S) (k x : Int) : RJ M0 (up M 74 k (x + 1)) (updR (jR S) k x, jM S, jP S, jC S, jW S, jU S, jT S, jA S) := by
  obtain ⟨a1, a2, f41, f42, f43, f44, f45, f46, f47⟩ := hC
  refine ⟨fun y j hx => ?_, fun j h0 h1 => ?_, ?_, ?_, ?_, ?_, ?_, ?_, ?_⟩
  · unfold mX at hx
    rw [up_b' (by omega)]
    exact a1 y j (by unfold mX; omega)
  · show _ = updR (jR S) k x j + 1
    by_cases e : j = k
    · rw [e, updR_s, up_s]
    · rw [updR_j e, up_j e]; exact a2 j h0 h1
  all_goals (rw [up_b (by decide)]; assumption)
/-- from behind the taking off -/
theorem de_put (hV : RivM M0 w l r q lg b fl) (T : JSt) (hC : RJ M0 M T) (hT : jRaft (w * l) (r 2) (jR T) (jC T)) (hp : 0 ≤ jP T ∧ jP T ≤ 2 * (r 0 - 1)) (hcb : jC T < 512) (wh x k : Int) (hwh : wh = 1 ∨ wh = 2) (hx : 0 ≤ x ∧ x < r 2) (hk : 0 ≤ k ∧ k < ((w * l : Nat) : Int)) (hno : ∀ j, 0 ≤ j → j < 24 → jR T j ≠ x) (o1 o5 : AV) (kk : ∀ M', RJ M0 M' (putJ w l r q T x k) → Q [aI 0] M') : XL (d + 4) 200 261 [aR 22 0 67, o1, aI wh, aI x, aI k, o5, aI (q (3 * quO r (jP T)))] [] M Q := by
  have hn : w * l ≤ 24 := hV.1.n
  have r2 := hV.2.1.2.2.1
  obtain ⟨n, rfl⟩ : ∃ n : Nat, k = (n : Int) := ⟨k.toNat, by omega⟩
  have or9 : or32 ((jC T : Nat) : Int) (shl32 1 x) = ((jC T ||| 2 ^ x.toNat : Nat) : Int) := by
    have := set32 (jC T) x.toNat (by omega) (by omega)
    rw [show ((x.toNat : Nat) : Int) = x by omega] at this
    exact this
  have raft1 := jRaft_on (k := (n : Int)) (x := x) hT hk hx hno
  have C1 := hC.on (n : Int) x
  -- the same RAFT, with who came as ahead of it: bounds alone are asked for
  have rb : ∀ j, 0 ≤ j → j < 24 → (-1 ≤ updR (jR T) (n : Int) x j ∧ updR (jR T) (n : Int) x j < r 2) ∧ (((w * l : Nat) : Int) ≤ j → updR (jR T) (n : Int) x j = -1) := raft1.1
  refine de_e1 (d := d + 3) wh x (n : Int) _ o1 o5 hwh ⟨by omega, by omega⟩ ?_
  have C1' : RJ M0 (up M 74 (n : Int) (x + 1)) (updR (jR T) (n : Int) x, jM T, jP T, jC T, jW T, jU T, jT T, jA T) := C1
  have hG := C1'.gm hV
  have hr := C1'.rr hV
  have hq := quO_b hp
  have hh := hV.2.1.2.2.2.2.2.2.2.2.1 (quO r (jP T)) hq.1 hq.2
  have r5 := hV.2.1.2.2.2.2.2.1
  have gb : gB (up M 74 (n : Int) (x + 1)) := fun j j0 j1 => by
    rw [C1'.2.1 j j0 j1]
    have := (rb j j0 j1).1
    show 0 ≤ updR (jR T) (n : Int) x j + 1 ∧ updR (jR T) (n : Int) x j + 1 ≤ 100
    omega
  have gp : gP (up M 74 (n : Int) (x + 1)) (w * l) = pR (w * l) (updR (jR T) (n : Int) x) := (gP_st (M0 := M0) (r := r) hn C1'.2.1 (fun k h0 h1 => (rb k h0 h1).1.1)).symm
  obtain ⟨A, hA⟩ : ∃ A, A = takJ w l r q (updR (jR T) (n : Int) x) (jP T) (n : Int) := ⟨_, rfl⟩
  refine s_m_take hG gb n (q (3 * quO r (jP T))) A (by rw [hr.2.2.2.2.1]; omega) (by rw [hr.2.2.2.2.2.1]; exact hV.2.1.2.2.2.2.2.2.1) (by rw [hr.2.2.2.2.2.2]; exact hV.2.1.2.2.2.2.2.2.2.1) (by rw [hr.2.2.2.2.1, hr.2.2.2.2.2.1, hr.2.2.2.2.2.2, gp, hA]; rfl) (by omega) hh.1 (fun M2 hB h24 h25 h26 h27 => ?_)
  have eP : putJ w l r q T x (n : Int) = (updR (jR T) (n : Int) x, jM T + A.1, jP T, jC T ||| 2 ^ x.toNat, jW T, jU T + A.2.2.2.1, jT T + A.2.2.1, jA T) := by
    unfold putJ
    rw [← hA]
  rw [eP] at kk
  obtain ⟨a1, a2, f41, f42, f43, f44, f45, f46, f47⟩ := C1'
  generalize up M 74 (n : Int) (x + 1) = M1 at *
  have e : ∀ j, ¬ (24 ≤ j ∧ j ≤ 27) → M2 67 j = M1 67 j := fun j hj => hB 67 j (by decide) (by omega)
  have g41 : M2 67 41 = ((jC T : Nat) : Int) := by rw [e 41 (by decide)]; exact f41
  have g42 : M2 67 42 = jM T := by rw [e 42 (by decide)]; exact f42
  have g44 : M2 67 44 = jU T := by rw [e 44 (by decide)]; exact f44
  have g45 : M2 67 45 = jT T := by rw [e 45 (by decide)]; exact f45
  refine ⟨A.1, rfl, _, fun Q' => s_costs A.1 1 _ _ _ _ _ (Or.inr rfl) h24 h25 g42 g44 g45, ?_⟩
  rw [if_neg (show ¬ (1 : Int) = 0 by decide), if_neg (show ¬ (1 : Int) = 0 by decide)]
  have g41' : ∀ x1 x2 x3, up (up (up M2 67 42 x1) 67 44 x2) 67 45 x3 67 41 = ((jC T : Nat) : Int) := fun x1 x2 x3 => by
    rw [up_j (by decide), up_j (by decide), up_j (by decide)]; exact g41
  rw [g41', or9]
  refine kk _ ⟨fun y j hx => ?_, fun k h0 h1 => ?_, ?_, ?_, ?_, ?_, ?_, ?_, ?_⟩
  · unfold mX at hx
    rw [up_b' (by omega), up_b' (by omega), up_b' (by omega), up_b' (by omega), hB y j (by omega) (by omega)]
    exact a1 y j (by unfold mX; omega)
  · rw [up_b (by decide), up_b (by decide), up_b (by decide), up_b (by decide), hB 74 k (by decide) (by omega)]
    exact a2 k h0 h1
  · exact up_s
  · rw [up_j (by decide), up_j (by decide), up_j (by decide)]; exact up_s
  · simp (disch := first | exact nl_i _ | exact nl_r _ | exact Nat.le_of_ble_eq_true rfl | exact Or.inl rfl | exact Or.inr rfl | exact w8_lo _ | exact w8_hi _ | decide | omega) only [up_s, up_b, up_j]; rw [e 43 (by decide)]; exact f43
  · rw [up_j (by decide), up_j (by decide)]; exact up_s
  · rw [up_j (by decide)]; exact up_s
  · simp (disch := first | exact nl_i _ | exact nl_r _ | exact Nat.le_of_ble_eq_true rfl | exact Or.inl rfl | exact Or.inr rfl | exact w8_lo _ | exact w8_hi _ | decide | omega) only [up_s, up_b, up_j]; rw [e 46 (by decide)]; exact f46
  · simp (disch := first | exact nl_i _ | exact nl_r _ | exact Nat.le_of_ble_eq_true rfl | exact Or.inl rfl | exact Or.inr rfl | exact w8_lo _ | exact w8_hi _ | decide | omega) only [up_s, up_b, up_j]; rw [e 47 (by decide)]; exact f47
theorem s_does (hV : RivM M0 w l r q lg b fl) (hC : RJ M0 M S) (hJ : JI w l r b i S) (hi : i ≤ 60) (h0 : 0 < r 0) (fr : Int) (hf : 0 ≤ fr ∧ fr < 360) (wh x ro co : Int) (g0 : M0 69 fr = wh) (g1 : M0 69 (fr + 1) = x) (g2 : M0 69 (fr + 2) = ro) (g3 : M0 69 (fr + 3) = co) (hok : actOk r wh x ro co) (kk : ∀ M', RJ M0 M' (jdo w l r q lg b fl S wh x ro co).2 → Q [aI (jdo w l r q lg b fl S wh x ro co).1] M') : XC (d + 7) 200 [aR 22 0 67, aI fr] M Q := by
  have hn : w * l ≤ 24 := hV.1.n
  have w4 := hV.1.1
  have l6 := hV.1.2.1
  have r2 := hV.2.1.2.2.1
  have r0 := hV.2.1.1
  have e69 : M 69 = M0 69 := hC.f (by decide)
  have hr := hC.rr hV
  have jp := hJ.2.2.2.2.1
  have raft := hJ.raft
  have we := wtd_e (r := r) (q := q) (S := S)
  by_cases c3 : wh = 3
  · subst c3
    refine de_3 (d := d + 6) fr x hf (by rw [e69]; exact g0) (by rw [e69]; exact g1) ?_
    exact s_goes (d := d) hV hC hJ h0 x ro co (fun M' C' => ⟨_, rfl, kk M' C'⟩)
  · have hx : 0 ≤ x ∧ x < r 2 := by
      rcases hok with h | h | h
      · exact absurd h.1 c3
      · exact h.2.1
      · exact h.2.1
    have bnd : (0 ≤ wh ∧ wh < 3) ∧ (-1 ≤ ro ∧ ro ≤ 5) ∧ (-1 ≤ co ∧ co ≤ 3) := by
      rcases hok with h | h | h
      · exact absurd h.1 c3
      · omega
      · omega
    have oo := on_off hV.2.1 hx.1 hx.2
    have xn : ((x.toNat : Nat) : Int) = x := by omega
    have cell : wh ≠ 0 → (ro < (l : Int) ∧ co < (w : Int)) → 0 ≤ ro * (w : Int) + co ∧ ro * (w : Int) + co < ((w * l : Nat) : Int) := fun h1 h2 => by
      rcases hok with h | h | h
      · exact absurd h.1 c3
      · exact absurd h.1 h1
      · exact cell_i ⟨⟨h.2.2.1.1, h2.1⟩, h.2.2.2.1, h2.2⟩
    obtain ⟨kv, hkv⟩ : ∃ kv, kv = if ro < (l : Int) ∧ co < (w : Int) then ro * (w : Int) + co else -1 := ⟨_, rfl⟩
    have kvb : -10 ≤ kv ∧ kv < 24 := by
      by_cases h : ro < (l : Int) ∧ co < (w : Int)
      · rw [if_pos h] at hkv
        by_cases h1 : wh = 0
        · rcases hok with h9 | h9 | h9
          · omega
          · rw [h9.2.2.1, h9.2.2.2] at hkv
            omega
          · omega
        · have := cell h1 h
          omega
      · rw [if_neg h] at hkv; omega
    have fre : wh ≠ 0 → (frJ w l (jR S) ro co ↔ ¬ (kv < 0 ∨ 0 < M 74 kv)) := fun h1 => by
      have hh : 0 ≤ ro ∧ 0 ≤ co := by
        rcases hok with h9 | h9 | h9 <;> omega
      unfold frJ
      by_cases h : ro < (l : Int) ∧ co < (w : Int)
      · rw [if_pos h] at hkv
        have cc := cell h1 h
        rw [hkv, hC.2.1 _ cc.1 (by omega)]
        have := (raft.1 (ro * (w : Int) + co) cc.1 (by omega)).1
        constructor
        · intro h9; omega
        · intro h9; exact ⟨⟨hh.1, h.1⟩, ⟨hh.2, h.2⟩, by omega⟩
      · rw [if_neg h] at hkv
        constructor
        · intro h9; exact absurd ⟨h9.1.2, h9.2.1.2⟩ h
        · intro h9; exact absurd (Or.inl (by omega)) h9
    have plb : -1 ≤ plc (jR S) x (w * l) ∧ plc (jR S) x (w * l) < 24 := by
      rcases plc_b (R := jR S) (x := x) (n := w * l) with h | h <;> omega
    rw [de_1 (d := d + 6) fr wh x ro co (w : Int) (l : Int) kv (plc (jR S) x (w * l)) (onS r b x) (jP S) ((jC S : Nat) : Int) (((jC S).testBit x.toNat).toNat : Int) (if offS r b x = jP S then 1 else 0) (M 74 kv) hf bnd.1 (by rw [e69]; exact g0) (by rw [e69]; exact g1) (by rw [e69]; exact g2) (by rw [e69]; exact g3) hr.2.2.2.1 hr.2.2.1 ⟨bnd.2.1, bnd.2.2, ⟨by omega, by omega⟩, by omega, by omega⟩ hkv kvb (fun Q' => by rw [s_place (d := d + 5) (hC.gm hV) (hC.g9 hV raft).b x ⟨by omega, by omega⟩, hC.plc hn]) plb (fun Q' => s_m_onS (d := d + 5) hV e69 x hx) hC.2.2.2.2.1 hC.2.2.1 (by
      have := tb32 (jC S) x.toNat (by omega) (by have := hJ.2.2.2.2.2.1; omega)
      rw [xn] at this
      exact this) (by cases (jC S).testBit x.toNat <;> simp) (fun Q' => s_isDueOff (d := d + 5) x _ _ (fun Q' => s_m_offS (d := d + 4) hV e69 (hC.iv hV) x hx) hC.2.2.2.2.1 ⟨⟨by omega, by omega⟩, by omega, by omega⟩) (by
      by_cases c : offS r b x = jP S
      · rw [if_pos c]; exact Or.inr rfl
      · rw [if_neg c]; exact Or.inl rfl) ⟨⟨by omega, by omega⟩, by omega, by omega⟩ rfl (fun h9 => hC.g9 hV raft kv h9 kvb.2)]
    have b1 : (((jC S).testBit x.toNat).toNat : Int) = 1 ↔ (jC S).testBit x.toNat = true := by cases (jC S).testBit x.toNat <;> simp
    have b2 : (if offS r b x = jP S then (1 : Int) else 0) = 0 ↔ offS r b x ≠ jP S := by
      by_cases c : offS r b x = jP S
      · rw [if_pos c]; exact ⟨fun h => absurd h (by decide), fun h => absurd c h⟩
      · rw [if_neg c]; exact ⟨fun _ => c, fun _ => rfl⟩
    unfold jdo at kk
    rw [if_neg c3] at kk
    -- behind the tests
    have wpre : ∀ o5 : AV, (∀ M', RJ M0 M' (wtd r q S) → XL (d + 7) 200 225 [aR 22 0 67, aI fr, aI wh, aI x, aI kv, o5, aU] [] M' Q) → XL (d + 7) 200 171 [aR 22 0 67, aI fr, aI wh, aI x, aI kv, o5, aU] [] M Q := fun o5 h => by
      rw [de_w (d := d + 6) (jW S) (jM S) (jA S) (jP S) (wtJ r q S) _ _ _ _ _ _ hC.2.2.2.2.2.2.2.2 hJ.2.2.2.2.2.2.1 hC.2.2.2.1 hC.2.2.2.2.1 hC.2.2.2.2.2.2.2.1 (fun M' Q' h69 => s_m_wait (d := d + 4) hV (h69.trans e69) (jP S) (jM S) jp ⟨by have := hJ.2.2.2.2.2.2.2.1; omega, by have := hJ.2.2.2.2.2.2.2.1; omega⟩)]
      exact h _ (RJ.wt hV hC hJ.2.2.2.2.2.2.1)
    have tpre : ∀ (k : Nat), k < w * l → (wh = 0 ∨ wh = 2) → ∀ M', RJ M0 M' (wtd r q S) → (∀ M3, RJ M0 M3 (tkf w l r q (wtd r q S) (k : Int)) → XL (d + 7) 200 261 [aR 22 0 67, aI fr, aI wh, aI x, aI kv, aI (k : Int), aI (q (3 * quO r (jP S)))] [] M3 Q) → XL (d + 7) 200 225 [aR 22 0 67, aI fr, aI wh, aI x, aI kv, aI (k : Int), aU] [] M' Q := fun k hk hw M' C' h => by
      have jp' : 0 ≤ jP (wtd r q S) ∧ jP (wtd r q S) ≤ 2 * (r 0 - 1) := by rw [we.2.1]; exact jp
      have e69' : M' 69 = M0 69 := C'.f (by decide)
      refine de_t2 (d := d + 6) (jP (wtd r q S)) (q (3 * quO r (jP (wtd r q S)))) wh (k : Int) _ _ _ _ hw ⟨by omega, by omega⟩ C'.2.2.2.2.1 (fun Q' => s_m_sideAt (d := d + 4) hV e69' _ jp') ?_
      obtain ⟨A, hA⟩ : ∃ A, A = takJ w l r q (jR (wtd r q S)) (jP (wtd r q S)) (k : Int) := ⟨_, rfl⟩
      refine mt_take (d := d + 3) hV _ C' (by rw [we.1, we.2.2.1]; exact raft) jp' k hk A hA 0 (Or.inl rfl) (fun M2 M3 hcst C3 => ⟨A.1, rfl, M3, hcst, ?_⟩)
      have hp9 : jP (wtd r q S) = jP S := we.2.1
      rw [hp9]
      refine h _ ?_
      have C4 := C3.off (k : Int)
      unfold tkf
      rw [← hA]
      exact C4
    rcases (show wh = 0 ∨ wh = 1 ∨ wh = 2 by omega) with rfl | rfl | rfl
    · rw [if_neg (show ¬ (0 : Int) = 1 by decide)] at kk
      by_cases d1 : plc (jR S) x (w * l) = -1
      · rw [if_pos d1] at kk
        rw [if_pos (Or.inr ⟨by decide, by omega⟩)]
        exact kk M hC
      · rw [if_neg d1, if_pos rfl] at kk
        rw [if_neg (by omega)]
        by_cases d2 : offS r b x ≠ jP S
        · rw [if_pos d2] at kk
          rw [if_pos ⟨rfl, b2.mpr d2⟩]
          exact kk M hC
        · rw [if_neg d2] at kk
          rw [if_neg (fun h => d2 (b2.mp h.2)), if_neg (by omega)]
          rcases plc_sp (R := jR S) (b := x) (n := w * l) with ⟨h9, _⟩ | ⟨k, hk, hp, hRk⟩
          · exact absurd h9 d1
          · rw [hp] at kk ⊢
            refine wpre _ (fun M' C' => tpre k hk (Or.inl rfl) M' C' (fun M3 C3 => ?_))
            rw [de_e0]
            exact kk M3 C3
    · rw [if_pos rfl] at kk
      by_cases d1 : onS r b x ≠ jP S ∨ (jC S).testBit x.toNat = true
      · rw [if_pos d1] at kk
        rw [if_pos (Or.inl ⟨rfl, by rw [b1]; exact d1⟩)]
        exact kk M hC
      · rw [if_neg d1] at kk
        rw [if_neg (by rw [b1]; intro h; rcases h with h | h; exact d1 h.2; exact h.1 rfl), if_neg (fun h => absurd h.1 (by decide))]
        have hno : ∀ j, 0 ≤ j → j < 24 → jR S j ≠ x := fun j j0 j1 he => d1 (Or.inr (by
          have := hJ.2.2.1 j j0 j1 (by omega)
          rw [he] at this
          exact this))
        by_cases d2 : frJ w l (jR S) ro co
        · rw [cb_t d2, if_neg (show ¬ (1 : Int) = 0 by decide)] at kk
          rw [if_neg (fun h => (fre (by decide)).mp d2 h.2)]
          have hk1 : kv = ro * (w : Int) + co := by rw [hkv, if_pos ⟨d2.1.2, d2.2.1.2⟩]
          have ci := cell_i ⟨d2.1, d2.2.1⟩
          rw [← hk1] at kk ci
          have jp' : 0 ≤ jP (wtd r q S) ∧ jP (wtd r q S) ≤ 2 * (r 0 - 1) := by rw [we.2.1]; exact jp
          refine wpre _ (fun M' C' => ?_)
          have e69' : M' 69 = M0 69 := C'.f (by decide)
          rw [de_t1 (d := d + 6) (jP (wtd r q S)) (q (3 * quO r (jP (wtd r q S)))) _ _ _ _ _ C'.2.2.2.2.1 (fun Q' => s_m_sideAt (d := d + 4) hV e69' _ jp')]
          exact de_put (d := d + 3) hV _ C' (by rw [we.1, we.2.2.1]; exact raft) jp' (by rw [we.2.2.1]; exact hJ.2.2.2.2.2.1) 1 x kv (Or.inl rfl) hx ci (by rw [we.1]; exact hno) _ _ kk
        · rw [cb_f d2, if_pos (show (0 : Int) = 0 from rfl)] at kk
          rw [if_pos ⟨by decide, by
            apply Classical.byContradiction
            intro h
            exact d2 ((fre (by decide)).mpr h)⟩]
          exact kk M hC
    · rw [if_neg (show ¬ (2 : Int) = 1 by decide)] at kk
      by_cases d1 : plc (jR S) x (w * l) = -1
      · rw [if_pos d1] at kk
        rw [if_pos (Or.inr ⟨by decide, by omega⟩)]
        exact kk M hC
      · rw [if_neg d1, if_neg (show ¬ (2 : Int) = 0 by decide)] at kk
        rw [if_neg (by omega), if_neg (fun h => absurd h.1 (by decide))]
        by_cases d2 : frJ w l (jR S) ro co
        · rw [cb_t d2, if_neg (show ¬ (1 : Int) = 0 by decide)] at kk
          rw [if_neg (fun h => (fre (by decide)).mp d2 h.2)]
          have hk1 : kv = ro * (w : Int) + co := by rw [hkv, if_pos ⟨d2.1.2, d2.2.1.2⟩]
          have ci := cell_i ⟨d2.1, d2.2.1⟩
          rw [← hk1] at kk ci
          rcases plc_sp (R := jR S) (b := x) (n := w * l) with ⟨h9, _⟩ | ⟨k, hk, hp, hRk⟩
          · exact absurd h9 d1
          · rw [hp] at kk ⊢
            have eT : jR (tkf w l r q (wtd r q S) (k : Int)) = updR (jR S) (k : Int) (-1) := by rw [← we.1]; rfl
            have eC : jC (tkf w l r q (wtd r q S) (k : Int)) = jC S := we.2.2.1
            have eP : jP (tkf w l r q (wtd r q S) (k : Int)) = jP S := we.2.1
            refine wpre _ (fun M' C' => tpre k hk (Or.inr rfl) M' C' (fun M3 C3 => ?_))
            have hno : ∀ j, 0 ≤ j → j < 24 → jR (tkf w l r q (wtd r q S) (k : Int)) j ≠ x := fun j j0 j1 he => by
              rw [eT] at he
              by_cases ej : j = (k : Int)
              · rw [ej, updR_s] at he; omega
              · rw [updR_j ej] at he
                rcases hJ.2.1 j (k : Int) j0 j1 (by omega) (by omega) (by rw [he, hRk]) with h | h
                · omega
                · exact ej h
            have g := de_put (d := d + 3) (Q := Q) hV _ C3 (by rw [eT, eC]; exact jRaft_off raft r2.1) (by rw [eP]; exact jp) (by rw [eC]; exact hJ.2.2.2.2.2.1) 2 x kv (Or.inr rfl) hx ci hno (aI fr) (aI (k : Int)) kk
            rw [eP] at g
            exact g
        · rw [cb_f d2, if_pos (show (0 : Int) = 0 from rfl)] at kk
          rw [if_pos ⟨by decide, by
            apply Classical.byContradiction
            intro h
            exact d2 ((fre (by decide)).mpr h)⟩]
          exact kk M hC
end MC
