/-! TEXTS: what stands of what is read, BARGES and settings -/
section XJ
variable {T : Int → Int} {len lim : Nat} {t : Tok} {D : PD}
theorem pAp_b {m : Int} (hl : lim ≤ len) (hm : 0 ≤ m ∧ m < 9) : ∀ {n : Nat} {t : Tok} {D : PD} {u : Tok} {D' : PD} {p : Nat}, TF T len lim p t → ND D → AD m D → pAp T len lim n t D = prO u D' → AD m D' ∧ (∀ i, i % 4 ≠ 3 → dB D' i = dB D i) ∧ TF T len lim p u
  | 0, t, D, u, D', p, hF, hN, hA, h => by
    obtain ⟨h1, h2⟩ := prO_inj h
    rw [← h1, ← h2]
    exact ⟨hA, fun _ _ => rfl, hF⟩
  | n + 1, t, D, u, D', p, hF, hN, hA, h => by
    unfold pAp at h
    by_cases c : tK t = 1 ∧ tV t = 12
    · rw [if_pos c] at h
      have F1 := hF.nt hl (by omega)
      by_cases A : tK (nt T len lim t) = 2
      · rw [if_pos A] at h
        have F2 := F1.nt hl (by omega)
        by_cases B : bnF D (tL (nt T len lim t)) = -1 ∨ dB D (4 * dR D 2 + 3) / ((2 ^ (bnF D (tL (nt T len lim t))).toNat : Nat) : Int) % 2 = 1
        · rw [if_pos B] at h
          exact absurd h prB_ne
        · rw [if_neg B] at h
          have ob := bnF_b (w := tL (nt T len lim t)) hN
          have o1 : bnF D (tL (nt T len lim t)) ≠ -1 := fun h9 => B (Or.inl h9)
          clear B
          rw [hA.1] at ob
          obtain ⟨g1, g2, g3⟩ := pAp_b hl hm (F2.w (q := p) (by omega)) (D := setA D _) hN.a (hA.setA hm (o := bnF D (tL (nt T len lim t))) ⟨by omega, ob.2⟩) h
          refine ⟨g1, fun i hi => ?_, g3⟩
          rw [g2 i hi]
          show updR (updR (dB D) (4 * dR D 2 + 3) _) (4 * bnF D (tL (nt T len lim t)) + 3) _ i = dB D i
          rw [updR_o (by omega), updR_o (by omega)]
      · rw [if_neg A] at h
        exact absurd h prB_ne
    · rw [if_neg c] at h
      obtain ⟨h1, h2⟩ := prO_inj h
      rw [← h1, ← h2]
      exact ⟨hA, fun _ _ => rfl, hF⟩
theorem DI.addB (hD : DI D) (hq : dR D 2 < 9) {w : List Nat} (hw : vld w) {B : Int → Int} (hB : ∀ k, k < dR D 2 → ∀ j, 0 ≤ j → j ≤ 2 → B (4 * k + j) = dB D (4 * k + j)) (hA : ∀ k, 0 ≤ k → k ≤ dR D 2 → 0 ≤ B (4 * k + 3) ∧ B (4 * k + 3) < 512) (h0 : (0 ≤ B (4 * dR D 2) ∧ B (4 * dR D 2) < dR D 0) ∧ (0 ≤ B (4 * dR D 2 + 1) ∧ B (4 * dR D 2 + 1) < dR D 0) ∧ B (4 * dR D 2) ≠ B (4 * dR D 2 + 1) ∧ (0 ≤ B (4 * dR D 2 + 2) ∧ B (4 * dR D 2 + 2) ≤ 99)) : DI (updR (dR D) 2 (dR D 2 + 1), dQ D, dL D, B, dN D, updN (dM D) (dR D 2).toNat w, dS D) := by
  obtain ⟨⟨r0, r1, r2, r3, r4, r5, r6, r7, rq, rb⟩, hl1, hl2, hn, hm, hS⟩ := hD
  have e0 : updR (dR D) 2 (dR D 2 + 1) 2 = dR D 2 + 1 := updR_a
  have eo : ∀ j, j ≠ 2 → updR (dR D) 2 (dR D 2 + 1) j = dR D j := fun j hj => updR_o hj
  refine ⟨⟨?_, ?_, ?_, ?_, ?_, ?_, ?_, ?_, fun k k0 k1 => ?_, fun k k0 k1 => ?_⟩, ?_, fun k k0 k1 => ?_, fun i hi => ?_, fun i hi => ?_, hS⟩
  · show 0 ≤ updR (dR D) 2 (dR D 2 + 1) 0 ∧ updR (dR D) 2 (dR D 2 + 1) 0 ≤ 8
    rw [eo 0 (by decide)]; exact r0
  · show 0 ≤ updR (dR D) 2 (dR D 2 + 1) 1 ∧ updR (dR D) 2 (dR D 2 + 1) 1 ≤ 7
    rw [eo 1 (by decide)]; exact r1
  · show 0 ≤ updR (dR D) 2 (dR D 2 + 1) 2 ∧ updR (dR D) 2 (dR D 2 + 1) 2 ≤ 9
    rw [e0]; omega
  · show 1 ≤ updR (dR D) 2 (dR D 2 + 1) 3 ∧ updR (dR D) 2 (dR D 2 + 1) 3 ≤ 4
    rw [eo 3 (by decide)]; exact r3
  · show 1 ≤ updR (dR D) 2 (dR D 2 + 1) 4 ∧ updR (dR D) 2 (dR D 2 + 1) 4 ≤ 6
    rw [eo 4 (by decide)]; exact r4
  · show 1 ≤ updR (dR D) 2 (dR D 2 + 1) 5 ∧ updR (dR D) 2 (dR D 2 + 1) 5 ≤ 60
    rw [eo 5 (by decide)]; exact r5
  · show 0 ≤ updR (dR D) 2 (dR D 2 + 1) 6 ∧ updR (dR D) 2 (dR D 2 + 1) 6 ≤ 60
    rw [eo 6 (by decide)]; exact r6
  · show 0 ≤ updR (dR D) 2 (dR D 2 + 1) 7 ∧ updR (dR D) 2 (dR D 2 + 1) 7 ≤ 60
    rw [eo 7 (by decide)]; exact r7
  · exact rq k k0 (by rw [← eo 0 (by decide)]; exact k1)
  · have k2 : k < dR D 2 + 1 := by rw [← e0]; exact k1
    show (0 ≤ B (4 * k) ∧ B (4 * k) < updR (dR D) 2 (dR D 2 + 1) 0) ∧ (0 ≤ B (4 * k + 1) ∧ B (4 * k + 1) < updR (dR D) 2 (dR D 2 + 1) 0) ∧ B (4 * k) ≠ B (4 * k + 1) ∧ (0 ≤ B (4 * k + 2) ∧ B (4 * k + 2) ≤ 99) ∧ (0 ≤ B (4 * k + 3) ∧ B (4 * k + 3) < 512)
    rw [eo 0 (by decide)]
    have ha := hA k k0 (by omega)
    by_cases e : k = dR D 2
    · obtain ⟨x1, x2, x3, x4⟩ := h0
      rw [e] at ha ⊢
      exact ⟨x1, x2, x3, x4, ha⟩
    · obtain ⟨b1, b2, b3, b4, b5⟩ := rb k k0 (by omega)
      have y0 := hB k (by omega) 0 (by decide) (by decide)
      rw [Int.add_zero] at y0
      rw [y0, hB k (by omega) 1 (by decide) (by decide), hB k (by omega) 2 (by decide) (by decide)]
      exact ⟨b1, b2, b3, b4, ha⟩
  · show 0 ≤ updR (dR D) 2 (dR D 2 + 1) 1 ∧ (updR (dR D) 2 (dR D 2 + 1) 1 = 0 ∨ updR (dR D) 2 (dR D 2 + 1) 1 + 1 ≤ updR (dR D) 2 (dR D 2 + 1) 0)
    rw [eo 1 (by decide), eo 0 (by decide)]
    exact hl1
  · exact hl2 k k0 (by rw [← eo 1 (by decide)]; exact k1)
  · exact hn i (by rw [← eo 0 (by decide)]; exact hi)
  · have i2 : i < (dR D 2 + 1).toNat := by rw [← e0]; exact hi
    show vld (if i = (dR D 2).toNat then w else dM D i)
    by_cases e : i = (dR D 2).toNat
    · rw [if_pos e]; exact hw
    · rw [if_neg e]; exact hm i (by omega)
theorem DI.ap (hD : DI D) : ∀ k, 0 ≤ k → k < dR D 2 → 0 ≤ dB D (4 * k + 3) ∧ dB D (4 * k + 3) < 512 := fun k h0 h1 => (hD.1.2.2.2.2.2.2.2.2.2 k h0 h1).2.2.2.2
theorem setB_AD (hD : DI D) {w : List Nat} {f g v : Int} : AD (dR D 2) (setB (wM D (dR D 2).toNat w) f g v) := by
  refine ⟨rfl, fun k h0 h9 => ?_⟩
  show 0 ≤ updR (updR (updR (updR (dB D) (4 * dR D 2) f) (4 * dR D 2 + 1) g) (4 * dR D 2 + 2) v) (4 * dR D 2 + 3) 0 (4 * k + 3) ∧ updR (updR (updR (updR (dB D) (4 * dR D 2) f) (4 * dR D 2 + 1) g) (4 * dR D 2 + 2) v) (4 * dR D 2 + 3) 0 (4 * k + 3) < 512
  by_cases e9 : k = dR D 2
  · rw [e9, updR_a]; decide
  · rw [updR_o (by omega), updR_o (by omega), updR_o (by omega), updR_o (by omega)]
    exact hD.ap k h0 (by omega)
theorem setB_ND (hD : ND D) {w : List Nat} {f g v : Int} : ND (setB (wM D (dR D 2).toNat w) f g v) := ⟨hD.1, hD.2.1, hD.2.2.1, fun i hi => by
  have h9 : i < (dR D 2).toNat := hi
  show vld (if i = (dR D 2).toNat then w else dM D i)
  rw [if_neg (by omega)]
  exact hD.2.2.2 i h9⟩
theorem pBarge_ok {u : Tok} {D' : PD} {p : Nat} (hl : lim ≤ len) (hD : DI D) (hF : TF T len lim p t) (h1 : 1 ≤ tK t ∧ tK t ≤ 4) (h : pBarge T len lim t D = prO u D') : LK T len lim p D 0 0 1 u D' := by
  unfold pBarge at h
  by_cases c : 9 ≤ dR D 2
  · rw [if_pos c] at h; exact absurd h prB_ne
  · rw [if_neg c] at h
    obtain ⟨t2, w, e2, h⟩ := prT_ok h
    obtain ⟨t3, f, e3, h⟩ := prT_ok h
    obtain ⟨t4, g, e4, h⟩ := prT_ok h
    obtain ⟨t5, v, e5, h⟩ := prT_ok h
    obtain ⟨t6, D6, e6, h⟩ := prT_ok h
    obtain ⟨n1, n2, n3, -, -⟩ := pNew_ok e2
    have F1 := hF.nt hl h1
    have hw : vld w := by rw [n3]; exact (F1.tk hl).vl n1
    have F2 := F1.nt hl (by omega)
    rw [← n2] at F2
    obtain ⟨q1, q2, q3, q4, q5⟩ := pQn_ok e3
    have F3 := F2.nt hl (by omega)
    rw [← q2] at F3
    obtain ⟨s1, s2, s3, s4, s5⟩ := pQn_ok e4
    have F4 := F3.nt hl (by omega)
    rw [← s2] at F4
    obtain ⟨F5, a5, a6⟩ := pNum_t hl F4 e5
    have fb := qnF_b (w := tL t2) hD.nd
    have gb := qnF_b (w := tL t3) hD.nd
    rw [← q3] at fb
    rw [← s3] at gb
    have r2 := hD.1.2.2.1
    obtain ⟨x1, x2, x3⟩ := pAp_b hl ⟨r2.1, by omega⟩ F5 (setB_ND hD.nd) (setB_AD hD) e6
    obtain ⟨k1, k2, k3, k4, k5, k6⟩ := pAp_k e6
    have k1' : dR D6 = dR D := k1
    have k2' : dQ D6 = dQ D := k2
    have k3' : dL D6 = dL D := k3
    have k4' : dN D6 = dN D := k4
    have k5' : dM D6 = updN (dM D) (dR D 2).toNat w := k5
    have k6' : dS D6 = dS D := k6
    have b0 : ∀ i, dB (setB (wM D (dR D 2).toNat w) f g v) i = updR (updR (updR (updR (dB D) (4 * dR D 2) f) (4 * dR D 2 + 1) g) (4 * dR D 2 + 2) v) (4 * dR D 2 + 3) 0 i := fun _ => rfl
    obtain ⟨g1, g2⟩ := prO_inj h
    rw [← g1, ← g2]
    unfold LK wR
    rw [k1', k2', k3', k4', k5', k6']
    refine ⟨hD.addB (by omega) hw (B := dB D6) (fun k hk j j0 j2 => ?_) (fun k h0 h9 => x1.2 k h0 h9) ⟨?_, ?_, ?_, ?_⟩, x3.w (by omega), kc_2 (dR D)⟩
    · rw [x2 _ (by omega), b0, updR_o (by omega), updR_o (by omega), updR_o (by omega), updR_o (by omega)]
    · rw [x2 _ (by omega), b0, updR_o (by omega), updR_o (by omega), updR_o (by omega), updR_a]; omega
    · rw [x2 _ (by omega), b0, updR_o (by omega), updR_o (by omega), updR_a]; omega
    · rw [x2 _ (by omega), b0, updR_o (by omega), updR_o (by omega), updR_o (by omega), updR_a, x2 _ (by omega), b0, updR_o (by omega), updR_o (by omega), updR_a]; omega
    · rw [x2 _ (by omega), b0, updR_o (by omega), updR_a]; omega
theorem DI.set (hD : DI D) {R : Int → Int} {s : Nat} (hs : s < 16) (h0 : ∀ j, j < 3 → R j = dR D j) (h3 : (1 ≤ R 3 ∧ R 3 ≤ 4) ∧ (1 ≤ R 4 ∧ R 4 ≤ 6) ∧ (1 ≤ R 5 ∧ R 5 ≤ 60) ∧ (0 ≤ R 6 ∧ R 6 ≤ 60) ∧ (0 ≤ R 7 ∧ R 7 ≤ 60)) : DI (R, dQ D, dL D, dB D, dN D, dM D, s) := by
  obtain ⟨⟨r0, r1, r2, r3, r4, r5, r6, r7, rq, rb⟩, hl1, hl2, hn, hm, hS⟩ := hD
  have e0 := h0 0 (by decide)
  have e1 := h0 1 (by decide)
  have e2 := h0 2 (by decide)
  obtain ⟨x3, x4, x5, x6, x7⟩ := h3
  refine ⟨⟨?_, ?_, ?_, x3, x4, x5, x6, x7, fun k k0 k1 => rq k k0 (by rw [← e0]; exact k1), fun k k0 k1 => ?_⟩, ?_, fun k k0 k1 => hl2 k k0 (by rw [← e1]; exact k1), fun i hi => hn i (by rw [← e0]; exact hi), fun i hi => hm i (by rw [← e2]; exact hi), hs⟩
  · show 0 ≤ R 0 ∧ R 0 ≤ 8
    rw [e0]; exact r0
  · show 0 ≤ R 1 ∧ R 1 ≤ 7
    rw [e1]; exact r1
  · show 0 ≤ R 2 ∧ R 2 ≤ 9
    rw [e2]; exact r2
  · have k2 : k < dR D 2 := by rw [← e2]; exact k1
    have := rb k k0 k2
    show (0 ≤ dB D (4 * k) ∧ dB D (4 * k) < R 0) ∧ (0 ≤ dB D (4 * k + 1) ∧ dB D (4 * k + 1) < R 0) ∧ _
    rw [e0]
    exact this
  · show 0 ≤ R 1 ∧ (R 1 = 0 ∨ R 1 + 1 ≤ R 0)
    rw [e0, e1]; exact hl1
theorem pSet_ok {u : Tok} {D' : PD} {p : Nat} (hl : lim ≤ len) (hD : DI D) (hF : TF T len lim p t) (h1 : 1 ≤ tK t ∧ tK t ≤ 4) (hv : 3 ≤ tV t ∧ tV t ≤ 6) (h : pSet T len lim t D = prO u D') : LK T len lim p D 0 0 0 u D' := by
  have hs := hD.2.2.2.2.2
  have sb := (sb_c (dS D) hs (tV t - 3).toNat (by omega)).2
  obtain ⟨-, -, -, r3, r4, r5, r6, r7, -, -⟩ := hD.1
  have F1 := hF.nt hl h1
  unfold pSet at h
  by_cases c : dS D / 2 ^ (tV t - 3).toNat % 2 = 1
  · rw [if_pos c] at h; exact absurd h prB_ne
  · rw [if_neg c] at h
    have s9 := (sb c).2
    clear sb c
    by_cases c3 : tV t = 3
    · rw [if_pos c3] at h
      obtain ⟨t2, a, e2, h⟩ := prT_ok h
      obtain ⟨t3, b, e3, h⟩ := prT_ok h
      obtain ⟨F2, a1, a2⟩ := pNum_t hl F1 e2
      obtain ⟨F3, b1, b2⟩ := pNum_t hl F2 e3
      obtain ⟨g1, g2⟩ := prO_inj h
      rw [← g1, ← g2]
      rw [c3] at s9
      refine ⟨hD.set (R := updR (updR (dR D) 3 a) 4 b) (s := dS D + 1) s9 (fun j hj => by rw [updR_o (by omega), updR_o (by omega)]) ⟨?_, ?_, ?_, ?_, ?_⟩, F3.w (by omega), ?_, ?_, ?_⟩
      · rw [updR_o (by decide), updR_a]; exact ⟨a1, a2⟩
      · rw [updR_a]; exact ⟨b1, b2⟩
      · rw [updR_o (by decide), updR_o (by decide)]; exact r5
      · rw [updR_o (by decide), updR_o (by decide)]; exact r6
      · rw [updR_o (by decide), updR_o (by decide)]; exact r7
      · show updR (updR (dR D) 3 a) 4 b 0 = dR D 0 + 0
        rw [updR_o (by decide), updR_o (by decide), Int.add_zero]
      · show updR (updR (dR D) 3 a) 4 b 1 = dR D 1 + 0
        rw [updR_o (by decide), updR_o (by decide), Int.add_zero]
      · show updR (updR (dR D) 3 a) 4 b 2 = dR D 2 + 0
        rw [updR_o (by decide), updR_o (by decide), Int.add_zero]
    · rw [if_neg c3] at h
      obtain ⟨t2, a, e2, h⟩ := prT_ok h
      obtain ⟨F2, a1, a2⟩ := pNum_t hl F1 e2
      obtain ⟨g1, g2⟩ := prO_inj h
      rw [← g1, ← g2]
      have a3 : 0 ≤ a := by
        by_cases c4 : tV t = 4
        · rw [if_pos c4] at a1; omega
        · rw [if_neg c4] at a1; exact a1
      have a4 : tV t = 4 → 1 ≤ a := fun c4 => by rw [if_pos c4] at a1; exact a1
      refine ⟨hD.set (R := updR (dR D) (tV t + 1) a) s9 (fun j hj => by rw [updR_o (by omega)]) ⟨?_, ?_, ?_, ?_, ?_⟩, F2.w (by omega), ?_, ?_, ?_⟩
      · rw [updR_o (by omega)]; exact r3
      · rw [updR_o (by omega)]; exact r4
      · by_cases e : tV t = 4
        · rw [e, show (4 : Int) + 1 = 5 by decide, updR_a]; exact ⟨a4 e, a2⟩
        · rw [updR_o (by omega)]; exact r5
      · by_cases e : tV t = 5
        · rw [e, show (5 : Int) + 1 = 6 by decide, updR_a]; exact ⟨a3, a2⟩
        · rw [updR_o (by omega)]; exact r6
      · by_cases e : tV t = 6
        · rw [e, show (6 : Int) + 1 = 7 by decide, updR_a]; exact ⟨a3, a2⟩
        · rw [updR_o (by omega)]; exact r7
      · show updR (dR D) (tV t + 1) a 0 = dR D 0 + 0
        rw [updR_o (by omega), Int.add_zero]
      · show updR (dR D) (tV t + 1) a 1 = dR D 1 + 0
        rw [updR_o (by omega), Int.add_zero]
      · show updR (dR D) (tV t + 1) a 2 = dR D 2 + 0
        rw [updR_o (by omega), Int.add_zero]
end XJ
