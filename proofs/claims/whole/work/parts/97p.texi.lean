/-! TEXTS: what stands of what is read -/
def DI (D : PD) : Prop := RIf (dR D) (dQ D) (dB D) ∧ (0 ≤ dR D 1 ∧ (dR D 1 = 0 ∨ dR D 1 + 1 ≤ dR D 0)) ∧ (∀ k, 0 ≤ k → k < dR D 1 → (1 ≤ dL D (7 * k) ∧ dL D (7 * k) ≤ 4) ∧ (1 ≤ dL D (7 * k + 1) ∧ dL D (7 * k + 1) ≤ 6) ∧ (1 ≤ dL D (7 * k + 2) ∧ dL D (7 * k + 2) ≤ 999) ∧ (0 ≤ dL D (7 * k + 3) ∧ dL D (7 * k + 3) ≤ 99) ∧ (0 ≤ dL D (7 * k + 4) ∧ dL D (7 * k + 4) ≤ 99) ∧ (0 ≤ dL D (7 * k + 5) ∧ dL D (7 * k + 5) ≤ 9) ∧ (0 ≤ dL D (7 * k + 6) ∧ dL D (7 * k + 6) ≤ 99)) ∧ (∀ i : Nat, i < (dR D 0).toNat → vld (dN D i)) ∧ (∀ i : Nat, i < (dR D 2).toNat → vld (dM D i)) ∧ dS D < 16
theorem DI.nd {D : PD} (h : DI D) : ND D := ⟨h.1.1, h.1.2.2.1, h.2.2.2.1, h.2.2.2.2.1⟩
section XI
variable {T : Int → Int} {len lim : Nat} {t : Tok} {D : PD}
theorem TOK.vl {p : Nat} (h : TOK len lim p t) (c : tK t = 2) : vld (tL t) := ⟨(h.2.2.2.1 c).1, (h.2.2.2.1 c).2.1⟩
theorem pNum_t {lo hi : Int} {u : Tok} {v : Int} {p : Nat} (hl : lim ≤ len) (hF : TF T len lim p t) (h : pNum T len lim lo hi t = prO u v) : TF T len lim (p + 1) u ∧ lo ≤ v ∧ v ≤ hi := by
  obtain ⟨h1, h2, h3, h4, h5⟩ := pNum_ok h
  rw [h2]
  exact ⟨hF.nt hl (by omega), h4, h5⟩
theorem DI.addQ (hD : DI D) (hq : dR D 0 < 8) {w : List Nat} (hw : vld w) {B : Int → Int} {s o c : Int} (hB : ∀ j, j < 3 * dR D 0 → B j = dQ D j) (h0 : B (3 * dR D 0) = s) (h1 : B (3 * dR D 0 + 1) = o) (h2 : B (3 * dR D 0 + 2) = c) (hs : 1 ≤ s ∧ s ≤ 3) (ho : 0 ≤ o ∧ o < 1440) (hc : o < c ∧ c ≤ 1440) : DI (updR (dR D) 0 (dR D 0 + 1), B, dL D, dB D, updN (dN D) (dR D 0).toNat w, dM D, dS D) := by
  obtain ⟨⟨r0, r1, r2, r3, r4, r5, r6, r7, rq, rb⟩, hl1, hl2, hn, hm, hS⟩ := hD
  have e0 : updR (dR D) 0 (dR D 0 + 1) 0 = dR D 0 + 1 := updR_a
  have eo : ∀ j, j ≠ 0 → updR (dR D) 0 (dR D 0 + 1) j = dR D j := fun j hj => updR_o hj
  refine ⟨⟨?_, ?_, ?_, ?_, ?_, ?_, ?_, ?_, fun k k0 k1 => ?_, fun k k0 k1 => ?_⟩, ?_, fun k k0 k1 => ?_, fun i hi => ?_, fun i hi => ?_, hS⟩
  · show 0 ≤ updR (dR D) 0 (dR D 0 + 1) 0 ∧ updR (dR D) 0 (dR D 0 + 1) 0 ≤ 8
    rw [e0]; omega
  · show 0 ≤ updR (dR D) 0 (dR D 0 + 1) 1 ∧ updR (dR D) 0 (dR D 0 + 1) 1 ≤ 7
    rw [eo 1 (by decide)]; exact r1
  · show 0 ≤ updR (dR D) 0 (dR D 0 + 1) 2 ∧ updR (dR D) 0 (dR D 0 + 1) 2 ≤ 9
    rw [eo 2 (by decide)]; exact r2
  · show 1 ≤ updR (dR D) 0 (dR D 0 + 1) 3 ∧ updR (dR D) 0 (dR D 0 + 1) 3 ≤ 4
    rw [eo 3 (by decide)]; exact r3
  · show 1 ≤ updR (dR D) 0 (dR D 0 + 1) 4 ∧ updR (dR D) 0 (dR D 0 + 1) 4 ≤ 6
    rw [eo 4 (by decide)]; exact r4
  · show 1 ≤ updR (dR D) 0 (dR D 0 + 1) 5 ∧ updR (dR D) 0 (dR D 0 + 1) 5 ≤ 60
    rw [eo 5 (by decide)]; exact r5
  · show 0 ≤ updR (dR D) 0 (dR D 0 + 1) 6 ∧ updR (dR D) 0 (dR D 0 + 1) 6 ≤ 60
    rw [eo 6 (by decide)]; exact r6
  · show 0 ≤ updR (dR D) 0 (dR D 0 + 1) 7 ∧ updR (dR D) 0 (dR D 0 + 1) 7 ≤ 60
    rw [eo 7 (by decide)]; exact r7
  · have k2 : k < dR D 0 + 1 := by rw [← e0]; exact k1
    show (1 ≤ B (3 * k) ∧ B (3 * k) ≤ 3) ∧ (0 ≤ B (3 * k + 1) ∧ B (3 * k + 1) < 1440) ∧ (B (3 * k + 1) < B (3 * k + 2) ∧ B (3 * k + 2) ≤ 1440)
    by_cases e : k = dR D 0
    · rw [e, h0, h1, h2]; exact ⟨hs, ho, hc⟩
    · rw [hB _ (by omega), hB _ (by omega), hB _ (by omega)]
      exact rq k k0 (by omega)
  · have k2 : k < dR D 2 := by rw [← eo 2 (by decide)]; exact k1
    obtain ⟨b1, b2, b3⟩ := rb k k0 k2
    show (0 ≤ dB D (4 * k) ∧ dB D (4 * k) < updR (dR D) 0 (dR D 0 + 1) 0) ∧ (0 ≤ dB D (4 * k + 1) ∧ dB D (4 * k + 1) < updR (dR D) 0 (dR D 0 + 1) 0) ∧ _
    rw [e0]
    exact ⟨by omega, by omega, b3⟩
  · show 0 ≤ updR (dR D) 0 (dR D 0 + 1) 1 ∧ (updR (dR D) 0 (dR D 0 + 1) 1 = 0 ∨ updR (dR D) 0 (dR D 0 + 1) 1 + 1 ≤ updR (dR D) 0 (dR D 0 + 1) 0)
    rw [e0, eo 1 (by decide)]
    omega
  · exact hl2 k k0 (by rw [← eo 1 (by decide)]; exact k1)
  · have i2 : i < (dR D 0 + 1).toNat := by rw [← e0]; exact hi
    show vld (if i = (dR D 0).toNat then w else dN D i)
    by_cases e : i = (dR D 0).toNat
    · rw [if_pos e]; exact hw
    · rw [if_neg e]; exact hn i (by omega)
  · exact hm i (by rw [← eo 2 (by decide)]; exact hi)
theorem kc_0 (f : Int → Int) : updR f 0 (f 0 + 1) 0 = f 0 + 1 ∧ updR f 0 (f 0 + 1) 1 = f 1 + 0 ∧ updR f 0 (f 0 + 1) 2 = f 2 + 0 := ⟨updR_a, by rw [updR_o (by decide), Int.add_zero], by rw [updR_o (by decide), Int.add_zero]⟩
theorem kc_1 (f : Int → Int) : updR f 1 (f 1 + 1) 0 = f 0 + 0 ∧ updR f 1 (f 1 + 1) 1 = f 1 + 1 ∧ updR f 1 (f 1 + 1) 2 = f 2 + 0 := ⟨by rw [updR_o (by decide), Int.add_zero], updR_a, by rw [updR_o (by decide), Int.add_zero]⟩
theorem kc_2 (f : Int → Int) : updR f 2 (f 2 + 1) 0 = f 0 + 0 ∧ updR f 2 (f 2 + 1) 1 = f 1 + 0 ∧ updR f 2 (f 2 + 1) 2 = f 2 + 1 := ⟨by rw [updR_o (by decide), Int.add_zero], by rw [updR_o (by decide), Int.add_zero], updR_a⟩
/-- what is so behind a LINE -/
def LK (T : Int → Int) (len lim : Nat) (p : Nat) (D : PD) (a b c : Int) (u : Tok) (D' : PD) : Prop := DI D' ∧ TF T len lim (p + 1) u ∧ dR D' 0 = dR D 0 + a ∧ dR D' 1 = dR D 1 + b ∧ dR D' 2 = dR D 2 + c
theorem pQuay_ok {u : Tok} {D' : PD} {p : Nat} (hl : lim ≤ len) (hD : DI D) (hF : TF T len lim p t) (h1 : 1 ≤ tK t ∧ tK t ≤ 4) (h : pQuay T len lim t D = prO u D') : LK T len lim p D 1 0 0 u D' := by
  unfold pQuay at h
  by_cases c : 8 ≤ dR D 0
  · rw [if_pos c] at h; exact absurd h prB_ne
  · rw [if_neg c] at h
    obtain ⟨t2, w, e2, h⟩ := prT_ok h
    obtain ⟨n1, n2, n3, -, -⟩ := pNew_ok e2
    have F1 := hF.nt hl h1
    have hw : vld w := by rw [n3]; exact (F1.tk hl).vl n1
    have F2 := F1.nt hl (by omega)
    rw [← n2] at F2
    by_cases c2 : tK t2 = 1 ∧ 7 ≤ tV t2 ∧ tV t2 ≤ 9
    · rw [if_pos c2] at h
      have F3 := F2.nt hl (by omega)
      by_cases c3 : tK (nt T len lim t2) = 1 ∧ tV (nt T len lim t2) = 10
      · rw [if_pos c3] at h
        have F4 := F3.nt hl (by omega)
        obtain ⟨t4, o, e4, h⟩ := prT_ok h
        obtain ⟨F5, o1, o2⟩ := pNum_t hl F4 e4
        obtain ⟨t5, c9, e5, h⟩ := prT_ok h
        obtain ⟨F6, k1, k2⟩ := pNum_t hl F5 e5
        obtain ⟨g1, g2⟩ := prO_inj h
        rw [← g1, ← g2]
        refine ⟨hD.addQ (s := tV t2 - 6) (o := o) (c := c9) (by omega) hw (fun j hj => ?_) ?_ ?_ ?_ (by omega) (by omega) (by omega), F6.w (by omega), kc_0 (dR D)⟩
        · show updR (updR (updR (updR (updR (dQ D) (3 * dR D 0) (tV t2 - 6)) (3 * dR D 0 + 1) 0) (3 * dR D 0 + 2) 1440) (3 * dR D 0 + 1) o) (3 * dR D 0 + 2) c9 j = dQ D j
          rw [updR_o (by omega), updR_o (by omega), updR_o (by omega), updR_o (by omega), updR_o (by omega)]
        · show updR (updR (updR (updR (updR (dQ D) (3 * dR D 0) (tV t2 - 6)) (3 * dR D 0 + 1) 0) (3 * dR D 0 + 2) 1440) (3 * dR D 0 + 1) o) (3 * dR D 0 + 2) c9 (3 * dR D 0) = _
          rw [updR_o (by omega), updR_o (by omega), updR_o (by omega), updR_o (by omega), updR_a]
        · show updR (updR (updR (updR (updR (dQ D) (3 * dR D 0) (tV t2 - 6)) (3 * dR D 0 + 1) 0) (3 * dR D 0 + 2) 1440) (3 * dR D 0 + 1) o) (3 * dR D 0 + 2) c9 (3 * dR D 0 + 1) = _
          rw [updR_o (by omega), updR_a]
        · exact updR_a
      · rw [if_neg c3] at h
        obtain ⟨g1, g2⟩ := prO_inj h
        rw [← g1, ← g2]
        refine ⟨hD.addQ (s := tV t2 - 6) (o := 0) (c := 1440) (by omega) hw (fun j hj => ?_) ?_ ?_ ?_ (by omega) (by decide) (by decide), F3.w (by omega), kc_0 (dR D)⟩
        · show updR (updR (updR (dQ D) (3 * dR D 0) (tV t2 - 6)) (3 * dR D 0 + 1) 0) (3 * dR D 0 + 2) 1440 j = dQ D j
          rw [updR_o (by omega), updR_o (by omega), updR_o (by omega)]
        · show updR (updR (updR (dQ D) (3 * dR D 0) (tV t2 - 6)) (3 * dR D 0 + 1) 0) (3 * dR D 0 + 2) 1440 (3 * dR D 0) = _
          rw [updR_o (by omega), updR_o (by omega), updR_a]
        · show updR (updR (updR (dQ D) (3 * dR D 0) (tV t2 - 6)) (3 * dR D 0 + 1) 0) (3 * dR D 0 + 2) 1440 (3 * dR D 0 + 1) = _
          rw [updR_o (by omega), updR_a]
        · exact updR_a
    · rw [if_neg c2] at h; exact absurd h prB_ne
theorem DI.addL (hD : DI D) (hq : dR D 1 + 1 < dR D 0) {B : Int → Int} (hB : ∀ j, j < 7 * dR D 1 → B j = dL D j) (h0 : (1 ≤ B (7 * dR D 1) ∧ B (7 * dR D 1) ≤ 4) ∧ (1 ≤ B (7 * dR D 1 + 1) ∧ B (7 * dR D 1 + 1) ≤ 6) ∧ (1 ≤ B (7 * dR D 1 + 2) ∧ B (7 * dR D 1 + 2) ≤ 999) ∧ (0 ≤ B (7 * dR D 1 + 3) ∧ B (7 * dR D 1 + 3) ≤ 99) ∧ (0 ≤ B (7 * dR D 1 + 4) ∧ B (7 * dR D 1 + 4) ≤ 99) ∧ (0 ≤ B (7 * dR D 1 + 5) ∧ B (7 * dR D 1 + 5) ≤ 9) ∧ (0 ≤ B (7 * dR D 1 + 6) ∧ B (7 * dR D 1 + 6) ≤ 99)) : DI (updR (dR D) 1 (dR D 1 + 1), dQ D, B, dB D, dN D, dM D, dS D) := by
  obtain ⟨⟨r0, r1, r2, r3, r4, r5, r6, r7, rq, rb⟩, hl1, hl2, hn, hm, hS⟩ := hD
  have e0 : updR (dR D) 1 (dR D 1 + 1) 1 = dR D 1 + 1 := updR_a
  have eo : ∀ j, j ≠ 1 → updR (dR D) 1 (dR D 1 + 1) j = dR D j := fun j hj => updR_o hj
  refine ⟨⟨?_, ?_, ?_, ?_, ?_, ?_, ?_, ?_, fun k k0 k1 => ?_, fun k k0 k1 => ?_⟩, ?_, fun k k0 k1 => ?_, fun i hi => ?_, fun i hi => ?_, hS⟩
  · show 0 ≤ updR (dR D) 1 (dR D 1 + 1) 0 ∧ updR (dR D) 1 (dR D 1 + 1) 0 ≤ 8
    rw [eo 0 (by decide)]; exact r0
  · show 0 ≤ updR (dR D) 1 (dR D 1 + 1) 1 ∧ updR (dR D) 1 (dR D 1 + 1) 1 ≤ 7
    rw [e0]; omega
  · show 0 ≤ updR (dR D) 1 (dR D 1 + 1) 2 ∧ updR (dR D) 1 (dR D 1 + 1) 2 ≤ 9
    rw [eo 2 (by decide)]; exact r2
  · show 1 ≤ updR (dR D) 1 (dR D 1 + 1) 3 ∧ updR (dR D) 1 (dR D 1 + 1) 3 ≤ 4
    rw [eo 3 (by decide)]; exact r3
  · show 1 ≤ updR (dR D) 1 (dR D 1 + 1) 4 ∧ updR (dR D) 1 (dR D 1 + 1) 4 ≤ 6
    rw [eo 4 (by decide)]; exact r4
  · show 1 ≤ updR (dR D) 1 (dR D 1 + 1) 5 ∧ updR (dR D) 1 (dR D 1 + 1) 5 ≤ 60
    rw [eo 5 (by decide)]; exact r5
  · show 0 ≤ updR (dR D) 1 (dR D 1 + 1) 6 ∧ updR (dR D) 1 (dR D 1 + 1) 6 ≤ 60
    rw [eo 6 (by decide)]; exact r6
  · show 0 ≤ updR (dR D) 1 (dR D 1 + 1) 7 ∧ updR (dR D) 1 (dR D 1 + 1) 7 ≤ 60
    rw [eo 7 (by decide)]; exact r7
  · exact rq k k0 (by rw [← eo 0 (by decide)]; exact k1)
  · have k2 : k < dR D 2 := by rw [← eo 2 (by decide)]; exact k1
    obtain ⟨b1, b2, b3⟩ := rb k k0 k2
    show (0 ≤ dB D (4 * k) ∧ dB D (4 * k) < updR (dR D) 1 (dR D 1 + 1) 0) ∧ (0 ≤ dB D (4 * k + 1) ∧ dB D (4 * k + 1) < updR (dR D) 1 (dR D 1 + 1) 0) ∧ _
    rw [eo 0 (by decide)]
    exact ⟨b1, b2, b3⟩
  · show 0 ≤ updR (dR D) 1 (dR D 1 + 1) 1 ∧ (updR (dR D) 1 (dR D 1 + 1) 1 = 0 ∨ updR (dR D) 1 (dR D 1 + 1) 1 + 1 ≤ updR (dR D) 1 (dR D 1 + 1) 0)
    rw [e0, eo 0 (by decide)]
    omega
  · have k2 : k < dR D 1 + 1 := by rw [← e0]; exact k1
    show (1 ≤ B (7 * k) ∧ B (7 * k) ≤ 4) ∧ (1 ≤ B (7 * k + 1) ∧ B (7 * k + 1) ≤ 6) ∧ (1 ≤ B (7 * k + 2) ∧ B (7 * k + 2) ≤ 999) ∧ (0 ≤ B (7 * k + 3) ∧ B (7 * k + 3) ≤ 99) ∧ (0 ≤ B (7 * k + 4) ∧ B (7 * k + 4) ≤ 99) ∧ (0 ≤ B (7 * k + 5) ∧ B (7 * k + 5) ≤ 9) ∧ (0 ≤ B (7 * k + 6) ∧ B (7 * k + 6) ≤ 99)
    by_cases e : k = dR D 1
    · rw [e]; exact h0
    · rw [hB _ (by omega), hB _ (by omega), hB _ (by omega), hB _ (by omega), hB _ (by omega), hB _ (by omega), hB _ (by omega)]
      exact hl2 k k0 (by omega)
  · exact hn i (by rw [← eo 0 (by decide)]; exact hi)
  · exact hm i (by rw [← eo 2 (by decide)]; exact hi)
theorem pLeg_ok {u : Tok} {D' : PD} {p : Nat} (hl : lim ≤ len) (hD : DI D) (hF : TF T len lim p t) (h1 : 1 ≤ tK t ∧ tK t ≤ 4) (h : pLeg T len lim t D = prO u D') : LK T len lim p D 0 1 0 u D' := by
  unfold pLeg at h
  by_cases c : dR D 0 ≤ dR D 1 + 1
  · rw [if_pos c] at h; exact absurd h prB_ne
  · rw [if_neg c] at h
    obtain ⟨t1, v1, e1, h⟩ := prT_ok h
    obtain ⟨t2, v2, e2, h⟩ := prT_ok h
    obtain ⟨t3, v3, e3, h⟩ := prT_ok h
    obtain ⟨t4, v4, e4, h⟩ := prT_ok h
    obtain ⟨t5, v5, e5, h⟩ := prT_ok h
    obtain ⟨F1, a1⟩ := pNum_t hl (hF.nt hl h1) e1
    obtain ⟨F2, a2⟩ := pNum_t hl F1 e2
    obtain ⟨F3, a3⟩ := pNum_t hl F2 e3
    obtain ⟨F4, a4⟩ := pNum_t hl F3 e4
    obtain ⟨F5, a5⟩ := pNum_t hl F4 e5
    obtain ⟨q, hq⟩ : ∃ q, q = 7 * dR D 1 := ⟨_, rfl⟩
    by_cases c6 : tK t5 = 1 ∧ tV t5 = 11
    · rw [if_pos c6] at h
      obtain ⟨t6, v6, e6, h⟩ := prT_ok h
      obtain ⟨t7, v7, e7, h⟩ := prT_ok h
      obtain ⟨F6, a6⟩ := pNum_t hl (F5.nt hl (by omega)) e6
      obtain ⟨F7, a7⟩ := pNum_t hl F6 e7
      obtain ⟨g1, g2⟩ := prO_inj h
      rw [← g1, ← g2]
      refine ⟨hD.addL (by omega) (B := updR (updR (updR (updR (updR (updR (updR (updR (updR (dL D) (7 * dR D 1) v1) (7 * dR D 1 + 1) v2) (7 * dR D 1 + 2) v3) (7 * dR D 1 + 3) v4) (7 * dR D 1 + 4) v5) (7 * dR D 1 + 5) 0) (7 * dR D 1 + 6) 0) (7 * dR D 1 + 5) v6) (7 * dR D 1 + 6) v7) (fun j hj => ?_) ?_, F7.w (by omega), kc_1 (dR D)⟩
      · rw [updR_o (by omega), updR_o (by omega), updR_o (by omega), updR_o (by omega), updR_o (by omega), updR_o (by omega), updR_o (by omega), updR_o (by omega), updR_o (by omega)]
      · rw [← hq]
        refine ⟨?_, ?_, ?_, ?_, ?_, ?_, ?_⟩
        · rw [updR_o (by omega), updR_o (by omega), updR_o (by omega), updR_o (by omega), updR_o (by omega), updR_o (by omega), updR_o (by omega), updR_o (by omega), updR_a]; exact a1
        · rw [updR_o (by omega), updR_o (by omega), updR_o (by omega), updR_o (by omega), updR_o (by omega), updR_o (by omega), updR_o (by omega), updR_a]; exact a2
        · rw [updR_o (by omega), updR_o (by omega), updR_o (by omega), updR_o (by omega), updR_o (by omega), updR_o (by omega), updR_a]; exact a3
        · rw [updR_o (by omega), updR_o (by omega), updR_o (by omega), updR_o (by omega), updR_o (by omega), updR_a]; exact a4
        · rw [updR_o (by omega), updR_o (by omega), updR_o (by omega), updR_o (by omega), updR_a]; exact a5
        · rw [updR_o (by omega), updR_a]; omega
        · rw [updR_a]; omega
    · rw [if_neg c6] at h
      obtain ⟨g1, g2⟩ := prO_inj h
      rw [← g1, ← g2]
      refine ⟨hD.addL (by omega) (B := updR (updR (updR (updR (updR (updR (updR (dL D) (7 * dR D 1) v1) (7 * dR D 1 + 1) v2) (7 * dR D 1 + 2) v3) (7 * dR D 1 + 3) v4) (7 * dR D 1 + 4) v5) (7 * dR D 1 + 5) 0) (7 * dR D 1 + 6) 0) (fun j hj => ?_) ?_, F5.w (by omega), kc_1 (dR D)⟩
      · rw [updR_o (by omega), updR_o (by omega), updR_o (by omega), updR_o (by omega), updR_o (by omega), updR_o (by omega), updR_o (by omega)]
      · rw [← hq]
        refine ⟨?_, ?_, ?_, ?_, ?_, ?_, ?_⟩
        · rw [updR_o (by omega), updR_o (by omega), updR_o (by omega), updR_o (by omega), updR_o (by omega), updR_o (by omega), updR_a]; exact a1
        · rw [updR_o (by omega), updR_o (by omega), updR_o (by omega), updR_o (by omega), updR_o (by omega), updR_a]; exact a2
        · rw [updR_o (by omega), updR_o (by omega), updR_o (by omega), updR_o (by omega), updR_a]; exact a3
        · rw [updR_o (by omega), updR_o (by omega), updR_o (by omega), updR_a]; exact a4
        · rw [updR_o (by omega), updR_o (by omega), updR_a]; exact a5
        · rw [updR_o (by omega), updR_a]; decide
        · rw [updR_a]; decide
end XI
