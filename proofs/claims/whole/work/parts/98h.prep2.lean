/-! BEST on the class's side: prepare, whole -/
def okC (m : Nat) (N lo : Int) : Prop := m ≤ 4 ∧ ((lo = -1 ∧ N = (m : Int)) ∨ (0 ≤ lo ∧ lo < N ∧ N = (m : Int) + 1))
def mbF (lo b : Int) : Int := if 0 ≤ lo ∧ lo < b then b - 1 else b
def ppX (b : Nat) (j : Int) : Prop := 53 ≤ b ∧ b ≤ 63
def whoR (m : Nat) (lo iv : Int) (M0 M : Mem) : Prop := M 53 8 = (m : Int) ∧ ∀ i : Nat, i < m → M 59 (i : Int) = whI lo i ∧ M 60 (i : Int) = cmF (M0 5) (M0 8) lo i ∧ M 61 (i : Int) = lvF (M0 5) (M0 8) lo iv i
def cstR (w n : Nat) (M0 M : Mem) : Prop := ∀ k : Int, 0 ≤ k → k < M0 5 0 → CT w n (M0 5 5) (M0 5 6) (M0 5 7) (M0 6 (3 * k)) M (2 ^ n) 0
/-- what prepare leaves -/
def PRd (w l m : Nat) (lo iv : Int) (M0 M : Mem) (len : Nat) (f : Nat → Nat) : Prop := whoR m lo iv M0 M ∧ LF2 m (w * l) M len f ∧ cstR w (w * l) M0 M
section PR
variable {d : Nat} {M M0 : Mem} {Q : List AV → Mem → Prop} {w l : Nat}
theorem pr_l (hV : Riv M0 w l) (hn6 : w * l ≤ 6) (m : Nat) (lo iv : Int) (hC : okC m (M0 5 2) lo) (hiv : -1 ≤ iv ∧ iv < 9) (kk : ∀ M' len f, whoR m lo iv M0 M' → LF2 m (w * l) M' len f → AgX ppX M0 M' → XL (d + 3) 50 138 [aR 15 0 53, aI lo, aI iv, aI 0, aI 0] [] (filM M' 63 0 0 1045) Q) : ∀ (t b : Nat) (M : Mem) (o4 : AV), ((b + t : Nat) : Int) = M0 5 2 → AgX ppX M0 M → M 53 8 = mbF lo (b : Int) → (∀ i : Nat, (i : Int) < mbF lo (b : Int) → M 59 (i : Int) = whI lo i ∧ M 60 (i : Int) = cmF (M0 5) (M0 8) lo i ∧ M 61 (i : Int) = lvF (M0 5) (M0 8) lo iv i) → XL (d + 3) 50 7 [aR 15 0 53, aI lo, aI iv, aI (b : Int), o4] [] M Q
  | t, b, M, o4, h, hA, hm, hw => by
    have r2 := hV.2.1.2.2.1
    have e5 : M 5 = M0 5 := hA.fn (fun j => by unfold ppX; omega)
    have e8 : M 8 = M0 8 := hA.fn (fun j => by unfold ppX; omega)
    have e32 : M 32 2 = ((w * l : Nat) : Int) := by rw [hA.fn (b := 32) (fun j => by unfold ppX; omega)]; exact hV.1.2.2.2.2.1
    have hmb : mbF lo (b : Int) = (b : Int) ∧ (lo < 0 ∨ (b : Int) ≤ lo) ∨ mbF lo (b : Int) = (b : Int) - 1 ∧ 0 ≤ lo ∧ lo < (b : Int) := by
      unfold mbF
      by_cases c : 0 ≤ lo ∧ lo < (b : Int)
      · rw [if_pos c]; exact Or.inr ⟨rfl, c⟩
      · rw [if_neg c]; exact Or.inl ⟨rfl, by omega⟩
    obtain ⟨m4, hC'⟩ := hC
    by_cases he : (b : Int) = M0 5 2 ∨ mbF lo (b : Int) = 4
    · have emb : mbF lo (b : Int) = (m : Int) := by omega
      refine pr_2 (d := d + 2) lo iv (b : Int) (M0 5 2) (mbF lo (b : Int)) ((w * l : Nat) : Int) o4 (by rw [e5]) ⟨by omega, by omega⟩ ⟨by omega, by omega⟩ hm ⟨by omega, by omega⟩ he e32 ?_
      rw [emb] at hm hw ⊢
      refine s_listAll (d := d) m (w * l) m4 hn6 (fun M' len f hF hA' => ⟨rfl, kk M' len f ⟨?_, fun i hi => ?_⟩ hF (fun x j hx => ?_)⟩)
      · rw [hA' 53 8 (by unfold rfX; omega)]; exact hm
      · rw [hA' 59 _ (by unfold rfX; omega), hA' 60 _ (by unfold rfX; omega), hA' 61 _ (by unfold rfX; omega)]
        exact hw i (by omega)
      · rw [hA' x j (by unfold rfX; unfold ppX at hx; omega)]
        exact hA x j hx
    · match t, h with
      | 0, h => exact absurd (Or.inl (by omega)) he
      | t + 1, h =>
        have hb : 0 ≤ (b : Int) ∧ (b : Int) < M0 5 2 := by omega
        have hto := hV.2.1.2.2.2.2.2.2.2.2.2 (b : Int) hb.1 hb.2
        have RIc : ∀ M' : Mem, M' 5 = M0 5 → M' 6 = M0 6 → M' 8 = M0 8 → RI M' := fun M' h1 h2 h3 => RI_f.mpr (by rw [h1, h2, h3]; exact hV.2.1)
        have e6 : M 6 = M0 6 := hA.fn (fun j => by unfold ppX; omega)
        rw [pr_1 (d := d + 2) lo iv (b : Int) (M0 5 2) (mbF lo (b : Int)) (onS (M0 5) (M0 8) (b : Int)) (if (b : Int) = iv then 2 * (M0 5 0 - 1) - M0 8 (4 * (b : Int) + 1) else offS (M0 5) (M0 8) (b : Int)) o4 (by rw [e5]) ⟨by omega, by omega⟩ hb hm ⟨by omega, by omega⟩ ⟨by omega, by omega⟩ hiv (fun M' Q' hM' => ?_) (fun M' Q' hM' => ⟨fun ci => ?_, fun ci => ?_⟩)]
        · by_cases cl : (b : Int) = lo
          · rw [if_pos cl]
            have g := pr_l hV hn6 m lo iv ⟨m4, hC'⟩ hiv kk t (b + 1) M o4 (by omega) hA (by
              rw [hm]
              unfold mbF
              rw [if_neg (by omega), if_pos (by omega)]
              omega) (fun i hi => hw i (by
              unfold mbF at hi ⊢
              rw [if_pos (by omega)] at hi
              rw [if_neg (by omega)]
              omega))
            rw [Int.natCast_add] at g
            exact g
          · rw [if_neg cl]
            obtain ⟨mb, hmbN⟩ : ∃ mb : Nat, mbF lo (b : Int) = (mb : Int) := ⟨(mbF lo (b : Int)).toNat, by omega⟩
            have ewh : whI lo mb = (b : Int) := by
              unfold whI
              by_cases c : lo < 0 ∨ (mb : Int) < lo
              · rw [if_pos c]; omega
              · rw [if_neg c]; omega
            have enx : mbF lo ((b : Int) + 1) = (mb : Int) + 1 := by
              unfold mbF
              by_cases c : 0 ≤ lo ∧ lo < (b : Int) + 1
              · rw [if_pos c]; omega
              · rw [if_neg c]; omega
            rw [hmbN] at hw ⊢
            have g := pr_l hV hn6 m lo iv ⟨m4, hC'⟩ hiv kk t (b + 1) (up (up (up (up M 59 (mb : Int) (b : Int)) 60 (mb : Int) (onS (M0 5) (M0 8) (b : Int))) 61 (mb : Int) (if (b : Int) = iv then 2 * (M0 5 0 - 1) - M0 8 (4 * (b : Int) + 1) else offS (M0 5) (M0 8) (b : Int))) 53 8 ((mb : Int) + 1)) o4 (by omega) (fun x j hx => ?_) (by rw [up_s, Int.natCast_add]; exact enx.symm) (fun i hi => ?_)
            · rw [Int.natCast_add] at g
              exact g
            · unfold ppX at hx
              rw [up_b' (by omega), up_b' (by omega), up_b' (by omega), up_b' (by omega)]
              exact hA x j (by unfold ppX; omega)
            · rw [Int.natCast_add, show ((1 : Nat) : Int) = 1 from rfl, enx] at hi
              by_cases ei : i = mb
              · rw [ei]
                unfold cmF lvF
                rw [ewh]
                refine ⟨?_, ?_, ?_⟩
                · rw [up_b (by decide), up_b (by decide), up_b (by decide), up_s]
                · rw [up_b (by decide), up_b (by decide), up_s]
                · rw [up_b (by decide), up_s]
              · have hh := hw i (by omega)
                refine ⟨?_, ?_, ?_⟩
                · rw [up_b (by decide), up_b (by decide), up_b (by decide), up_j (by omega)]; exact hh.1
                · rw [up_b (by decide), up_b (by decide), up_j (by omega), up_b (by decide)]; exact hh.2.1
                · rw [up_b (by decide), up_j (by omega), up_b (by decide), up_b (by decide)]; exact hh.2.2
        · have g5 : M' 5 = M0 5 := by rw [hM' 5 (by decide) (by decide) (by decide) (by decide)]; exact e5
          have g6 : M' 6 = M0 6 := by rw [hM' 6 (by decide) (by decide) (by decide) (by decide)]; exact e6
          have g8 : M' 8 = M0 8 := by rw [hM' 8 (by decide) (by decide) (by decide) (by decide)]; exact e8
          rw [s_onStop (d := d) (b : Int) (by rw [g5]; exact hb) (RIc M' g5 g6 g8), g5, g8]
          exact Iff.rfl
        · have g5 : M' 5 = M0 5 := by rw [hM' 5 (by decide) (by decide) (by decide) (by decide)]; exact e5
          have g8 : M' 8 = M0 8 := by rw [hM' 8 (by decide) (by decide) (by decide) (by decide)]; exact e8
          rw [s_vainStop (d := d + 1) (b : Int) ⟨by omega, by omega⟩, g5, g8, if_pos ci]
        · have g5 : M' 5 = M0 5 := by rw [hM' 5 (by decide) (by decide) (by decide) (by decide)]; exact e5
          have g6 : M' 6 = M0 6 := by rw [hM' 6 (by decide) (by decide) (by decide) (by decide)]; exact e6
          have g8 : M' 8 = M0 8 := by rw [hM' 8 (by decide) (by decide) (by decide) (by decide)]; exact e8
          rw [s_offStop (d := d) (b : Int) (by rw [g5]; exact hb) (RIc M' g5 g6 g8), g5, g8, if_neg ci]
          exact Iff.rfl
/-- the SIDES that there are -/
theorem pr_sd (hV : Riv M w l) (o1 o2 : AV) (kk : ∀ s : Nat, s < 16 → (∀ sd : Nat, s.testBit sd = true ↔ ∃ k : Nat, (k : Int) < M 5 0 ∧ M 6 (3 * (k : Int)) = (sd : Int)) → XL (d + 1) 50 174 [aR 15 0 53, o1, o2, aI (s : Int), aI 1] [] M Q) : ∀ (t qq s : Nat), ((qq + t : Nat) : Int) = M 5 0 → s < 16 → (∀ sd : Nat, s.testBit sd = true ↔ ∃ k : Nat, k < qq ∧ M 6 (3 * (k : Int)) = (sd : Int)) → XL (d + 1) 50 138 [aR 15 0 53, o1, o2, aI (s : Int), aI (qq : Int)] [] M Q
  | 0, qq, s, h, hs, hb => by
    have r0 := hV.2.1.1
    have e : (qq : Int) = M 5 0 := by omega
    rw [e, pr_4 o1 o2 (s : Int) (M 5 0) rfl r0]
    exact kk s hs (fun sd => by
      rw [hb sd]
      exact ⟨fun ⟨k, h1, h2⟩ => ⟨k, by omega, h2⟩, fun ⟨k, h1, h2⟩ => ⟨k, by omega, h2⟩⟩)
  | t + 1, qq, s, h, hs, hb => by
    have r0 := hV.2.1.1
    have hq := (hV.2.1.2.2.2.2.2.2.2.2.1 (qq : Int) (by omega) (by omega)).1
    obtain ⟨sd, hsd⟩ : ∃ sd : Nat, M 6 (3 * (qq : Int)) = (sd : Int) := ⟨(M 6 (3 * (qq : Int))).toNat, by omega⟩
    have ex : M 6 ((qq : Int) * 3 + 0) = (sd : Int) := by
      rw [← hsd]
      congr 1
      omega
    rw [pr_3 (d := d) o1 o2 (s : Int) (qq : Int) (M 5 0) (sd : Int) _ rfl ⟨by omega, by omega, by omega⟩ ex (set32 s sd (by omega) (by omega))]
    have g := pr_sd hV o1 o2 kk t (qq + 1) (s ||| 2 ^ sd) (by omega) (set_lt (n := 4) hs (by omega)) (fun x => by
      rw [set_t, Bool.or_eq_true, hb x, decide_eq_true_iff]
      constructor
      · rintro (⟨k, h1, h2⟩ | rfl)
        · exact ⟨k, by omega, h2⟩
        · exact ⟨qq, by omega, hsd⟩
      · rintro ⟨k, h1, h2⟩
        by_cases e : k = qq
        · rw [e, hsd] at h2
          exact Or.inr (by omega)
        · exact Or.inl ⟨k, by omega, h2⟩)
    rw [Int.natCast_add] at g
    exact g
def cwX (b : Nat) (j : Int) : Prop := b = 54 ∨ b = 62
theorem pr_w (hV : Riv M0 w l) (hn6 : w * l ≤ 6) (o1 o2 : AV) (s : Nat) (hs : s < 16) (kk : ∀ M', AgX cwX M0 M' → (∀ sd : Nat, 1 ≤ sd → sd ≤ 3 → s.testBit sd = true → CT w (w * l) (M0 5 5) (M0 5 6) (M0 5 7) (sd : Int) M' (2 ^ (w * l)) 0) → Q [] M') : ∀ (t sd : Nat) (M : Mem), sd + t = 4 → 1 ≤ sd → AgX cwX M0 M → (∀ x : Nat, 1 ≤ x → x < sd → s.testBit x = true → CT w (w * l) (M0 5 5) (M0 5 6) (M0 5 7) (x : Int) M (2 ^ (w * l)) 0) → XL (d + 6) 50 174 [aR 15 0 53, o1, o2, aI (s : Int), aI (sd : Int)] [] M Q
  | 0, sd, M, h, h1, hA, hC => by
    have e : sd = 4 := by omega
    rw [e]
    have g : Q [] M := kk M hA (fun x x1 x2 hx => hC x x1 (by omega) hx)
    exact (pr_6 o1 o2 (aI (s : Int))).mpr g
  | t + 1, sd, M, h, h1, hA, hC => by
    have r5 := hV.2.1.2.2.2.2.2.1
    have r6 := hV.2.1.2.2.2.2.2.2.1
    have r7 := hV.2.1.2.2.2.2.2.2.2.1
    have e5 : M 5 = M0 5 := hA.fn (fun j => by unfold cwX; omega)
    have hG1 : GS M w l := hV.1.cg (hA.fn (fun j => by unfold cwX; omega)) (hA.fn (fun j => by unfold cwX; omega))
    refine pr_5 (d := d + 5) o1 o2 (s : Int) (sd : Int) ((s.testBit sd).toNat : Int) ⟨by omega, by omega⟩ (tb32 s sd (by omega) (by omega)) (by cases s.testBit sd <;> decide) (fun hz => ?_) (fun hz => ?_)
    · have g := pr_w hV hn6 o1 o2 s hs kk t (sd + 1) M (by omega) (by omega) hA (fun x x1 x2 hx => by
        by_cases e : x = sd
        · rw [e] at hx
          rw [hx] at hz
          exact absurd hz (by decide)
        · exact hC x x1 (by omega) hx)
      rw [Int.natCast_add] at g
      exact g
    · refine s_weighAll (d := d) hG1 hn6 (sd : Int) (M0 5 5) (M0 5 6) (M0 5 7) ⟨by omega, by omega⟩ (by rw [e5]) (by rw [e5]) (by rw [e5]) ⟨by omega, by omega⟩ r6 r7 (fun M1 hA1 hC1 => ⟨rfl, ?_⟩)
      have g := pr_w hV hn6 o1 o2 s hs kk t (sd + 1) M1 (by omega) (by omega) (fun b j hb => by
        unfold cwX at hb
        rw [hA1 b j (by unfold csX; omega)]
        exact hA b j hb) (fun x x1 x2 hx => by
        by_cases e : x = sd
        · rw [e]; exact hC1
        · intro a c hac hcn hat
          have ha : a < 2 ^ 6 := Nat.lt_of_lt_of_le (show a < 2 ^ (w * l) by omega) (Nat.pow_le_pow_right (by decide) hn6)
          rw [hA1 62 _ (by unfold csX; omega)]
          exact hC x x1 (by omega) hx a c hac hcn hat)
      rw [Int.natCast_add] at g
      exact g
theorem s_prepare (hV : Riv M w l) (hn6 : w * l ≤ 6) (m : Nat) (lo iv : Int) (hC : okC m (M 5 2) lo) (hiv : -1 ≤ iv ∧ iv < 9) (kk : ∀ M' len f, PRd w l m lo iv M M' len f → (∀ p : Nat, p < 1045 → M' 63 (p : Int) = 0) → AgX ppX M M' → Q [] M') : XC (d + 6) 50 [aR 15 0 53, aI lo, aI iv] M Q := by
  have r0 := hV.2.1.1
  have r2 := hV.2.1.2.2.1
  rw [pr_0]
  have hC' := hC
  obtain ⟨m4, hC9⟩ := hC'
  refine pr_l (d := d + 3) hV hn6 m lo iv hC hiv (fun M1 len f hw hF hA => ?_) (M 5 2).toNat 0 (up M 53 8 0) aU (by omega) (fun x j hx => up_b' (fun e => hx (by unfold ppX; omega))) (by
    rw [up_s]
    unfold mbF
    rw [if_neg (by omega)]
    rfl) (fun i hi => by
    unfold mbF at hi
    rw [if_neg (by omega)] at hi
    exact absurd hi (by omega))
  obtain ⟨M2, hM2⟩ : ∃ M2, M2 = filM M1 63 0 0 1045 := ⟨_, rfl⟩
  rw [← hM2]
  have o2 : ∀ x, x ≠ 63 → M2 x = M1 x := fun x hx => by rw [hM2]; exact filM_r hx
  have A2 : AgX ppX M M2 := fun x j hx => by
    unfold ppX at hx
    rw [o2 x (by omega)]
    exact hA x j (by unfold ppX; omega)
  have hV2 : Riv M2 w l := hV.cg (fun b hb => A2.fn (fun j => by unfold ppX; omega))
  have e5 : M2 5 = M 5 := A2.fn (fun j => by unfold ppX; omega)
  have e6 : M2 6 = M 6 := A2.fn (fun j => by unfold ppX; omega)
  refine pr_sd (d := d + 5) hV2 (aI lo) (aI iv) (fun s hs hb => ?_) (M2 5 0).toNat 0 0 (by rw [e5]; omega) (by decide) (fun sd => by
    rw [Nat.zero_testBit]
    exact ⟨fun h9 => absurd h9 (by decide), fun ⟨k, k1, _⟩ => absurd k1 (Nat.not_lt_zero k)⟩)
  refine pr_w (d := d) hV2 hn6 (aI lo) (aI iv) s hs (fun M3 hA3 hCT => ?_) 3 1 M2 (by omega) (by decide) (fun _ _ _ => rfl) (fun x x1 x2 => absurd x2 (by omega))
  have o3 : ∀ x, x ≠ 54 → x ≠ 62 → M3 x = M2 x := fun x h1 h2 => hA3.fn (fun j => by unfold cwX; omega)
  refine kk M3 len f ⟨⟨?_, fun i hi => ?_⟩, ?_, fun k k0 k1 => ?_⟩ (fun p hp => ?_) (fun x j hx => ?_)
  · rw [o3 53 (by decide) (by decide), o2 53 (by decide)]; exact hw.1
  · rw [o3 59 (by decide) (by decide), o2 59 (by decide), o3 60 (by decide) (by decide), o2 60 (by decide), o3 61 (by decide) (by decide), o2 61 (by decide)]
    exact hw.2 i hi
  · unfold LF2 LI at hF ⊢
    rw [o3 55 (by decide) (by decide), o2 55 (by decide), o3 56 (by decide) (by decide), o2 56 (by decide), o3 57 (by decide) (by decide), o2 57 (by decide), o3 58 (by decide) (by decide), o2 58 (by decide)]
    exact hF
  · have hq := (hV.2.1.2.2.2.2.2.2.2.2.1 k k0 k1).1
    obtain ⟨sd, hsd⟩ : ∃ sd : Nat, M 6 (3 * k) = (sd : Int) := ⟨(M 6 (3 * k)).toNat, by omega⟩
    have := hCT sd (by omega) (by omega) ((hb sd).mpr ⟨k.toNat, by rw [e5]; omega, by rw [e6, show ((k.toNat : Nat) : Int) = k by omega]; exact hsd⟩)
    rw [e5] at this
    rw [hsd]
    exact this
  · rw [o3 63 (by decide) (by decide), hM2]
    exact filM_at (by omega) (by omega)
  · unfold ppX at hx
    rw [o3 x (by omega) (by omega)]
    exact A2 x j (by unfold ppX; omega)
end PR
