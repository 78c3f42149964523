/-! BEST on the reference's side: bestFrom, a STOP -/
def bfX (b : Nat) (j : Int) : Prop := b = 74 ∨ b = 75 ∨ b = 77 ∨ b = 78 ∨ b = 79 ∨ (85 ≤ b ∧ b ≤ 88) ∨ (b = 67 ∧ ((24 ≤ j ∧ j ≤ 27) ∨ j = 34 ∨ j = 35 ∨ j = 57 ∨ j = 58))
def RAf (m n : Nat) (A : Nat → Int) (M : Mem) : Prop := (∀ c, vcd m n c → M 85 ((rcd c : Nat) : Int) = A c) ∧ ∀ u : Int, 0 ≤ u → u < 15625 → (∀ c, vcd m n c → u ≠ ((rcd c : Nat) : Int)) → M 85 u = 100000000
def quX (b : Nat) (j : Int) : Prop := b = 74 ∨ b = 75 ∨ (86 ≤ b ∧ b ≤ 88) ∨ (b = 67 ∧ ((24 ≤ j ∧ j ≤ 27) ∨ j = 57 ∨ j = 58))
section BQ
variable {d : Nat} {M M0 B0 : Mem} {Q : List AV → Mem → Prop} {w l m : Nat} {r q lg b : Int → Int} {fl iv hd : Int} {wh cm lv : Nat → Int} {A : Nat → Int} {s : Nat}
theorem CM.cgb (h : CM m iv wh B0 M0) (hA : AgX bfX M0 M) : CM m iv wh B0 M := by
  obtain ⟨h1, h2, h3, h4⟩ := h
  exact ⟨by rw [hA.fn (b := 69) (fun j => by unfold bfX; omega)]; exact h1, by rw [hA 67 21 (by unfold bfX; omega)]; exact h2, by rw [hA 67 56 (by unfold bfX; omega)]; exact h3, fun i hi => by rw [hA 84 _ (by unfold bfX; omega)]; exact h4 i hi⟩
theorem CM.cgq (h : CM m iv wh B0 M0) (hA : AgX quX M0 M) : CM m iv wh B0 M := h.cgb (fun b j hb => hA b j (fun e => hb (by unfold quX at e; unfold bfX; omega)))
theorem QV_A2 {n : Nat} {st : Int} {tk : Nat → Nat → Int} {A A2 A3 : Nat → Int} {cur mn : Nat} {qf : Nat → Nat} (h : QV m n cm lv st tk A A2 cur M mn qf) (h3 : ∀ c, A3 c < 100000000 → snS m n M c ≤ A3 c) : QV m n cm lv st tk A A3 cur M mn qf := ⟨h.1, h.2.1, h.2.2.1, h3, h.2.2.2.2⟩
theorem q1_l (mi s : Int) (o4 o5 o6 : AV) (kk : ∀ M', AgX (fun b _ => b = 86) M0 M' → (∀ u : Int, 0 ≤ u → u < 15625 → M' 86 u = 100000000) → XL d 213 78 [aR 22 0 67, aI mi, aI s, aI 0, o4, o5, o6] [] M' Q) : ∀ (t u : Nat) (M : Mem), u + t = 15625 → AgX (fun b _ => b = 86) M0 M → (∀ x : Int, 0 ≤ x → x < (u : Int) → M 86 x = 100000000) → XL d 213 54 [aR 22 0 67, aI mi, aI s, aI (u : Int), o4, o5, o6] [] M Q
  | 0, u, M, h, hA, hz => by
    have e : u = 15625 := by omega
    rw [bf_3 mi s (u : Int) o4 o5 o6 ⟨by omega, by omega⟩, if_neg (by omega)]
    exact kk M hA (fun x x0 x1 => hz x x0 (by omega))
  | t + 1, u, M, h, hA, hz => by
    rw [bf_3 mi s (u : Int) o4 o5 o6 ⟨by omega, by omega⟩, if_pos (by omega)]
    have g := q1_l mi s o4 o5 o6 kk t (u + 1) (up M 86 (u : Int) 100000000) (by omega) (fun b j hb => by rw [up_b hb]; exact hA b j hb) (fun x x0 x1 => by
      by_cases e : x = (u : Int)
      · rw [e, up_s]
      · rw [up_j e]; exact hz x x0 (by omega))
    rw [Int.natCast_add] at g
    exact g
/-- the queue is filled -/
def A2u (A : Nat → Int) (u c : Nat) : Int := if rcd c < u then A c else 100000000
theorem q2_l (h : CR w l m r q lg b fl iv wh cm lv B0) (hC0 : CM m iv wh B0 M0) (hBI : BI w l m cm lv s A) (hs : (s : Int) ≤ 2 * (r 0 - 1)) (hRA : RAf m (w * l) A M0) (mi : Int) (o4 o5 o6 : AV) (kk : ∀ M' mn qf, AgX quX M0 M' → QV m (w * l) cm lv (s : Int) (tkS w l r q (s : Int)) (iniS r q (s : Int) A) (iniS r q (s : Int) A) 4096 M' mn qf → XL (d + 5) 213 126 [aR 22 0 67, aI mi, aI (s : Int), aI 15625, o4, o5, o6] [] M' Q) : ∀ (t u : Nat) (M : Mem) (mn : Nat) (qf : Nat → Nat), u + t = 15625 → AgX quX M0 M → QV m (w * l) cm lv (s : Int) (tkS w l r q (s : Int)) (iniS r q (s : Int) A) (A2u (iniS r q (s : Int) A) u) 4096 M mn qf → XL (d + 5) 213 78 [aR 22 0 67, aI mi, aI (s : Int), aI (u : Int), o4, o5, o6] [] M Q
  | 0, u, M, mn, qf, ht, hA, hQ => by
    have e : u = 15625 := by omega
    rw [e]
    obtain ⟨o1, o2, o3, o4'⟩ := hBI.ok h.2.1 hs
    have g := kk M mn qf hA (QV_A2 hQ (fun c hc => by
      have hv := (o1.2.2.2.2 c hc).2.1
      have rl := (rcd_sp hv h.2.1.2.2.1).1
      have := hQ.2.2.2.1 c (by unfold A2u; rw [if_pos (by omega)]; exact hc)
      unfold A2u at this
      rw [if_pos (by omega)] at this
      exact this))
    exact (bf_4e mi (s : Int) o4 o5 o6).mpr g
  | t + 1, u, M, mn, qf, ht, hA, hQ => by
    have hn6 := h.2.1.2.2.1
    have r0 := h.1.2.1.1
    obtain ⟨ok1, ok2, ok3, ok4⟩ := hBI.ok h.2.1 hs
    have hCM := hC0.cgq hA
    have e85 : M 85 = M0 85 := hA.fn (fun j => by unfold quX; omega)
    have rec9 := q2_l h hC0 hBI hs hRA mi o4 o5 o6 kk t (u + 1)
    have skip : (∀ c, vcd m (w * l) c → rcd c = u → ¬ A c < 100000000) → QV m (w * l) cm lv (s : Int) (tkS w l r q (s : Int)) (iniS r q (s : Int) A) (A2u (iniS r q (s : Int) A) (u + 1)) 4096 M mn qf := fun hno => QV_A2 hQ (fun c hc => by
      unfold A2u at hc
      by_cases c1 : rcd c < u + 1
      · rw [if_pos c1] at hc
        have hv := (ok1.2.2.2.2 c hc).2.1
        have ha : A c < 100000000 := by
          apply Classical.byContradiction
          intro h9
          unfold iniS at hc
          rw [if_neg h9] at hc
          exact absurd hc (by decide)
        have hne : rcd c ≠ u := fun e => hno c hv e ha
        have := hQ.2.2.2.1 c (by unfold A2u; rw [if_pos (by omega)]; exact hc)
        unfold A2u at this ⊢
        rw [if_pos (by omega)] at this
        rw [if_pos c1]
        exact this
      · rw [if_neg c1] at hc
        exact absurd hc (by decide))
    by_cases hE : ∃ c, vcd m (w * l) c ∧ rcd c = u
    · obtain ⟨c, hv, hcu⟩ := hE
      have ha : M 85 (u : Int) = A c := by rw [e85, ← hcu]; exact hRA.1 c hv
      have hb := (hBI c).1
      refine bf_4 (d := d + 4) mi (s : Int) (u : Int) (A c) (wtS r q (s : Int) (A c)) o4 o5 o6 ⟨by omega, by omega⟩ ha (by omega) (fun hlt Q' => by
        rw [s_m_wait (d := d + 2) h.1 hCM.1 (s : Int) (A c) ⟨by omega, hs⟩ (by omega)]
        rfl) (fun hno => ?_) (fun hlt => ?_)
      · have g := rec9 M mn qf (by omega) hA (skip (fun c' hv' hc' ha' => by
          have := rcd_inj hv' hv hn6 (by omega)
          rw [this] at ha'
          exact hno ha'))
        rw [Int.natCast_add] at g
        exact g
      · have hI := ok4 c hlt
        have iE : A c + wtS r q (s : Int) (A c) = iniS r q (s : Int) A c := by
          unfold iniS
          rw [if_pos hlt]
        rw [iE, ← hcu]
        refine s_comes (d := d + 4) ok1 hQ c (iniS r q (s : Int) A c) (Wk.i hI.2) (by omega) (by have := hv.1; omega) (fun M' mn' qf' hA' hQ' hle hall heq hmu => ⟨rfl, ?_⟩)
        have g := rec9 M' mn' qf' (by omega) (fun b j hb => by
          rw [hA' b j (fun e => hb (by unfold coX at e; unfold quX; omega))]
          exact hA b j hb) (QV_A2 hQ' (fun c' hc' => by
          unfold A2u at hc' ⊢
          by_cases c1 : rcd c' < u + 1
          · rw [if_pos c1] at hc' ⊢
            have hv' := (ok1.2.2.2.2 c' hc').2.1
            by_cases e : c' = c
            · rw [e]; exact hle
            · have hne : rcd c' ≠ u := fun e9 => e (rcd_inj hv' hv hn6 (by omega))
              have := hQ'.2.2.2.1 c' (by unfold A2u; rw [if_pos (by omega)]; exact hc')
              unfold A2u at this
              rw [if_pos (by omega)] at this
              exact this
          · rw [if_neg c1] at hc'
            exact absurd hc' (by decide)))
        rw [hcu]
        rw [Int.natCast_add] at g
        exact g
    · have ha : M 85 (u : Int) = 100000000 := by
        rw [e85]
        exact hRA.2 (u : Int) (by omega) (by omega) (fun c hv e => hE ⟨c, hv, by omega⟩)
      refine bf_4 (d := d + 4) mi (s : Int) (u : Int) 100000000 0 o4 o5 o6 ⟨by omega, by omega⟩ ha (by decide) (fun hlt => absurd hlt (by decide)) (fun hno => ?_) (fun hlt => absurd hlt (by decide))
      have g := rec9 M mn qf (by omega) hA (skip (fun c hv hc => absurd ⟨c, hv, hc⟩ hE))
      rw [Int.natCast_add] at g
      exact g
/-- the queue is emptied -/
theorem q3_l (h : CR w l m r q lg b fl iv wh cm lv B0) (hC0 : CM m iv wh B0 M0) (hBI : BI w l m cm lv s A) (hs : (s : Int) ≤ 2 * (r 0 - 1)) (mi : Int) (o4 o5 o6 : AV) (kk : ∀ M' o3, AgX quX M0 M' → (∀ c, snS m (w * l) M' c = DS w l m r q cm lv (s : Int) A c) → (∀ i, M' 88 i = 0) → (∀ u : Int, 0 ≤ u → u < 15625 → (∀ c, vcd m (w * l) c → u ≠ ((rcd c : Nat) : Int)) → M' 86 u = 100000000) → M' 67 58 = 0 → XL (d + 5) 213 126 [aR 22 0 67, aI mi, aI (s : Int), o3, o4, o5, o6] [] M' Q) : ∀ (g : Nat) (M : Mem) (mn : Nat) (qf : Nat → Nat) (o3 : AV), mu m (w * l) M mn ≤ g → AgX quX M0 M → QV m (w * l) cm lv (s : Int) (tkS w l r q (s : Int)) (iniS r q (s : Int) A) (iniS r q (s : Int) A) 4096 M mn qf → XL (d + 5) 213 126 [aR 22 0 67, aI mi, aI (s : Int), o3, o4, o5, o6] [] M Q := by
  intro g
  induction g with
  | zero =>
    intro M mn qf o3 hmu hA hQ
    have m0 : mn = 0 := by
      unfold mu at hmu
      omega
    obtain ⟨o1, o2, o3', o4'⟩ := hBI.ok h.2.1 hs
    obtain ⟨⟨q1, q2, q3, q4, q5, q6⟩, s1, s2, s3, s4, s5⟩ := hQ
    have w0 : ∀ c, vcd m (w * l) c → M 88 ((rcd c : Nat) : Int) = 0 := fun c hv => by
      rcases q5 c hv with h9 | ⟨-, j, j1, -⟩
      · exact h9
      · omega
    refine kk M o3 hA (fun c => ?_) (fun i => ?_) s4 (by rw [q1, m0]; rfl)
    · have := cl_ds o1 o2 o3' (F := 100000000) (by decide) (S := snS m (w * l) M) (fun c hc => (s1 c).2.2 hc) s3 (fun i u v k hi hu he => by
        have hv := ((s1 u).2.2 hu |>.J o1).1.1
        exact s2 u (by have := hv.1; omega) hv (w0 u hv) hu i v k hi he) (fun c => (s1 c).2.1) c
      unfold DS
      rcases this with ⟨-, h9⟩ | ⟨h9, h8⟩
      · exact h9
      · rw [h9, h8]
    · by_cases hE : ∃ c, vcd m (w * l) c ∧ i = ((rcd c : Nat) : Int)
      · obtain ⟨c, hv, e⟩ := hE
        rw [e]; exact w0 c hv
      · exact q6 i (fun c hv e => hE ⟨c, hv, e⟩)
  | succ g ih =>
    intro M mn qf o3 hmu hA hQ
    have hn6 := h.2.1.2.2.1
    by_cases m0 : mn = 0
    · obtain ⟨o1, o2, o3', o4'⟩ := hBI.ok h.2.1 hs
      obtain ⟨⟨q1, q2, q3, q4, q5, q6⟩, s1, s2, s3, s4, s5⟩ := hQ
      have w0 : ∀ c, vcd m (w * l) c → M 88 ((rcd c : Nat) : Int) = 0 := fun c hv => by
        rcases q5 c hv with h9 | ⟨-, j, j1, -⟩
        · exact h9
        · omega
      refine kk M o3 hA (fun c => ?_) (fun i => ?_) s4 (by rw [q1, m0]; rfl)
      · have := cl_ds o1 o2 o3' (F := 100000000) (by decide) (S := snS m (w * l) M) (fun c hc => (s1 c).2.2 hc) s3 (fun i u v k hi hu he => by
          have hv := ((s1 u).2.2 hu |>.J o1).1.1
          exact s2 u (by have := hv.1; omega) hv (w0 u hv) hu i v k hi he) (fun c => (s1 c).2.1) c
        unfold DS
        rcases this with ⟨-, h9⟩ | ⟨h9, h8⟩
        · exact h9
        · rw [h9, h8]
      · by_cases hE : ∃ c, vcd m (w * l) c ∧ i = ((rcd c : Nat) : Int)
        · obtain ⟨c, hv, e⟩ := hE
          rw [e]; exact w0 c hv
        · exact q6 i (fun c hv e => hE ⟨c, hv, e⟩)
    · obtain ⟨o1, o2, o3', o4'⟩ := hBI.ok h.2.1 hs
      have hmb := QI_mn hn6 hQ.1
      obtain ⟨⟨q1, q2, q3, q4, q5, q6⟩, s1, s2, s3, s4, s5⟩ := hQ
      obtain ⟨v0, q87, w0⟩ := q3 0 (by omega)
      have rl := (rcd_sp v0 hn6).1
      have q87' : M 87 (M 67 57) = ((rcd (qf 0) : Nat) : Int) := by
        rw [← q87]
        congr 1
        omega
      obtain ⟨hd2, hh2⟩ : ∃ hd2 : Int, hd2 = (M 67 57 + 1) % 15625 := ⟨_, rfl⟩
      refine bf_5 (d := d + 4) mi (s : Int) (M 67 57) (mn : Int) ((rcd (qf 0) : Nat) : Int) hd2 o3 o4 o5 o6 q1 ⟨by omega, by omega⟩ rfl q2 q87' ⟨by omega, by omega⟩ hh2 ?_
      obtain ⟨M1, hM1⟩ : ∃ M1, M1 = up (up (up M 67 57 hd2) 67 58 ((mn : Int) - 1)) 88 ((rcd (qf 0) : Nat) : Int) 0 := ⟨_, rfl⟩
      rw [← hM1]
      have f86 : M1 86 = M 86 := by rw [hM1, up_r (by decide), up_r (by decide), up_r (by decide)]
      have f87 : M1 87 = M 87 := by rw [hM1, up_r (by decide), up_r (by decide), up_r (by decide)]
      have f88 : ∀ j, M1 88 j = if j = ((rcd (qf 0) : Nat) : Int) then 0 else M 88 j := fun j => by
        rw [hM1]
        by_cases e : j = ((rcd (qf 0) : Nat) : Int)
        · rw [if_pos e, e, up_s]
        · rw [if_neg e, up_j e, up_b (by decide), up_b (by decide)]
      have f57 : M1 67 57 = hd2 := by rw [hM1, up_b (by decide), up_j (by decide), up_s]
      have f58 : M1 67 58 = (mn : Int) - 1 := by rw [hM1, up_b (by decide), up_s]
      have A1 : AgX quX M0 M1 := fun b j hb => by
        unfold quX at hb
        rw [hM1, up_b (by omega), up_b' (by omega), up_b' (by omega)]
        exact hA b j hb
      have sE := snS_cg (m := m) (n := w * l) f86
      have hQ1 : QV m (w * l) cm lv (s : Int) (tkS w l r q (s : Int)) (iniS r q (s : Int) A) (iniS r q (s : Int) A) (qf 0) M1 (mn - 1) (fun j => qf (j + 1)) := by
        refine ⟨⟨by rw [f58]; omega, by rw [f57]; omega, fun j hj => ?_, fun j j2 hj hj2 he => ?_, fun c hv => ?_, fun i hi => ?_⟩, by rw [sE]; exact s1, fun c hc hv hw9 hlt => ?_, by rw [sE]; exact s3, by rw [f86]; exact s4, fun j hj => by rw [sE]; exact s5 (j + 1) (by omega)⟩
        · have qj := q3 (j + 1) (by omega)
          have hne : qf (j + 1) ≠ qf 0 := fun e => by
            have := q4 (j + 1) 0 (by omega) (by omega) e
            omega
          show vcd m (w * l) (qf (j + 1)) ∧ M1 87 ((M1 67 57 + (j : Int)) % 15625) = ((rcd (qf (j + 1)) : Nat) : Int) ∧ M1 88 ((rcd (qf (j + 1)) : Nat) : Int) = 1
          rw [f57, f87, f88, if_neg (fun h9 => hne (rcd_inj qj.1 v0 hn6 (by omega)))]
          refine ⟨qj.1, ?_, qj.2.2⟩
          rw [← qj.2.1]
          congr 1
          omega
        · have := q4 (j + 1) (j2 + 1) (by omega) (by omega) he
          omega
        · rw [f88]
          by_cases e : c = qf 0
          · rw [e, if_pos rfl]; exact Or.inl rfl
          · rw [if_neg (fun h9 => e (rcd_inj hv v0 hn6 (by omega)))]
            rcases q5 c hv with h9 | ⟨h9, j, j1, j2⟩
            · exact Or.inl h9
            · refine Or.inr ⟨h9, j - 1, ?_, ?_⟩
              · have : j ≠ 0 := fun e9 => by rw [e9] at j2; exact e j2.symm
                omega
              · have : j ≠ 0 := fun e9 => by rw [e9] at j2; exact e j2.symm
                show qf (j - 1 + 1) = c
                rw [show j - 1 + 1 = j by omega]
                exact j2
        · rw [f88, if_neg (hi _ v0)]
          exact q6 i hi
        · rw [f88, if_neg (fun h9 => hc (rcd_inj hv v0 hn6 (by omega)))] at hw9
          rw [sE] at hlt ⊢
          exact s2 c (by have := hv.1; omega) hv hw9 hlt
      have muE : mu m (w * l) M1 (mn - 1) + 1 = mu m (w * l) M mn := by
        unfold mu
        rw [sE]
        omega
      refine s_spreads (d := d) h (hC0.cgq A1) ⟨by omega, hs⟩ o1 v0 hQ1 (by rw [sE]; exact s5 0 (by omega)) (fun M2 mn2 qf2 hA2 hQ2 hmu2 hsc hcl => ⟨rfl, ?_⟩)
      refine ih M2 mn2 qf2 _ (by omega) (fun b j hb => by
        rw [hA2 b j (fun e => hb (by unfold spX at e; unfold quX; omega))]
        exact A1 b j hb) ⟨hQ2.1, hQ2.2.1, fun c hc hv hw9 hlt i v k hi he => ?_, hQ2.2.2.2⟩
      by_cases e : c = qf 0
      · rw [e] at he ⊢
        rw [hsc]
        exact hcl i v k hi he
      · exact hQ2.2.2.1 c e hv hw9 hlt i v k hi he
end BQ
