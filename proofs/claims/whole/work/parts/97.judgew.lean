/-! THE JUDGEMENT on the class's side: perform, all of it -/
section KB
variable {d : Nat} {M M0 : Mem} {Q : List AV → Mem → Prop} {w l i lf : Nat} {S : JSt} {bg : Int}
theorem pf_tk (hV : Riv M0 w l) (hC : CJ w l bg M0 M S lf) (hJ : JI w l (M0 5) (M0 8) i S) (hi : i ≤ 60) (n : Int) (hn : 0 ≤ n ∧ n < 60) (wh x : Int) (hwh : 0 ≤ wh ∧ wh < 3) (g0 : M0 12 (4 * n) = wh) (g1 : M0 12 (4 * n + 1) = x) (hx : 0 ≤ x ∧ x < M0 5 2) (k : Nat) (hk : k < w * l) (hpl : plc (jR S) x (w * l) = (k : Int)) (kk : ∀ M3, CJ w l bg M0 M3 (tkf w l (M0 5) (M0 6) (wtd (M0 5) (M0 6) S) (k : Int)) lf → XL (d + 6) 17 148 [aR 11 0 46, aI n, aI wh, aI x, aI (k : Int), aU] [] M3 Q) : XC (d + 6) 17 [aR 11 0 46, aI n] M Q := by
  have hn24 : w * l ≤ 24 := (hC.gs hV).n
  have r2 := hV.2.1.2.2.1
  have we := wtd_e (r := M0 5) (q := M0 6) (S := S)
  have jp := hJ.2.2.2.2.1
  have e12 : M 12 = M0 12 := hC.f (by decide)
  refine pf_1 (d := d + 5) n wh x hn hwh (by rw [e12, ← g0]; congr 1; omega) ?_
  refine s_await (d := d + 3) hV hC ⟨jp, hJ.2.2.2.2.2.2.1, by have := hJ.2.2.2.2.2.2.2.1; omega⟩ (fun M1 C1 => ⟨rfl, ?_, (k : Int), fun Q' => ?_, Or.inr ⟨fun Q' => ?_, ⟨by omega, by omega⟩, ?_⟩⟩)
  · have f12 : M1 12 = M0 12 := C1.f (by decide)
    rw [f12, ← g1]; congr 1; omega
  · have c9 : ∀ j, 0 ≤ j → j < 24 → -1 ≤ M1 48 j ∧ M1 48 j < 9 := fun j j0 j1 => by
      rw [C1.2.1 j j0 j1, we.1]
      have := (hJ.1 j j0 j1).1
      omega
    rw [s_cellOf (w * l) x C1.2.2.1 hn24 c9 ⟨by omega, by omega⟩, C1.plc hn24, we.1, hpl]
  · have hG1 := C1.gs hV
    rw [s_hasCell (k : Int) ⟨by omega, by omega⟩ (by rw [hG1.2.2.2.2.1]; omega), hG1.2.2.2.2.1, bi_t (by omega)]
  · have c9 : ∀ j, 0 ≤ j → j < 24 → -1 ≤ M1 48 j ∧ M1 48 j < 9 := fun j j0 j1 => by
      rw [C1.2.1 j j0 j1, we.1]
      have := (hJ.1 j j0 j1).1
      omega
    obtain ⟨TT, hTT⟩ : ∃ TT, TT = takJ w l (M0 5) (M0 6) (jR (wtd (M0 5) (M0 6) S)) (jP (wtd (M0 5) (M0 6) S)) (k : Int) := ⟨_, rfl⟩
    refine ⟨_, fun Q' => s_jweigh (d := d) hV C1 c9 (by rw [we.2.1]; exact jp) k hk TT hTT, ?_⟩
    refine kk _ ?_
    have eP : tkf w l (M0 5) (M0 6) (wtd (M0 5) (M0 6) S) (k : Int) = (updR (jR (wtd (M0 5) (M0 6) S)) (k : Int) (-1), jM (wtd (M0 5) (M0 6) S) + TT.1, jP (wtd (M0 5) (M0 6) S), jC (wtd (M0 5) (M0 6) S), jW (wtd (M0 5) (M0 6) S), jU (wtd (M0 5) (M0 6) S) + TT.2.2.1, jT (wtd (M0 5) (M0 6) S) + TT.2.2.2.1, jA (wtd (M0 5) (M0 6) S)) := by
      unfold tkf
      rw [← hTT]
    rw [eP]
    have t2 : tkM M1 47 TT 47 4 = TT.2.2.1 := tkM_4
    have t3 : tkM M1 47 TT 47 5 = TT.2.2.2.1 := tkM_5
    have tO : ∀ b j, b ≠ 47 → tkM M1 47 TT b j = M1 b j := fun b j h => tkM_b h
    generalize tkM M1 47 TT = M3 at *
    generalize wtd (M0 5) (M0 6) S = W at *
    obtain ⟨hA1, hR1, q6, q7, q8, q9, q10, q12, q13, q14, q15, q16, q17⟩ := C1
    have t46 : ∀ j, M3 46 j = M1 46 j := fun j => tO 46 j (by decide)
    have a15 : ∀ v, up M3 46 13 v 46 15 = jU W := fun v => by rw [up_j (by decide), t46]; exact q15
    have a16 : ∀ v, up M3 46 13 v 46 16 = jT W := fun v => by rw [up_j (by decide), t46]; exact q16
    have a4 : ∀ v, up M3 46 13 v 47 4 = TT.2.2.1 := fun v => by rw [up_b (by decide)]; exact t2
    have a5 : ∀ v, up M3 46 13 v 47 5 = TT.2.2.2.1 := fun v => by rw [up_b (by decide)]; exact t3
    rw [a15, a16, a4, a5]
    refine ⟨fun y j hy => ?_, fun j j0 j1 => ?_, ?_, ?_, ?_, ?_, ?_, ?_, ?_, ?_, ?_, ?_, ?_⟩
    · unfold jX at hy
      rw [up_b' (by omega), up_b' (by omega), up_b' (by omega), up_b' (by omega), tO y j (by omega)]
      exact hA1 y j (by unfold jX; omega)
    · show _ = updR (jR W) (k : Int) (-1) j
      by_cases e : j = (k : Int)
      · rw [e, updR_s, up_s]
      · rw [updR_j e, up_j e, up_b (by decide), up_b (by decide), up_b (by decide), tO 48 j (by decide)]
        exact hR1 j j0 j1
    · rw [up_b (by decide), up_j (by decide), up_j (by decide), up_j (by decide), t46]; exact q6
    · rw [up_b (by decide), up_j (by decide), up_j (by decide), up_j (by decide), t46]; exact q7
    · rw [up_b (by decide), up_j (by decide), up_j (by decide), up_j (by decide), t46]; exact q8
    · rw [up_b (by decide), up_j (by decide), up_j (by decide), up_j (by decide), t46]; exact q9
    · rw [up_b (by decide), up_j (by decide), up_j (by decide), up_j (by decide), t46]; exact q10
    · simp (disch := first | exact nl_i _ | exact nl_r _ | exact Nat.le_of_ble_eq_true rfl | exact Or.inl rfl | exact Or.inr rfl | exact w8_lo _ | exact w8_hi _ | decide | omega) only [up_s, up_b, up_j, t46]; exact q12
    · rw [up_b (by decide), up_j (by decide), up_j (by decide)]; exact up_s
    · rw [up_b (by decide), up_j (by decide), up_j (by decide), up_j (by decide), t46]; exact q14
    · rw [up_b (by decide), up_j (by decide)]; exact up_s
    · rw [up_b (by decide)]; exact up_s
    · rw [up_b (by decide), up_j (by decide), up_j (by decide), up_j (by decide), t46]; exact q17
theorem LF_e {n : Nat} {T T2 : JSt} (hR : jR T2 = jR T) (hC : jC T2 = jC T) (h : LF n T lf) : LF n T2 lf := ⟨h.1, fun y hy => by rw [hR, hC]; exact h.2 y hy⟩
theorem s_perform (hV : Riv M0 w l) (hC : CJ w l bg M0 M S lf) (hJ : JI w l (M0 5) (M0 8) i S) (hi : i ≤ 60) (hF : LF (w * l) S lf) (h0 : 0 < M0 5 0) (n : Int) (hn : 0 ≤ n ∧ n < 60) (wh x ro co : Int) (g0 : M0 12 (4 * n) = wh) (g1 : M0 12 (4 * n + 1) = x) (g2 : M0 12 (4 * n + 2) = ro) (g3 : M0 12 (4 * n + 3) = co) (hok : actOk (M0 5) wh x ro co) (hz : (jdo w l (M0 5) (M0 6) (M0 7) (M0 8) (M0 4 4) S wh x ro co).1 = 0) (kk : ∀ M' lf', CJ w l bg M0 M' (jdo w l (M0 5) (M0 6) (M0 7) (M0 8) (M0 4 4) S wh x ro co).2 lf' → LF (w * l) (jdo w l (M0 5) (M0 6) (M0 7) (M0 8) (M0 4 4) S wh x ro co).2 lf' → Q [] M') : XC (d + 6) 17 [aR 11 0 46, aI n] M Q := by
  have hG := hC.gs hV
  have hn24 := hG.n
  have w4 := hG.1
  have l6 := hG.2.1
  have r0 := hV.2.1.1
  have r1 := hV.2.1.2.1
  have r2 := hV.2.1.2.2.1
  have r5 := hV.2.1.2.2.2.2.2.1
  have jp := hJ.2.2.2.2.1
  have we := wtd_e (r := M0 5) (q := M0 6) (S := S)
  have e12 : M 12 = M0 12 := hC.f (by decide)
  have e5 : M 5 = M0 5 := hC.f (by decide)
  have e7 : M 7 = M0 7 := hC.f (by decide)
  have c9 := hC.c9 hV hJ
  have hri := hC.ri hV
  have raft := hJ.raft
  have a0 : M 12 (n * 4 + 0) = wh := by rw [e12, ← g0]; congr 1; omega
  unfold jdo at hz kk
  rcases hok with ⟨rfl, h1, h2, h3⟩ | ⟨rfl, hx, h2, h3⟩ | ⟨hw12, hx, h2, h3⟩
  · rw [if_pos rfl] at hz kk
    by_cases d1 : jP S = 2 * (M0 5 0 - 1)
    · rw [if_pos d1] at hz
      exact absurd (show (4 : Int) = 0 from hz) (by decide)
    · rw [if_neg d1] at hz kk
      by_cases d2 : cb (dueJ w l (M0 5) (M0 8) S) = 1
      · rw [if_pos d2] at hz
        exact absurd (show (5 : Int) = 0 from hz) (by decide)
      · rw [if_neg d2] at hz kk
        have lo := lgO_b (r := M0 5) (s := jP S) ⟨by omega, by omega⟩
        have hL := hV.2.2.1.2 (lgO (M0 5) (jP S)) lo.1 (by have := hV.2.2.1.1; omega)
        have lb := legA_b (fl := M0 4 4) (R := jR S) (k := lgO (M0 5) (jP S)) (mo := 0) w4 l6 hV.2.1 hV.2.2.1 ⟨lo.1, by have := hV.2.2.1.1; omega⟩
        by_cases d3 : legA w l (M0 5) (M0 7) (M0 8) (M0 4 4) (jR S) (lgO (M0 5) (jP S)) 0 < 0
        · rw [if_pos d3] at hz
          have hz' : 5 - legA w l (M0 5) (M0 7) (M0 8) (M0 4 4) (jR S) (lgO (M0 5) (jP S)) 0 = 0 := hz
          omega
        · rw [if_neg d3] at kk
          have eg : legA w l (M0 5) (M0 7) (M0 8) (M0 4 4) (jR S) (lgO (M0 5) (jP S)) 0 = goV w l (pR (w * l) (jR S)) (M0 7 (7 * lgO (M0 5) (jP S) + 5)) (M0 7 (7 * lgO (M0 5) (jP S) + 2)) (M0 7 (7 * lgO (M0 5) (jP S) + 6)) (M0 5 5) := by
            unfold legA legV at d3 ⊢
            generalize cb (Conn w (w * l) (pR (w * l) (jR S)) ∧ noAp w (w * l) (M0 8) (jR S)) = s1 at d3 ⊢
            generalize cb (fitP w (w * l) (jR S) (fun x => M0 8 (4 * x + 2)) (M0 7 (7 * lgO (M0 5) (jP S)) + 0) (M0 7 (7 * lgO (M0 5) (jP S) + 1) + 0) (M0 7 (7 * lgO (M0 5) (jP S) + 3) - M0 4 4) (M0 7 (7 * lgO (M0 5) (jP S) + 4) - M0 4 4)) = s2 at d3 ⊢
            generalize goV w l (pR (w * l) (jR S)) (M0 7 (7 * lgO (M0 5) (jP S) + 5)) (M0 7 (7 * lgO (M0 5) (jP S) + 2)) (M0 7 (7 * lgO (M0 5) (jP S) + 6)) (M0 5 5) = s3 at d3 ⊢
            by_cases q1 : s1 = 0
            · rw [if_pos q1] at d3; exact absurd (by decide) d3
            · rw [if_neg q1] at d3 ⊢
              by_cases q2 : s2 = 0
              · rw [if_pos q2] at d3; exact absurd (by decide) d3
              · rw [if_neg q2] at d3 ⊢
                by_cases q3 : s3 = -1
                · rw [if_pos q3] at d3; exact absurd (by decide) d3
                · rw [if_neg q3]
          refine pf_go (d := d + 5) n (jP S) (jM S) ((setN (w * l) (fun i => decide (M 48 (i : Int) ≠ -1)) : Nat) : Int) (lgO (M0 5) (jP S)) (legA w l (M0 5) (M0 7) (M0 8) (M0 4 4) (jR S) (lgO (M0 5) (jP S)) 0) hn a0 hC.2.2.2.2.2.2.2.2.1 hC.2.2.2.2.2.2.2.2.2.1 (fun Q' => s_bitsOf _ _ hG.2.2.2.2.1 hn24 (fun k h0 h1 => by have := c9 k h0 h1; omega)) (fun Q' => by
            rw [s_legBehind (jP S) ⟨by omega, by omega⟩ hri, e5]
            exact Iff.rfl) ?_
          refine s_goMinutes (d := d + 3) hG _ (bits_lt (lt24 w4 l6 (setN_lt _))) (lgO (M0 5) (jP S)) (M0 7 (7 * lgO (M0 5) (jP S) + 2)) (M0 7 (7 * lgO (M0 5) (jP S) + 5)) (M0 7 (7 * lgO (M0 5) (jP S) + 6)) (M0 5 5) ⟨lo.1, by omega⟩ (by rw [e7]) (by rw [e7]) (by rw [e7]) (by rw [e5]) hL.2.2.2.2.2.1 (legA w l (M0 5) (M0 7) (M0 8) (M0 4 4) (jR S) (lgO (M0 5) (jP S)) 0) (by rw [hC.bits hn24]; exact eg) (fun M2 hA2 => ?_)
          have C2 := hC.ag hA2
          generalize legA w l (M0 5) (M0 7) (M0 8) (M0 4 4) (jR S) (lgO (M0 5) (jP S)) 0 = g at *
          obtain ⟨hA1, hR1, f6, f7, f8, f9, f10, f12, f13, f14, f15, f16, f17⟩ := C2
          refine ⟨rfl, f14, kk _ lf ⟨fun y j hy => ?_, fun j j0 j1 => ?_, (by (try simp (disch := first | exact nl_i _ | exact nl_r _ | exact Nat.le_of_ble_eq_true rfl | exact Or.inl rfl | exact Or.inr rfl | exact w8_lo _ | exact w8_hi _ | decide | omega) only [up_s, up_b, up_j]) <;> first | rfl | exact f6 | exact f7 | exact f8 | exact f9 | exact f10 | exact f12 | exact f13 | exact f14 | exact f15 | exact f16 | exact f17), (by (try simp (disch := first | exact nl_i _ | exact nl_r _ | exact Nat.le_of_ble_eq_true rfl | exact Or.inl rfl | exact Or.inr rfl | exact w8_lo _ | exact w8_hi _ | decide | omega) only [up_s, up_b, up_j]) <;> first | rfl | exact f6 | exact f7 | exact f8 | exact f9 | exact f10 | exact f12 | exact f13 | exact f14 | exact f15 | exact f16 | exact f17), (by (try simp (disch := first | exact nl_i _ | exact nl_r _ | exact Nat.le_of_ble_eq_true rfl | exact Or.inl rfl | exact Or.inr rfl | exact w8_lo _ | exact w8_hi _ | decide | omega) only [up_s, up_b, up_j]) <;> first | rfl | exact f6 | exact f7 | exact f8 | exact f9 | exact f10 | exact f12 | exact f13 | exact f14 | exact f15 | exact f16 | exact f17), (by (try simp (disch := first | exact nl_i _ | exact nl_r _ | exact Nat.le_of_ble_eq_true rfl | exact Or.inl rfl | exact Or.inr rfl | exact w8_lo _ | exact w8_hi _ | decide | omega) only [up_s, up_b, up_j]) <;> first | rfl | exact f6 | exact f7 | exact f8 | exact f9 | exact f10 | exact f12 | exact f13 | exact f14 | exact f15 | exact f16 | exact f17), (by (try simp (disch := first | exact nl_i _ | exact nl_r _ | exact Nat.le_of_ble_eq_true rfl | exact Or.inl rfl | exact Or.inr rfl | exact w8_lo _ | exact w8_hi _ | decide | omega) only [up_s, up_b, up_j]) <;> first | rfl | exact f6 | exact f7 | exact f8 | exact f9 | exact f10 | exact f12 | exact f13 | exact f14 | exact f15 | exact f16 | exact f17), (by (try simp (disch := first | exact nl_i _ | exact nl_r _ | exact Nat.le_of_ble_eq_true rfl | exact Or.inl rfl | exact Or.inr rfl | exact w8_lo _ | exact w8_hi _ | decide | omega) only [up_s, up_b, up_j]) <;> first | rfl | exact f6 | exact f7 | exact f8 | exact f9 | exact f10 | exact f12 | exact f13 | exact f14 | exact f15 | exact f16 | exact f17), (by (try simp (disch := first | exact nl_i _ | exact nl_r _ | exact Nat.le_of_ble_eq_true rfl | exact Or.inl rfl | exact Or.inr rfl | exact w8_lo _ | exact w8_hi _ | decide | omega) only [up_s, up_b, up_j]) <;> first | rfl | exact f6 | exact f7 | exact f8 | exact f9 | exact f10 | exact f12 | exact f13 | exact f14 | exact f15 | exact f16 | exact f17), (by (try simp (disch := first | exact nl_i _ | exact nl_r _ | exact Nat.le_of_ble_eq_true rfl | exact Or.inl rfl | exact Or.inr rfl | exact w8_lo _ | exact w8_hi _ | decide | omega) only [up_s, up_b, up_j]) <;> first | rfl | exact f6 | exact f7 | exact f8 | exact f9 | exact f10 | exact f12 | exact f13 | exact f14 | exact f15 | exact f16 | exact f17), (by (try simp (disch := first | exact nl_i _ | exact nl_r _ | exact Nat.le_of_ble_eq_true rfl | exact Or.inl rfl | exact Or.inr rfl | exact w8_lo _ | exact w8_hi _ | decide | omega) only [up_s, up_b, up_j]) <;> first | rfl | exact f6 | exact f7 | exact f8 | exact f9 | exact f10 | exact f12 | exact f13 | exact f14 | exact f15 | exact f16 | exact f17), (by (try simp (disch := first | exact nl_i _ | exact nl_r _ | exact Nat.le_of_ble_eq_true rfl | exact Or.inl rfl | exact Or.inr rfl | exact w8_lo _ | exact w8_hi _ | decide | omega) only [up_s, up_b, up_j]) <;> first | rfl | exact f6 | exact f7 | exact f8 | exact f9 | exact f10 | exact f12 | exact f13 | exact f14 | exact f15 | exact f16 | exact f17), (by (try simp (disch := first | exact nl_i _ | exact nl_r _ | exact Nat.le_of_ble_eq_true rfl | exact Or.inl rfl | exact Or.inr rfl | exact w8_lo _ | exact w8_hi _ | decide | omega) only [up_s, up_b, up_j]) <;> first | rfl | exact f6 | exact f7 | exact f8 | exact f9 | exact f10 | exact f12 | exact f13 | exact f14 | exact f15 | exact f16 | exact f17)⟩ (LF_e rfl rfl hF)⟩
          · unfold jX at hy
            rw [up_b' (by omega), up_b' (by omega), up_b' (by omega)]
            exact hA1 y j (by unfold jX; omega)
          · rw [up_b (by decide), up_b (by decide), up_b (by decide)]
            exact hR1 j j0 j1
  · rw [if_neg (by decide), if_neg (by decide)] at hz kk
    rcases plc_sp (R := jR S) (b := x) (n := w * l) with ⟨h9, _⟩ | ⟨k, hk, hp, hRk⟩
    · rw [if_pos h9] at hz
      exact absurd (show (1 : Int) = 0 from hz) (by decide)
    · have h9 : ¬ plc (jR S) x (w * l) = -1 := by omega
      rw [if_neg h9, if_pos rfl] at hz kk
      by_cases d2 : offS (M0 5) (M0 8) x ≠ jP S
      · rw [if_pos d2] at hz
        exact absurd (show (2 : Int) = 0 from hz) (by decide)
      · rw [if_neg d2] at kk
        rw [hp] at kk
        refine pf_tk hV hC hJ hi n hn 0 x (by decide) g0 g1 hx k hk hp (fun M3 C3 => ?_)
        rw [pf_2 n x (k : Int) (lf : Int) C3.2.2.2.2.2.2.1]
        have ol : or32 (lf : Int) (shl32 1 x) = ((lf ||| 2 ^ x.toNat : Nat) : Int) := by
          have := set32 lf x.toNat (by omega) (by have := hF.1; omega)
          rw [show ((x.toNat : Nat) : Int) = x by omega] at this
          exact this
        rw [ol]
        refine kk _ (lf ||| 2 ^ x.toNat) ?_ (LF_off (T := wtd (M0 5) (M0 6) S) (m := M0 5 2) hn24 (by rw [we.1, we.2.2.1]; exact raft) (LF_e we.1 we.2.2.1 hF) ⟨hx.1, by omega⟩ k hk (by rw [we.1]; exact hRk) _ rfl rfl)
        obtain ⟨hA1, hR1, f6, f7, f8, f9, f10, f12, f13, f14, f15, f16, f17⟩ := C3
        refine ⟨fun y j hy => ?_, fun j j0 j1 => ?_, (by (try simp (disch := first | exact nl_i _ | exact nl_r _ | exact Nat.le_of_ble_eq_true rfl | exact Or.inl rfl | exact Or.inr rfl | exact w8_lo _ | exact w8_hi _ | decide | omega) only [up_s, up_b, up_j]) <;> first | rfl | exact f6 | exact f7 | exact f8 | exact f9 | exact f10 | exact f12 | exact f13 | exact f14 | exact f15 | exact f16 | exact f17), (by (try simp (disch := first | exact nl_i _ | exact nl_r _ | exact Nat.le_of_ble_eq_true rfl | exact Or.inl rfl | exact Or.inr rfl | exact w8_lo _ | exact w8_hi _ | decide | omega) only [up_s, up_b, up_j]) <;> first | rfl | exact f6 | exact f7 | exact f8 | exact f9 | exact f10 | exact f12 | exact f13 | exact f14 | exact f15 | exact f16 | exact f17), (by (try simp (disch := first | exact nl_i _ | exact nl_r _ | exact Nat.le_of_ble_eq_true rfl | exact Or.inl rfl | exact Or.inr rfl | exact w8_lo _ | exact w8_hi _ | decide | omega) only [up_s, up_b, up_j]) <;> first | rfl | exact f6 | exact f7 | exact f8 | exact f9 | exact f10 | exact f12 | exact f13 | exact f14 | exact f15 | exact f16 | exact f17), (by (try simp (disch := first | exact nl_i _ | exact nl_r _ | exact Nat.le_of_ble_eq_true rfl | exact Or.inl rfl | exact Or.inr rfl | exact w8_lo _ | exact w8_hi _ | decide | omega) only [up_s, up_b, up_j]) <;> first | rfl | exact f6 | exact f7 | exact f8 | exact f9 | exact f10 | exact f12 | exact f13 | exact f14 | exact f15 | exact f16 | exact f17), (by (try simp (disch := first | exact nl_i _ | exact nl_r _ | exact Nat.le_of_ble_eq_true rfl | exact Or.inl rfl | exact Or.inr rfl | exact w8_lo _ | exact w8_hi _ | decide | omega) only [up_s, up_b, up_j]) <;> first | rfl | exact f6 | exact f7 | exact f8 | exact f9 | exact f10 | exact f12 | exact f13 | exact f14 | exact f15 | exact f16 | exact f17), (by (try simp (disch := first | exact nl_i _ | exact nl_r _ | exact Nat.le_of_ble_eq_true rfl | exact Or.inl rfl | exact Or.inr rfl | exact w8_lo _ | exact w8_hi _ | decide | omega) only [up_s, up_b, up_j]) <;> first | rfl | exact f6 | exact f7 | exact f8 | exact f9 | exact f10 | exact f12 | exact f13 | exact f14 | exact f15 | exact f16 | exact f17), (by (try simp (disch := first | exact nl_i _ | exact nl_r _ | exact Nat.le_of_ble_eq_true rfl | exact Or.inl rfl | exact Or.inr rfl | exact w8_lo _ | exact w8_hi _ | decide | omega) only [up_s, up_b, up_j]) <;> first | rfl | exact f6 | exact f7 | exact f8 | exact f9 | exact f10 | exact f12 | exact f13 | exact f14 | exact f15 | exact f16 | exact f17), (by (try simp (disch := first | exact nl_i _ | exact nl_r _ | exact Nat.le_of_ble_eq_true rfl | exact Or.inl rfl | exact Or.inr rfl | exact w8_lo _ | exact w8_hi _ | decide | omega) only [up_s, up_b, up_j]) <;> first | rfl | exact f6 | exact f7 | exact f8 | exact f9 | exact f10 | exact f12 | exact f13 | exact f14 | exact f15 | exact f16 | exact f17), (by (try simp (disch := first | exact nl_i _ | exact nl_r _ | exact Nat.le_of_ble_eq_true rfl | exact Or.inl rfl | exact Or.inr rfl | exact w8_lo _ | exact w8_hi _ | decide | omega) only [up_s, up_b, up_j]) <;> first | rfl | exact f6 | exact f7 | exact f8 | exact f9 | exact f10 | exact f12 | exact f13 | exact f14 | exact f15 | exact f16 | exact f17), (by (try simp (disch := first | exact nl_i _ | exact nl_r _ | exact Nat.le_of_ble_eq_true rfl | exact Or.inl rfl | exact Or.inr rfl | exact w8_lo _ | exact w8_hi _ | decide | omega) only [up_s, up_b, up_j]) <;> first | rfl | exact f6 | exact f7 | exact f8 | exact f9 | exact f10 | exact f12 | exact f13 | exact f14 | exact f15 | exact f16 | exact f17), (by (try simp (disch := first | exact nl_i _ | exact nl_r _ | exact Nat.le_of_ble_eq_true rfl | exact Or.inl rfl | exact Or.inr rfl | exact w8_lo _ | exact w8_hi _ | decide | omega) only [up_s, up_b, up_j]) <;> first | rfl | exact f6 | exact f7 | exact f8 | exact f9 | exact f10 | exact f12 | exact f13 | exact f14 | exact f15 | exact f16 | exact f17)⟩
        · unfold jX at hy
          rw [up_b' (by omega)]
          exact hA1 y j (by unfold jX; omega)
        · rw [up_b (by decide)]
          exact hR1 j j0 j1
  · have hn3 : ¬ wh = 3 := by omega
    have fr0 : ∀ {R : Int → Int}, cb (frJ w l R ro co) ≠ 0 → frJ w l R ro co := fun {R} h => by
      apply Classical.byContradiction
      intro h9
      exact h (cb_f h9)
    rw [if_neg hn3] at hz kk
    rcases hw12 with rfl | rfl
    · rw [if_pos rfl] at hz kk
      by_cases d1 : onS (M0 5) (M0 8) x ≠ jP S ∨ (jC S).testBit x.toNat = true
      · rw [if_pos d1] at hz
        exact absurd (show (1 : Int) = 0 from hz) (by decide)
      · rw [if_neg d1] at hz kk
        by_cases d2 : cb (frJ w l (jR S) ro co) = 0
        · rw [if_pos d2] at hz
          exact absurd (show (3 : Int) = 0 from hz) (by decide)
        · rw [if_neg d2] at kk
          have hf := fr0 d2
          have hno : ∀ j, 0 ≤ j → j < 24 → jR S j ≠ x := fun j j0 j1 he => d1 (Or.inr (by
            have := hJ.2.2.1 j j0 j1 (by omega)
            rw [he] at this
            exact this))
          have hpl : plc (jR S) x (w * l) = -1 := plc_no (fun i hi => hno (i : Int) (by omega) (by omega))
          have ci := cell_i ⟨hf.1, hf.2.1⟩
          refine pf_1 (d := d + 5) n 1 x hn (by decide) a0 ?_
          refine s_await (d := d + 3) hV hC ⟨jp, hJ.2.2.2.2.2.2.1, by have := hJ.2.2.2.2.2.2.2.1; omega⟩ (fun M1 C1 => ⟨rfl, ?_, -1, fun Q' => ?_, Or.inl ⟨fun Q' => ?_, ?_⟩⟩)
          · have f12 : M1 12 = M0 12 := C1.f (by decide)
            rw [f12, ← g1]; congr 1; omega
          · have c9 : ∀ j, 0 ≤ j → j < 24 → -1 ≤ M1 48 j ∧ M1 48 j < 9 := fun j j0 j1 => by
              rw [C1.2.1 j j0 j1, we.1]
              have := (hJ.1 j j0 j1).1
              omega
            rw [s_cellOf (w * l) x C1.2.2.1 hn24 c9 ⟨by omega, by omega⟩, C1.plc hn24, we.1, hpl]
          · have hG1 := C1.gs hV
            rw [s_hasCell (-1) ⟨by decide, by decide⟩ (by rw [hG1.2.2.2.2.1]; omega), bi_f (by omega)]
          · refine pf_put hV _ C1 (by rw [we.1, we.2.2.1]; exact raft) (by rw [we.2.1]; exact jp) (by rw [we.2.2.1]; exact hJ.2.2.2.2.2.1) n hn 1 x (-1) ro co (by decide) hx g2 g3 ⟨hf.1, hf.2.1⟩ (fun M' C' => kk M' lf C' ?_)
            have hF' : LF (w * l) (wtd (M0 5) (M0 6) S) lf := LF_e we.1 we.2.2.1 hF
            refine LF_on (T := wtd (M0 5) (M0 6) S) (m := M0 5 2) hn24 (by rw [we.1, we.2.2.1]; exact raft) hx r2.2 (ro * (w : Int) + co) ci (by rw [we.1]; exact hf.2.2) (by rw [we.1]; exact hno) hF.1 (fun y hy _ => hF'.2 y hy) ?_ _ rfl rfl
            rw [hF.2 x.toNat (by omega), show (jC S).testBit x.toNat = false from by simpa using fun h => d1 (Or.inr h)]
            rfl
    · rw [if_neg (by decide)] at hz kk
      rcases plc_sp (R := jR S) (b := x) (n := w * l) with ⟨h9, _⟩ | ⟨k, hk, hp, hRk⟩
      · rw [if_pos h9] at hz
        exact absurd (show (1 : Int) = 0 from hz) (by decide)
      · have h9 : ¬ plc (jR S) x (w * l) = -1 := by omega
        rw [if_neg h9, if_neg (by decide)] at hz kk
        by_cases d2 : cb (frJ w l (jR S) ro co) = 0
        · rw [if_pos d2] at hz
          exact absurd (show (3 : Int) = 0 from hz) (by decide)
        · rw [if_neg d2] at kk
          have hf := fr0 d2
          have ci := cell_i ⟨hf.1, hf.2.1⟩
          rw [hp] at kk
          have nk : ro * (w : Int) + co ≠ (k : Int) := fun h => by
            have := hf.2.2
            rw [h, hRk] at this
            omega
          have eT : jR (tkf w l (M0 5) (M0 6) (wtd (M0 5) (M0 6) S) (k : Int)) = updR (jR S) (k : Int) (-1) := by rw [← we.1]; rfl
          have eC : jC (tkf w l (M0 5) (M0 6) (wtd (M0 5) (M0 6) S) (k : Int)) = jC S := we.2.2.1
          have raft2 : jRaft (w * l) (M0 5 2) (jR (tkf w l (M0 5) (M0 6) (wtd (M0 5) (M0 6) S) (k : Int))) (jC (tkf w l (M0 5) (M0 6) (wtd (M0 5) (M0 6) S) (k : Int))) := by
            rw [eT, eC]
            exact jRaft_off raft r2.1
          refine pf_tk hV hC hJ hi n hn 2 x (by decide) g0 g1 hx k hk hp (fun M3 C3 => ?_)
          refine pf_put hV _ C3 raft2 (by rw [show jP (tkf w l (M0 5) (M0 6) (wtd (M0 5) (M0 6) S) (k : Int)) = jP S from we.2.1]; exact jp) (by rw [eC]; exact hJ.2.2.2.2.2.1) n hn 2 x (k : Int) ro co (by decide) hx g2 g3 ⟨hf.1, hf.2.1⟩ (fun M' C' => kk M' lf C' ?_)
          have hno : ∀ j, 0 ≤ j → j < 24 → jR (tkf w l (M0 5) (M0 6) (wtd (M0 5) (M0 6) S) (k : Int)) j ≠ x := fun j j0 j1 he => by
            rw [eT] at he
            by_cases ej : j = (k : Int)
            · rw [ej, updR_s] at he; omega
            · rw [updR_j ej] at he
              rcases hJ.2.1 j (k : Int) j0 j1 (by omega) (by omega) (by rw [he, hRk]) with h | h
              · omega
              · exact ej h
          refine LF_on (m := M0 5 2) hn24 raft2 hx r2.2 (ro * (w : Int) + co) ci (by rw [eT, updR_j nk]; exact hf.2.2) hno hF.1 (fun y hy hyx => ?_) ?_ _ rfl rfl
          · rw [hF.2 y hy, eC, eT]
            congr 2
            have key : plc (jR S) (y : Int) (w * l) = -1 ↔ plc (updR (jR S) (k : Int) (-1)) (y : Int) (w * l) = -1 := by
              rw [plc_on hn24 raft (by omega), plc_on hn24 (jRaft_off raft r2.1) (by omega)]
              constructor
              · intro h j j0 j1
                by_cases ej : j = (k : Int)
                · rw [ej, updR_s]; omega
                · rw [updR_j ej]; exact h j j0 j1
              · intro h j j0 j1
                by_cases ej : j = (k : Int)
                · rw [ej, hRk]; exact fun h => hyx h.symm
                · have := h j j0 j1
                  rw [updR_j ej] at this
                  exact this
            exact propext key
          · rw [hF.2 x.toNat (by omega), show ((x.toNat : Nat) : Int) = x by omega, decide_eq_false h9, Bool.and_false]
end KB
