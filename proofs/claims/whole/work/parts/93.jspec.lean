/-! THE JUDGEMENT, apart from both machines -/
/-- the first CELL of a BARGE -/
def fstC (R : Int → Int) (b : Int) : Nat → Nat → Int
  | 0, _ => -1
  | t + 1, k => if R (k : Int) = b then (k : Int) else fstC R b t (k + 1)
def plc (R : Int → Int) (b : Int) (n : Nat) : Int := fstC R b n 0
theorem fstC_sp {R : Int → Int} {b : Int} : ∀ (t k : Nat), (fstC R b t k = -1 ∧ ∀ i : Nat, k ≤ i → i < k + t → R (i : Int) ≠ b) ∨ ∃ i : Nat, (k ≤ i ∧ i < k + t) ∧ fstC R b t k = (i : Int) ∧ R (i : Int) = b
  | 0, k => Or.inl ⟨rfl, fun i h1 h2 => absurd h2 (by omega)⟩
  | t + 1, k => by
    unfold fstC
    by_cases h : R (k : Int) = b
    · rw [if_pos h]
      exact Or.inr ⟨k, ⟨Nat.le_refl k, by omega⟩, rfl, h⟩
    · rw [if_neg h]
      rcases fstC_sp (R := R) (b := b) t (k + 1) with ⟨h1, h2⟩ | ⟨i, h1, h2, h3⟩
      · refine Or.inl ⟨h1, fun i hi1 hi2 => ?_⟩
        by_cases e : i = k
        · rw [e]; exact h
        · exact h2 i (by omega) (by omega)
      · exact Or.inr ⟨i, by omega, h2, h3⟩
theorem plc_sp {R : Int → Int} {b : Int} {n : Nat} : (plc R b n = -1 ∧ ∀ i : Nat, i < n → R (i : Int) ≠ b) ∨ ∃ i : Nat, i < n ∧ plc R b n = (i : Int) ∧ R (i : Int) = b := by
  rcases fstC_sp (R := R) (b := b) n 0 with ⟨h1, h2⟩ | ⟨i, h1, h2, h3⟩
  · exact Or.inl ⟨h1, fun i hi => h2 i (Nat.zero_le i) (by omega)⟩
  · exact Or.inr ⟨i, by omega, h2, h3⟩
theorem fstC_cg {R R2 : Int → Int} {b : Int} : ∀ (t k : Nat), (∀ i : Nat, k ≤ i → i < k + t → R (i : Int) = R2 (i : Int)) → fstC R b t k = fstC R2 b t k
  | 0, _, _ => rfl
  | t + 1, k, h => by
    unfold fstC
    rw [h k (Nat.le_refl k) (by omega), fstC_cg t (k + 1) (fun i h1 h2 => h i (by omega) (by omega))]
theorem plc_cg {R R2 : Int → Int} {b : Int} {n : Nat} (h : ∀ i : Nat, i < n → R (i : Int) = R2 (i : Int)) : plc R b n = plc R2 b n := fstC_cg n 0 (fun i _ h2 => h i (by omega))
theorem plc_no {R : Int → Int} {b : Int} {n : Nat} (h : ∀ i : Nat, i < n → R (i : Int) ≠ b) : plc R b n = -1 := by
  rcases plc_sp (R := R) (b := b) (n := n) with ⟨h1, _⟩ | ⟨i, h1, _, h3⟩
  · exact h1
  · exact absurd h3 (h i h1)
/-- filled CELLS -/
def pR (n : Nat) (R : Int → Int) : Nat → Bool := (setN n (fun i => decide (R (i : Int) ≠ -1))).testBit
def onS (r b : Int → Int) (x : Int) : Int := if b (4 * x) < b (4 * x + 1) then b (4 * x) else 2 * (r 0 - 1) - b (4 * x)
def offS (r b : Int → Int) (x : Int) : Int := if b (4 * x) < b (4 * x + 1) then b (4 * x + 1) else 2 * (r 0 - 1) - b (4 * x + 1)
def quO (r : Int → Int) (s : Int) : Int := if s < r 0 then s else 2 * (r 0 - 1) - s
def lgO (r : Int → Int) (s : Int) : Int := if s < r 0 - 1 then s else 2 * (r 0 - 1) - s - 1
def wtV (o c mi : Int) : Int := if mi % 1440 < o then o - mi % 1440 else if mi % 1440 < c then 0 else 1440 - mi % 1440 + o
/-- RAFT, minute, STOP, who came, whether one worked, untied, tied, waited -/
abbrev JSt : Type := (Int → Int) × Int × Int × Nat × Int × Int × Int × Int
def jR (S : JSt) : Int → Int := S.1
def jM (S : JSt) : Int := S.2.1
def jP (S : JSt) : Int := S.2.2.1
def jC (S : JSt) : Nat := S.2.2.2.1
def jW (S : JSt) : Int := S.2.2.2.2.1
def jU (S : JSt) : Int := S.2.2.2.2.2.1
def jT (S : JSt) : Int := S.2.2.2.2.2.2.1
def jA (S : JSt) : Int := S.2.2.2.2.2.2.2
def updR (R : Int → Int) (k x : Int) : Int → Int := fun j => if j = k then x else R j
section JS
variable (w l : Nat) (r q lg b : Int → Int) (fl : Int)
/-- somebody is due -/
def dueJ (S : JSt) : Prop := ∃ x : Nat, (x : Int) < r 2 ∧ ((onS r b x = jP S ∧ (jC S).testBit x = false) ∨ (offS r b x = jP S ∧ plc (jR S) x (w * l) ≠ -1))
noncomputable def legA (R : Int → Int) (k mo : Int) : Int := legV (Conn w (w * l) (pR (w * l) R) ∧ noAp w (w * l) b R) (fitP w (w * l) R (fun x => b (4 * x + 2)) (lg (7 * k) + mo) (lg (7 * k + 1) + mo) (lg (7 * k + 3) - fl) (lg (7 * k + 4) - fl)) (goV w l (pR (w * l) R) (lg (7 * k + 5)) (lg (7 * k + 2)) (lg (7 * k + 6)) (r 5))
def takJ (R : Int → Int) (p k : Int) : Int × Int × Int × Int × Int := tkR w (w * l) (pR (w * l) R) k.toNat (r 5) (r 6) (r 7) (q (3 * quO r p))
def wtJ (S : JSt) : Int := wtV (q (3 * quO r (jP S) + 1)) (q (3 * quO r (jP S) + 2)) (jM S)
def wtd (S : JSt) : JSt := if jW S = 1 then S else (jR S, jM S + wtJ r q S, jP S, jC S, 1, jU S, jT S, jA S + wtJ r q S)
def tkf (S : JSt) (k : Int) : JSt := (updR (jR S) k (-1), jM S + (takJ w l r q (jR S) (jP S) k).1, jP S, jC S, jW S, jU S + (takJ w l r q (jR S) (jP S) k).2.2.1, jT S + (takJ w l r q (jR S) (jP S) k).2.2.2.1, jA S)
def putJ (S : JSt) (x k : Int) : JSt := (updR (jR S) k x, jM S + (takJ w l r q (updR (jR S) k x) (jP S) k).1, jP S, jC S ||| 2 ^ x.toNat, jW S, jU S + (takJ w l r q (updR (jR S) k x) (jP S) k).2.2.2.1, jT S + (takJ w l r q (updR (jR S) k x) (jP S) k).2.2.1, jA S)
def frJ (R : Int → Int) (ro co : Int) : Prop := (0 ≤ ro ∧ ro < (l : Int)) ∧ (0 ≤ co ∧ co < (w : Int)) ∧ R (ro * (w : Int) + co) = -1
/-- an ACT: why it is WRONG, and what is then -/
noncomputable def jdo (S : JSt) (wh x ro co : Int) : Int × JSt :=
  if wh = 3 then
    if jP S = 2 * (r 0 - 1) then (4, S) else if cb (dueJ w l r b S) = 1 then (5, S) else if legA w l r lg b fl (jR S) (lgO r (jP S)) 0 < 0 then (5 - legA w l r lg b fl (jR S) (lgO r (jP S)) 0, S) else (0, (jR S, jM S + legA w l r lg b fl (jR S) (lgO r (jP S)) 0, jP S + 1, jC S, 0, jU S, jT S, jA S))
  else if wh = 1 then
    if onS r b x ≠ jP S ∨ (jC S).testBit x.toNat = true then (1, S) else if cb (frJ w l (jR S) ro co) = 0 then (3, S) else (0, putJ w l r q (wtd r q S) x (ro * (w : Int) + co))
  else if plc (jR S) x (w * l) = -1 then (1, S)
  else if wh = 0 then
    if offS r b x ≠ jP S then (2, S) else (0, tkf w l r q (wtd r q S) (plc (jR S) x (w * l)))
  else if cb (frJ w l (jR S) ro co) = 0 then (3, S) else (0, putJ w l r q (tkf w l r q (wtd r q S) (plc (jR S) x (w * l))) x (ro * (w : Int) + co))
noncomputable def jrun (ac : Int → Int) : Nat → Nat → JSt → Int × Nat × JSt
  | 0, i, S => (0, i, S)
  | t + 1, i, S => if (jdo w l r q lg b fl S (ac (4 * (i : Int))) (ac (4 * (i : Int) + 1)) (ac (4 * (i : Int) + 2)) (ac (4 * (i : Int) + 3))).1 = 0 then jrun ac t (i + 1) (jdo w l r q lg b fl S (ac (4 * (i : Int))) (ac (4 * (i : Int) + 1)) (ac (4 * (i : Int) + 2)) (ac (4 * (i : Int) + 3))).2 else ((jdo w l r q lg b fl S (ac (4 * (i : Int))) (ac (4 * (i : Int) + 1)) (ac (4 * (i : Int) + 2)) (ac (4 * (i : Int) + 3))).1, i, S)
/-- what holds of it -/
def JI (i : Nat) (S : JSt) : Prop :=
  (∀ k, 0 ≤ k → k < 24 → (-1 ≤ jR S k ∧ jR S k < r 2) ∧ (((w * l : Nat) : Int) ≤ k → jR S k = -1)) ∧
  (∀ j k, 0 ≤ j → j < 24 → 0 ≤ k → k < 24 → jR S j = jR S k → jR S j = -1 ∨ j = k) ∧
  (∀ k, 0 ≤ k → k < 24 → jR S k ≠ -1 → (jC S).testBit (jR S k).toNat = true) ∧
  (∀ x : Nat, (x : Int) < r 2 → onS r b x < jP S → (jC S).testBit x = true) ∧
  (0 ≤ jP S ∧ jP S ≤ 2 * (r 0 - 1)) ∧ jC S < 512 ∧ (jW S = 0 ∨ jW S = 1) ∧
  (0 ≤ jM S ∧ jM S ≤ 2000 + 50000 * (i : Int)) ∧ (0 ≤ jU S ∧ jU S ≤ 1000 * (i : Int)) ∧ (0 ≤ jT S ∧ jT S ≤ 1000 * (i : Int)) ∧ (0 ≤ jA S ∧ jA S ≤ 5000 * (i : Int))
end JS
theorem on_off {r q b : Int → Int} (h : RIf r q b) {x : Int} (h0 : 0 ≤ x) (h1 : x < r 2) : (0 ≤ onS r b x ∧ onS r b x < offS r b x ∧ offS r b x ≤ 2 * (r 0 - 1)) := by
  obtain ⟨a1, a2, a3, -⟩ := h.2.2.2.2.2.2.2.2.2 x h0 h1
  unfold onS offS
  by_cases c : b (4 * x) < b (4 * x + 1)
  · rw [if_pos c, if_pos c]; omega
  · rw [if_neg c, if_neg c]; omega
theorem wtV_b {o c mi : Int} (h1 : 0 ≤ o ∧ o < 1440) : 0 ≤ wtV o c mi ∧ wtV o c mi ≤ 2880 := by
  unfold wtV
  by_cases c1 : mi % 1440 < o
  · rw [if_pos c1]; omega
  · rw [if_neg c1]
    by_cases c2 : mi % 1440 < c
    · rw [if_pos c2]; omega
    · rw [if_neg c2]; omega
theorem pR_lt {n : Nat} {R : Int → Int} {i : Nat} : pR n R i = true ↔ i < n ∧ R (i : Int) ≠ -1 := by
  unfold pR
  rw [setN_t, Bool.and_eq_true, decide_eq_true_iff, decide_eq_true_iff]
theorem tkR_ut {w n : Nat} {P : Nat → Bool} {k : Nat} {kn ho tu side : Int} (hn : n ≤ 24) : (0 ≤ (tkR w n P k kn ho tu side).2.2.1 ∧ (tkR w n P k kn ho tu side).2.2.1 ≤ 48) ∧ 0 ≤ (tkR w n P k kn ho tu side).2.2.2.1 ∧ (tkR w n P k kn ho tu side).2.2.2.1 ≤ 48 := by
  have T : ∀ b, (0 ≤ (tkT w n P k kn ho tu b).2.2.1 ∧ (tkT w n P k kn ho tu b).2.2.1 ≤ 48) ∧ 0 ≤ (tkT w n P k kn ho tu b).2.2.2.1 ∧ (tkT w n P k kn ho tu b).2.2.2.1 ≤ 48 := fun b => by
    have hb := ut_b (w := w) (n := n) (P := P) (k := k) (b := b)
    unfold tkT
    show (0 ≤ ((uN w n P k b : Nat) : Int) ∧ ((uN w n P k b : Nat) : Int) ≤ 48) ∧ 0 ≤ ((tN w n P k b : Nat) : Int) ∧ ((tN w n P k b : Nat) : Int) ≤ 48
    omega
  have m : ∀ {a c : Int × Int × Int × Int × Int}, ((0 ≤ a.2.2.1 ∧ a.2.2.1 ≤ 48) ∧ 0 ≤ a.2.2.2.1 ∧ a.2.2.2.1 ≤ 48) → ((0 ≤ c.2.2.1 ∧ c.2.2.1 ≤ 48) ∧ 0 ≤ c.2.2.2.1 ∧ c.2.2.2.1 ≤ 48) → ((0 ≤ (mnT a c).2.2.1 ∧ (mnT a c).2.2.1 ≤ 48) ∧ 0 ≤ (mnT a c).2.2.2.1 ∧ (mnT a c).2.2.2.1 ≤ 48) := fun {a c} ha hc => by
    unfold mnT
    by_cases h : c.1 < a.1
    · rw [if_pos h]; exact hc
    · rw [if_neg h]; exact ha
  unfold tkR
  by_cases e : side = 1
  · rw [if_pos e]; exact m (T 0) (T 2)
  · rw [if_neg e]
    by_cases e2 : side = 2
    · rw [if_pos e2]; exact m (T 1) (T 2)
    · rw [if_neg e2]; exact m (m (T 0) (T 1)) (T 2)
section JP
variable {w l : Nat} {r q lg b : Int → Int} {fl : Int}
theorem takJ_b {R : Int → Int} {p k : Int} (hn : w * l ≤ 24) (hR : RIf r q b) : (0 ≤ (takJ w l r q R p k).1 ∧ (takJ w l r q R p k).1 ≤ 10000) ∧ (0 ≤ (takJ w l r q R p k).2.2.1 ∧ (takJ w l r q R p k).2.2.1 ≤ 48) ∧ 0 ≤ (takJ w l r q R p k).2.2.2.1 ∧ (takJ w l r q R p k).2.2.2.1 ≤ 48 := by
  have h5 := hR.2.2.2.2.2.1
  exact ⟨tkR_b hn ⟨by omega, by omega⟩ hR.2.2.2.2.2.2.1 hR.2.2.2.2.2.2.2.1, tkR_ut hn⟩
theorem quO_b {s : Int} (h : 0 ≤ s ∧ s ≤ 2 * (r 0 - 1)) : 0 ≤ quO r s ∧ quO r s < r 0 := by
  unfold quO
  by_cases c : s < r 0
  · rw [if_pos c]; omega
  · rw [if_neg c]; omega
theorem lgO_b {s : Int} (h : 0 ≤ s ∧ s < 2 * (r 0 - 1)) : 0 ≤ lgO r s ∧ lgO r s < r 0 - 1 := by
  unfold lgO
  by_cases c : s < r 0 - 1
  · rw [if_pos c]; omega
  · rw [if_neg c]; omega
theorem wtd_e {S : JSt} : jR (wtd r q S) = jR S ∧ jP (wtd r q S) = jP S ∧ jC (wtd r q S) = jC S ∧ jU (wtd r q S) = jU S ∧ jT (wtd r q S) = jT S := by
  unfold wtd
  by_cases h : jW S = 1
  · rw [if_pos h]; exact ⟨rfl, rfl, rfl, rfl, rfl⟩
  · rw [if_neg h]; exact ⟨rfl, rfl, rfl, rfl, rfl⟩
theorem wtd_b {S : JSt} (hR : RIf r q b) (hp : 0 ≤ jP S ∧ jP S ≤ 2 * (r 0 - 1)) (hw : jW S = 0 ∨ jW S = 1) : (jM S ≤ jM (wtd r q S) ∧ jM (wtd r q S) ≤ jM S + 2880) ∧ (jA S ≤ jA (wtd r q S) ∧ jA (wtd r q S) ≤ jA S + 2880) ∧ jW (wtd r q S) = 1 := by
  have hq := quO_b hp
  have hh := hR.2.2.2.2.2.2.2.2.1 (quO r (jP S)) hq.1 hq.2
  have wb := wtV_b (c := q (3 * quO r (jP S) + 2)) (mi := jM S) hh.2.1
  unfold wtd
  by_cases h : jW S = 1
  · rw [if_pos h]; omega
  · rw [if_neg h]
    show (jM S ≤ jM S + wtJ r q S ∧ jM S + wtJ r q S ≤ jM S + 2880) ∧ (jA S ≤ jA S + wtJ r q S ∧ jA S + wtJ r q S ≤ jA S + 2880) ∧ (1 : Int) = 1
    unfold wtJ
    omega
/-- a RAFT of an ACT -/
def jRaft (n : Nat) (m : Int) (R : Int → Int) (C : Nat) : Prop :=
  (∀ k, 0 ≤ k → k < 24 → (-1 ≤ R k ∧ R k < m) ∧ ((n : Int) ≤ k → R k = -1)) ∧
  (∀ j k, 0 ≤ j → j < 24 → 0 ≤ k → k < 24 → R j = R k → R j = -1 ∨ j = k) ∧
  (∀ k, 0 ≤ k → k < 24 → R k ≠ -1 → C.testBit (R k).toNat = true)
theorem jRaft_off {n : Nat} {m : Int} {R : Int → Int} {C : Nat} {k : Int} (h : jRaft n m R C) (hm : 0 ≤ m) : jRaft n m (updR R k (-1)) C := by
  obtain ⟨h1, h2, h3⟩ := h
  unfold jRaft
  simp only [updR]
  refine ⟨fun j j0 j1 => ?_, fun i j i0 i1 j0 j1 he => ?_, fun j j0 j1 hne => ?_⟩
  · by_cases e : j = k
    · rw [if_pos e]; omega
    · rw [if_neg e]; exact h1 j j0 j1
  · by_cases e : i = k
    · rw [if_pos e]; exact Or.inl rfl
    · rw [if_neg e] at he ⊢
      by_cases e2 : j = k
      · rw [if_pos e2] at he; exact Or.inl he
      · rw [if_neg e2] at he; exact h2 i j i0 i1 j0 j1 he
  · by_cases e : j = k
    · rw [if_pos e] at hne; exact absurd rfl hne
    · rw [if_neg e] at hne ⊢; exact h3 j j0 j1 hne
theorem jRaft_on {n : Nat} {m : Int} {R : Int → Int} {C : Nat} {k x : Int} (h : jRaft n m R C) (hk : 0 ≤ k ∧ k < (n : Int)) (hx : 0 ≤ x ∧ x < m) (hno : ∀ j, 0 ≤ j → j < 24 → R j ≠ x) : jRaft n m (updR R k x) (C ||| 2 ^ x.toNat) := by
  obtain ⟨h1, h2, h3⟩ := h
  unfold jRaft
  simp only [updR]
  refine ⟨fun j j0 j1 => ?_, fun i j i0 i1 j0 j1 he => ?_, fun j j0 j1 hne => ?_⟩
  · by_cases e : j = k
    · rw [if_pos e]; omega
    · rw [if_neg e]; exact h1 j j0 j1
  · by_cases e : i = k
    · rw [if_pos e] at he ⊢
      by_cases e2 : j = k
      · exact Or.inr (by omega)
      · rw [if_neg e2] at he; exact absurd he.symm (hno j j0 j1)
    · rw [if_neg e] at he ⊢
      by_cases e2 : j = k
      · rw [if_pos e2] at he; exact absurd he (hno i i0 i1)
      · rw [if_neg e2] at he; exact h2 i j i0 i1 j0 j1 he
  · rw [set_t]
    by_cases e : j = k
    · rw [if_pos e, decide_eq_true rfl, Bool.or_true]
    · rw [if_neg e] at hne ⊢; rw [h3 j j0 j1 hne, Bool.true_or]
theorem plc_on {n : Nat} {m : Int} {R : Int → Int} {C : Nat} {x : Int} (hn : n ≤ 24) (h : jRaft n m R C) (hx : 0 ≤ x) : plc R x n = -1 ↔ ∀ j, 0 ≤ j → j < 24 → R j ≠ x := by
  constructor
  · intro hp j j0 j1 he
    rcases plc_sp (R := R) (b := x) (n := n) with ⟨_, h2⟩ | ⟨i, _, h2, _⟩
    · by_cases hj : j < (n : Int)
      · have := h2 j.toNat (by omega)
        rw [show ((j.toNat : Nat) : Int) = j by omega] at this
        exact this he
      · have := (h.1 j j0 j1).2 (by omega)
        omega
    · omega
  · intro hj
    exact plc_no (fun i hi => hj i (by omega) (by omega))
theorem updR_s {R : Int → Int} {k x : Int} : updR R k x k = x := if_pos rfl
theorem updR_j {R : Int → Int} {k x j : Int} (h : j ≠ k) : updR R k x j = R j := if_neg h
theorem JI.raft {i : Nat} {S : JSt} (h : JI w l r b i S) : jRaft (w * l) (r 2) (jR S) (jC S) := ⟨h.1, h.2.1, h.2.2.1⟩
theorem legA_b {R : Int → Int} {k mo : Int} (hw : 1 ≤ w ∧ w ≤ 4) (hl : 1 ≤ l ∧ l ≤ 6) (hR : RIf r q b) (hL : LEf r lg) (hk : 0 ≤ k ∧ k < r 1) : legA w l r lg b fl R k mo ≤ 10000 ∧ (legA w l r lg b fl R k mo < 0 ∨ 1 ≤ legA w l r lg b fl R k mo) ∧ -3 ≤ legA w l r lg b fl R k mo := by
  have hh := hL.2 k hk.1 hk.2
  have h5 := hR.2.2.2.2.2.1
  have gb := goV_b (P := pR (w * l) R) (t := lg (7 * k + 5)) (mi := lg (7 * k + 2)) (ea := lg (7 * k + 6)) (kn := r 5) hw hl hh.2.2.2.2.2.1.1 hh.2.2.1 hh.2.2.2.2.2.2 ⟨by omega, by omega⟩
  unfold legA legV
  generalize goV w l (pR (w * l) R) (lg (7 * k + 5)) (lg (7 * k + 2)) (lg (7 * k + 6)) (r 5) = g at gb ⊢
  generalize cb (Conn w (w * l) (pR (w * l) R) ∧ noAp w (w * l) b R) = c1
  generalize cb (fitP w (w * l) R (fun x => b (4 * x + 2)) (lg (7 * k) + mo) (lg (7 * k + 1) + mo) (lg (7 * k + 3) - fl) (lg (7 * k + 4) - fl)) = c2
  by_cases e1 : c1 = 0
  · rw [if_pos e1]; omega
  · rw [if_neg e1]
    by_cases e2 : c2 = 0
    · rw [if_pos e2]; omega
    · rw [if_neg e2]
      by_cases e3 : g = -1
      · rw [if_pos e3]; omega
      · rw [if_neg e3]; omega
/-- an ACT that is told well keeps all that -/
theorem JI_do {i : Nat} {S : JSt} {wh x ro co : Int} (hw : 1 ≤ w ∧ w ≤ 4) (hl : 1 ≤ l ∧ l ≤ 6) (hR : RIf r q b) (hL : LEf r lg) (hx : wh ≠ 3 → 0 ≤ x ∧ x < r 2) (hJ : JI w l r b i S) (hz : (jdo w l r q lg b fl S wh x ro co).1 = 0) : JI w l r b (i + 1) (jdo w l r q lg b fl S wh x ro co).2 := by
  have hn : w * l ≤ 24 := Nat.mul_le_mul hw.2 hl.2
  have hraft := hJ.raft
  have r2 := hR.2.2.1
  obtain ⟨j1, j2, j3, j4, j5, j6, j7, j8, j9, j10, j11⟩ := hJ
  have we := wtd_e (r := r) (q := q) (S := S)
  have wb := wtd_b (S := S) hR j5 j7
  have com : ∀ {y : Int}, 0 ≤ y → y < r 2 → jC S ||| 2 ^ y.toNat < 512 := fun {y} h0 h1 => by
    have := set_lt (x := jC S) (b := y.toNat) (n := 9) j6 (by omega)
    exact this
  have cc : ∀ (T : JSt) (k : Int), jR T = jR S → jP T = jP S → jC T = jC S → jU T = jU S → jT T = jT S → jW T = 1 → (jM S ≤ jM T ∧ jM T ≤ jM S + 2880) → (jA S ≤ jA T ∧ jA T ≤ jA S + 2880) → JI w l r b (i + 1) (tkf w l r q T k) ∧ (0 ≤ jM (tkf w l r q T k) ∧ jM (tkf w l r q T k) ≤ 2000 + 50000 * (i : Int) + 12880) ∧ (0 ≤ jU (tkf w l r q T k) ∧ jU (tkf w l r q T k) ≤ 1000 * (i : Int) + 48) ∧ (0 ≤ jT (tkf w l r q T k) ∧ jT (tkf w l r q T k) ≤ 1000 * (i : Int) + 48) := fun T k t1 t2 t3 t4 t5 t6 t7 t8 => by
    have tb := takJ_b (R := jR T) (p := jP T) (k := k) hn hR
    obtain ⟨q1, q2, q3⟩ := jRaft_off (k := k) hraft r2.1
    have e1 : jM (tkf w l r q T k) = jM T + (takJ w l r q (jR T) (jP T) k).1 := rfl
    have e2 : jU (tkf w l r q T k) = jU T + (takJ w l r q (jR T) (jP T) k).2.2.1 := rfl
    have e3 : jT (tkf w l r q T k) = jT T + (takJ w l r q (jR T) (jP T) k).2.2.2.1 := rfl
    have e4 : jA (tkf w l r q T k) = jA T := rfl
    have e5 : jR (tkf w l r q T k) = updR (jR S) k (-1) := by rw [← t1]; rfl
    have e6 : jP (tkf w l r q T k) = jP S := t2
    have e7 : jC (tkf w l r q T k) = jC S := t3
    have e8 : jW (tkf w l r q T k) = 1 := t6
    refine ⟨⟨by rw [e5]; exact q1, by rw [e5]; exact q2, by rw [e5, e7]; exact q3, by rw [e6, e7]; exact j4, by rw [e6]; exact j5, by rw [e7]; exact j6, Or.inr e8, ?_, ?_, ?_, ?_⟩, ?_, ?_, ?_⟩ <;> omega
  have pp : ∀ (T : JSt) (k : Int), (∀ j, 0 ≤ j → j < 24 → jR T j ≠ x) → (0 ≤ x ∧ x < r 2) → (0 ≤ k ∧ k < ((w * l : Nat) : Int)) → jRaft (w * l) (r 2) (jR T) (jC T) → jP T = jP S → jC T = jC S → jW T = 1 → (0 ≤ jM T ∧ jM T ≤ 2000 + 50000 * (i : Int) + 12880) → (0 ≤ jU T ∧ jU T ≤ 1000 * (i : Int) + 48) → (0 ≤ jT T ∧ jT T ≤ 1000 * (i : Int) + 48) → (0 ≤ jA T ∧ jA T ≤ 5000 * (i : Int) + 2880) → JI w l r b (i + 1) (putJ w l r q T x k) := fun T k t0 tx tk tr t2 t3 t6 t7 t8 t9 t10 => by
    have tb := takJ_b (R := updR (jR T) k x) (p := jP T) (k := k) hn hR
    obtain ⟨q1, q2, q3⟩ := jRaft_on (k := k) (x := x) tr tk tx t0
    have e1 : jM (putJ w l r q T x k) = jM T + (takJ w l r q (updR (jR T) k x) (jP T) k).1 := rfl
    have e2 : jU (putJ w l r q T x k) = jU T + (takJ w l r q (updR (jR T) k x) (jP T) k).2.2.2.1 := rfl
    have e3 : jT (putJ w l r q T x k) = jT T + (takJ w l r q (updR (jR T) k x) (jP T) k).2.2.1 := rfl
    have e4 : jA (putJ w l r q T x k) = jA T := rfl
    have e5 : jR (putJ w l r q T x k) = updR (jR T) k x := rfl
    have e6 : jP (putJ w l r q T x k) = jP S := t2
    have e7 : jC (putJ w l r q T x k) = jC T ||| 2 ^ x.toNat := rfl
    have e8 : jW (putJ w l r q T x k) = 1 := t6
    refine ⟨by rw [e5]; exact q1, by rw [e5]; exact q2, by rw [e5, e7]; exact q3, fun y h1 h2 => ?_, by rw [e6]; exact j5, by rw [e7, t3]; exact com tx.1 tx.2, Or.inr e8, ?_, ?_, ?_, ?_⟩
    · rw [e6] at h2
      rw [e7, set_t, t3, j4 y h1 h2, Bool.true_or]
    all_goals omega
  have fr : ∀ {R : Int → Int}, frJ w l R ro co → 0 ≤ ro * (w : Int) + co ∧ ro * (w : Int) + co < ((w * l : Nat) : Int) := fun {R} h => by
    obtain ⟨⟨f1, f2⟩, ⟨f3, f4⟩, -⟩ := h
    have := cell_lt (w := w) (l := l) (r := ro.toNat) (k := co.toNat) (by omega) (by omega)
    have e : ro * (w : Int) + co = ((ro.toNat * w + co.toNat : Nat) : Int) := by
      rw [Int.natCast_add, Int.natCast_mul, show ((ro.toNat : Nat) : Int) = ro by omega, show ((co.toNat : Nat) : Int) = co by omega]
    rw [e]
    omega
  unfold jdo at hz ⊢
  by_cases c3 : wh = 3
  · rw [if_pos c3] at hz ⊢
    by_cases d1 : jP S = 2 * (r 0 - 1)
    · rw [if_pos d1] at hz
      exact absurd (show (4 : Int) = 0 from hz) (by decide) 
    · rw [if_neg d1] at hz ⊢
      by_cases d2 : cb (dueJ w l r b S) = 1
      · rw [if_pos d2] at hz
        exact absurd (show (5 : Int) = 0 from hz) (by decide) 
      · rw [if_neg d2] at hz ⊢
        have lo := lgO_b (r := r) (s := jP S) ⟨j5.1, by omega⟩
        have lb := legA_b (fl := fl) (R := jR S) (k := lgO r (jP S)) (mo := 0) hw hl hR hL ⟨lo.1, by have := hL.1; omega⟩
        by_cases d3 : legA w l r lg b fl (jR S) (lgO r (jP S)) 0 < 0
        · rw [if_pos d3] at hz
          have hz' : 5 - legA w l r lg b fl (jR S) (lgO r (jP S)) 0 = 0 := hz
          omega
        · rw [if_neg d3]
          have nd : ¬ dueJ w l r b S := fun h => d2 (cb_t h)
          refine ⟨j1, j2, j3, fun y h1 h2 => ?_, ⟨?_, ?_⟩, j6, Or.inl rfl, ⟨?_, ?_⟩, ⟨?_, ?_⟩, ⟨?_, ?_⟩, ⟨?_, ?_⟩⟩
          · have h2' : onS r b y < jP S + 1 := h2
            by_cases c9 : onS r b y < jP S
            · exact j4 y h1 c9
            · show (jC S).testBit y = true
              apply Classical.byContradiction
              intro hn9
              exact nd ⟨y, h1, Or.inl ⟨by omega, by simpa using hn9⟩⟩
          · show 0 ≤ jP S + 1; omega
          · show jP S + 1 ≤ _; omega
          · show 0 ≤ jM S + _; omega
          · show jM S + _ ≤ _; omega
          · show 0 ≤ jU S; omega
          · show jU S ≤ _; omega
          · show 0 ≤ jT S; omega
          · show jT S ≤ _; omega
          · show 0 ≤ jA S; omega
          · show jA S ≤ _; omega
  · rw [if_neg c3] at hz ⊢
    have hx' := hx c3
    by_cases c1 : wh = 1
    · rw [if_pos c1] at hz ⊢
      by_cases d1 : onS r b x ≠ jP S ∨ (jC S).testBit x.toNat = true
      · rw [if_pos d1] at hz
        exact absurd (show (1 : Int) = 0 from hz) (by decide) 
      · rw [if_neg d1] at hz ⊢
        by_cases d2 : cb (frJ w l (jR S) ro co) = 0
        · rw [if_pos d2] at hz
          exact absurd (show (3 : Int) = 0 from hz) (by decide) 
        · rw [if_neg d2]
          have hf : frJ w l (jR S) ro co := by
            apply Classical.byContradiction
            intro h
            exact d2 (cb_f h)
          refine pp _ _ (fun j h0 h1 he => d1 (Or.inr ?_)) hx' (fr hf) (by rw [we.1, we.2.2.1]; exact hraft) we.2.1 we.2.2.1 wb.2.2 ?_ ?_ ?_ ?_
          · rw [we.1] at he
            have := j3 j h0 h1 (by omega)
            rw [he] at this
            exact this
          · omega
          · rw [we.2.2.2.1]; omega
          · rw [we.2.2.2.2]; omega
          · omega
    · rw [if_neg c1] at hz ⊢
      by_cases d1 : plc (jR S) x (w * l) = -1
      · rw [if_pos d1] at hz
        exact absurd (show (1 : Int) = 0 from hz) (by decide) 
      · rw [if_neg d1] at hz ⊢
        have T := cc (wtd r q S) (plc (jR S) x (w * l)) we.1 we.2.1 we.2.2.1 we.2.2.2.1 we.2.2.2.2 wb.2.2 wb.1 wb.2.1
        by_cases c0 : wh = 0
        · rw [if_pos c0] at hz ⊢
          by_cases d2 : offS r b x ≠ jP S
          · rw [if_pos d2] at hz
            exact absurd (show (2 : Int) = 0 from hz) (by decide) 
          · rw [if_neg d2]
            exact T.1
        · rw [if_neg c0] at hz ⊢
          by_cases d2 : cb (frJ w l (jR S) ro co) = 0
          · rw [if_pos d2] at hz
            exact absurd (show (3 : Int) = 0 from hz) (by decide) 
          · rw [if_neg d2]
            have hf : frJ w l (jR S) ro co := by
              apply Classical.byContradiction
              intro h
              exact d2 (cb_f h)
            rcases plc_sp (R := jR S) (b := x) (n := w * l) with ⟨h9, _⟩ | ⟨k, hk, hp, hRk⟩
            · exact absurd h9 d1
            · refine pp _ _ (fun j h0 h1 he => ?_) hx' (fr hf) T.1.raft we.2.1 we.2.2.1 wb.2.2 T.2.1 T.2.2.1 T.2.2.2 ?_
              · have he' : updR (jR (wtd r q S)) (plc (jR S) x (w * l)) (-1) j = x := he
                rw [we.1, hp] at he'
                by_cases e : j = (k : Int)
                · rw [e, updR_s] at he'; omega
                · rw [updR_j e] at he'
                  rcases j2 j k h0 h1 (by omega) (by omega) (by rw [he', hRk]) with h8 | h8
                  · omega
                  · exact e h8
              · have e4 : jA (tkf w l r q (wtd r q S) (plc (jR S) x (w * l))) = jA (wtd r q S) := rfl
                rw [e4]
                omega
end JP
