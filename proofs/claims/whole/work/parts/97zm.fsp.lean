/-! A FIRST RAFT, apart from both machines -/
/-- who is still aboard behind QUAY k -/
def rfK (b R : Int → Int) (k : Int) : Int → Int := fun j => if R j ≠ -1 ∧ k < b (4 * R j + 1) then R j else -1
theorem rfK_y {b R : Int → Int} {k j : Int} (h : R j ≠ -1) (hk : k < b (4 * R j + 1)) : rfK b R k j = R j := if_pos ⟨h, hk⟩
theorem rfK_n {b R : Int → Int} {k j : Int} (h : ¬ (R j ≠ -1 ∧ k < b (4 * R j + 1))) : rfK b R k j = -1 := if_neg h
theorem rfK_ne {b R : Int → Int} {k j : Int} (h : rfK b R k j ≠ -1) : R j ≠ -1 ∧ k < b (4 * R j + 1) ∧ rfK b R k j = R j := by
  by_cases c : R j ≠ -1 ∧ k < b (4 * R j + 1)
  · exact ⟨c.1, c.2, if_pos c⟩
  · exact absurd (if_neg c) h
def dueP (n : Nat) (b R : Int → Int) (k : Int) (i : Nat) : Bool := decide (i < n ∧ R (i : Int) ≠ -1 ∧ b (4 * R (i : Int) + 1) = k)
def mtR (n : Nat) (R : Int → Int) : Prop := ∀ i : Nat, i < n → R (i : Int) = -1
/-- a part of a RAFT -/
def subR (n : Nat) (R2 R : Int → Int) : Prop := ∀ i : Nat, i < n → R2 (i : Int) ≠ -1 → R2 (i : Int) = R (i : Int)
theorem subR.ne {n : Nat} {R2 R : Int → Int} (h : subR n R2 R) {i : Nat} (hi : i < n) (h2 : R2 (i : Int) ≠ -1) : R (i : Int) ≠ -1 := by rw [← h i hi h2]; exact h2
theorem subR.refl {n : Nat} {R : Int → Int} : subR n R R := fun _ _ _ => rfl
theorem subR.trans {n : Nat} {R1 R2 R3 : Int → Int} (h : subR n R1 R2) (h2 : subR n R2 R3) : subR n R1 R3 := fun i hi hr => (h i hi hr).trans (h2 i hi (h.ne hi hr))
theorem subR.rfK {n : Nat} {b R2 R : Int → Int} {k : Int} (h : subR n R2 R) : subR n (rfK b R2 k) (rfK b R k) := fun i hi hr => by
  obtain ⟨h1, h2, h3⟩ := rfK_ne hr
  have h4 := h i hi h1
  rw [h3, h4]
  rw [h4] at h1 h2
  exact (rfK_y h1 h2).symm
theorem subR.mt {n : Nat} {R2 R : Int → Int} (h : subR n R2 R) (h2 : ¬ mtR n R2) : ¬ mtR n R := fun hm => h2 (fun i hi => by
  apply Classical.byContradiction
  intro hr
  exact h.ne hi hr (hm i hi))
theorem subR.pR {n : Nat} {R2 R : Int → Int} (h : subR n R2 R) (i : Nat) (hi : pR n R2 i = true) : pR n R i = true := by
  obtain ⟨h1, h2⟩ := pR_lt.mp hi
  exact pR_lt.mpr ⟨h1, h.ne h1 h2⟩
theorem subR.up {n : Nat} {R : Int → Int} {k : Nat} {x : Int} (hk : R (k : Int) = -1) : subR n R (updR R (k : Int) x) := fun i hi hr => by
  unfold updR
  rw [if_neg]
  intro e
  rw [show i = k by omega] at hr
  exact hr hk
theorem noAp_mono {w n : Nat} {B R R2 : Int → Int} (hs : subR n R2 R) (h : noAp w n B R) : noAp w n B R2 := by
  refine ⟨fun i h1 h2 h3 h4 => ?_, fun i h1 h3 h4 => ?_⟩
  · have e : ((i : Int) + 1) = ((i + 1 : Nat) : Int) := by omega
    rw [e] at h4 ⊢
    have g := h.1 i h1 h2 (hs.ne (by omega) h3)
    rw [e] at g
    rw [hs i (by omega) h3, hs (i + 1) h1 h4]
    exact g (hs.ne h1 h4)
  · have e : ((i : Int) + (w : Int)) = ((i + w : Nat) : Int) := by omega
    rw [e] at h4 ⊢
    have g := h.2 i h1 (hs.ne (by omega) h3)
    rw [e] at g
    rw [hs i (by omega) h3, hs (i + w) h1 h4]
    exact g (hs.ne h1 h4)
section FS
variable (w l : Nat) (r q lg b : Int → Int) (fl : Int)
def lgF (R : Int → Int) (k : Int) : Prop := fitP w (w * l) R (fun x => b (4 * x + 2)) (lg (7 * k) + 0) (lg (7 * k + 1) + 0) (lg (7 * k + 3) - fl) (lg (7 * k + 4) - fl)
def lgG (R : Int → Int) (k : Int) : Int := goV w l (pR (w * l) R) (lg (7 * k + 5)) (lg (7 * k + 2)) (lg (7 * k + 6)) (r 5)
def offK (R : Int → Int) (k : Int) : Prop := noStk (clrP w (w * l) (q (3 * k))) (pR (w * l) (rfK b R k)) (dueP (w * l) b R k)
/-- what is asked of a part -/
def pgK (R : Int → Int) (k : Nat) : Prop := lgF w l lg b fl (rfK b R k) k ∧ lgG w l r lg (rfK b R k) k ≠ -1 ∧ offK w l q b R ((k : Int) + 1)
def pgd (R : Int → Int) : Prop := noAp w (w * l) b R ∧ ∀ k : Nat, (k : Int) < r 1 → ¬ mtR (w * l) (rfK b R k) → pgK w l r q lg b fl R k
/-- and of the whole -/
def wgd (R : Int → Int) : Prop := noAp w (w * l) b R ∧ ∀ k : Nat, (k : Int) < r 1 → ¬ mtR (w * l) (rfK b R k) → Conn w (w * l) (pR (w * l) (rfK b R k)) ∧ pgK w l r q lg b fl R k
/-- as the reference asks -/
def rgd (R : Int → Int) : Prop := ∀ k : Nat, (k : Int) < r 1 → ¬ mtR (w * l) (rfK b R k) → ¬ legA w l r lg b fl (rfK b R k) k 0 < 0 ∧ offK w l q b R ((k : Int) + 1)
end FS
section FT
variable {w l : Nat} {r q lg b : Int → Int} {fl : Int}
theorem wgd_p {R : Int → Int} (h : wgd w l r q lg b fl R) : pgd w l r q lg b fl R := ⟨h.1, fun k hk hm => (h.2 k hk hm).2⟩
theorem dueP_mono {n : Nat} {R2 R : Int → Int} {k : Int} (h : subR n R2 R) (i : Nat) (hi : dueP n b R2 k i = true) : dueP n b R k i = true := by
  unfold dueP at hi ⊢
  rw [decide_eq_true_iff] at hi ⊢
  have h1 := h i hi.1 hi.2.1
  rw [← h1]
  exact hi
theorem pgd_mono {R2 R : Int → Int} (hw : 1 ≤ w ∧ w ≤ 4) (hl : 1 ≤ l ∧ l ≤ 6) (hL : LEf r lg) (h5 : 0 ≤ r 5) (hs : subR (w * l) R2 R) (h : pgd w l r q lg b fl R) : pgd w l r q lg b fl R2 := by
  have hn : w * l ≤ 24 := Nat.mul_le_mul hw.2 hl.2
  refine ⟨noAp_mono hs h.1, fun k hk hm => ?_⟩
  have hs2 : subR (w * l) (rfK b R2 k) (rfK b R k) := hs.rfK
  obtain ⟨g1, g2, g3⟩ := h.2 k hk (hs2.mt hm)
  have hl9 := hL.2 (k : Int) (by omega) hk
  refine ⟨fitP_mono hw.1 hn hs2 g1, fun g => g2 ?_, noStk_mono clrP_mono (fun i hi => (hs.rfK).pR i hi) (fun i hi => dueP_mono hs i hi) g3⟩
  unfold lgG at g ⊢
  exact goV_mono hw hl hl9.2.2.2.2.2.1.1 hl9.2.2.1.1 hl9.2.2.2.2.2.2.1 h5 (fun i hi => hs2.pR i hi) g
theorem legA_no {R : Int → Int} {k : Nat} (hw : 1 ≤ w ∧ w ≤ 4) (hl : 1 ≤ l ∧ l ≤ 6) (hL : LEf r lg) (h5 : 0 ≤ r 5 ∧ r 5 ≤ 60) (hk : (k : Int) < r 1) : ¬ legA w l r lg b fl R k 0 < 0 ↔ (Conn w (w * l) (pR (w * l) R) ∧ noAp w (w * l) b R) ∧ lgF w l lg b fl R k ∧ lgG w l r lg R k ≠ -1 := by
  have hl9 := hL.2 (k : Int) (by omega) hk
  have gb := goV_b (P := pR (w * l) R) (t := lg (7 * (k : Int) + 5)) (mi := lg (7 * (k : Int) + 2)) (ea := lg (7 * (k : Int) + 6)) (kn := r 5) hw hl hl9.2.2.2.2.2.1.1 hl9.2.2.1 hl9.2.2.2.2.2.2 h5
  unfold legA legV lgF lgG
  generalize (Conn w (w * l) (pR (w * l) R) ∧ noAp w (w * l) b R) = S
  generalize fitP w (w * l) R (fun x => b (4 * x + 2)) (lg (7 * (k : Int)) + 0) (lg (7 * (k : Int) + 1) + 0) (lg (7 * (k : Int) + 3) - fl) (lg (7 * (k : Int) + 4) - fl) = F
  generalize goV w l (pR (w * l) R) (lg (7 * (k : Int) + 5)) (lg (7 * (k : Int) + 2)) (lg (7 * (k : Int) + 6)) (r 5) = g at *
  by_cases hS : S
  · rw [cb_t hS, if_neg (by decide)]
    by_cases hF : F
    · rw [cb_t hF, if_neg (by decide)]
      by_cases hg : g = -1
      · rw [if_pos hg]
        exact ⟨fun h => absurd (by decide) h, fun h => absurd hg h.2.2⟩
      · rw [if_neg hg]
        exact ⟨fun _ => ⟨hS, hF, hg⟩, fun _ => by omega⟩
    · rw [cb_f hF, if_pos rfl]
      exact ⟨fun h => absurd (by decide) h, fun h => absurd h.2.1 hF⟩
  · rw [cb_f hS, if_pos rfl]
    exact ⟨fun h => absurd (by decide) h, fun h => absurd h.1 hS⟩
theorem rfK_0 {n : Nat} {R : Int → Int} {k : Int} (h : ∀ i : Nat, i < n → R (i : Int) ≠ -1 → k < b (4 * R (i : Int) + 1)) {i : Nat} (hi : i < n) : rfK b R k (i : Int) = R (i : Int) := by
  by_cases c : R (i : Int) = -1
  · rw [rfK_n (fun h => h.1 c), c]
  · exact rfK_y c (h i hi c)
theorem wgd_r {R : Int → Int} (hw : 1 ≤ w ∧ w ≤ 4) (hl : 1 ≤ l ∧ l ≤ 6) (hL : LEf r lg) (h5 : 0 ≤ r 5 ∧ r 5 ≤ 60) (hto : ∀ i : Nat, i < w * l → R (i : Int) ≠ -1 → 0 < b (4 * R (i : Int) + 1)) (hne : ¬ mtR (w * l) R) (h1 : 0 < r 1) : wgd w l r q lg b fl R ↔ rgd w l r q lg b fl R := by
  constructor
  · intro h k hk hm
    obtain ⟨g1, g2, g3, g4⟩ := h.2 k hk hm
    refine ⟨(legA_no hw hl hL h5 hk).mpr ⟨⟨g1, noAp_mono (fun i hi hr => (rfK_ne hr).2.2) h.1⟩, g2, g3⟩, g4⟩
  · intro h
    have e0 : ∀ i : Nat, i < w * l → rfK b R ((0 : Nat) : Int) (i : Int) = R (i : Int) := fun i hi => rfK_0 hto hi
    refine ⟨?_, fun k hk hm => ?_⟩
    · have g := ((legA_no hw hl hL h5 h1).mp (h 0 h1 (fun hm => hne (fun i hi => by rw [← e0 i hi]; exact hm i hi))).1).1.2
      exact noAp_mono (fun i hi hr => (e0 i hi).symm) g
    · obtain ⟨g1, g2⟩ := h k hk hm
      obtain ⟨g3, g4, g5⟩ := (legA_no hw hl hL h5 hk).mp g1
      exact ⟨g3.1, g4, g5, g2⟩
end FT
/-! The search: BARGE by BARGE, the lesser CELL -/
def fK (f : (Int → Int) → Option (Int → Int)) (x : Int) (R : Int → Int) : Nat → Nat → Option (Int → Int)
  | 0, _ => none
  | t + 1, k => if R (k : Int) = -1 then (match f (updR R (k : Int) x) with
      | some z => some z
      | none => fK f x R t (k + 1)) else fK f x R t (k + 1)
noncomputable def fsr (n : Nat) (ok : (Int → Int) → Prop) : List Int → (Int → Int) → Option (Int → Int)
  | [], R => if cb (ok R) = 1 then some R else none
  | x :: xs, R => fK (fsr n ok xs) x R n 0
theorem fK_some {f : (Int → Int) → Option (Int → Int)} {x : Int} {R Z : Int → Int} : ∀ (t k : Nat), fK f x R t k = some Z → ∃ j : Nat, (k ≤ j ∧ j < k + t) ∧ R (j : Int) = -1 ∧ f (updR R (j : Int) x) = some Z
  | 0, k, h => by
    unfold fK at h
    exact absurd h (by simp)
  | t + 1, k, h => by
    unfold fK at h
    by_cases c : R (k : Int) = -1
    · rw [if_pos c] at h
      cases hf : f (updR R (k : Int) x) with
      | some z =>
        rw [hf] at h
        exact ⟨k, ⟨Nat.le_refl k, by omega⟩, c, by rw [hf]; exact h⟩
      | none =>
        rw [hf] at h
        obtain ⟨j, h1, h2, h3⟩ := fK_some t (k + 1) h
        exact ⟨j, by omega, h2, h3⟩
    · rw [if_neg c] at h
      obtain ⟨j, h1, h2, h3⟩ := fK_some t (k + 1) h
      exact ⟨j, by omega, h2, h3⟩
theorem fsr_ext {n : Nat} {ok : (Int → Int) → Prop} {Z : Int → Int} : ∀ (xs : List Int) (R : Int → Int), fsr n ok xs R = some Z → ok Z ∧ subR n R Z
  | [], R, h => by
    unfold fsr at h
    by_cases c : ok R
    · rw [cb_t c, if_pos rfl] at h
      rw [← Option.some.inj h]
      exact ⟨c, subR.refl⟩
    · rw [cb_f c, if_neg (by decide)] at h
      exact absurd h (by simp)
  | x :: xs, R, h => by
    unfold fsr at h
    obtain ⟨j, h1, h2, h3⟩ := fK_some n 0 h
    obtain ⟨g1, g2⟩ := fsr_ext xs _ h3
    exact ⟨g1, (subR.up h2).trans g2⟩
theorem fsr_no {w l : Nat} {r q lg b : Int → Int} {fl : Int} (hw : 1 ≤ w ∧ w ≤ 4) (hl : 1 ≤ l ∧ l ≤ 6) (hL : LEf r lg) (h5 : 0 ≤ r 5) (xs : List Int) (R : Int → Int) (h : ¬ pgd w l r q lg b fl R) : fsr (w * l) (wgd w l r q lg b fl) xs R = none := by
  cases e : fsr (w * l) (wgd w l r q lg b fl) xs R with
  | none => rfl
  | some Z =>
    obtain ⟨g1, g2⟩ := fsr_ext xs R e
    exact absurd (pgd_mono hw hl hL h5 g2 (wgd_p g1)) h
