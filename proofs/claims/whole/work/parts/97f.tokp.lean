/-! TEXTS: TOKENS, apart from both machines -/
def isL (c : Int) : Bool := decide (97 ≤ c ∧ c ≤ 122)
def isD (c : Int) : Bool := decide (48 ≤ c ∧ c ≤ 57)
def isB (c : Int) : Bool := decide (c = 32 ∨ c = 10)
def isW (c : Int) : Bool := isL c || isD c
/-- how far a run goes -/
def runE (p : Int → Bool) (T : Int → Int) : Nat → Nat → Nat
  | 0, k => k
  | t + 1, k => if p (T (k : Int)) = true then runE p T t (k + 1) else k
theorem runE_b {p : Int → Bool} {T : Int → Int} : ∀ (t k : Nat), k ≤ runE p T t k ∧ runE p T t k ≤ k + t ∧ (∀ i : Nat, k ≤ i → i < runE p T t k → p (T (i : Int)) = true) ∧ (runE p T t k < k + t → p (T ((runE p T t k : Nat) : Int)) = false)
  | 0, k => ⟨Nat.le_refl k, Nat.le_refl k, fun i h1 h2 => absurd h2 (by unfold runE; omega), fun h => absurd h (by unfold runE; omega)⟩
  | t + 1, k => by
    unfold runE
    by_cases h : p (T (k : Int)) = true
    · rw [if_pos h]
      obtain ⟨h1, h2, h3, h4⟩ := runE_b (p := p) (T := T) t (k + 1)
      refine ⟨by omega, by omega, fun i i1 i2 => ?_, fun h9 => h4 (by omega)⟩
      by_cases e : i = k
      · rw [e]; exact h
      · exact h3 i (by omega) i2
    · rw [if_neg h]
      exact ⟨Nat.le_refl k, by omega, fun i i1 i2 => absurd i2 (by omega), fun _ => by simpa using h⟩
theorem runE_u {p : Int → Bool} {T : Int → Int} {t k e : Nat} (h1 : k ≤ e) (h2 : e ≤ k + t) (h3 : ∀ i : Nat, k ≤ i → i < e → p (T (i : Int)) = true) (h4 : e < k + t → p (T (e : Int)) = false) : runE p T t k = e := by
  obtain ⟨a1, a2, a3, a4⟩ := runE_b (p := p) (T := T) t k
  rcases Nat.lt_trichotomy (runE p T t k) e with h | h | h
  · have b1 := a4 (by omega)
    rw [h3 _ a1 h] at b1
    exact absurd b1 (by decide)
  · exact h
  · have b1 := h4 (by omega)
    rw [a3 e h1 h] at b1
    exact absurd b1 (by decide)
/-- letters of a run, the last one first -/
def lets (T : Int → Int) (k : Nat) : Nat → List Nat
  | 0 => []
  | n + 1 => (T ((k : Int) + (n : Int)) - 96).toNat :: lets T k n
/-- its number -/
def digs (T : Int → Int) (k : Nat) : Nat → Int
  | 0 => 0
  | n + 1 => digs T k n * 10 + (T ((k : Int) + (n : Int)) - 48)
def nL (T : Int → Int) (k n : Nat) : Nat := cnt n (fun i => isL (T ((k : Int) + (i : Int))))
def nD (T : Int → Int) (k n : Nat) : Nat := cnt n (fun i => isD (T ((k : Int) + (i : Int))))
/-- the words that are no names, as the class numbers them -/
def rsv : List (List Nat) := [[25, 1, 21, 17], [7, 5, 12], [5, 7, 18, 1, 2], [20, 6, 1, 18], [20, 15, 14, 11], [4, 12, 15, 8], [14, 18, 21, 20], [20, 6, 5, 12], [20, 8, 7, 9, 18], [8, 20, 15, 2], [14, 5, 16, 15], [11, 3, 15, 12], [20, 18, 1, 16, 1], [6, 6, 15], [14, 15], [20, 6, 9, 8, 19], [15, 7]]
def rsvF (i : Nat) : List Nat := rsv.getD i []
def fndN (F : Nat → List Nat) (w : List Nat) : Nat → Nat → Int
  | 0, _ => -1
  | t + 1, k => if F k = w then (k : Int) else fndN F w t (k + 1)
def fnd (F : Nat → List Nat) (w : List Nat) (n : Nat) : Int := fndN F w n 0
theorem fndN_sp {F : Nat → List Nat} {w : List Nat} : ∀ (t k : Nat), (fndN F w t k = -1 ∧ ∀ i : Nat, k ≤ i → i < k + t → F i ≠ w) ∨ ∃ i : Nat, (k ≤ i ∧ i < k + t) ∧ fndN F w t k = (i : Int) ∧ F i = w
  | 0, k => Or.inl ⟨rfl, fun i h1 h2 => absurd h2 (by omega)⟩
  | t + 1, k => by
    unfold fndN
    by_cases h : F k = w
    · rw [if_pos h]
      exact Or.inr ⟨k, ⟨Nat.le_refl k, by omega⟩, rfl, h⟩
    · rw [if_neg h]
      rcases fndN_sp (F := F) (w := w) t (k + 1) with ⟨h1, h2⟩ | ⟨i, h1, h2, h3⟩
      · refine Or.inl ⟨h1, fun i hi1 hi2 => ?_⟩
        by_cases e : i = k
        · rw [e]; exact h
        · exact h2 i (by omega) (by omega)
      · exact Or.inr ⟨i, by omega, h2, h3⟩
theorem fnd_sp {F : Nat → List Nat} {w : List Nat} {n : Nat} : (fnd F w n = -1 ∧ ∀ i : Nat, i < n → F i ≠ w) ∨ ∃ i : Nat, i < n ∧ fnd F w n = (i : Int) ∧ F i = w := by
  rcases fndN_sp (F := F) (w := w) n 0 with ⟨h1, h2⟩ | ⟨i, h1, h2, h3⟩
  · exact Or.inl ⟨h1, fun i hi => h2 i (Nat.zero_le i) (by omega)⟩
  · exact Or.inr ⟨i, by omega, h2, h3⟩
/-- a TOKEN: kind (0 end, 1 word, 2 name, 3 number, 4 semicolon, 5 none), value, letters, place, what is behind -/
abbrev Tok : Type := Int × Int × List Nat × Nat × Nat
def tK (t : Tok) : Int := t.1
def tV (t : Tok) : Int := t.2.1
def tL (t : Tok) : List Nat := t.2.2.1
def tP (t : Tok) : Nat := t.2.2.2.1
def tX (t : Tok) : Nat := t.2.2.2.2
def tokR (T : Int → Int) (at' e : Nat) : Tok :=
  if nD T at' (e - at') = 0 ∧ 1 ≤ nL T at' (e - at') ∧ nL T at' (e - at') ≤ 6 then (if fnd rsvF (lets T at' (e - at')) 17 = -1 then (2, 0, lets T at' (e - at'), at', e) else (1, fnd rsvF (lets T at' (e - at')) 17, lets T at' (e - at'), at', e))
  else if nL T at' (e - at') = 0 ∧ 1 ≤ nD T at' (e - at') ∧ nD T at' (e - at') ≤ 4 then (3, digs T at' (e - at'), [], at', e) else (5, 0, [], at', e)
def tok (T : Int → Int) (len lim pos : Nat) : Tok :=
  if lim ≤ runE isB T (lim - pos) pos then (0, 0, [], lim, pos)
  else if T ((runE isB T (lim - pos) pos : Nat) : Int) = 59 then (4, 0, [], runE isB T (lim - pos) pos, runE isB T (lim - pos) pos + 1)
  else tokR T (runE isB T (lim - pos) pos) (runE isW T (len - runE isB T (lim - pos) pos) (runE isB T (lim - pos) pos))
/-- letters of a run of letters -/
theorem lets_ok {T : Int → Int} {k : Nat} : ∀ {n : Nat}, (∀ i : Nat, i < n → isL (T ((k : Int) + (i : Int))) = true) → (lets T k n).length = n ∧ ∀ x ∈ lets T k n, 1 ≤ x ∧ x ≤ 26
  | 0, _ => ⟨rfl, fun x hx => absurd hx (by unfold lets; exact List.not_mem_nil)⟩
  | n + 1, h => by
    obtain ⟨h1, h2⟩ := lets_ok (T := T) (k := k) (n := n) (fun i hi => h i (by omega))
    have h3 := of_decide_eq_true (h n (by omega))
    unfold lets
    refine ⟨by rw [List.length_cons, h1], fun x hx => ?_⟩
    rcases List.mem_cons.mp hx with e | e
    · rw [e]; omega
    · exact h2 x e
theorem nm32_nn : ∀ w : List Nat, 0 ≤ nm32 w
  | [] => Int.le_refl 0
  | c :: w => by
    have h := nm32_nn w
    have e : nm32 (c :: w) = nm32 w * 32 + (c : Int) := rfl
    omega
theorem nm256_nn : ∀ w : List Nat, 0 ≤ nm256 w
  | [] => Int.le_refl 0
  | c :: w => by
    have h := nm256_nn w
    have e : nm256 (c :: w) = nm256 w * 256 + ((c : Int) + 96) := rfl
    omega
theorem nm32_inj : ∀ {v w : List Nat}, (∀ x ∈ v, 1 ≤ x ∧ x ≤ 26) → (∀ x ∈ w, 1 ≤ x ∧ x ≤ 26) → nm32 v = nm32 w → v = w
  | [], [], _, _, _ => rfl
  | [], c :: w, _, hw, h => by
    have h1 := hw c List.mem_cons_self
    have h2 : 0 ≤ nm32 w := nm32_nn w
    unfold nm32 at h
    have h' : (0 : Int) = nm32 w * 32 + (c : Int) := h
    omega
  | c :: v, [], hv, _, h => by
    have h1 := hv c List.mem_cons_self
    have h2 : 0 ≤ nm32 v := nm32_nn v
    have h' : nm32 v * 32 + (c : Int) = 0 := h
    omega
  | c :: v, e :: w, hv, hw, h => by
    have h1 := hv c List.mem_cons_self
    have h2 := hw e List.mem_cons_self
    have h' : nm32 v * 32 + (c : Int) = nm32 w * 32 + (e : Int) := h
    have h3 : nm32 v = nm32 w := by omega
    have h4 : c = e := by omega
    rw [h4, nm32_inj (fun x hx => hv x (List.mem_cons_of_mem c hx)) (fun x hx => hw x (List.mem_cons_of_mem e hx)) h3]
theorem nm256_inj : ∀ {v w : List Nat}, (∀ x ∈ v, 1 ≤ x ∧ x ≤ 26) → (∀ x ∈ w, 1 ≤ x ∧ x ≤ 26) → nm256 v = nm256 w → v = w
  | [], [], _, _, _ => rfl
  | [], c :: w, _, hw, h => by
    have h1 := hw c List.mem_cons_self
    have h2 : 0 ≤ nm256 w := nm256_nn w
    have h' : (0 : Int) = nm256 w * 256 + ((c : Int) + 96) := h
    omega
  | c :: v, [], hv, _, h => by
    have h1 := hv c List.mem_cons_self
    have h2 : 0 ≤ nm256 v := nm256_nn v
    have h' : nm256 v * 256 + ((c : Int) + 96) = 0 := h
    omega
  | c :: v, e :: w, hv, hw, h => by
    have h1 := hv c List.mem_cons_self
    have h2 := hw e List.mem_cons_self
    have h' : nm256 v * 256 + ((c : Int) + 96) = nm256 w * 256 + ((e : Int) + 96) := h
    have h3 : nm256 v = nm256 w := by omega
    have h4 : c = e := by omega
    rw [h4, nm256_inj (fun x hx => hv x (List.mem_cons_of_mem c hx)) (fun x hx => hw x (List.mem_cons_of_mem e hx)) h3]
/-- bounds of a NAME's numbers -/
theorem nm_b : ∀ (w : List Nat), (∀ x ∈ w, 1 ≤ x ∧ x ≤ 26) → (0 ≤ nm32 w ∧ nm32 w < ((32 ^ w.length : Nat) : Int)) ∧ 0 ≤ nm256 w ∧ nm256 w < ((256 ^ w.length : Nat) : Int)
  | [], _ => ⟨⟨by decide, by decide⟩, by decide, by decide⟩
  | c :: w, h => by
    have h1 := h c List.mem_cons_self
    obtain ⟨⟨a1, a2⟩, a3, a4⟩ := nm_b w (fun x hx => h x (List.mem_cons_of_mem c hx))
    rw [List.length_cons, Nat.pow_succ, Nat.pow_succ]
    have e1 : nm32 (c :: w) = nm32 w * 32 + (c : Int) := rfl
    have e2 : nm256 (c :: w) = nm256 w * 256 + ((c : Int) + 96) := rfl
    rw [e1, e2]
    generalize 32 ^ w.length = p1 at *
    generalize 256 ^ w.length = p2 at *
    refine ⟨⟨by omega, by omega⟩, by omega, by omega⟩
theorem rsv_ok : ∀ i : Nat, i < 17 → (rsvF i).length ≤ 6 ∧ ∀ x ∈ rsvF i, 1 ≤ x ∧ x ≤ 26 := by decide +kernel
/-- a run's letters and digits -/
theorem run_ld {T : Int → Int} {k : Nat} : ∀ {n : Nat}, (∀ i : Nat, i < n → isW (T ((k : Int) + (i : Int))) = true) → nL T k n + nD T k n = n
  | 0, _ => rfl
  | n + 1, h => by
    have ih := run_ld (T := T) (k := k) (n := n) (fun i hi => h i (by omega))
    have h1 := h n (by omega)
    unfold nL nD at ih ⊢
    unfold cnt
    unfold isW at h1
    have x : (isL (T ((k : Int) + (n : Int)))).toNat + (isD (T ((k : Int) + (n : Int)))).toNat = 1 := by
      have hx : ¬ (isL (T ((k : Int) + (n : Int))) = true ∧ isD (T ((k : Int) + (n : Int))) = true) := fun h => by
        have a := of_decide_eq_true h.1
        have b := of_decide_eq_true h.2
        omega
      cases h8 : isL (T ((k : Int) + (n : Int))) <;> cases h9 : isD (T ((k : Int) + (n : Int))) <;> rw [h8, h9] at h1 hx <;> simp at h1 hx ⊢
    show cnt n (fun i : Nat => isL (T ((k : Int) + (i : Int)))) + (isL (T ((k : Int) + (n : Int)))).toNat + (cnt n (fun i : Nat => isD (T ((k : Int) + (i : Int)))) + (isD (T ((k : Int) + (n : Int)))).toNat) = n + 1
    omega
theorem nL_all {T : Int → Int} {k n : Nat} (h : nD T k n = 0) (hw : ∀ i : Nat, i < n → isW (T ((k : Int) + (i : Int))) = true) : ∀ i : Nat, i < n → isL (T ((k : Int) + (i : Int))) = true := fun i hi => by
  have h1 := hw i hi
  unfold isW at h1
  cases h8 : isD (T ((k : Int) + (i : Int)))
  · rw [h8, Bool.or_false] at h1; exact h1
  · have := cnt_pos (p := fun i : Nat => isD (T ((k : Int) + (i : Int)))) (n := n) ⟨i, hi, h8⟩
    unfold nD at h
    omega
