/-! WHAT HOLDS BETWEEN CALLS -/
/-- a NAME in base 32 and in base 256 -/
def nm32 : List Nat → Int
  | [] => 0
  | c :: w => nm32 w * 32 + (c : Int)
def nm256 : List Nat → Int
  | [] => 0
  | c :: w => nm256 w * 256 + ((c : Int) + 96)
def nmR (c l : Int) : Prop := ∃ w : List Nat, w.length ≤ 6 ∧ (∀ x ∈ w, 1 ≤ x ∧ x ≤ 26) ∧ c = nm32 w ∧ l = nm256 w
/-- a RIVER in its bounds -/
def RIf (r q b : Int → Int) : Prop :=
  (0 ≤ r 0 ∧ r 0 ≤ 8) ∧ (0 ≤ r 1 ∧ r 1 ≤ 7) ∧ (0 ≤ r 2 ∧ r 2 ≤ 9) ∧ (1 ≤ r 3 ∧ r 3 ≤ 4) ∧ (1 ≤ r 4 ∧ r 4 ≤ 6) ∧ (1 ≤ r 5 ∧ r 5 ≤ 60) ∧ (0 ≤ r 6 ∧ r 6 ≤ 60) ∧ (0 ≤ r 7 ∧ r 7 ≤ 60) ∧
  (∀ k, 0 ≤ k → k < r 0 → (1 ≤ q (3 * k) ∧ q (3 * k) ≤ 3) ∧ (0 ≤ q (3 * k + 1) ∧ q (3 * k + 1) < 1440) ∧ (q (3 * k + 1) < q (3 * k + 2) ∧ q (3 * k + 2) ≤ 1440)) ∧
  (∀ k, 0 ≤ k → k < r 2 → (0 ≤ b (4 * k) ∧ b (4 * k) < r 0) ∧ (0 ≤ b (4 * k + 1) ∧ b (4 * k + 1) < r 0) ∧ b (4 * k) ≠ b (4 * k + 1) ∧ (0 ≤ b (4 * k + 2) ∧ b (4 * k + 2) ≤ 99) ∧ (0 ≤ b (4 * k + 3) ∧ b (4 * k + 3) < 512))
theorem RI_f {M : Mem} : RI M ↔ RIf (M 5) (M 6) (M 8) := Iff.rfl
/-- its LEGS -/
def LEf (r l : Int → Int) : Prop := (r 0 = 0 ∧ r 1 = 0 ∨ r 1 = r 0 - 1) ∧
  ∀ k, 0 ≤ k → k < r 1 → (1 ≤ l (7 * k) ∧ l (7 * k) ≤ 4) ∧ (1 ≤ l (7 * k + 1) ∧ l (7 * k + 1) ≤ 6) ∧ (1 ≤ l (7 * k + 2) ∧ l (7 * k + 2) ≤ 999) ∧ (0 ≤ l (7 * k + 3) ∧ l (7 * k + 3) ≤ 99) ∧ (0 ≤ l (7 * k + 4) ∧ l (7 * k + 4) ≤ 99) ∧ (0 ≤ l (7 * k + 5) ∧ l (7 * k + 5) ≤ 9) ∧ (0 ≤ l (7 * k + 6) ∧ l (7 * k + 6) ≤ 99)
/-- the reference's numbers of a RIVER -/
def RVf (r q l b fs : Int → Int) : Prop := (fs 0 = r 0 ∧ fs 1 = r 1 ∧ fs 2 = r 2 ∧ fs 3 = r 3 ∧ fs 4 = r 4 ∧ fs 5 = r 5 ∧ fs 6 = r 6 ∧ fs 7 = r 7) ∧
  (∀ i, 0 ≤ i → i < 3 * r 0 → fs (8 + i) = q i) ∧ (∀ i, 0 ≤ i → i < 7 * r 1 → fs (32 + i) = l i) ∧ (∀ i, 0 ≤ i → i < 4 * r 2 → fs (81 + i) = b i)
/-- a RAFT -/
def RFf (r cs fs : Int → Int) : Prop := ∀ k, 0 ≤ k → k < 24 → fs (359 + k) = cs k + 1 ∧ (-1 ≤ cs k ∧ cs k < r 2) ∧ (r 3 * r 4 ≤ k → cs k = -1) ∧ (∀ j, 0 ≤ j → j < 24 → cs j = cs k → cs k = -1 ∨ j = k)
/-- a PLAN -/
def PLf (n : Int) (r ac fs : Int → Int) : Prop := (0 ≤ n ∧ n ≤ 60) ∧ fs 118 = n ∧ (∀ i, 0 ≤ i → i < 4 * n → fs (119 + i) = ac i) ∧
  ∀ i, 0 ≤ i → i < n → (ac (4 * i) = 3 ∧ ac (4 * i + 1) = -1 ∧ ac (4 * i + 2) = -1 ∧ ac (4 * i + 3) = -1) ∨ (ac (4 * i) = 0 ∧ (0 ≤ ac (4 * i + 1) ∧ ac (4 * i + 1) < r 2) ∧ ac (4 * i + 2) = -1 ∧ ac (4 * i + 3) = -1) ∨ ((ac (4 * i) = 1 ∨ ac (4 * i) = 2) ∧ (0 ≤ ac (4 * i + 1) ∧ ac (4 * i + 1) < r 2) ∧ (0 ≤ ac (4 * i + 2) ∧ ac (4 * i + 2) ≤ 5) ∧ (0 ≤ ac (4 * i + 3) ∧ ac (4 * i + 3) ≤ 3))
def WTf (w : Int) (fs : Int → Int) : Prop := (0 ≤ w ∧ w ≤ 99) ∧ fs 117 = w
def NMf (r qn bn fn : Int → Int) : Prop := (∀ q, 0 ≤ q → q < r 0 → nmR (qn q) (fn q)) ∧ ∀ b, 0 ≤ b → b < r 2 → nmR (bn b) (fn (8 + b))
/-- a state of the class (its fields, RIVER, QUAYS, LEGS, BARGES, NAMES, CELLS, ACTS) and the reference's numbers of it -/
def StR (sf r q l b qn bn cs ac fs fn : Int → Int) : Prop := RIf r q b ∧ LEf r l ∧ RVf r q l b fs ∧ RFf r cs fs ∧ PLf (sf 3) r ac fs ∧ WTf (sf 4) fs ∧ NMf r qn bn fn
def NowR (M : Mem) : Prop := StR (M 4) (M 5) (M 6) (M 7) (M 8) (M 9) (M 10) (M 11) (M 12) (M 69) (M 72)
def Kept0 (M : Mem) : Prop := M 14 5 = M 91 0 ∧ (M 91 0 = 0 ∨ M 91 0 = 1 ∧ StR (M 14) (M 15) (M 16) (M 17) (M 18) (M 19) (M 20) (M 21) (M 22) (M 89) (M 90))
def Kept1 (M : Mem) : Prop := M 23 5 = M 91 1 ∧ (M 91 1 = 0 ∨ M 91 1 = 1 ∧ StR (M 23) (M 24) (M 25) (M 26) (M 27) (M 28) (M 29) (M 30) (M 31) (fun i => M 89 (383 + i)) (fun i => M 90 (17 + i)))
/-- what the GRID holds of its shape: sets of CELLS as numbers -/
def bitsN (p : Nat → Bool) : Nat := ((List.range 24).filter p).foldl (fun s c => s + 2 ^ c) 0
def gFirst (w l : Nat) : Nat := bitsN (fun c => decide (c < w * l ∧ c % w = 0))
def gLast (w l : Nat) : Nat := bitsN (fun c => decide (c < w * l ∧ c % w = w - 1))
def gWay (w l g k : Nat) : Nat := match g with
  | 0 => bitsN (fun c => decide (c / w = k / w ∧ c < k))
  | 1 => bitsN (fun c => decide (c / w = k / w ∧ k < c))
  | _ => bitsN (fun c => decide (c < w * l ∧ c % w = k % w ∧ k < c))
def GridF (r g v : Int → Int) : Prop := ∃ w l : Nat, (1 ≤ w ∧ w ≤ 4) ∧ (1 ≤ l ∧ l ≤ 6) ∧ r 3 = (w : Int) ∧ r 4 = (l : Int) ∧ g 0 = (w : Int) ∧ g 1 = (l : Int) ∧ g 2 = ((w * l : Nat) : Int) ∧ g 3 = ((2 ^ w - 1 : Nat) : Int) ∧ g 4 = ((gFirst w l : Nat) : Int) ∧ g 5 = ((gLast w l : Nat) : Int) ∧ ∀ b, b < 3 → ∀ k, k < w * l → v ((24 * b + k : Nat) : Int) = ((gWay w l b k : Nat) : Int)
def GridR (M : Mem) : Prop := GridF (M 5) (M 32) (M 33)
/-- TOLD, PASSED, HIRED, JUDGED -/
def ToldR (M : Mem) : Prop := (M 67 29 = 0 ∧ M 45 3 = -1 ∧ M 45 4 = -1 ∧ M 45 5 = -1 ∧ M 45 6 = -1) ∨ (M 67 29 = 1 ∧ M 76 0 = M 45 3 ∧ M 76 1 = M 45 4 ∧ M 76 2 = M 45 5 ∧ M 76 3 = M 45 6)
def JudR (M : Mem) : Prop := (M 46 7 = 0 ∧ M 46 6 = 0 ∧ M 67 40 = -1) ∨ (M 46 7 = 1 ∧ (1 ≤ M 46 6 ∧ M 46 6 ≤ 24) ∧ M 67 40 = M 46 6 ∧ (∀ w, 0 ≤ w → w ≤ 5 → M 80 w = tellX M w) ∧ ∀ k, 0 ≤ k → k < 24 → M 81 k = M 48 k + 1)
def ConR (M : Mem) : Prop := M 67 21 = -1 ∧ M 67 31 = -1 ∧ (∀ i, M 88 i = 0) ∧ M 3 = wcF ∧ M 73 = ML0 73
/-- numbers that are small though nobody asks for them -/
def SmR (M : Mem) : Prop := small M 69 383 ∧ small M 7 49 ∧ small M 37 49 ∧ small M 17 49 ∧ small M 26 49 ∧ small M 89 766 ∧ small M 70 117 ∧ small M 71 240
theorem small_cg {M M2 : Mem} {a n : Nat} (h : M2 a = M a) (hs : small M a n) : small M2 a n := fun i h1 h2 => by rw [h]; exact hs i h1 h2
/-- all but the tape -/
def InvT (M : Mem) : Prop := SmR M ∧ M 1 9 = M 67 15 ∧ NowR M ∧ GridR M ∧ Kept0 M ∧ Kept1 M ∧ ToldR M ∧ M 0 10 = M 67 36 ∧ M 0 11 = M 67 59 ∧ JudR M ∧ ConR M
def Inv (M : Mem) : Prop := tapeR M M ∧ InvT M
/-- what no call needs of the calls ahead of it -/
def scr (b : Nat) (j : Int) : Prop := (b = 1 ∧ j ≠ 1 ∧ j ≠ 9) ∨ (34 ≤ b ∧ b ≤ 44 ∧ b ≠ 37) ∨ b = 47 ∨ (49 ≤ b ∧ b ≤ 66) ∨ (b = 67 ∧ j ≠ 2 ∧ j ≠ 15 ∧ j ≠ 21 ∧ j ≠ 29 ∧ j ≠ 31 ∧ j ≠ 36 ∧ j ≠ 40 ∧ j ≠ 59) ∨ (b = 72 ∧ 17 ≤ j) ∨ b = 74 ∨ b = 75 ∨ (77 ≤ b ∧ b ≤ 79) ∨ (82 ≤ b ∧ b ≤ 87)
def Agr (M M2 : Mem) : Prop := ∀ b j, ¬ scr b j → M2 b j = M b j
/-- the tape as well -/
def scrT (b : Nat) (j : Int) : Prop := scr b j ∨ (b = 1 ∧ j = 1) ∨ b = 2 ∨ (b = 67 ∧ j = 2) ∨ b = 68
def AgrT (M M2 : Mem) : Prop := ∀ b j, ¬ scrT b j → M2 b j = M b j
theorem AgrT.fn {M M2 : Mem} (h : AgrT M M2) {b : Nat} (hb : ∀ j, ¬ scrT b j) : M2 b = M b := funext fun j => h b j (hb j)
theorem NMf_cg {r qn bn fn fn2 : Int → Int} (hr : r 0 ≤ 8 ∧ r 2 ≤ 9) (h : ∀ j, 0 ≤ j → j < 17 → fn2 j = fn j) (hN : NMf r qn bn fn) : NMf r qn bn fn2 :=
  ⟨fun q h1 h2 => by rw [h q h1 (by omega)]; exact hN.1 q h1 h2, fun b h1 h2 => by rw [h (8 + b) (by omega) (by omega)]; exact hN.2 b h1 h2⟩
theorem InvT_agr {M M2 : Mem} (h : AgrT M M2) (hI : InvT M) : InvT M2 := by
  obtain ⟨i0, i2, i3, i4, i5, i6, i7, i8, i9, i10, i11⟩ := hI
  have f : ∀ b, (b = 3 ∨ b = 4 ∨ b = 5 ∨ b = 6 ∨ b = 7 ∨ b = 8 ∨ b = 9 ∨ b = 10 ∨ b = 11 ∨ b = 12 ∨ (14 ≤ b ∧ b ≤ 33) ∨ b = 37 ∨ b = 45 ∨ b = 46 ∨ b = 48 ∨ b = 69 ∨ b = 70 ∨ b = 71 ∨ b = 73 ∨ b = 76 ∨ b = 80 ∨ b = 81 ∨ (88 ≤ b ∧ b ≤ 91)) → M2 b = M b := fun b hb => h.fn (fun j hs => by unfold scrT scr at hs; omega)
  have e19 : M2 1 9 = M 1 9 := h 1 9 (by unfold scrT scr; omega)
  have m15 : M2 67 15 = M 67 15 := h 67 15 (by unfold scrT scr; omega)
  have m21 : M2 67 21 = M 67 21 := h 67 21 (by unfold scrT scr; omega)
  have m29 : M2 67 29 = M 67 29 := h 67 29 (by unfold scrT scr; omega)
  have m31 : M2 67 31 = M 67 31 := h 67 31 (by unfold scrT scr; omega)
  have m36 : M2 67 36 = M 67 36 := h 67 36 (by unfold scrT scr; omega)
  have m40 : M2 67 40 = M 67 40 := h 67 40 (by unfold scrT scr; omega)
  have m59 : M2 67 59 = M 67 59 := h 67 59 (by unfold scrT scr; omega)
  have z10 : M2 0 10 = M 0 10 := h 0 10 (by unfold scrT scr; omega)
  have z11 : M2 0 11 = M 0 11 := h 0 11 (by unfold scrT scr; omega)
  have n72 : ∀ j, 0 ≤ j → j < 17 → M2 72 j = M 72 j := fun j h1 h2 => h 72 j (by unfold scrT scr; omega)
  refine ⟨⟨small_cg (f 69 (by omega)) i0.1, small_cg (f 7 (by omega)) i0.2.1, small_cg (f 37 (by omega)) i0.2.2.1, small_cg (f 17 (by omega)) i0.2.2.2.1, small_cg (f 26 (by omega)) i0.2.2.2.2.1, small_cg (f 89 (by omega)) i0.2.2.2.2.2.1, small_cg (f 70 (by omega)) i0.2.2.2.2.2.2.1, small_cg (f 71 (by omega)) i0.2.2.2.2.2.2.2⟩, by rw [e19, m15]; exact i2, ?_, ?_, ?_, ?_, ?_, by rw [z10, m36]; exact i8, by rw [z11, m59]; exact i9, ?_, ?_⟩
  · unfold NowR at i3 ⊢
    rw [f 4 (by omega), f 5 (by omega), f 6 (by omega), f 7 (by omega), f 8 (by omega), f 9 (by omega), f 10 (by omega), f 11 (by omega), f 12 (by omega), f 69 (by omega)]
    exact ⟨i3.1, i3.2.1, i3.2.2.1, i3.2.2.2.1, i3.2.2.2.2.1, i3.2.2.2.2.2.1, NMf_cg ⟨i3.1.1.2, i3.1.2.2.1.2⟩ n72 i3.2.2.2.2.2.2⟩
  · unfold GridR at i4 ⊢
    rw [f 32 (by omega), f 33 (by omega), f 5 (by omega)]
    exact i4
  · unfold Kept0 at i5 ⊢
    rw [f 14 (by omega), f 15 (by omega), f 16 (by omega), f 17 (by omega), f 18 (by omega), f 19 (by omega), f 20 (by omega), f 21 (by omega), f 22 (by omega), f 89 (by omega), f 90 (by omega), f 91 (by omega)]
    exact i5
  · unfold Kept1 at i6 ⊢
    rw [f 23 (by omega), f 24 (by omega), f 25 (by omega), f 26 (by omega), f 27 (by omega), f 28 (by omega), f 29 (by omega), f 30 (by omega), f 31 (by omega), f 89 (by omega), f 90 (by omega), f 91 (by omega)]
    exact i6
  · unfold ToldR at i7 ⊢
    rw [f 45 (by omega), f 76 (by omega), m29]
    exact i7
  · unfold JudR tellX at i10 ⊢
    rw [f 46 (by omega), f 48 (by omega), f 80 (by omega), f 81 (by omega), m40]
    exact i10
  · unfold ConR at i11 ⊢
    rw [f 88 (by omega), f 3 (by omega), f 73 (by omega), m21, m31]
    exact i11
theorem Agr.T {M M2 : Mem} (h : Agr M M2) : AgrT M M2 := fun b j hs => h b j (fun h9 => hs (Or.inl h9))
theorem Inv_agr {M M2 : Mem} (h : Agr M M2) (hI : Inv M) : Inv M2 := by
  refine ⟨?_, InvT_agr h.T hI.2⟩
  obtain ⟨h1, h2, h3⟩ := hI.1
  have e11 : M2 1 1 = M 1 1 := h 1 1 (by unfold scr; omega)
  have m2 : M2 67 2 = M 67 2 := h 67 2 (by unfold scr; omega)
  refine ⟨by rw [e11, m2]; exact h1, by rw [e11]; exact h2, fun i => ?_⟩
  rw [h 2 i (by unfold scr; omega), h 68 i (by unfold scr; omega)]
  exact h3 i
theorem Agr.refl {M : Mem} : Agr M M := fun _ _ _ => rfl
theorem Agr.trans {M M2 M3 : Mem} (h : Agr M M2) (h2 : Agr M2 M3) : Agr M M3 := fun b j hs => (h2 b j hs).trans (h b j hs)
theorem Agr.aup {M M2 : Mem} {a : Nat} {i x : Int} (h : Agr M M2) (hs : scr a i) : Agr M (up M2 a i x) := fun b j hn => by
  unfold up
  rw [if_neg (fun h9 => hn (by rw [h9.1, h9.2]; exact hs))]
  exact h b j hn
theorem agr_thrown {M : Mem} {x : Int} : Agr M (up M 67 0 x) := fun b j hs => by
  unfold up
  rw [if_neg]
  intro h
  apply hs
  unfold scr
  omega
