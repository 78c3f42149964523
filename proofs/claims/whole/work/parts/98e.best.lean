/-! BEST, pure: from STOP to STOP -/
theorem tkR_6 {w n : Nat} {P : Nat → Bool} {k : Nat} {kn ho tu side : Int} (hn : n ≤ 6) (h1 : 0 ≤ kn ∧ kn ≤ 60) (h2 : 0 ≤ ho ∧ ho ≤ 60) (h3 : 0 ≤ tu ∧ tu ≤ 60) : 0 ≤ (tkR w n P k kn ho tu side).1 ∧ (tkR w n P k kn ho tu side).1 ≤ 2000 := by
  have T : ∀ b, 0 ≤ (tkT w n P k kn ho tu b).1 ∧ (tkT w n P k kn ho tu b).1 ≤ 2000 := fun b => by
    have hb := ut_b (w := w) (n := n) (P := P) (k := k) (b := b)
    have m1 := mul_b h1 (show 0 ≤ ((uN w n P k b : Nat) : Int) + ((tN w n P k b : Nat) : Int) ∧ ((uN w n P k b : Nat) : Int) + ((tN w n P k b : Nat) : Int) ≤ 24 by omega)
    have m2 := mul_b h2 (show 0 ≤ ((hN w n P k b : Nat) : Int) ∧ ((hN w n P k b : Nat) : Int) ≤ 6 by omega)
    unfold tkT
    generalize kn * (((uN w n P k b : Nat) : Int) + ((tN w n P k b : Nat) : Int)) = x at *
    generalize ho * ((hN w n P k b : Nat) : Int) = y at *
    show 0 ≤ x + y + (if b = 2 then tu else 0) ∧ x + y + (if b = 2 then tu else 0) ≤ 2000
    by_cases e : b = 2
    · rw [if_pos e]; omega
    · rw [if_neg e]; omega
  have m : ∀ {a c : Int × Int × Int × Int × Int}, (0 ≤ a.1 ∧ a.1 ≤ 2000) → (0 ≤ c.1 ∧ c.1 ≤ 2000) → 0 ≤ (mnT a c).1 ∧ (mnT a c).1 ≤ 2000 := fun {a c} ha hc => by
    unfold mnT
    by_cases h : c.1 < a.1
    · rw [if_pos h]; exact hc
    · rw [if_neg h]; exact ha
  unfold tkR
  by_cases e : side = 1
  · rw [if_pos e]; exact m (T 0) (T 2)
  · rw [if_neg e]
    by_cases e2 : side = 2
    · rw [if_pos e2]; exact m (T 1) (T 2)
    · rw [if_neg e2]; exact m (m (T 0) (T 1)) (T 2)
section BE
variable (w l m : Nat) (r q lg b : Int → Int) (fl hd : Int) (wh cm lv : Nat → Int)
/-- the RAFT of a code -/
def RFc (c : Nat) : Int → Int := fun j => if 0 ≤ j ∧ occ c j.toNat < 4 then wh (occ c j.toNat) else -1
def tkS (s : Int) (c k : Nat) : Int := (tkR w (w * l) (bn c).testBit k (r 5) (r 6) (r 7) (q (3 * quO r s))).1
def wtS (s x : Int) : Int := wtV (q (3 * quO r s + 1)) (q (3 * quO r s + 2)) x
def iniS (s : Int) (A : Nat → Int) (c : Nat) : Int := if A c < 100000000 then A c + wtS r q s (A c) else 100000000
noncomputable def DS (s : Int) (A : Nat → Int) (c : Nat) : Int := dsV m (w * l) cm lv s (tkS w l r q s) (iniS r q s A) c
noncomputable def frm (s : Int) (A : Nat → Int) (c : Nat) : Int := if A c < DS w l m r q cm lv s A c then A c else DS w l m r q cm lv s A c
def setd (s : Int) (c : Nat) : Prop := ∀ i, i < m → ¬ (dg c i ≠ 0 ∧ lv i = s) ∧ ¬ (dg c i = 0 ∧ cm i = s)
noncomputable def lgT (s : Int) (c : Nat) : Int := legA w l r lg b fl (RFc wh c) (lgO r s) (if lgO r s = hd then 1 else 0)
noncomputable def nxA (s : Int) (A : Nat → Int) (c : Nat) : Int := if cb (vcd m (w * l) c ∧ setd m cm lv s c ∧ frm w l m r q cm lv s A c < 100000000 ∧ ¬ lgT w l r lg b fl hd wh s c < 0) = 1 then frm w l m r q cm lv s A c + lgT w l r lg b fl hd wh s c else 100000000
noncomputable def bA (mi : Int) : Nat → Nat → Int
  | 0 => fun c => if c = 0 then mi else 100000000
  | s + 1 => nxA w l m r q lg b fl hd wh cm lv (s : Int) (bA mi s)
noncomputable def bstV (mi : Int) : Int := if frm w l m r q cm lv (2 * (r 0 - 1)) (bA w l m r q lg b fl hd wh cm lv mi (2 * (r 0 - 1)).toNat) 0 < 100000000 then frm w l m r q cm lv (2 * (r 0 - 1)) (bA w l m r q lg b fl hd wh cm lv mi (2 * (r 0 - 1)).toNat) 0 - mi else -1
/-- what stands at the coming to a STOP -/
def BI (s : Nat) (A : Nat → Int) : Prop := ∀ c, (A c = 100000000 ∨ (0 ≤ A c ∧ A c ≤ 2000 + (s : Int) * 4200000)) ∧ (A c < 100000000 → vcd m (w * l) c ∧ ∀ i, i < m → (dg c i ≠ 0 ↔ cm i < (s : Int) ∧ (s : Int) ≤ lv i))
/-- what is asked of those who are counted -/
def okB : Prop := (1 ≤ w ∧ w ≤ 4) ∧ (1 ≤ l ∧ l ≤ 6) ∧ w * l ≤ 6 ∧ m ≤ 4 ∧ RIf r q b ∧ LEf r lg ∧ (0 ≤ fl ∧ fl ≤ 99) ∧ 0 < r 0 ∧ (∀ i, i < m → (0 ≤ cm i ∧ cm i < lv i ∧ lv i ≤ 2 * (r 0 - 1)) ∧ 0 ≤ wh i ∧ wh i < r 2) ∧ ∀ i j, i < m → j < m → wh i = wh j → i = j
end BE
section BF
variable {w l m : Nat} {r q lg b : Int → Int} {fl hd : Int} {wh cm lv : Nat → Int} {A : Nat → Int} {s : Nat}
theorem tkS_b (hO : okB w l m r q lg b fl wh cm lv) {s : Int} (c k : Nat) : 0 ≤ tkS w l r q s c k ∧ tkS w l r q s c k ≤ 2000 := by
  have hR := hO.2.2.2.2.1
  have h5 := hR.2.2.2.2.2.1
  exact tkR_6 hO.2.2.1 ⟨by omega, by omega⟩ hR.2.2.2.2.2.2.1 hR.2.2.2.2.2.2.2.1
theorem wtS_b (hO : okB w l m r q lg b fl wh cm lv) {s : Int} (hs : 0 ≤ s ∧ s ≤ 2 * (r 0 - 1)) (x : Int) : 0 ≤ wtS r q s x ∧ wtS r q s x ≤ 2880 := by
  have hq := quO_b hs
  exact wtV_b (hO.2.2.2.2.1.2.2.2.2.2.2.2.2.1 _ hq.1 hq.2).2.1
theorem BI.ok (hO : okB w l m r q lg b fl wh cm lv) (h : BI w l m cm lv s A) (hs : (s : Int) ≤ 2 * (r 0 - 1)) : okW m (w * l) cm lv (s : Int) (tkS w l r q (s : Int)) (iniS r q (s : Int) A) ∧ (∀ c, iniS r q (s : Int) A c < 100000000 → iniS r q (s : Int) A c ≤ 5000 + (s : Int) * 4200000) ∧ 5000 + (s : Int) * 4200000 ≤ 90000000 ∧ ∀ c, A c < 100000000 → 0 ≤ iniS r q (s : Int) A c ∧ iniS r q (s : Int) A c < 100000000 := by
  have r0 := hO.2.2.2.2.1.1
  have I : ∀ c, A c < 100000000 → 0 ≤ iniS r q (s : Int) A c ∧ iniS r q (s : Int) A c ≤ 5000 + (s : Int) * 4200000 := fun c hc => by
    have h1 := (h c).1
    have h2 := wtS_b hO (s := (s : Int)) ⟨by omega, hs⟩ (A c)
    unfold iniS
    rw [if_pos hc]
    omega
  have J : ∀ c, iniS r q (s : Int) A c < 100000000 → A c < 100000000 := fun c hc => by
    apply Classical.byContradiction
    intro h9
    unfold iniS at hc
    rw [if_neg h9] at hc
    exact absurd hc (by decide)
  refine ⟨⟨hO.2.2.2.1, hO.2.2.1, fun i hi => (hO.2.2.2.2.2.2.2.2.1 i hi).1.2.1, fun c k => tkS_b hO c k, fun c hc => ⟨(I c (J c hc)).1, ((h c).2 (J c hc)).1, fun i hi => ?_⟩⟩, fun c hc => (I c (J c hc)).2, by omega, fun c hc => ⟨(I c hc).1, by have := (I c hc).2; omega⟩⟩
  have h1 := ((h c).2 (J c hc)).2 i hi
  exact ⟨fun h2 => h1.mpr ⟨h2.1, by omega⟩, fun h2 => by have := h1.mp h2; omega⟩
theorem DS_b (hO : okB w l m r q lg b fl wh cm lv) (h : BI w l m cm lv s A) (hs : (s : Int) ≤ 2 * (r 0 - 1)) (c : Nat) : (DS w l m r q cm lv (s : Int) A c = 100000000) ∨ (0 ≤ DS w l m r q cm lv (s : Int) A c ∧ DS w l m r q cm lv (s : Int) A c ≤ 5000 + (s : Int) * 4200000 + 4184000 ∧ Jc m (w * l) cm lv (s : Int) c) := by
  obtain ⟨o1, o2, o3, o4⟩ := h.ok hO hs
  unfold DS
  by_cases hr : ∃ x, Wk m (w * l) cm lv (s : Int) (tkS w l r q (s : Int)) (iniS r q (s : Int) A) c x
  · obtain ⟨x, hx⟩ := hr
    have d := (dsV_y o1 hx).1
    exact Or.inr ⟨(d.J o1).2, dsV_b o1 o2 hx, (d.J o1).1⟩
  · exact Or.inl (dsV_n (fun x hx => hr ⟨x, hx⟩))
theorem frm_b (hO : okB w l m r q lg b fl wh cm lv) (h : BI w l m cm lv s A) (hs : (s : Int) ≤ 2 * (r 0 - 1)) (c : Nat) : (frm w l m r q cm lv (s : Int) A c = 100000000) ∨ (0 ≤ frm w l m r q cm lv (s : Int) A c ∧ frm w l m r q cm lv (s : Int) A c ≤ 5000 + (s : Int) * 4200000 + 4184000 ∧ Jc m (w * l) cm lv (s : Int) c) := by
  have r0 := hO.2.2.2.2.1.1
  have d := DS_b hO h hs c
  have a := h c
  obtain ⟨o1, -, -, o4⟩ := h.ok hO hs
  unfold frm
  by_cases e : A c < DS w l m r q cm lv (s : Int) A c
  · rw [if_pos e]
    right
    have hlt : A c < 100000000 := by omega
    refine ⟨by omega, by omega, ?_⟩
    exact (o1.2.2.2.2 c (o4 c hlt).2).2
  · rw [if_neg e]; exact d
theorem BI_s (hO : okB w l m r q lg b fl wh cm lv) (h : BI w l m cm lv s A) (hs : (s : Int) < 2 * (r 0 - 1)) : BI w l m cm lv (s + 1) (nxA w l m r q lg b fl hd wh cm lv (s : Int) A) := fun c => by
  have r0 := hO.2.2.2.2.1.1
  have f := frm_b hO h (by omega) c
  unfold nxA
  by_cases hc : vcd m (w * l) c ∧ setd m cm lv (s : Int) c ∧ frm w l m r q cm lv (s : Int) A c < 100000000 ∧ ¬ lgT w l r lg b fl hd wh (s : Int) c < 0
  · rw [cb_t hc, if_pos rfl]
    obtain ⟨c1, c2, c3, c4⟩ := hc
    rcases f with f | ⟨f1, f2, f3⟩
    · omega
    · have lb : lgT w l r lg b fl hd wh (s : Int) c ≤ 10000 := by
        have hk := lgO_b (r := r) (s := (s : Int)) ⟨by omega, hs⟩
        have hLE0 := hO.2.2.2.2.2.1.1
        have hLE := hO.2.2.2.2.2.1.2 (lgO r (s : Int)) hk.1 (by omega)
        have h5 := hO.2.2.2.2.1.2.2.2.2.2.1
        have gb := goV_b (w := w) (l := l) (P := pR (w * l) (RFc wh c)) (t := lg (7 * lgO r (s : Int) + 5)) (mi := lg (7 * lgO r (s : Int) + 2)) (ea := lg (7 * lgO r (s : Int) + 6)) (kn := r 5) hO.1 hO.2.1 hLE.2.2.2.2.2.1.1 hLE.2.2.1 hLE.2.2.2.2.2.2 ⟨by omega, by omega⟩
        unfold lgT legA legV
        split
        · omega
        · split
          · omega
          · split <;> omega
      refine ⟨Or.inr ⟨by omega, by omega⟩, fun _ => ⟨c1, fun i hi => ?_⟩⟩
      have j := f3.2 i hi
      have t := c2 i hi
      have lt := (hO.2.2.2.2.2.2.2.2.1 i hi).1
      constructor
      · intro hne
        have := j.2 hne
        have : lv i ≠ (s : Int) := fun e => t.1 ⟨hne, e⟩
        omega
      · intro h9 h0
        by_cases e : cm i = (s : Int)
        · exact t.2 ⟨h0, e⟩
        · exact j.1 ⟨by omega, by omega⟩ h0
  · rw [cb_f hc, if_neg (by decide)]
    exact ⟨Or.inl rfl, fun h9 => absurd h9 (by decide)⟩
theorem BI.z (hO : okB w l m r q lg b fl wh cm lv) {mi : Int} (hm : 0 ≤ mi ∧ mi ≤ 1439) : BI w l m cm lv 0 (bA w l m r q lg b fl hd wh cm lv mi 0) := fun c => by
  unfold bA
  by_cases e : c = 0
  · show ((if c = 0 then mi else 100000000) = 100000000 ∨ (0 ≤ (if c = 0 then mi else 100000000) ∧ (if c = 0 then mi else 100000000) ≤ 2000 + ((0 : Nat) : Int) * 4200000)) ∧ ((if c = 0 then mi else 100000000) < 100000000 → _)
    rw [if_pos e]
    refine ⟨Or.inr ⟨by omega, by omega⟩, fun _ => ?_⟩
    rw [e]
    refine ⟨vcd_0, fun i hi => ?_⟩
    have z : ∀ i, i < 4 → dg 0 i = 0 := by decide
    have := hO.2.2.2.1
    have := (hO.2.2.2.2.2.2.2.2.1 i hi).1
    rw [z i (by omega)]
    exact ⟨fun h => absurd rfl h, fun h => by omega⟩
  · show ((if c = 0 then mi else 100000000) = 100000000 ∨ (0 ≤ (if c = 0 then mi else 100000000) ∧ (if c = 0 then mi else 100000000) ≤ 2000 + ((0 : Nat) : Int) * 4200000)) ∧ ((if c = 0 then mi else 100000000) < 100000000 → _)
    rw [if_neg e]
    exact ⟨Or.inl rfl, fun h => absurd h (by decide)⟩
theorem bA_BI (hO : okB w l m r q lg b fl wh cm lv) {mi : Int} (hm : 0 ≤ mi ∧ mi ≤ 1439) : ∀ s : Nat, (s : Int) ≤ 2 * (r 0 - 1) → BI w l m cm lv s (bA w l m r q lg b fl hd wh cm lv mi s)
  | 0, _ => BI.z hO hm
  | s + 1, h => BI_s hO (bA_BI hO hm s (by omega)) (by omega)
theorem DS_none {s : Int} (h : ∀ c, A c = 100000000) (c : Nat) : DS w l m r q cm lv s A c = 100000000 := by
  unfold DS
  refine dsV_n (fun x hx => ?_)
  exact Wk.ind (P := fun _ _ => False) (fun c hc => by
    unfold iniS at hc
    rw [h c, if_neg (by decide)] at hc
    exact absurd hc (by decide)) (fun _ _ _ _ _ _ _ hF _ => hF) hx
theorem frm_none {s : Int} (h : ∀ c, A c = 100000000) (c : Nat) : frm w l m r q cm lv s A c = 100000000 := by
  unfold frm
  rw [DS_none h c, h c, if_neg (by decide)]
theorem nxA_none {s : Int} (h : ∀ c, A c = 100000000) (c : Nat) : nxA w l m r q lg b fl hd wh cm lv s A c = 100000000 := by
  unfold nxA
  rw [cb_f (fun h9 => by rw [frm_none h c] at h9; exact absurd h9.2.2.1 (by decide)), if_neg (by decide)]
theorem bA_none {mi : Int} {s : Nat} (h : ∀ c, bA w l m r q lg b fl hd wh cm lv mi s c = 100000000) : ∀ t : Nat, ∀ c, bA w l m r q lg b fl hd wh cm lv mi (s + t) c = 100000000
  | 0, c => h c
  | t + 1, c => nxA_none (bA_none h t) c
theorem bstV_none {mi : Int} {s : Nat} (hs : (s : Int) ≤ 2 * (r 0 - 1)) (h : ∀ c, bA w l m r q lg b fl hd wh cm lv mi s c = 100000000) : bstV w l m r q lg b fl hd wh cm lv mi = -1 := by
  obtain ⟨t, ht⟩ : ∃ t : Nat, (2 * (r 0 - 1)).toNat = s + t := ⟨(2 * (r 0 - 1)).toNat - s, by omega⟩
  unfold bstV
  rw [ht, frm_none (bA_none h t) 0, if_neg (by decide)]
end BF
