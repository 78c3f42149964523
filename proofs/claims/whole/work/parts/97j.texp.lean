/-! TEXTS, apart from both machines -/
abbrev PR (α : Type) : Type := Sum (Int × Nat) (Tok × α)
def prB {α : Type} (k : Int) (p : Nat) : PR α := Sum.inl (k, p)
def prO {α : Type} (t : Tok) (a : α) : PR α := Sum.inr (t, a)
def prT {α β : Type} (p : PR α) (f : Tok → α → PR β) : PR β := match p with
  | Sum.inl e => Sum.inl e
  | Sum.inr x => f x.1 x.2
/-- what is owed for each end -/
def CPost {α : Type} (p : PR α) (B : Int → Nat → Prop) (O : Tok → α → Prop) : Prop := match p with
  | Sum.inl e => B e.1 e.2
  | Sum.inr x => O x.1 x.2
theorem CPost.thn {α β : Type} {p : PR α} {f : Tok → α → PR β} {B B2 : Int → Nat → Prop} {O : Tok → β → Prop} {O2 : Tok → α → Prop} (h : CPost (prT p f) B O) (hB : ∀ k n, B k n → B2 k n) (hO : ∀ t a, p = prO t a → CPost (f t a) B O → O2 t a) : CPost p B2 O2 := by
  cases p with
  | inl e => exact hB _ _ h
  | inr x => exact hO _ _ rfl h
theorem CPost.imp {α : Type} {p : PR α} {B B2 : Int → Nat → Prop} {O O2 : Tok → α → Prop} (h : CPost p B O) (hB : ∀ k n, B k n → B2 k n) (hO : ∀ t a, p = prO t a → O t a → O2 t a) : CPost p B2 O2 := by
  cases p with
  | inl e => exact hB _ _ h
  | inr x => exact hO _ _ rfl h
theorem prT_ok {α β : Type} {p : PR α} {f : Tok → α → PR β} {t : Tok} {b : β} (h : prT p f = prO t b) : ∃ t' a, p = prO t' a ∧ f t' a = prO t b := by
  cases p with
  | inl e => exact absurd h (by unfold prT prO; exact Sum.inl_ne_inr)
  | inr x => exact ⟨x.1, x.2, rfl, h⟩
theorem prB_ne {α : Type} {k : Int} {p : Nat} {t : Tok} {a : α} : ¬ (prB k p : PR α) = prO t a := Sum.inl_ne_inr
theorem prO_inj {α : Type} {t u : Tok} {a b : α} (h : prO t a = prO u b) : t = u ∧ a = b := by
  unfold prO at h
  have h1 := Sum.inr.inj h
  exact ⟨congrArg Prod.fst h1, congrArg Prod.snd h1⟩
/-- a RIVER as far as it is read: numbers, QUAYS, LEGS, BARGES, NAMES, settings seen -/
abbrev PD : Type := (Int → Int) × (Int → Int) × (Int → Int) × (Int → Int) × (Nat → List Nat) × (Nat → List Nat) × Nat
def dR (d : PD) : Int → Int := d.1
def dQ (d : PD) : Int → Int := d.2.1
def dL (d : PD) : Int → Int := d.2.2.1
def dB (d : PD) : Int → Int := d.2.2.2.1
def dN (d : PD) : Nat → List Nat := d.2.2.2.2.1
def dM (d : PD) : Nat → List Nat := d.2.2.2.2.2.1
def dS (d : PD) : Nat := d.2.2.2.2.2.2
def updN (F : Nat → List Nat) (k : Nat) (w : List Nat) : Nat → List Nat := fun i => if i = k then w else F i
def wR (d : PD) (k x : Int) : PD := (updR (dR d) k x, dQ d, dL d, dB d, dN d, dM d, dS d)
def wQ (d : PD) (k x : Int) : PD := (dR d, updR (dQ d) k x, dL d, dB d, dN d, dM d, dS d)
def wL (d : PD) (k x : Int) : PD := (dR d, dQ d, updR (dL d) k x, dB d, dN d, dM d, dS d)
def wB (d : PD) (k x : Int) : PD := (dR d, dQ d, dL d, updR (dB d) k x, dN d, dM d, dS d)
def wN (d : PD) (k : Nat) (w : List Nat) : PD := (dR d, dQ d, dL d, dB d, updN (dN d) k w, dM d, dS d)
def wM (d : PD) (k : Nat) (w : List Nat) : PD := (dR d, dQ d, dL d, dB d, dN d, updN (dM d) k w, dS d)
def wS (d : PD) (s : Nat) : PD := (dR d, dQ d, dL d, dB d, dN d, dM d, s)
section PP
variable (T : Int → Int) (len lim most : Nat)
def nt (t : Tok) : Tok := tok T len lim (tX t)
def TF (p : Nat) (t : Tok) : Prop := ∃ pos : Nat, p ≤ pos ∧ pos ≤ len ∧ t = tok T len lim pos
def pNum (lo hi : Int) (t : Tok) : PR Int := if tK t = 3 then (if lo ≤ tV t ∧ tV t ≤ hi then prO (nt T len lim t) (tV t) else prB 2 (tP t)) else prB 1 (tP t)
def pSemi (t : Tok) (d : PD) : PR PD := if tK t = 4 then prO (nt T len lim t) d else prB 1 (tP t)
def qnF (d : PD) (w : List Nat) : Int := fnd (dN d) w (dR d 0).toNat
def bnF (d : PD) (w : List Nat) : Int := fnd (dM d) w (dR d 2).toNat
def pNew (t : Tok) (d : PD) : PR (List Nat) := if tK t = 2 then (if qnF d (tL t) = -1 ∧ bnF d (tL t) = -1 then prO (nt T len lim t) (tL t) else prB 3 (tP t)) else prB 1 (tP t)
def pQn (u : Int) (t : Tok) (d : PD) : PR Int := if tK t = 2 then (if qnF d (tL t) = -1 ∨ qnF d (tL t) = u then prB 3 (tP t) else prO (nt T len lim t) (qnF d (tL t))) else prB 1 (tP t)
def addQ (d : PD) (w : List Nat) (sd o c : Int) : PD := wR (wQ (wQ (wQ (wN d (dR d 0).toNat w) (3 * dR d 0) sd) (3 * dR d 0 + 1) o) (3 * dR d 0 + 2) c) 0 (dR d 0 + 1)
def addQ2 (d : PD) (w : List Nat) (sd o c : Int) : PD := wR (wQ (wQ (wQ (wQ (wQ (wN d (dR d 0).toNat w) (3 * dR d 0) sd) (3 * dR d 0 + 1) 0) (3 * dR d 0 + 2) 1440) (3 * dR d 0 + 1) o) (3 * dR d 0 + 2) c) 0 (dR d 0 + 1)
def pQuay (t : Tok) (d : PD) : PR PD := if 8 ≤ dR d 0 then prB 4 (tP t) else prT (pNew T len lim (nt T len lim t) d) fun t2 w =>
  if tK t2 = 1 ∧ 7 ≤ tV t2 ∧ tV t2 ≤ 9 then
    (if tK (nt T len lim t2) = 1 ∧ tV (nt T len lim t2) = 10 then prT (pNum T len lim 0 1439 (nt T len lim (nt T len lim t2))) fun t4 o => prT (pNum T len lim (o + 1) 1440 t4) fun t5 c => prO t5 (addQ2 d w (tV t2 - 6) o c)
     else prO (nt T len lim t2) (addQ d w (tV t2 - 6) 0 1440))
  else prB 1 (tP t2)
def addL (d : PD) (a b c e f g h : Int) : PD := wR (wL (wL (wL (wL (wL (wL (wL d (7 * dR d 1) a) (7 * dR d 1 + 1) b) (7 * dR d 1 + 2) c) (7 * dR d 1 + 3) e) (7 * dR d 1 + 4) f) (7 * dR d 1 + 5) g) (7 * dR d 1 + 6) h) 1 (dR d 1 + 1)
def addL2 (d : PD) (a b c e f g h : Int) : PD := wR (wL (wL (wL (wL (wL (wL (wL (wL (wL d (7 * dR d 1) a) (7 * dR d 1 + 1) b) (7 * dR d 1 + 2) c) (7 * dR d 1 + 3) e) (7 * dR d 1 + 4) f) (7 * dR d 1 + 5) 0) (7 * dR d 1 + 6) 0) (7 * dR d 1 + 5) g) (7 * dR d 1 + 6) h) 1 (dR d 1 + 1)
def pLeg (t : Tok) (d : PD) : PR PD := if dR d 0 ≤ dR d 1 + 1 then prB 4 (tP t) else prT (pNum T len lim 1 4 (nt T len lim t)) fun t1 a => prT (pNum T len lim 1 6 t1) fun t2 b => prT (pNum T len lim 1 999 t2) fun t3 c => prT (pNum T len lim 0 99 t3) fun t4 e => prT (pNum T len lim 0 99 t4) fun t5 f =>
  if tK t5 = 1 ∧ tV t5 = 11 then prT (pNum T len lim 1 9 (nt T len lim t5)) fun t6 g => prT (pNum T len lim 1 99 t6) fun t7 h => prO t7 (addL2 d a b c e f g h)
  else prO t5 (addL d a b c e f 0 0)
def setB (d : PD) (f g v : Int) : PD := wB (wB (wB (wB d (4 * dR d 2) f) (4 * dR d 2 + 1) g) (4 * dR d 2 + 2) v) (4 * dR d 2 + 3) 0
def setA (d : PD) (o : Int) : PD := wB (wB d (4 * dR d 2 + 3) (or32 (dB d (4 * dR d 2 + 3)) (shl32 1 o))) (4 * o + 3) (or32 (dB d (4 * o + 3)) (shl32 1 (dR d 2)))
def pAp : Nat → Tok → PD → PR PD
  | 0, t, d => prO t d
  | n + 1, t, d => if tK t = 1 ∧ tV t = 12 then
      (if tK (nt T len lim t) = 2 then
        (if bnF d (tL (nt T len lim t)) = -1 ∨ dB d (4 * dR d 2 + 3) / ((2 ^ (bnF d (tL (nt T len lim t))).toNat : Nat) : Int) % 2 = 1 then prB 3 (tP (nt T len lim t))
         else pAp n (nt T len lim (nt T len lim t)) (setA d (bnF d (tL (nt T len lim t)))))
       else prB 1 (tP (nt T len lim t)))
    else prO t d
def pBarge (t : Tok) (d : PD) : PR PD := if 9 ≤ dR d 2 then prB 4 (tP t) else prT (pNew T len lim (nt T len lim t) d) fun t2 w => prT (pQn T len lim (-1) t2 d) fun t3 f => prT (pQn T len lim f t3 d) fun t4 g => prT (pNum T len lim 0 99 t4) fun t5 v => prT (pAp T len lim 10 t5 (setB (wM d (dR d 2).toNat w) f g v)) fun t6 d6 => prO t6 (wR d6 2 (dR d 2 + 1))
def pSet (t : Tok) (d : PD) : PR PD := if dS d / 2 ^ (tV t - 3).toNat % 2 = 1 then prB 3 (tP t)
  else if tV t = 3 then prT (pNum T len lim 1 4 (nt T len lim t)) fun t2 a => prT (pNum T len lim 1 6 t2) fun t3 b => prO t3 (wS (wR (wR d 3 a) 4 b) (dS d + 1))
  else prT (pNum T len lim (if tV t = 4 then 1 else 0) 60 (nt T len lim t)) fun t2 a => prO t2 (wS (wR d (tV t + 1) a) (dS d + 2 ^ (tV t - 3).toNat))
def pLine (t : Tok) (d : PD) : PR PD := if tK t = 1 then (if tV t = 0 then pQuay T len lim t d else if tV t = 1 then pLeg T len lim t d else if tV t = 2 then pBarge T len lim t d else if 3 ≤ tV t ∧ tV t ≤ 6 then pSet T len lim t d else prB 1 (tP t)) else prB 1 (tP t)
def pFin (t : Tok) (d : PD) (n : Nat) : PR (PD × Nat) := if most < len ∨ dR d 1 + 1 < dR d 0 then prB 1 (tP t) else prO t (d, n)
def pRiv : Nat → Nat → Tok → PD → PR (PD × Nat)
  | 0, n, t, d => pFin len most t d n
  | f + 1, n, t, d => if tK t = 0 then pFin len most t d n else prT (prT (pLine T len lim t d) (pSemi T len lim)) fun t' d' => pRiv f (n + 1) t' d'
/-- an ACT -/
def pAct (F : Nat → List Nat) (m : Nat) (t : Tok) (ac : Int → Int) (n : Nat) : PR (Int → Int) :=
  if tK t = 1 ∧ 13 ≤ tV t ∧ tV t ≤ 16 then
    (if 60 ≤ n then prB 4 (tP t)
     else if tV t = 16 then prO (nt T len lim t) (updR (updR (updR (updR ac (4 * (n : Int)) 3) (4 * (n : Int) + 1) (-1)) (4 * (n : Int) + 2) (-1)) (4 * (n : Int) + 3) (-1))
     else if tK (nt T len lim t) = 2 then
       (if fnd F (tL (nt T len lim t)) m = -1 then prB 3 (tP (nt T len lim t))
        else if tV t = 13 then prO (nt T len lim (nt T len lim t)) (updR (updR (updR (updR ac (4 * (n : Int)) 0) (4 * (n : Int) + 1) (fnd F (tL (nt T len lim t)) m)) (4 * (n : Int) + 2) (-1)) (4 * (n : Int) + 3) (-1))
        else prT (pNum T len lim 0 5 (nt T len lim (nt T len lim t))) fun t3 a => prT (pNum T len lim 0 3 t3) fun t4 b => prO t4 (updR (updR (updR (updR ac (4 * (n : Int)) (tV t - 13)) (4 * (n : Int) + 1) (fnd F (tL (nt T len lim t)) m)) (4 * (n : Int) + 2) a) (4 * (n : Int) + 3) b))
     else prB 1 (tP (nt T len lim t)))
  else prB 1 (tP t)
def pPln (F : Nat → List Nat) (m : Nat) : Nat → Nat → Tok → (Int → Int) → PR ((Int → Int) × Nat)
  | 0, n, t, ac => prO t (ac, n)
  | f + 1, n, t, ac => if tK t = 0 then (if most < len then prB 1 (tP t) else prO t (ac, n)) else prT (pAct T len lim F m t ac n) fun t1 ac1 => if tK t1 = 4 then pPln F m f (n + 1) (nt T len lim t1) ac1 else prB 1 (tP t1)
end PP
/-! what TOKENS are like -/
theorem digs_b {T : Int → Int} {k : Nat} : ∀ {n : Nat}, (∀ i : Nat, i < n → isD (T ((k : Int) + (i : Int))) = true) → 0 ≤ digs T k n ∧ digs T k n < ((10 ^ n : Nat) : Int)
  | 0, _ => ⟨Int.le_refl 0, by show (0 : Int) < ((10 ^ 0 : Nat) : Int); decide⟩
  | n + 1, h => by
    obtain ⟨h1, h2⟩ := digs_b (T := T) (k := k) (n := n) (fun i hi => h i (by omega))
    have h3 := of_decide_eq_true (h n (by omega))
    unfold digs
    rw [Nat.pow_succ]
    generalize 10 ^ n = z at h2 ⊢
    omega
theorem D_all {T : Int → Int} {k n : Nat} (h : nL T k n = 0) (hw : ∀ i : Nat, i < n → isW (T ((k : Int) + (i : Int))) = true) : ∀ i : Nat, i < n → isD (T ((k : Int) + (i : Int))) = true := fun i hi => by
  have h1 := hw i hi
  unfold isW at h1
  rw [nL_no h i hi, Bool.false_or] at h1
  exact h1
section TO
variable {T : Int → Int} {len lim : Nat}
/-- what is so of each TOKEN -/
def TOK (len lim pos : Nat) (t : Tok) : Prop := (0 ≤ tK t ∧ tK t ≤ 5) ∧ (1 ≤ tK t → tK t ≤ 4 → pos < tX t ∧ tX t ≤ len) ∧ (tK t = 1 → 0 ≤ tV t ∧ tV t < 17 ∧ rsvF (tV t).toNat = tL t ∧ (∀ x ∈ tL t, 1 ≤ x ∧ x ≤ 26)) ∧ (tK t = 2 → (tL t).length ≤ 6 ∧ (∀ x ∈ tL t, 1 ≤ x ∧ x ≤ 26) ∧ fnd rsvF (tL t) 17 = -1) ∧ (tK t = 3 → 0 ≤ tV t ∧ tV t ≤ 9999) ∧ tP t ≤ lim ∧ (lim ≤ pos → tK t = 0) ∧ (tK t = 0 → tP t = lim)
theorem tok_ok (pos : Nat) (hp : pos ≤ len) (hl : lim ≤ len) : TOK len lim pos (tok T len lim pos) := by
  obtain ⟨b1, b2, b3, b4⟩ := runE_b (p := isB) (T := T) (lim - pos) pos
  obtain ⟨k, hk⟩ : ∃ k, k = runE isB T (lim - pos) pos := ⟨_, rfl⟩
  rw [← hk] at b1 b2 b3 b4
  have eTk : tok T len lim pos = if lim ≤ k then (0, 0, [], lim, pos) else if T (k : Int) = 59 then (4, 0, [], k, k + 1) else tokR T k (runE isW T (len - k) k) := by
    unfold tok
    rw [← hk]
  rw [eTk]
  by_cases c1 : lim ≤ k
  · rw [if_pos c1]
    exact ⟨⟨by show (0 : Int) ≤ 0; decide, by show (0 : Int) ≤ 5; decide⟩, fun h => absurd h (by show ¬ (1 : Int) ≤ 0; decide), fun h => absurd h (by show ¬ (0 : Int) = 1; decide), fun h => absurd h (by show ¬ (0 : Int) = 2; decide), fun h => absurd h (by show ¬ (0 : Int) = 3; decide), Nat.le_refl lim, fun _ => rfl, fun _ => rfl⟩
  · rw [if_neg c1]
    by_cases c2 : T (k : Int) = 59
    · rw [if_pos c2]
      exact ⟨⟨by show (0 : Int) ≤ 4; decide, by show (4 : Int) ≤ 5; decide⟩, fun _ _ => ⟨by show pos < k + 1; omega, by show k + 1 ≤ len; omega⟩, fun h => absurd h (by show ¬ (4 : Int) = 1; decide), fun h => absurd h (by show ¬ (4 : Int) = 2; decide), fun h => absurd h (by show ¬ (4 : Int) = 3; decide), by show k ≤ lim; omega, fun h => absurd h (by omega), fun h => absurd h (by show ¬ (4 : Int) = 0; decide)⟩
    · rw [if_neg c2]
      obtain ⟨g1, g2, g3, g4⟩ := runE_b (p := isW) (T := T) (len - k) k
      obtain ⟨e, he⟩ : ∃ e, e = runE isW T (len - k) k := ⟨_, rfl⟩
      rw [← he] at g1 g2 g3 g4 ⊢
      have run : ∀ i : Nat, i < e - k → isW (T ((k : Int) + (i : Int))) = true := fun i hi => by
        have := g3 (k + i) (by omega) (by omega)
        rw [Int.natCast_add] at this
        exact this
      have ld := run_ld (T := T) (k := k) (n := e - k) run
      unfold tokR
      by_cases c3 : nD T k (e - k) = 0 ∧ 1 ≤ nL T k (e - k) ∧ nL T k (e - k) ≤ 6
      · rw [if_pos c3]
        have lo := lets_ok (T := T) (k := k) (n := e - k) (nL_all c3.1 run)
        rcases fnd_sp (F := rsvF) (w := lets T k (e - k)) (n := 17) with ⟨f1, f2⟩ | ⟨i, f1, f2, f3⟩
        · rw [if_pos f1]
          exact ⟨⟨by show (0 : Int) ≤ 2; decide, by show (2 : Int) ≤ 5; decide⟩, fun _ _ => ⟨by show pos < e; omega, by show e ≤ len; omega⟩, fun h => absurd h (by show ¬ (2 : Int) = 1; decide), fun _ => ⟨by show (lets T k (e - k)).length ≤ 6; omega, lo.2, f1⟩, fun h => absurd h (by show ¬ (2 : Int) = 3; decide), by show k ≤ lim; omega, fun h => absurd h (by omega), fun h => absurd h (by show ¬ (2 : Int) = 0; decide)⟩
        · rw [if_neg (by omega)]
          refine ⟨⟨by show (0 : Int) ≤ 1; decide, by show (1 : Int) ≤ 5; decide⟩, fun _ _ => ⟨by show pos < e; omega, by show e ≤ len; omega⟩, fun _ => ⟨?_, ?_, ?_, lo.2⟩, fun h => absurd h (by show ¬ (1 : Int) = 2; decide), fun h => absurd h (by show ¬ (1 : Int) = 3; decide), by show k ≤ lim; omega, fun h => absurd h (by omega), fun h => absurd h (by show ¬ (1 : Int) = 0; decide)⟩
          · show 0 ≤ fnd rsvF (lets T k (e - k)) 17; omega
          · show fnd rsvF (lets T k (e - k)) 17 < 17; omega
          · show rsvF (fnd rsvF (lets T k (e - k)) 17).toNat = lets T k (e - k)
            rw [f2]
            exact f3
      · rw [if_neg c3]
        by_cases c4 : nL T k (e - k) = 0 ∧ 1 ≤ nD T k (e - k) ∧ nD T k (e - k) ≤ 4
        · rw [if_pos c4]
          have db := digs_b (T := T) (k := k) (n := e - k) (D_all c4.1 run)
          have h2 : 10 ^ (e - k) ≤ 10 ^ 4 := Nat.pow_le_pow_right (by decide) (by omega)
          have h3 : (10 : Nat) ^ 4 = 10000 := by decide
          exact ⟨⟨by show (0 : Int) ≤ 3; decide, by show (3 : Int) ≤ 5; decide⟩, fun _ _ => ⟨by show pos < e; omega, by show e ≤ len; omega⟩, fun h => absurd h (by show ¬ (3 : Int) = 1; decide), fun h => absurd h (by show ¬ (3 : Int) = 2; decide), fun _ => ⟨db.1, by show digs T k (e - k) ≤ 9999; omega⟩, by show k ≤ lim; omega, fun h => absurd h (by omega), fun h => absurd h (by show ¬ (3 : Int) = 0; decide)⟩
        · rw [if_neg c4]
          exact ⟨⟨by show (0 : Int) ≤ 5; decide, by show (5 : Int) ≤ 5; decide⟩, fun _ h => absurd h (by show ¬ (5 : Int) ≤ 4; decide), fun h => absurd h (by show ¬ (5 : Int) = 1; decide), fun h => absurd h (by show ¬ (5 : Int) = 2; decide), fun h => absurd h (by show ¬ (5 : Int) = 3; decide), by show k ≤ lim; omega, fun h => absurd h (by omega), fun h => absurd h (by show ¬ (5 : Int) = 0; decide)⟩
theorem TF.tk {p : Nat} {t : Tok} (h : TF T len lim p t) (hl : lim ≤ len) : TOK len lim p t := by
  obtain ⟨pos, h1, h2, rfl⟩ := h
  obtain ⟨a1, a2, a3, a4, a5, a6, a7, a8⟩ := tok_ok (T := T) (len := len) (lim := lim) pos h2 hl
  exact ⟨a1, fun x y => ⟨by have := a2 x y; omega, (a2 x y).2⟩, a3, a4, a5, a6, fun h => a7 (by omega), a8⟩
theorem TF.nt {p : Nat} {t : Tok} (h : TF T len lim p t) (hl : lim ≤ len) (h1 : 1 ≤ tK t ∧ tK t ≤ 4) : TF T len lim (p + 1) (nt T len lim t) := by
  have := (h.tk hl).2.1 h1.1 h1.2
  exact ⟨tX t, by omega, this.2, rfl⟩
theorem TF.w {p q : Nat} {t : Tok} (h : TF T len lim p t) (hq : q ≤ p) : TF T len lim q t := by
  obtain ⟨pos, h1, h2, h3⟩ := h
  exact ⟨pos, by omega, h2, h3⟩
theorem pNum_ok {lo hi : Int} {t u : Tok} {v : Int} (h : pNum T len lim lo hi t = prO u v) : tK t = 3 ∧ u = nt T len lim t ∧ v = tV t ∧ lo ≤ v ∧ v ≤ hi := by
  unfold pNum at h
  by_cases c : tK t = 3
  · rw [if_pos c] at h
    by_cases c2 : lo ≤ tV t ∧ tV t ≤ hi
    · rw [if_pos c2] at h
      obtain ⟨h1, h2⟩ := prO_inj h
      exact ⟨c, h1.symm, h2.symm, by omega, by omega⟩
    · rw [if_neg c2] at h
      exact absurd h prB_ne
  · rw [if_neg c] at h
    exact absurd h prB_ne
end TO
