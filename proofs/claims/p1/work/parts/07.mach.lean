/-! THE SMALL MACHINE: numbers are whole numbers, read modulo 2^32 (2^64) where it matters -/
def w32 (x : Int) : Int := (x + 2147483648) % 4294967296 - 2147483648
def w64 (x : Int) : Int := (x + 9223372036854775808) % 18446744073709551616 - 9223372036854775808
def w8 (x : Int) : Int := (x + 128) % 256 - 128
def and32 (a b : Int) : Int := (Int32.ofInt a &&& Int32.ofInt b).toInt
def or32 (a b : Int) : Int := (Int32.ofInt a ||| Int32.ofInt b).toInt
def xor32 (a b : Int) : Int := (Int32.ofInt a ^^^ Int32.ofInt b).toInt
def shl32 (a s : Int) : Int := (Int32.ofInt a <<< (Int32.ofInt s &&& 31)).toInt
def shr32 (a s : Int) : Int := (Int32.ofInt a >>> (Int32.ofInt s &&& 31)).toInt
def ushr32 (a s : Int) : Int := (((Int32.ofInt a).toUInt32 >>> ((Int32.ofInt s).toUInt32 &&& Int32.toUInt32 31)).toInt32).toInt
def div32 (a b : Int) : Int := (Int32.ofInt a / Int32.ofInt b).toInt
def rem32 (a b : Int) : Int := (Int32.ofInt a - Int32.ofInt a / Int32.ofInt b * Int32.ofInt b).toInt
def shl64 (a s : Int) : Int := (Int64.ofInt a <<< ((Int32.ofInt s).toInt64 &&& 63)).toInt
def or64 (a b : Int) : Int := (Int64.ofInt a ||| Int64.ofInt b).toInt
def cmp64 (a b : Int) : Int := if w64 a < w64 b then -1 else if w64 a = w64 b then 0 else 1
def cpy (M : Mem) (s d : Nat) (sp dp n : Int) : Mem := fun b j => if b = d ∧ dp ≤ j ∧ j < dp + n then M s (sp + (j - dp)) else M b j
/-- a value that takes one place: an int or a cell -/
def nl (v : AV) : Prop := match v with
  | Sum.inl (Sum.inl _) => True
  | Sum.inr (Sum.inl _) => True
  | _ => False
def nlb (v : AV) : Bool := match v with
  | Sum.inl (Sum.inl _) => true
  | Sum.inr (Sum.inl _) => true
  | _ => false
abbrev Cfg : Type := List Ent × List AV × List AV × Mem
abbrev Res : Type := Option (Cfg ⊕ ((Nat × List AV × Cfg) ⊕ (List AV × Mem)))
def nx (c : List Ent) (ls st : List AV) (M : Mem) : Res := some (Sum.inl (c, ls, st, M))
def h1 (f : Int → Int) (c : List Ent) (ls st : List AV) (M : Mem) : Res := match st with
  | Sum.inl (Sum.inl a) :: st => nx c ls (aI (f a) :: st) M
  | _ => none
def h2 (f : Int → Int → Int) (c : List Ent) (ls st : List AV) (M : Mem) : Res := match st with
  | Sum.inl (Sum.inl b) :: Sum.inl (Sum.inl a) :: st => nx c ls (aI (f a b) :: st) M
  | _ => none
def h2d (f : Int → Int → Int) (c : List Ent) (ls st : List AV) (M : Mem) : Res := match st with
  | Sum.inl (Sum.inl b) :: Sum.inl (Sum.inl a) :: st => if w32 b = 0 then none else nx c ls (aI (f a b) :: st) M
  | _ => none
def hj2 (t : Int → Int → Bool) (to c : List Ent) (ls st : List AV) (M : Mem) : Res := match st with
  | Sum.inl (Sum.inl b) :: Sum.inl (Sum.inl a) :: st => nx (if t (w32 a) (w32 b) then to else c) ls st M
  | _ => none
def hj1 (t : Int → Bool) (to c : List Ent) (ls st : List AV) (M : Mem) : Res := match st with
  | Sum.inl (Sum.inl a) :: st => nx (if t (w32 a) then to else c) ls st M
  | _ => none
def swl (pc v : Nat) (x : Int) : Option Nat :=
  if w32 x < (sw v).2.1 ∨ (sw v).2.2.1 < w32 x then some ((pc : Int) + (sw v).1).toNat
  else ((sw v).2.2.2[(w32 x - (sw v).2.1).toNat]?).map (fun off => ((pc : Int) + off).toNat)
def hget (t : Nat) (u : Int) (v w : Nat) (c : List Ent) (ls st : List AV) (M : Mem) : Res := match st with
  | Sum.inr (Sum.inl (k, _, a)) :: st => if k = w then (if t = 0 then nx c ls (aI (M a u) :: st) M else if t = 1 then nx c ls (aL (M a u) :: st) M else nx c ls (Sum.inr (Sum.inl (rfs a v)) :: st) M) else none
  | _ => none
def hput (t : Nat) (u : Int) (w : Nat) (c : List Ent) (ls st : List AV) (M : Mem) : Res := match st with
  | Sum.inl (Sum.inl x) :: Sum.inr (Sum.inl (k, _, a)) :: st => if k = w ∧ (t = 0 ∨ t = 3 ∧ (x = 0 ∨ x = 1)) then nx c ls st (up M a u x) else none
  | Sum.inl (Sum.inr x) :: Sum.inr (Sum.inl (k, _, a)) :: st => if k = w ∧ t = 1 then nx c ls st (up M a u x) else none
  | _ => none
def hald (c : List Ent) (ls st : List AV) (M : Mem) (k0 : Nat → Bool) (f : Nat → Int → AV) : Res := match st with
  | Sum.inl (Sum.inl i) :: Sum.inr (Sum.inl (k, n, a)) :: st => if k0 k = true ∧ 0 ≤ i ∧ i < n then nx c ls (f a i :: st) M else none
  | _ => none
def hast (c : List Ent) (ls st : List AV) (M : Mem) (k0 : Nat → Int → Bool) : Res := match st with
  | Sum.inl (Sum.inl x) :: Sum.inl (Sum.inl i) :: Sum.inr (Sum.inl (k, n, a)) :: st => if k0 k x = true ∧ 0 ≤ i ∧ i < n then nx c ls st (up M a i x) else none
  | _ => none
def hlast (c : List Ent) (ls st : List AV) (M : Mem) : Res := match st with
  | Sum.inl (Sum.inr x) :: Sum.inl (Sum.inl i) :: Sum.inr (Sum.inl (k, n, a)) :: st => if k = 1 ∧ 0 ≤ i ∧ i < n then nx c ls st (up M a i x) else none
  | _ => none
def hcpy (c : List Ent) (ls st : List AV) (M : Mem) : Res := match st with
  | [Sum.inl (Sum.inl n), Sum.inl (Sum.inl dp), Sum.inr (Sum.inl (kd, nd, d)), Sum.inl (Sum.inl sp), Sum.inr (Sum.inl (ks, ns, s))] =>
    if kd = 0 ∧ ks = 0 ∧ s ≠ d ∧ 0 ≤ n ∧ 0 ≤ dp ∧ 0 ≤ sp ∧ sp + n ≤ ns ∧ dp + n ≤ nd then nx c ls [] (cpy M s d sp dp n) else none
  | _ => none
/-- how many words a value takes -/
def wd (v : AV) : Nat := match v with
  | Sum.inl (Sum.inr _) => 2
  | _ => 1
def stw (st : List AV) : Nat := match st with
  | [] => 0
  | v :: st => wd v + stw st
/-- the kind of the first one -/
def rk (as : List AV) : Nat := match as with
  | Sum.inr (Sum.inl (k, _, _)) :: _ => k
  | _ => 1000
def hcall (u : Int) (z w : Nat) (vir : Bool) (c : List Ent) (ls st : List AV) (M : Mem) : Res :=
  if (u.toNat ≤ st.length ∧ stw (st.drop u.toNat) ≤ 8) ∧ (st.take u.toNat).all nlb = true ∧ (vir = false ∨ rk (st.take u.toNat).reverse = w) then some (Sum.inr (Sum.inl (z, (st.take u.toNat).reverse, (c, ls, st.drop u.toNat, M)))) else none

def step (y : Nat) (e : Ent) (c : List Ent) (ls st : List AV) (M : Mem) : Res := match e with
  | (pc, _, op, u, v, w, _) =>
    if op = 0 then nx (blk y v) ls st M else
    if op = 1 then (match ls[v]? with
      | some (Sum.inl (Sum.inl x)) => nx c ls (aI x :: st) M
      | _ => none) else
    if op = 2 then (match ls[v]? with
      | some (Sum.inl (Sum.inr x)) => nx c ls (aL x :: st) M
      | _ => none) else
    if op = 3 then (match ls[v]? with
      | some (Sum.inr (Sum.inl r)) => nx c ls (Sum.inr (Sum.inl r) :: st) M
      | _ => none) else
    if op = 4 then (match st with
      | Sum.inl (Sum.inl x) :: st => nx c (ls.set v (aI x)) st M
      | _ => none) else
    if op = 5 then (match st with
      | Sum.inl (Sum.inr x) :: st => nx c (ls.set v (aL x)) st M
      | _ => none) else
    if op = 6 then (match st with
      | Sum.inr (Sum.inl r) :: st => nx c (ls.set v (Sum.inr (Sum.inl r))) st M
      | _ => none) else
    if op = 7 then (match ls[v]? with
      | some (Sum.inl (Sum.inl x)) => nx c (ls.set v (aI (x + u))) st M
      | _ => none) else
    if op = 8 then nx c ls (aI u :: st) M else
    if op = 9 then nx c ls (aI u :: st) M else
    if op = 10 then nx c ls (aI u :: st) M else
    if op = 11 then nx c ls (aI u :: st) M else
    if op = 12 then nx c ls (aI u :: st) M else
    if op = 13 then nx c ls (aL u :: st) M else
    if op = 14 then nx c ls (aL u :: st) M else
    if op = 15 then h2 (fun a b => a + b) c ls st M else
    if op = 16 then h2 (fun a b => a - b) c ls st M else
    if op = 17 then h2 (fun a b => a * b) c ls st M else
    if op = 18 then h2d div32 c ls st M else
    if op = 19 then h2d rem32 c ls st M else
    if op = 20 then h1 (fun a => -a) c ls st M else
    if op = 21 then h2 shl32 c ls st M else
    if op = 22 then h2 shr32 c ls st M else
    if op = 23 then h2 ushr32 c ls st M else
    if op = 24 then h2 and32 c ls st M else
    if op = 25 then h2 or32 c ls st M else
    if op = 26 then h2 xor32 c ls st M else
    if op = 27 then (match st with
      | Sum.inl (Sum.inl x) :: st => nx c ls (aL (w32 x) :: st) M
      | _ => none) else
    if op = 28 then h1 w8 c ls st M else
    if op = 29 then (match st with
      | Sum.inl (Sum.inl b) :: Sum.inl (Sum.inr a) :: st => nx c ls (aL (shl64 a b) :: st) M
      | _ => none) else
    if op = 30 then (match st with
      | Sum.inl (Sum.inr b) :: Sum.inl (Sum.inr a) :: st => nx c ls (aL (or64 a b) :: st) M
      | _ => none) else
    if op = 31 then (match st with
      | Sum.inl (Sum.inr b) :: Sum.inl (Sum.inr a) :: st => nx c ls (aI (cmp64 a b) :: st) M
      | _ => none) else
    if op = 32 then (match st with
      | a :: st => if nlb a = true then nx c ls (a :: a :: st) M else none
      | _ => none) else
    if op = 33 then (match st with
      | b :: a :: st => if nlb a = true ∧ nlb b = true then nx c ls (b :: a :: b :: a :: st) M else none
      | _ => none) else
    if op = 34 then (match st with
      | a :: st => if nlb a = true then nx c ls st M else none
      | _ => none) else
    if op = 35 then hget 0 u v w c ls st M else
    if op = 65 then hget 1 u v w c ls st M else
    if op = 66 then hget 2 u v w c ls st M else
    if op = 36 then hput 0 u w c ls st M else
    if op = 67 then hput 1 u w c ls st M else
    if op = 68 then hput 3 u w c ls st M else
    if op = 37 then hald c ls st M (fun k => k == 0) (fun a i => aI (M a i)) else
    if op = 38 then hast c ls st M (fun k _ => k == 0) else
    if op = 39 then hald c ls st M (fun k => k == 1) (fun a i => aL (M a i)) else
    if op = 40 then hlast c ls st M else
    if op = 41 then hald c ls st M (fun k => k == 2 || k == 3) (fun a i => aI (M a i)) else
    if op = 42 then hast c ls st M (fun k x => (k == 2 && decide (-128 ≤ x ∧ x < 128)) || (k == 3 && decide (x = 0 ∨ x = 1))) else
    if op = 43 then hald c ls st M (fun k => k == 4) (fun a i => Sum.inr (Sum.inl (rfs a i.toNat))) else
    if op = 44 then (match st with
      | Sum.inr (Sum.inl (k, n, _)) :: st => if k < 5 then nx c ls (aI n :: st) M else none
      | _ => none) else
    if op = 45 then hj2 (fun a b => decide (a = b)) (blk y v) c ls st M else
    if op = 46 then hj2 (fun a b => decide (a ≠ b)) (blk y v) c ls st M else
    if op = 47 then hj2 (fun a b => decide (a < b)) (blk y v) c ls st M else
    if op = 48 then hj2 (fun a b => decide (b ≤ a)) (blk y v) c ls st M else
    if op = 49 then hj2 (fun a b => decide (b < a)) (blk y v) c ls st M else
    if op = 50 then hj2 (fun a b => decide (a ≤ b)) (blk y v) c ls st M else
    if op = 51 then hj1 (fun a => decide (a = 0)) (blk y v) c ls st M else
    if op = 52 then hj1 (fun a => decide (a ≠ 0)) (blk y v) c ls st M else
    if op = 53 then hj1 (fun a => decide (a < 0)) (blk y v) c ls st M else
    if op = 54 then hj1 (fun a => decide (0 ≤ a)) (blk y v) c ls st M else
    if op = 55 then hj1 (fun a => decide (0 < a)) (blk y v) c ls st M else
    if op = 56 then hj1 (fun a => decide (a ≤ 0)) (blk y v) c ls st M else
    if op = 57 then nx (blk y v) ls st M else
    if op = 58 then (match st with
      | Sum.inl (Sum.inl x) :: st => (match swl pc v x with
        | some L => nx (blk y L) ls st M
        | none => none)
      | _ => none) else
    if op = 59 then hcall u v w true c ls st M else
    if op = 60 then hcall u v w false c ls st M else
    if op = 61 then hcpy c ls st M else
    if op = 62 then (match st with
      | [Sum.inl (Sum.inl x)] => if u = 0 ∨ (x = 0 ∨ x = 1) then some (Sum.inr (Sum.inr ([aI x], M))) else none
      | _ => none) else
    if op = 63 then (match st with
      | [] => some (Sum.inr (Sum.inr ([], M)))
      | _ => none) else
    if op = 64 then (match st with
      | Sum.inl (Sum.inr x) :: Sum.inr (Sum.inl (k, n, a)) :: st => if k = w ∧ stw st ≤ 8 then some (Sum.inr (Sum.inl (v, [aR k n a, aL x], (c, ls, st, M)))) else none
      | _ => none) else none
def slG (G : List Nat) : Nat → List AV → List AV
  | _, [] => []
  | i, v :: r => if i ∈ G then v :: aU :: slG G (i + 2) r else v :: slG G (i + 1) r
def ini (z : Nat) (as : List AV) : List AV := slG (mdG z) 0 as ++ List.replicate (mdL z - (slG (mdG z) 0 as).length) aU
def exec : Nat → Nat → Nat → List Ent → List AV → List AV → Mem → Option (List AV × Mem)
  | 0, _, _, _, _, _, _ => none
  | _ + 1, _, _, [], _, _, _ => none
  | n + 1, d, y, e :: c, ls, st, M => match step y e c ls st M with
    | none => none
    | some (Sum.inl q) => exec n d y q.1 q.2.1 q.2.2.1 q.2.2.2
    | some (Sum.inr (Sum.inr r)) => some r
    | some (Sum.inr (Sum.inl q)) => match d with
      | 0 => none
      | d' + 1 => match exec n d' q.1 (blk q.1 0) (ini q.1 q.2.1) [] q.2.2.2.2.2 with
        | none => none
        | some r => exec n (d' + 1) y q.2.2.1 q.2.2.2.1 (r.1 ++ q.2.2.2.2.1) r.2
theorem exec_mono1 : ∀ (n d y : Nat) (c : List Ent) (ls st : List AV) (M : Mem) (r : List AV × Mem), exec n d y c ls st M = some r → exec (n + 1) d y c ls st M = some r := by
  intro n
  induction n with
  | zero => intro d y c ls st M r h; cases h
  | succ n ih =>
    intro d y c ls st M r h
    cases c with
    | nil => cases h
    | cons e c =>
      simp only [exec] at h ⊢
      split at h
      · cases h
      · exact ih _ _ _ _ _ _ _ h
      · exact h
      · split at h
        · cases h
        · split at h
          · cases h
          · rename_i r1 hr1
            rw [ih _ _ _ _ _ _ _ hr1]
            exact ih _ _ _ _ _ _ _ h
theorem exec_mono {n k d y : Nat} {c : List Ent} {ls st : List AV} {M : Mem} {r : List AV × Mem} (h : exec n d y c ls st M = some r) : exec (n + k) d y c ls st M = some r := by
  induction k with
  | zero => exact h
  | succ k ih => exact exec_mono1 _ _ _ _ _ _ _ _ ih
/-- from here the small machine comes to an end with Q -/
def X (d y : Nat) (c : List Ent) (ls st : List AV) (M : Mem) (Q : List AV → Mem → Prop) : Prop := ∃ n r, exec n d y c ls st M = some r ∧ Q r.1 r.2
def XL (d y L : Nat) (ls st : List AV) (M : Mem) (Q : List AV → Mem → Prop) : Prop := X d y (blk y L) ls st M Q
def XC (d y : Nat) (as : List AV) (M : Mem) (Q : List AV → Mem → Prop) : Prop := X d y (blk y 0) (ini y as) [] M Q
section XR
variable {d y : Nat} {e : Ent} {c c' : List Ent} {ls ls' st st' : List AV} {M M' : Mem} {Q Q' : List AV → Mem → Prop}
theorem X_nx (h : step y e c ls st M = nx c' ls' st' M') : X d y (e :: c) ls st M Q ↔ X d y c' ls' st' M' Q := by
  constructor
  · rintro ⟨n, r, h1, h2⟩
    cases n with
    | zero => cases h1
    | succ n => simp only [exec, h, nx] at h1; exact ⟨n, r, h1, h2⟩
  · rintro ⟨n, r, h1, h2⟩
    exact ⟨n + 1, r, by simp only [exec, h, nx]; exact h1, h2⟩
theorem X_ret {r : List AV} (h : step y e c ls st M = some (Sum.inr (Sum.inr (r, M')))) : X d y (e :: c) ls st M Q ↔ Q r M' := by
  constructor
  · rintro ⟨n, r, h1, h2⟩
    cases n with
    | zero => cases h1
    | succ n => simp only [exec, h] at h1; cases h1; exact h2
  · intro h2
    exact ⟨1, (r, M'), by simp only [exec, h], h2⟩
theorem X_det {P P' : List AV → Mem → Prop} (h : X d y c ls st M P) (h' : X d y c ls st M P') : X d y c ls st M (fun r M' => P r M' ∧ P' r M') := by
  obtain ⟨n, r, h1, h2⟩ := h
  obtain ⟨n', r', h1', h2'⟩ := h'
  have a := exec_mono (k := n') h1
  have b := exec_mono (k := n) h1'
  rw [Nat.add_comm, a] at b
  cases b
  exact ⟨n, r, h1, h2, h2'⟩
theorem X_call {z : Nat} {as : List AV} (h : step y e c ls st M = some (Sum.inr (Sum.inl (z, as, (c', ls', st', M'))))) : X (d + 1) y (e :: c) ls st M Q ↔ XC d z as M' (fun r M2 => X (d + 1) y c' ls' (r ++ st') M2 Q) := by
  constructor
  · rintro ⟨n, r, h1, h2⟩
    cases n with
    | zero => cases h1
    | succ n =>
      simp only [exec, h] at h1
      split at h1
      · cases h1
      · rename_i r1 hr1
        exact ⟨n, r1, hr1, n, r, h1, h2⟩
  · rintro ⟨n, r1, hr1, n', r, h1, h2⟩
    refine ⟨n + n' + 1, r, ?_, h2⟩
    simp only [exec, h]
    rw [exec_mono (k := n') hr1]
    simp only []
    rw [Nat.add_comm]
    exact exec_mono h1
theorem X.mono (h : X d y c ls st M Q) (k : ∀ r M', Q r M' → Q' r M') : X d y c ls st M Q' := by
  obtain ⟨n, r, h1, h2⟩ := h
  exact ⟨n, r, h1, k _ _ h2⟩
theorem XC.mono {as : List AV} (h : XC d y as M Q) (k : ∀ r M', Q r M' → Q' r M') : XC d y as M Q' := X.mono h k
theorem XL.mono {L : Nat} (h : XL d y L ls st M Q) (k : ∀ r M', Q r M' → Q' r M') : XL d y L ls st M Q' := X.mono h k
theorem X_ex (h : X d y c ls st M Q) : ∃ r M', Q r M' ∧ ∀ P, X d y c ls st M P ↔ P r M' := by
  obtain ⟨n, r, h1, h2⟩ := h
  refine ⟨r.1, r.2, h2, fun P => ⟨?_, fun hp => ⟨n, r, h1, hp⟩⟩⟩
  rintro ⟨n', r', h1', h2'⟩
  have a := exec_mono (k := n') h1
  have b := exec_mono (k := n) h1'
  rw [Nat.add_comm, a] at b
  cases b
  exact h2'
theorem XC_ex {as : List AV} (h : XC d y as M Q) : ∃ r M', Q r M' ∧ ∀ P, XC d y as M P ↔ P r M' := X_ex h
theorem X_iff {r : List AV} (h : X d y c ls st M (fun a b => a = r ∧ b = M')) : ∀ P, X d y c ls st M P ↔ P r M' := by
  obtain ⟨r1, M1, ⟨h1, h2⟩, h3⟩ := X_ex h
  subst h1; subst h2
  exact h3
theorem XC_iff {as r : List AV} (h : XC d y as M (fun a b => a = r ∧ b = M')) : ∀ P, XC d y as M P ↔ P r M' := X_iff h
theorem X_up1 (h : X d y c ls st M Q) : X (d + 1) y c ls st M Q := by
  obtain ⟨n, r, h1, h2⟩ := h
  refine ⟨n, r, ?_, h2⟩
  clear h2
  induction n generalizing d y c ls st M r with
  | zero => cases h1
  | succ n ih =>
    cases c with
    | nil => cases h1
    | cons e c =>
      simp only [exec] at h1 ⊢
      split at h1
      · cases h1
      · exact ih _ h1
      · exact h1
      · split at h1
        · cases h1
        · split at h1
          · cases h1
          · rename_i r1 hr1
            rw [ih _ hr1]
            exact ih _ h1
end XR
section VC
variable {d y pc ln w x : Nat} {u : Int} {c : List Ent} {ls st : List AV} {M : Mem} {Q : List AV → Mem → Prop}
theorem nl_i (z : Int) : nl (aI z) := trivial
theorem nl_r (q : Nat × Nat × Nat) : nl (Sum.inr (Sum.inl q)) := trivial
theorem nlb_r (q : Nat × Nat × Nat) : nlb (Sum.inr (Sum.inl q)) = true := rfl
theorem nl_b {v : AV} (h : nl v) : nlb v = true := by
  rcases v with (v | v) | (v | v)
  · rfl
  · cases h
  · rfl
  · cases h
theorem v_fall {v : Nat} : X d y ((pc, ln, 0, u, v, w, x) :: c) ls st M Q ↔ XL d y v ls st M Q := X_nx rfl
theorem v_il_0 {z : Int} : X d y ((pc, ln, 1, u, 0, w, x) :: c) (aI z :: ls) st M Q ↔ X d y c (aI z :: ls) (aI z :: st) M Q := X_nx rfl
theorem v_al_0 {q : Nat × Nat × Nat} : X d y ((pc, ln, 3, u, 0, w, x) :: c) (Sum.inr (Sum.inl q) :: ls) st M Q ↔ X d y c (Sum.inr (Sum.inl q) :: ls) (Sum.inr (Sum.inl q) :: st) M Q := X_nx rfl
theorem v_is_0 {z : Int} {o : AV} : X d y ((pc, ln, 4, u, 0, w, x) :: c) (o :: ls) (aI z :: st) M Q ↔ X d y c (aI z :: ls) st M Q := X_nx rfl
theorem v_as_0 {q : Nat × Nat × Nat} {o : AV} : X d y ((pc, ln, 6, u, 0, w, x) :: c) (o :: ls) (Sum.inr (Sum.inl q) :: st) M Q ↔ X d y c (Sum.inr (Sum.inl q) :: ls) st M Q := X_nx rfl
theorem v_inc_0 {z : Int} : X d y ((pc, ln, 7, u, 0, w, x) :: c) (aI z :: ls) st M Q ↔ X d y c (aI (z + u) :: ls) st M Q := X_nx rfl
theorem v_ll_0 {z : Int} : X d y ((pc, ln, 2, u, 0, w, x) :: c) (aL z :: ls) st M Q ↔ X d y c (aL z :: ls) (aL z :: st) M Q := X_nx rfl
theorem v_ls_0 {z : Int} {o : AV} : X d y ((pc, ln, 5, u, 0, w, x) :: c) (o :: ls) (aL z :: st) M Q ↔ X d y c (aL z :: ls) st M Q := X_nx rfl
theorem v_il_1 {l0 : AV} {z : Int} : X d y ((pc, ln, 1, u, 1, w, x) :: c) (l0 :: aI z :: ls) st M Q ↔ X d y c (l0 :: aI z :: ls) (aI z :: st) M Q := X_nx rfl
theorem v_al_1 {l0 : AV} {q : Nat × Nat × Nat} : X d y ((pc, ln, 3, u, 1, w, x) :: c) (l0 :: Sum.inr (Sum.inl q) :: ls) st M Q ↔ X d y c (l0 :: Sum.inr (Sum.inl q) :: ls) (Sum.inr (Sum.inl q) :: st) M Q := X_nx rfl
theorem v_is_1 {l0 : AV} {z : Int} {o : AV} : X d y ((pc, ln, 4, u, 1, w, x) :: c) (l0 :: o :: ls) (aI z :: st) M Q ↔ X d y c (l0 :: aI z :: ls) st M Q := X_nx rfl
theorem v_as_1 {l0 : AV} {q : Nat × Nat × Nat} {o : AV} : X d y ((pc, ln, 6, u, 1, w, x) :: c) (l0 :: o :: ls) (Sum.inr (Sum.inl q) :: st) M Q ↔ X d y c (l0 :: Sum.inr (Sum.inl q) :: ls) st M Q := X_nx rfl
theorem v_inc_1 {l0 : AV} {z : Int} : X d y ((pc, ln, 7, u, 1, w, x) :: c) (l0 :: aI z :: ls) st M Q ↔ X d y c (l0 :: aI (z + u) :: ls) st M Q := X_nx rfl
theorem v_ll_1 {l0 : AV} {z : Int} : X d y ((pc, ln, 2, u, 1, w, x) :: c) (l0 :: aL z :: ls) st M Q ↔ X d y c (l0 :: aL z :: ls) (aL z :: st) M Q := X_nx rfl
theorem v_ls_1 {l0 : AV} {z : Int} {o : AV} : X d y ((pc, ln, 5, u, 1, w, x) :: c) (l0 :: o :: ls) (aL z :: st) M Q ↔ X d y c (l0 :: aL z :: ls) st M Q := X_nx rfl
theorem v_il_2 {l0 l1 : AV} {z : Int} : X d y ((pc, ln, 1, u, 2, w, x) :: c) (l0 :: l1 :: aI z :: ls) st M Q ↔ X d y c (l0 :: l1 :: aI z :: ls) (aI z :: st) M Q := X_nx rfl
theorem v_al_2 {l0 l1 : AV} {q : Nat × Nat × Nat} : X d y ((pc, ln, 3, u, 2, w, x) :: c) (l0 :: l1 :: Sum.inr (Sum.inl q) :: ls) st M Q ↔ X d y c (l0 :: l1 :: Sum.inr (Sum.inl q) :: ls) (Sum.inr (Sum.inl q) :: st) M Q := X_nx rfl
theorem v_is_2 {l0 l1 : AV} {z : Int} {o : AV} : X d y ((pc, ln, 4, u, 2, w, x) :: c) (l0 :: l1 :: o :: ls) (aI z :: st) M Q ↔ X d y c (l0 :: l1 :: aI z :: ls) st M Q := X_nx rfl
theorem v_as_2 {l0 l1 : AV} {q : Nat × Nat × Nat} {o : AV} : X d y ((pc, ln, 6, u, 2, w, x) :: c) (l0 :: l1 :: o :: ls) (Sum.inr (Sum.inl q) :: st) M Q ↔ X d y c (l0 :: l1 :: Sum.inr (Sum.inl q) :: ls) st M Q := X_nx rfl
theorem v_inc_2 {l0 l1 : AV} {z : Int} : X d y ((pc, ln, 7, u, 2, w, x) :: c) (l0 :: l1 :: aI z :: ls) st M Q ↔ X d y c (l0 :: l1 :: aI (z + u) :: ls) st M Q := X_nx rfl
theorem v_ll_2 {l0 l1 : AV} {z : Int} : X d y ((pc, ln, 2, u, 2, w, x) :: c) (l0 :: l1 :: aL z :: ls) st M Q ↔ X d y c (l0 :: l1 :: aL z :: ls) (aL z :: st) M Q := X_nx rfl
theorem v_ls_2 {l0 l1 : AV} {z : Int} {o : AV} : X d y ((pc, ln, 5, u, 2, w, x) :: c) (l0 :: l1 :: o :: ls) (aL z :: st) M Q ↔ X d y c (l0 :: l1 :: aL z :: ls) st M Q := X_nx rfl
theorem v_il_3 {l0 l1 l2 : AV} {z : Int} : X d y ((pc, ln, 1, u, 3, w, x) :: c) (l0 :: l1 :: l2 :: aI z :: ls) st M Q ↔ X d y c (l0 :: l1 :: l2 :: aI z :: ls) (aI z :: st) M Q := X_nx rfl
theorem v_al_3 {l0 l1 l2 : AV} {q : Nat × Nat × Nat} : X d y ((pc, ln, 3, u, 3, w, x) :: c) (l0 :: l1 :: l2 :: Sum.inr (Sum.inl q) :: ls) st M Q ↔ X d y c (l0 :: l1 :: l2 :: Sum.inr (Sum.inl q) :: ls) (Sum.inr (Sum.inl q) :: st) M Q := X_nx rfl
theorem v_is_3 {l0 l1 l2 : AV} {z : Int} {o : AV} : X d y ((pc, ln, 4, u, 3, w, x) :: c) (l0 :: l1 :: l2 :: o :: ls) (aI z :: st) M Q ↔ X d y c (l0 :: l1 :: l2 :: aI z :: ls) st M Q := X_nx rfl
theorem v_as_3 {l0 l1 l2 : AV} {q : Nat × Nat × Nat} {o : AV} : X d y ((pc, ln, 6, u, 3, w, x) :: c) (l0 :: l1 :: l2 :: o :: ls) (Sum.inr (Sum.inl q) :: st) M Q ↔ X d y c (l0 :: l1 :: l2 :: Sum.inr (Sum.inl q) :: ls) st M Q := X_nx rfl
theorem v_inc_3 {l0 l1 l2 : AV} {z : Int} : X d y ((pc, ln, 7, u, 3, w, x) :: c) (l0 :: l1 :: l2 :: aI z :: ls) st M Q ↔ X d y c (l0 :: l1 :: l2 :: aI (z + u) :: ls) st M Q := X_nx rfl
theorem v_ll_3 {l0 l1 l2 : AV} {z : Int} : X d y ((pc, ln, 2, u, 3, w, x) :: c) (l0 :: l1 :: l2 :: aL z :: ls) st M Q ↔ X d y c (l0 :: l1 :: l2 :: aL z :: ls) (aL z :: st) M Q := X_nx rfl
theorem v_ls_3 {l0 l1 l2 : AV} {z : Int} {o : AV} : X d y ((pc, ln, 5, u, 3, w, x) :: c) (l0 :: l1 :: l2 :: o :: ls) (aL z :: st) M Q ↔ X d y c (l0 :: l1 :: l2 :: aL z :: ls) st M Q := X_nx rfl
theorem v_il_4 {l0 l1 l2 l3 : AV} {z : Int} : X d y ((pc, ln, 1, u, 4, w, x) :: c) (l0 :: l1 :: l2 :: l3 :: aI z :: ls) st M Q ↔ X d y c (l0 :: l1 :: l2 :: l3 :: aI z :: ls) (aI z :: st) M Q := X_nx rfl
theorem v_al_4 {l0 l1 l2 l3 : AV} {q : Nat × Nat × Nat} : X d y ((pc, ln, 3, u, 4, w, x) :: c) (l0 :: l1 :: l2 :: l3 :: Sum.inr (Sum.inl q) :: ls) st M Q ↔ X d y c (l0 :: l1 :: l2 :: l3 :: Sum.inr (Sum.inl q) :: ls) (Sum.inr (Sum.inl q) :: st) M Q := X_nx rfl
theorem v_is_4 {l0 l1 l2 l3 : AV} {z : Int} {o : AV} : X d y ((pc, ln, 4, u, 4, w, x) :: c) (l0 :: l1 :: l2 :: l3 :: o :: ls) (aI z :: st) M Q ↔ X d y c (l0 :: l1 :: l2 :: l3 :: aI z :: ls) st M Q := X_nx rfl
theorem v_as_4 {l0 l1 l2 l3 : AV} {q : Nat × Nat × Nat} {o : AV} : X d y ((pc, ln, 6, u, 4, w, x) :: c) (l0 :: l1 :: l2 :: l3 :: o :: ls) (Sum.inr (Sum.inl q) :: st) M Q ↔ X d y c (l0 :: l1 :: l2 :: l3 :: Sum.inr (Sum.inl q) :: ls) st M Q := X_nx rfl
theorem v_inc_4 {l0 l1 l2 l3 : AV} {z : Int} : X d y ((pc, ln, 7, u, 4, w, x) :: c) (l0 :: l1 :: l2 :: l3 :: aI z :: ls) st M Q ↔ X d y c (l0 :: l1 :: l2 :: l3 :: aI (z + u) :: ls) st M Q := X_nx rfl
theorem v_ll_4 {l0 l1 l2 l3 : AV} {z : Int} : X d y ((pc, ln, 2, u, 4, w, x) :: c) (l0 :: l1 :: l2 :: l3 :: aL z :: ls) st M Q ↔ X d y c (l0 :: l1 :: l2 :: l3 :: aL z :: ls) (aL z :: st) M Q := X_nx rfl
theorem v_ls_4 {l0 l1 l2 l3 : AV} {z : Int} {o : AV} : X d y ((pc, ln, 5, u, 4, w, x) :: c) (l0 :: l1 :: l2 :: l3 :: o :: ls) (aL z :: st) M Q ↔ X d y c (l0 :: l1 :: l2 :: l3 :: aL z :: ls) st M Q := X_nx rfl
theorem v_il_5 {l0 l1 l2 l3 l4 : AV} {z : Int} : X d y ((pc, ln, 1, u, 5, w, x) :: c) (l0 :: l1 :: l2 :: l3 :: l4 :: aI z :: ls) st M Q ↔ X d y c (l0 :: l1 :: l2 :: l3 :: l4 :: aI z :: ls) (aI z :: st) M Q := X_nx rfl
theorem v_al_5 {l0 l1 l2 l3 l4 : AV} {q : Nat × Nat × Nat} : X d y ((pc, ln, 3, u, 5, w, x) :: c) (l0 :: l1 :: l2 :: l3 :: l4 :: Sum.inr (Sum.inl q) :: ls) st M Q ↔ X d y c (l0 :: l1 :: l2 :: l3 :: l4 :: Sum.inr (Sum.inl q) :: ls) (Sum.inr (Sum.inl q) :: st) M Q := X_nx rfl
theorem v_is_5 {l0 l1 l2 l3 l4 : AV} {z : Int} {o : AV} : X d y ((pc, ln, 4, u, 5, w, x) :: c) (l0 :: l1 :: l2 :: l3 :: l4 :: o :: ls) (aI z :: st) M Q ↔ X d y c (l0 :: l1 :: l2 :: l3 :: l4 :: aI z :: ls) st M Q := X_nx rfl
theorem v_as_5 {l0 l1 l2 l3 l4 : AV} {q : Nat × Nat × Nat} {o : AV} : X d y ((pc, ln, 6, u, 5, w, x) :: c) (l0 :: l1 :: l2 :: l3 :: l4 :: o :: ls) (Sum.inr (Sum.inl q) :: st) M Q ↔ X d y c (l0 :: l1 :: l2 :: l3 :: l4 :: Sum.inr (Sum.inl q) :: ls) st M Q := X_nx rfl
theorem v_inc_5 {l0 l1 l2 l3 l4 : AV} {z : Int} : X d y ((pc, ln, 7, u, 5, w, x) :: c) (l0 :: l1 :: l2 :: l3 :: l4 :: aI z :: ls) st M Q ↔ X d y c (l0 :: l1 :: l2 :: l3 :: l4 :: aI (z + u) :: ls) st M Q := X_nx rfl
theorem v_ll_5 {l0 l1 l2 l3 l4 : AV} {z : Int} : X d y ((pc, ln, 2, u, 5, w, x) :: c) (l0 :: l1 :: l2 :: l3 :: l4 :: aL z :: ls) st M Q ↔ X d y c (l0 :: l1 :: l2 :: l3 :: l4 :: aL z :: ls) (aL z :: st) M Q := X_nx rfl
theorem v_ls_5 {l0 l1 l2 l3 l4 : AV} {z : Int} {o : AV} : X d y ((pc, ln, 5, u, 5, w, x) :: c) (l0 :: l1 :: l2 :: l3 :: l4 :: o :: ls) (aL z :: st) M Q ↔ X d y c (l0 :: l1 :: l2 :: l3 :: l4 :: aL z :: ls) st M Q := X_nx rfl
theorem v_il_6 {l0 l1 l2 l3 l4 l5 : AV} {z : Int} : X d y ((pc, ln, 1, u, 6, w, x) :: c) (l0 :: l1 :: l2 :: l3 :: l4 :: l5 :: aI z :: ls) st M Q ↔ X d y c (l0 :: l1 :: l2 :: l3 :: l4 :: l5 :: aI z :: ls) (aI z :: st) M Q := X_nx rfl
theorem v_al_6 {l0 l1 l2 l3 l4 l5 : AV} {q : Nat × Nat × Nat} : X d y ((pc, ln, 3, u, 6, w, x) :: c) (l0 :: l1 :: l2 :: l3 :: l4 :: l5 :: Sum.inr (Sum.inl q) :: ls) st M Q ↔ X d y c (l0 :: l1 :: l2 :: l3 :: l4 :: l5 :: Sum.inr (Sum.inl q) :: ls) (Sum.inr (Sum.inl q) :: st) M Q := X_nx rfl
theorem v_is_6 {l0 l1 l2 l3 l4 l5 : AV} {z : Int} {o : AV} : X d y ((pc, ln, 4, u, 6, w, x) :: c) (l0 :: l1 :: l2 :: l3 :: l4 :: l5 :: o :: ls) (aI z :: st) M Q ↔ X d y c (l0 :: l1 :: l2 :: l3 :: l4 :: l5 :: aI z :: ls) st M Q := X_nx rfl
theorem v_as_6 {l0 l1 l2 l3 l4 l5 : AV} {q : Nat × Nat × Nat} {o : AV} : X d y ((pc, ln, 6, u, 6, w, x) :: c) (l0 :: l1 :: l2 :: l3 :: l4 :: l5 :: o :: ls) (Sum.inr (Sum.inl q) :: st) M Q ↔ X d y c (l0 :: l1 :: l2 :: l3 :: l4 :: l5 :: Sum.inr (Sum.inl q) :: ls) st M Q := X_nx rfl
theorem v_inc_6 {l0 l1 l2 l3 l4 l5 : AV} {z : Int} : X d y ((pc, ln, 7, u, 6, w, x) :: c) (l0 :: l1 :: l2 :: l3 :: l4 :: l5 :: aI z :: ls) st M Q ↔ X d y c (l0 :: l1 :: l2 :: l3 :: l4 :: l5 :: aI (z + u) :: ls) st M Q := X_nx rfl
theorem v_il_7 {l0 l1 l2 l3 l4 l5 l6 : AV} {z : Int} : X d y ((pc, ln, 1, u, 7, w, x) :: c) (l0 :: l1 :: l2 :: l3 :: l4 :: l5 :: l6 :: aI z :: ls) st M Q ↔ X d y c (l0 :: l1 :: l2 :: l3 :: l4 :: l5 :: l6 :: aI z :: ls) (aI z :: st) M Q := X_nx rfl
theorem v_al_7 {l0 l1 l2 l3 l4 l5 l6 : AV} {q : Nat × Nat × Nat} : X d y ((pc, ln, 3, u, 7, w, x) :: c) (l0 :: l1 :: l2 :: l3 :: l4 :: l5 :: l6 :: Sum.inr (Sum.inl q) :: ls) st M Q ↔ X d y c (l0 :: l1 :: l2 :: l3 :: l4 :: l5 :: l6 :: Sum.inr (Sum.inl q) :: ls) (Sum.inr (Sum.inl q) :: st) M Q := X_nx rfl
theorem v_is_7 {l0 l1 l2 l3 l4 l5 l6 : AV} {z : Int} {o : AV} : X d y ((pc, ln, 4, u, 7, w, x) :: c) (l0 :: l1 :: l2 :: l3 :: l4 :: l5 :: l6 :: o :: ls) (aI z :: st) M Q ↔ X d y c (l0 :: l1 :: l2 :: l3 :: l4 :: l5 :: l6 :: aI z :: ls) st M Q := X_nx rfl
theorem v_as_7 {l0 l1 l2 l3 l4 l5 l6 : AV} {q : Nat × Nat × Nat} {o : AV} : X d y ((pc, ln, 6, u, 7, w, x) :: c) (l0 :: l1 :: l2 :: l3 :: l4 :: l5 :: l6 :: o :: ls) (Sum.inr (Sum.inl q) :: st) M Q ↔ X d y c (l0 :: l1 :: l2 :: l3 :: l4 :: l5 :: l6 :: Sum.inr (Sum.inl q) :: ls) st M Q := X_nx rfl
theorem v_inc_7 {l0 l1 l2 l3 l4 l5 l6 : AV} {z : Int} : X d y ((pc, ln, 7, u, 7, w, x) :: c) (l0 :: l1 :: l2 :: l3 :: l4 :: l5 :: l6 :: aI z :: ls) st M Q ↔ X d y c (l0 :: l1 :: l2 :: l3 :: l4 :: l5 :: l6 :: aI (z + u) :: ls) st M Q := X_nx rfl
theorem v_il_8 {l0 l1 l2 l3 l4 l5 l6 l7 : AV} {z : Int} : X d y ((pc, ln, 1, u, 8, w, x) :: c) (l0 :: l1 :: l2 :: l3 :: l4 :: l5 :: l6 :: l7 :: aI z :: ls) st M Q ↔ X d y c (l0 :: l1 :: l2 :: l3 :: l4 :: l5 :: l6 :: l7 :: aI z :: ls) (aI z :: st) M Q := X_nx rfl
theorem v_al_8 {l0 l1 l2 l3 l4 l5 l6 l7 : AV} {q : Nat × Nat × Nat} : X d y ((pc, ln, 3, u, 8, w, x) :: c) (l0 :: l1 :: l2 :: l3 :: l4 :: l5 :: l6 :: l7 :: Sum.inr (Sum.inl q) :: ls) st M Q ↔ X d y c (l0 :: l1 :: l2 :: l3 :: l4 :: l5 :: l6 :: l7 :: Sum.inr (Sum.inl q) :: ls) (Sum.inr (Sum.inl q) :: st) M Q := X_nx rfl
theorem v_is_8 {l0 l1 l2 l3 l4 l5 l6 l7 : AV} {z : Int} {o : AV} : X d y ((pc, ln, 4, u, 8, w, x) :: c) (l0 :: l1 :: l2 :: l3 :: l4 :: l5 :: l6 :: l7 :: o :: ls) (aI z :: st) M Q ↔ X d y c (l0 :: l1 :: l2 :: l3 :: l4 :: l5 :: l6 :: l7 :: aI z :: ls) st M Q := X_nx rfl
theorem v_as_8 {l0 l1 l2 l3 l4 l5 l6 l7 : AV} {q : Nat × Nat × Nat} {o : AV} : X d y ((pc, ln, 6, u, 8, w, x) :: c) (l0 :: l1 :: l2 :: l3 :: l4 :: l5 :: l6 :: l7 :: o :: ls) (Sum.inr (Sum.inl q) :: st) M Q ↔ X d y c (l0 :: l1 :: l2 :: l3 :: l4 :: l5 :: l6 :: l7 :: Sum.inr (Sum.inl q) :: ls) st M Q := X_nx rfl
theorem v_inc_8 {l0 l1 l2 l3 l4 l5 l6 l7 : AV} {z : Int} : X d y ((pc, ln, 7, u, 8, w, x) :: c) (l0 :: l1 :: l2 :: l3 :: l4 :: l5 :: l6 :: l7 :: aI z :: ls) st M Q ↔ X d y c (l0 :: l1 :: l2 :: l3 :: l4 :: l5 :: l6 :: l7 :: aI (z + u) :: ls) st M Q := X_nx rfl
theorem v_il_9 {l0 l1 l2 l3 l4 l5 l6 l7 l8 : AV} {z : Int} : X d y ((pc, ln, 1, u, 9, w, x) :: c) (l0 :: l1 :: l2 :: l3 :: l4 :: l5 :: l6 :: l7 :: l8 :: aI z :: ls) st M Q ↔ X d y c (l0 :: l1 :: l2 :: l3 :: l4 :: l5 :: l6 :: l7 :: l8 :: aI z :: ls) (aI z :: st) M Q := X_nx rfl
theorem v_al_9 {l0 l1 l2 l3 l4 l5 l6 l7 l8 : AV} {q : Nat × Nat × Nat} : X d y ((pc, ln, 3, u, 9, w, x) :: c) (l0 :: l1 :: l2 :: l3 :: l4 :: l5 :: l6 :: l7 :: l8 :: Sum.inr (Sum.inl q) :: ls) st M Q ↔ X d y c (l0 :: l1 :: l2 :: l3 :: l4 :: l5 :: l6 :: l7 :: l8 :: Sum.inr (Sum.inl q) :: ls) (Sum.inr (Sum.inl q) :: st) M Q := X_nx rfl
theorem v_is_9 {l0 l1 l2 l3 l4 l5 l6 l7 l8 : AV} {z : Int} {o : AV} : X d y ((pc, ln, 4, u, 9, w, x) :: c) (l0 :: l1 :: l2 :: l3 :: l4 :: l5 :: l6 :: l7 :: l8 :: o :: ls) (aI z :: st) M Q ↔ X d y c (l0 :: l1 :: l2 :: l3 :: l4 :: l5 :: l6 :: l7 :: l8 :: aI z :: ls) st M Q := X_nx rfl
theorem v_as_9 {l0 l1 l2 l3 l4 l5 l6 l7 l8 : AV} {q : Nat × Nat × Nat} {o : AV} : X d y ((pc, ln, 6, u, 9, w, x) :: c) (l0 :: l1 :: l2 :: l3 :: l4 :: l5 :: l6 :: l7 :: l8 :: o :: ls) (Sum.inr (Sum.inl q) :: st) M Q ↔ X d y c (l0 :: l1 :: l2 :: l3 :: l4 :: l5 :: l6 :: l7 :: l8 :: Sum.inr (Sum.inl q) :: ls) st M Q := X_nx rfl
theorem v_inc_9 {l0 l1 l2 l3 l4 l5 l6 l7 l8 : AV} {z : Int} : X d y ((pc, ln, 7, u, 9, w, x) :: c) (l0 :: l1 :: l2 :: l3 :: l4 :: l5 :: l6 :: l7 :: l8 :: aI z :: ls) st M Q ↔ X d y c (l0 :: l1 :: l2 :: l3 :: l4 :: l5 :: l6 :: l7 :: l8 :: aI (z + u) :: ls) st M Q := X_nx rfl
theorem v_il_10 {l0 l1 l2 l3 l4 l5 l6 l7 l8 l9 : AV} {z : Int} : X d y ((pc, ln, 1, u, 10, w, x) :: c) (l0 :: l1 :: l2 :: l3 :: l4 :: l5 :: l6 :: l7 :: l8 :: l9 :: aI z :: ls) st M Q ↔ X d y c (l0 :: l1 :: l2 :: l3 :: l4 :: l5 :: l6 :: l7 :: l8 :: l9 :: aI z :: ls) (aI z :: st) M Q := X_nx rfl
theorem v_al_10 {l0 l1 l2 l3 l4 l5 l6 l7 l8 l9 : AV} {q : Nat × Nat × Nat} : X d y ((pc, ln, 3, u, 10, w, x) :: c) (l0 :: l1 :: l2 :: l3 :: l4 :: l5 :: l6 :: l7 :: l8 :: l9 :: Sum.inr (Sum.inl q) :: ls) st M Q ↔ X d y c (l0 :: l1 :: l2 :: l3 :: l4 :: l5 :: l6 :: l7 :: l8 :: l9 :: Sum.inr (Sum.inl q) :: ls) (Sum.inr (Sum.inl q) :: st) M Q := X_nx rfl
theorem v_is_10 {l0 l1 l2 l3 l4 l5 l6 l7 l8 l9 : AV} {z : Int} {o : AV} : X d y ((pc, ln, 4, u, 10, w, x) :: c) (l0 :: l1 :: l2 :: l3 :: l4 :: l5 :: l6 :: l7 :: l8 :: l9 :: o :: ls) (aI z :: st) M Q ↔ X d y c (l0 :: l1 :: l2 :: l3 :: l4 :: l5 :: l6 :: l7 :: l8 :: l9 :: aI z :: ls) st M Q := X_nx rfl
theorem v_as_10 {l0 l1 l2 l3 l4 l5 l6 l7 l8 l9 : AV} {q : Nat × Nat × Nat} {o : AV} : X d y ((pc, ln, 6, u, 10, w, x) :: c) (l0 :: l1 :: l2 :: l3 :: l4 :: l5 :: l6 :: l7 :: l8 :: l9 :: o :: ls) (Sum.inr (Sum.inl q) :: st) M Q ↔ X d y c (l0 :: l1 :: l2 :: l3 :: l4 :: l5 :: l6 :: l7 :: l8 :: l9 :: Sum.inr (Sum.inl q) :: ls) st M Q := X_nx rfl
theorem v_inc_10 {l0 l1 l2 l3 l4 l5 l6 l7 l8 l9 : AV} {z : Int} : X d y ((pc, ln, 7, u, 10, w, x) :: c) (l0 :: l1 :: l2 :: l3 :: l4 :: l5 :: l6 :: l7 :: l8 :: l9 :: aI z :: ls) st M Q ↔ X d y c (l0 :: l1 :: l2 :: l3 :: l4 :: l5 :: l6 :: l7 :: l8 :: l9 :: aI (z + u) :: ls) st M Q := X_nx rfl
theorem v_il_11 {l0 l1 l2 l3 l4 l5 l6 l7 l8 l9 l10 : AV} {z : Int} : X d y ((pc, ln, 1, u, 11, w, x) :: c) (l0 :: l1 :: l2 :: l3 :: l4 :: l5 :: l6 :: l7 :: l8 :: l9 :: l10 :: aI z :: ls) st M Q ↔ X d y c (l0 :: l1 :: l2 :: l3 :: l4 :: l5 :: l6 :: l7 :: l8 :: l9 :: l10 :: aI z :: ls) (aI z :: st) M Q := X_nx rfl
theorem v_al_11 {l0 l1 l2 l3 l4 l5 l6 l7 l8 l9 l10 : AV} {q : Nat × Nat × Nat} : X d y ((pc, ln, 3, u, 11, w, x) :: c) (l0 :: l1 :: l2 :: l3 :: l4 :: l5 :: l6 :: l7 :: l8 :: l9 :: l10 :: Sum.inr (Sum.inl q) :: ls) st M Q ↔ X d y c (l0 :: l1 :: l2 :: l3 :: l4 :: l5 :: l6 :: l7 :: l8 :: l9 :: l10 :: Sum.inr (Sum.inl q) :: ls) (Sum.inr (Sum.inl q) :: st) M Q := X_nx rfl
theorem v_is_11 {l0 l1 l2 l3 l4 l5 l6 l7 l8 l9 l10 : AV} {z : Int} {o : AV} : X d y ((pc, ln, 4, u, 11, w, x) :: c) (l0 :: l1 :: l2 :: l3 :: l4 :: l5 :: l6 :: l7 :: l8 :: l9 :: l10 :: o :: ls) (aI z :: st) M Q ↔ X d y c (l0 :: l1 :: l2 :: l3 :: l4 :: l5 :: l6 :: l7 :: l8 :: l9 :: l10 :: aI z :: ls) st M Q := X_nx rfl
theorem v_as_11 {l0 l1 l2 l3 l4 l5 l6 l7 l8 l9 l10 : AV} {q : Nat × Nat × Nat} {o : AV} : X d y ((pc, ln, 6, u, 11, w, x) :: c) (l0 :: l1 :: l2 :: l3 :: l4 :: l5 :: l6 :: l7 :: l8 :: l9 :: l10 :: o :: ls) (Sum.inr (Sum.inl q) :: st) M Q ↔ X d y c (l0 :: l1 :: l2 :: l3 :: l4 :: l5 :: l6 :: l7 :: l8 :: l9 :: l10 :: Sum.inr (Sum.inl q) :: ls) st M Q := X_nx rfl
theorem v_inc_11 {l0 l1 l2 l3 l4 l5 l6 l7 l8 l9 l10 : AV} {z : Int} : X d y ((pc, ln, 7, u, 11, w, x) :: c) (l0 :: l1 :: l2 :: l3 :: l4 :: l5 :: l6 :: l7 :: l8 :: l9 :: l10 :: aI z :: ls) st M Q ↔ X d y c (l0 :: l1 :: l2 :: l3 :: l4 :: l5 :: l6 :: l7 :: l8 :: l9 :: l10 :: aI (z + u) :: ls) st M Q := X_nx rfl
theorem v_il_12 {l0 l1 l2 l3 l4 l5 l6 l7 l8 l9 l10 l11 : AV} {z : Int} : X d y ((pc, ln, 1, u, 12, w, x) :: c) (l0 :: l1 :: l2 :: l3 :: l4 :: l5 :: l6 :: l7 :: l8 :: l9 :: l10 :: l11 :: aI z :: ls) st M Q ↔ X d y c (l0 :: l1 :: l2 :: l3 :: l4 :: l5 :: l6 :: l7 :: l8 :: l9 :: l10 :: l11 :: aI z :: ls) (aI z :: st) M Q := X_nx rfl
theorem v_al_12 {l0 l1 l2 l3 l4 l5 l6 l7 l8 l9 l10 l11 : AV} {q : Nat × Nat × Nat} : X d y ((pc, ln, 3, u, 12, w, x) :: c) (l0 :: l1 :: l2 :: l3 :: l4 :: l5 :: l6 :: l7 :: l8 :: l9 :: l10 :: l11 :: Sum.inr (Sum.inl q) :: ls) st M Q ↔ X d y c (l0 :: l1 :: l2 :: l3 :: l4 :: l5 :: l6 :: l7 :: l8 :: l9 :: l10 :: l11 :: Sum.inr (Sum.inl q) :: ls) (Sum.inr (Sum.inl q) :: st) M Q := X_nx rfl
theorem v_is_12 {l0 l1 l2 l3 l4 l5 l6 l7 l8 l9 l10 l11 : AV} {z : Int} {o : AV} : X d y ((pc, ln, 4, u, 12, w, x) :: c) (l0 :: l1 :: l2 :: l3 :: l4 :: l5 :: l6 :: l7 :: l8 :: l9 :: l10 :: l11 :: o :: ls) (aI z :: st) M Q ↔ X d y c (l0 :: l1 :: l2 :: l3 :: l4 :: l5 :: l6 :: l7 :: l8 :: l9 :: l10 :: l11 :: aI z :: ls) st M Q := X_nx rfl
theorem v_as_12 {l0 l1 l2 l3 l4 l5 l6 l7 l8 l9 l10 l11 : AV} {q : Nat × Nat × Nat} {o : AV} : X d y ((pc, ln, 6, u, 12, w, x) :: c) (l0 :: l1 :: l2 :: l3 :: l4 :: l5 :: l6 :: l7 :: l8 :: l9 :: l10 :: l11 :: o :: ls) (Sum.inr (Sum.inl q) :: st) M Q ↔ X d y c (l0 :: l1 :: l2 :: l3 :: l4 :: l5 :: l6 :: l7 :: l8 :: l9 :: l10 :: l11 :: Sum.inr (Sum.inl q) :: ls) st M Q := X_nx rfl
theorem v_inc_12 {l0 l1 l2 l3 l4 l5 l6 l7 l8 l9 l10 l11 : AV} {z : Int} : X d y ((pc, ln, 7, u, 12, w, x) :: c) (l0 :: l1 :: l2 :: l3 :: l4 :: l5 :: l6 :: l7 :: l8 :: l9 :: l10 :: l11 :: aI z :: ls) st M Q ↔ X d y c (l0 :: l1 :: l2 :: l3 :: l4 :: l5 :: l6 :: l7 :: l8 :: l9 :: l10 :: l11 :: aI (z + u) :: ls) st M Q := X_nx rfl
theorem v_il_13 {l0 l1 l2 l3 l4 l5 l6 l7 l8 l9 l10 l11 l12 : AV} {z : Int} : X d y ((pc, ln, 1, u, 13, w, x) :: c) (l0 :: l1 :: l2 :: l3 :: l4 :: l5 :: l6 :: l7 :: l8 :: l9 :: l10 :: l11 :: l12 :: aI z :: ls) st M Q ↔ X d y c (l0 :: l1 :: l2 :: l3 :: l4 :: l5 :: l6 :: l7 :: l8 :: l9 :: l10 :: l11 :: l12 :: aI z :: ls) (aI z :: st) M Q := X_nx rfl
theorem v_al_13 {l0 l1 l2 l3 l4 l5 l6 l7 l8 l9 l10 l11 l12 : AV} {q : Nat × Nat × Nat} : X d y ((pc, ln, 3, u, 13, w, x) :: c) (l0 :: l1 :: l2 :: l3 :: l4 :: l5 :: l6 :: l7 :: l8 :: l9 :: l10 :: l11 :: l12 :: Sum.inr (Sum.inl q) :: ls) st M Q ↔ X d y c (l0 :: l1 :: l2 :: l3 :: l4 :: l5 :: l6 :: l7 :: l8 :: l9 :: l10 :: l11 :: l12 :: Sum.inr (Sum.inl q) :: ls) (Sum.inr (Sum.inl q) :: st) M Q := X_nx rfl
theorem v_is_13 {l0 l1 l2 l3 l4 l5 l6 l7 l8 l9 l10 l11 l12 : AV} {z : Int} {o : AV} : X d y ((pc, ln, 4, u, 13, w, x) :: c) (l0 :: l1 :: l2 :: l3 :: l4 :: l5 :: l6 :: l7 :: l8 :: l9 :: l10 :: l11 :: l12 :: o :: ls) (aI z :: st) M Q ↔ X d y c (l0 :: l1 :: l2 :: l3 :: l4 :: l5 :: l6 :: l7 :: l8 :: l9 :: l10 :: l11 :: l12 :: aI z :: ls) st M Q := X_nx rfl
theorem v_as_13 {l0 l1 l2 l3 l4 l5 l6 l7 l8 l9 l10 l11 l12 : AV} {q : Nat × Nat × Nat} {o : AV} : X d y ((pc, ln, 6, u, 13, w, x) :: c) (l0 :: l1 :: l2 :: l3 :: l4 :: l5 :: l6 :: l7 :: l8 :: l9 :: l10 :: l11 :: l12 :: o :: ls) (Sum.inr (Sum.inl q) :: st) M Q ↔ X d y c (l0 :: l1 :: l2 :: l3 :: l4 :: l5 :: l6 :: l7 :: l8 :: l9 :: l10 :: l11 :: l12 :: Sum.inr (Sum.inl q) :: ls) st M Q := X_nx rfl
theorem v_inc_13 {l0 l1 l2 l3 l4 l5 l6 l7 l8 l9 l10 l11 l12 : AV} {z : Int} : X d y ((pc, ln, 7, u, 13, w, x) :: c) (l0 :: l1 :: l2 :: l3 :: l4 :: l5 :: l6 :: l7 :: l8 :: l9 :: l10 :: l11 :: l12 :: aI z :: ls) st M Q ↔ X d y c (l0 :: l1 :: l2 :: l3 :: l4 :: l5 :: l6 :: l7 :: l8 :: l9 :: l10 :: l11 :: l12 :: aI (z + u) :: ls) st M Q := X_nx rfl
theorem v_c_8 {v : Nat} : X d y ((pc, ln, 8, u, v, w, x) :: c) ls st M Q ↔ X d y c ls (aI u :: st) M Q := X_nx rfl
theorem v_c_9 {v : Nat} : X d y ((pc, ln, 9, u, v, w, x) :: c) ls st M Q ↔ X d y c ls (aI u :: st) M Q := X_nx rfl
theorem v_c_10 {v : Nat} : X d y ((pc, ln, 10, u, v, w, x) :: c) ls st M Q ↔ X d y c ls (aI u :: st) M Q := X_nx rfl
theorem v_c_11 {v : Nat} : X d y ((pc, ln, 11, u, v, w, x) :: c) ls st M Q ↔ X d y c ls (aI u :: st) M Q := X_nx rfl
theorem v_c_12 {v : Nat} : X d y ((pc, ln, 12, u, v, w, x) :: c) ls st M Q ↔ X d y c ls (aI u :: st) M Q := X_nx rfl
theorem v_c_13 {v : Nat} : X d y ((pc, ln, 13, u, v, w, x) :: c) ls st M Q ↔ X d y c ls (aL u :: st) M Q := X_nx rfl
theorem v_c_14 {v : Nat} : X d y ((pc, ln, 14, u, v, w, x) :: c) ls st M Q ↔ X d y c ls (aL u :: st) M Q := X_nx rfl
theorem v_b_15 {v : Nat} {a b : Int} : X d y ((pc, ln, 15, u, v, w, x) :: c) ls (aI b :: aI a :: st) M Q ↔ X d y c ls (aI (a + b) :: st) M Q := X_nx rfl
theorem v_b_16 {v : Nat} {a b : Int} : X d y ((pc, ln, 16, u, v, w, x) :: c) ls (aI b :: aI a :: st) M Q ↔ X d y c ls (aI (a - b) :: st) M Q := X_nx rfl
theorem v_b_17 {v : Nat} {a b : Int} : X d y ((pc, ln, 17, u, v, w, x) :: c) ls (aI b :: aI a :: st) M Q ↔ X d y c ls (aI (a * b) :: st) M Q := X_nx rfl
theorem v_b_21 {v : Nat} {a b : Int} : X d y ((pc, ln, 21, u, v, w, x) :: c) ls (aI b :: aI a :: st) M Q ↔ X d y c ls (aI (shl32 a b) :: st) M Q := X_nx rfl
theorem v_b_22 {v : Nat} {a b : Int} : X d y ((pc, ln, 22, u, v, w, x) :: c) ls (aI b :: aI a :: st) M Q ↔ X d y c ls (aI (shr32 a b) :: st) M Q := X_nx rfl
theorem v_b_23 {v : Nat} {a b : Int} : X d y ((pc, ln, 23, u, v, w, x) :: c) ls (aI b :: aI a :: st) M Q ↔ X d y c ls (aI (ushr32 a b) :: st) M Q := X_nx rfl
theorem v_b_24 {v : Nat} {a b : Int} : X d y ((pc, ln, 24, u, v, w, x) :: c) ls (aI b :: aI a :: st) M Q ↔ X d y c ls (aI (and32 a b) :: st) M Q := X_nx rfl
theorem v_b_25 {v : Nat} {a b : Int} : X d y ((pc, ln, 25, u, v, w, x) :: c) ls (aI b :: aI a :: st) M Q ↔ X d y c ls (aI (or32 a b) :: st) M Q := X_nx rfl
theorem v_b_26 {v : Nat} {a b : Int} : X d y ((pc, ln, 26, u, v, w, x) :: c) ls (aI b :: aI a :: st) M Q ↔ X d y c ls (aI (xor32 a b) :: st) M Q := X_nx rfl
theorem v_b_18 {v : Nat} {a b : Int} (h : ¬ w32 b = 0) : X d y ((pc, ln, 18, u, v, w, x) :: c) ls (aI b :: aI a :: st) M Q ↔ X d y c ls (aI (div32 a b) :: st) M Q := X_nx (by simp [step, h2d, h])
theorem v_b_19 {v : Nat} {a b : Int} (h : ¬ w32 b = 0) : X d y ((pc, ln, 19, u, v, w, x) :: c) ls (aI b :: aI a :: st) M Q ↔ X d y c ls (aI (rem32 a b) :: st) M Q := X_nx (by simp [step, h2d, h])
theorem v_b_20 {v : Nat} {a : Int} : X d y ((pc, ln, 20, u, v, w, x) :: c) ls (aI a :: st) M Q ↔ X d y c ls (aI (-a) :: st) M Q := X_nx rfl
theorem v_b_27 {v : Nat} {a : Int} : X d y ((pc, ln, 27, u, v, w, x) :: c) ls (aI a :: st) M Q ↔ X d y c ls (aL (w32 a) :: st) M Q := X_nx rfl
theorem v_b_28 {v : Nat} {a : Int} : X d y ((pc, ln, 28, u, v, w, x) :: c) ls (aI a :: st) M Q ↔ X d y c ls (aI (w8 a) :: st) M Q := X_nx rfl
theorem v_b_29 {v : Nat} {a b : Int} : X d y ((pc, ln, 29, u, v, w, x) :: c) ls (aI b :: aL a :: st) M Q ↔ X d y c ls (aL (shl64 a b) :: st) M Q := X_nx rfl
theorem v_b_30 {v : Nat} {a b : Int} : X d y ((pc, ln, 30, u, v, w, x) :: c) ls (aL b :: aL a :: st) M Q ↔ X d y c ls (aL (or64 a b) :: st) M Q := X_nx rfl
theorem v_b_31 {v : Nat} {a b : Int} : X d y ((pc, ln, 31, u, v, w, x) :: c) ls (aL b :: aL a :: st) M Q ↔ X d y c ls (aI (cmp64 a b) :: st) M Q := X_nx rfl
theorem v_dup_i {v : Nat} {a : Int} : X d y ((pc, ln, 32, u, v, w, x) :: c) ls (aI a :: st) M Q ↔ X d y c ls (aI a :: aI a :: st) M Q := X_nx rfl
theorem v_dup_r {v : Nat} {q : Nat × Nat × Nat} : X d y ((pc, ln, 32, u, v, w, x) :: c) ls (Sum.inr (Sum.inl q) :: st) M Q ↔ X d y c ls (Sum.inr (Sum.inl q) :: Sum.inr (Sum.inl q) :: st) M Q := X_nx rfl
theorem v_dup2 {v : Nat} {b : Int} {q : Nat × Nat × Nat} : X d y ((pc, ln, 33, u, v, w, x) :: c) ls (aI b :: Sum.inr (Sum.inl q) :: st) M Q ↔ X d y c ls (aI b :: Sum.inr (Sum.inl q) :: aI b :: Sum.inr (Sum.inl q) :: st) M Q := X_nx rfl
theorem v_pop {v : Nat} {a : Int} : X d y ((pc, ln, 34, u, v, w, x) :: c) ls (aI a :: st) M Q ↔ X d y c ls st M Q := X_nx rfl
theorem v_gi {v n a : Nat} : X d y ((pc, ln, 35, u, v, w, x) :: c) ls (aR w n a :: st) M Q ↔ X d y c ls (aI (M a u) :: st) M Q := X_nx (by simp [step, hget])
theorem v_gl {v n a : Nat} : X d y ((pc, ln, 65, u, v, w, x) :: c) ls (aR w n a :: st) M Q ↔ X d y c ls (aL (M a u) :: st) M Q := X_nx (by simp [step, hget])
theorem v_gr {v n a : Nat} : X d y ((pc, ln, 66, u, v, w, x) :: c) ls (aR w n a :: st) M Q ↔ X d y c ls (Sum.inr (Sum.inl (rfs a v)) :: st) M Q := X_nx (by simp [step, hget])
theorem v_pi {v n a : Nat} {z : Int} : X d y ((pc, ln, 36, u, v, w, x) :: c) ls (aI z :: aR w n a :: st) M Q ↔ X d y c ls st (up M a u z) Q := X_nx (by simp [step, hput])
theorem v_pl {v n a : Nat} {z : Int} : X d y ((pc, ln, 67, u, v, w, x) :: c) ls (aL z :: aR w n a :: st) M Q ↔ X d y c ls st (up M a u z) Q := X_nx (by simp [step, hput])
theorem v_pz {v n a : Nat} {z : Int} (h : z = 0 ∨ z = 1) : X d y ((pc, ln, 68, u, v, w, x) :: c) ls (aI z :: aR w n a :: st) M Q ↔ X d y c ls st (up M a u z) Q := X_nx (by simp [step, hput, h])
theorem v_iald {v n a : Nat} {i : Int} (h0 : 0 ≤ i) (hn : i < (n : Int)) : X d y ((pc, ln, 37, u, v, w, x) :: c) ls (aI i :: aR 0 n a :: st) M Q ↔ X d y c ls (aI (M a i) :: st) M Q := X_nx (by simp [step, hald, h0, hn])
theorem v_lald {v n a : Nat} {i : Int} (h0 : 0 ≤ i) (hn : i < (n : Int)) : X d y ((pc, ln, 39, u, v, w, x) :: c) ls (aI i :: aR 1 n a :: st) M Q ↔ X d y c ls (aL (M a i) :: st) M Q := X_nx (by simp [step, hald, h0, hn])
theorem v_bald {v n a : Nat} {i : Int} (h0 : 0 ≤ i) (hn : i < (n : Int)) : X d y ((pc, ln, 41, u, v, w, x) :: c) ls (aI i :: aR 2 n a :: st) M Q ↔ X d y c ls (aI (M a i) :: st) M Q := X_nx (by simp [step, hald, h0, hn])
theorem v_zald {v n a : Nat} {i : Int} (h0 : 0 ≤ i) (hn : i < (n : Int)) : X d y ((pc, ln, 41, u, v, w, x) :: c) ls (aI i :: aR 3 n a :: st) M Q ↔ X d y c ls (aI (M a i) :: st) M Q := X_nx (by simp [step, hald, h0, hn])
theorem v_aald {v n a : Nat} {i : Int} (h0 : 0 ≤ i) (hn : i < (n : Int)) : X d y ((pc, ln, 43, u, v, w, x) :: c) ls (aI i :: aR 4 n a :: st) M Q ↔ X d y c ls (Sum.inr (Sum.inl (rfs a i.toNat)) :: st) M Q := X_nx (by simp [step, hald, h0, hn])
theorem v_iast {v n a : Nat} {i : Int} (h0 : 0 ≤ i) (hn : i < (n : Int)) {z : Int} : X d y ((pc, ln, 38, u, v, w, x) :: c) ls (aI z :: aI i :: aR 0 n a :: st) M Q ↔ X d y c ls st (up M a i z) Q := X_nx (by simp [step, hast, h0, hn])
theorem v_last {v n a : Nat} {i : Int} (h0 : 0 ≤ i) (hn : i < (n : Int)) {z : Int} : X d y ((pc, ln, 40, u, v, w, x) :: c) ls (aL z :: aI i :: aR 1 n a :: st) M Q ↔ X d y c ls st (up M a i z) Q := X_nx (by simp [step, hlast, h0, hn])
theorem v_bast {v n a : Nat} {i : Int} (h0 : 0 ≤ i) (hn : i < (n : Int)) {z : Int} (h1 : -128 ≤ z) (h2 : z < 128) : X d y ((pc, ln, 42, u, v, w, x) :: c) ls (aI z :: aI i :: aR 2 n a :: st) M Q ↔ X d y c ls st (up M a i z) Q := X_nx (by simp [step, hast, h0, hn, h1, h2])
theorem v_zast {v n a : Nat} {i : Int} (h0 : 0 ≤ i) (hn : i < (n : Int)) {z : Int} (h1 : z = 0 ∨ z = 1) : X d y ((pc, ln, 42, u, v, w, x) :: c) ls (aI z :: aI i :: aR 3 n a :: st) M Q ↔ X d y c ls st (up M a i z) Q := X_nx (by simp [step, hast, h0, hn, h1])
theorem v_alen_0 {v n a : Nat} : X d y ((pc, ln, 44, u, v, w, x) :: c) ls (aR 0 n a :: st) M Q ↔ X d y c ls (aI (n : Int) :: st) M Q := X_nx rfl
theorem v_alen_1 {v n a : Nat} : X d y ((pc, ln, 44, u, v, w, x) :: c) ls (aR 1 n a :: st) M Q ↔ X d y c ls (aI (n : Int) :: st) M Q := X_nx rfl
theorem v_alen_2 {v n a : Nat} : X d y ((pc, ln, 44, u, v, w, x) :: c) ls (aR 2 n a :: st) M Q ↔ X d y c ls (aI (n : Int) :: st) M Q := X_nx rfl
theorem v_alen_3 {v n a : Nat} : X d y ((pc, ln, 44, u, v, w, x) :: c) ls (aR 3 n a :: st) M Q ↔ X d y c ls (aI (n : Int) :: st) M Q := X_nx rfl
theorem v_alen_4 {v n a : Nat} : X d y ((pc, ln, 44, u, v, w, x) :: c) ls (aR 4 n a :: st) M Q ↔ X d y c ls (aI (n : Int) :: st) M Q := X_nx rfl
theorem v_j_45 {v : Nat} {a b : Int} : X d y ((pc, ln, 45, u, v, w, x) :: c) ls (aI b :: aI a :: st) M Q ↔ (if w32 a = w32 b then XL d y v ls st M Q else X d y c ls st M Q) := by
  refine (X_nx (c' := if decide (w32 a = w32 b) = true then blk y v else c) rfl).trans ?_
  by_cases h : w32 a = w32 b
  · rw [if_pos (decide_eq_true h), if_pos h]; (try exact Iff.rfl)
  · rw [if_neg (fun hh => h (of_decide_eq_true hh)), if_neg h]
theorem v_j_46 {v : Nat} {a b : Int} : X d y ((pc, ln, 46, u, v, w, x) :: c) ls (aI b :: aI a :: st) M Q ↔ (if w32 a ≠ w32 b then XL d y v ls st M Q else X d y c ls st M Q) := by
  refine (X_nx (c' := if decide (w32 a ≠ w32 b) = true then blk y v else c) rfl).trans ?_
  by_cases h : w32 a ≠ w32 b
  · rw [if_pos (decide_eq_true h), if_pos h]; (try exact Iff.rfl)
  · rw [if_neg (fun hh => h (of_decide_eq_true hh)), if_neg h]
theorem v_j_47 {v : Nat} {a b : Int} : X d y ((pc, ln, 47, u, v, w, x) :: c) ls (aI b :: aI a :: st) M Q ↔ (if w32 a < w32 b then XL d y v ls st M Q else X d y c ls st M Q) := by
  refine (X_nx (c' := if decide (w32 a < w32 b) = true then blk y v else c) rfl).trans ?_
  by_cases h : w32 a < w32 b
  · rw [if_pos (decide_eq_true h), if_pos h]; (try exact Iff.rfl)
  · rw [if_neg (fun hh => h (of_decide_eq_true hh)), if_neg h]
theorem v_j_48 {v : Nat} {a b : Int} : X d y ((pc, ln, 48, u, v, w, x) :: c) ls (aI b :: aI a :: st) M Q ↔ (if w32 b ≤ w32 a then XL d y v ls st M Q else X d y c ls st M Q) := by
  refine (X_nx (c' := if decide (w32 b ≤ w32 a) = true then blk y v else c) rfl).trans ?_
  by_cases h : w32 b ≤ w32 a
  · rw [if_pos (decide_eq_true h), if_pos h]; (try exact Iff.rfl)
  · rw [if_neg (fun hh => h (of_decide_eq_true hh)), if_neg h]
theorem v_j_49 {v : Nat} {a b : Int} : X d y ((pc, ln, 49, u, v, w, x) :: c) ls (aI b :: aI a :: st) M Q ↔ (if w32 b < w32 a then XL d y v ls st M Q else X d y c ls st M Q) := by
  refine (X_nx (c' := if decide (w32 b < w32 a) = true then blk y v else c) rfl).trans ?_
  by_cases h : w32 b < w32 a
  · rw [if_pos (decide_eq_true h), if_pos h]; (try exact Iff.rfl)
  · rw [if_neg (fun hh => h (of_decide_eq_true hh)), if_neg h]
theorem v_j_50 {v : Nat} {a b : Int} : X d y ((pc, ln, 50, u, v, w, x) :: c) ls (aI b :: aI a :: st) M Q ↔ (if w32 a ≤ w32 b then XL d y v ls st M Q else X d y c ls st M Q) := by
  refine (X_nx (c' := if decide (w32 a ≤ w32 b) = true then blk y v else c) rfl).trans ?_
  by_cases h : w32 a ≤ w32 b
  · rw [if_pos (decide_eq_true h), if_pos h]; (try exact Iff.rfl)
  · rw [if_neg (fun hh => h (of_decide_eq_true hh)), if_neg h]
theorem v_j_51 {v : Nat} {a : Int} : X d y ((pc, ln, 51, u, v, w, x) :: c) ls (aI a :: st) M Q ↔ (if w32 a = 0 then XL d y v ls st M Q else X d y c ls st M Q) := by
  refine (X_nx (c' := if decide (w32 a = 0) = true then blk y v else c) rfl).trans ?_
  by_cases h : w32 a = 0
  · rw [if_pos (decide_eq_true h), if_pos h]; (try exact Iff.rfl)
  · rw [if_neg (fun hh => h (of_decide_eq_true hh)), if_neg h]
theorem v_j_52 {v : Nat} {a : Int} : X d y ((pc, ln, 52, u, v, w, x) :: c) ls (aI a :: st) M Q ↔ (if w32 a ≠ 0 then XL d y v ls st M Q else X d y c ls st M Q) := by
  refine (X_nx (c' := if decide (w32 a ≠ 0) = true then blk y v else c) rfl).trans ?_
  by_cases h : w32 a ≠ 0
  · rw [if_pos (decide_eq_true h), if_pos h]; (try exact Iff.rfl)
  · rw [if_neg (fun hh => h (of_decide_eq_true hh)), if_neg h]
theorem v_j_53 {v : Nat} {a : Int} : X d y ((pc, ln, 53, u, v, w, x) :: c) ls (aI a :: st) M Q ↔ (if w32 a < 0 then XL d y v ls st M Q else X d y c ls st M Q) := by
  refine (X_nx (c' := if decide (w32 a < 0) = true then blk y v else c) rfl).trans ?_
  by_cases h : w32 a < 0
  · rw [if_pos (decide_eq_true h), if_pos h]; (try exact Iff.rfl)
  · rw [if_neg (fun hh => h (of_decide_eq_true hh)), if_neg h]
theorem v_j_54 {v : Nat} {a : Int} : X d y ((pc, ln, 54, u, v, w, x) :: c) ls (aI a :: st) M Q ↔ (if 0 ≤ w32 a then XL d y v ls st M Q else X d y c ls st M Q) := by
  refine (X_nx (c' := if decide (0 ≤ w32 a) = true then blk y v else c) rfl).trans ?_
  by_cases h : 0 ≤ w32 a
  · rw [if_pos (decide_eq_true h), if_pos h]; (try exact Iff.rfl)
  · rw [if_neg (fun hh => h (of_decide_eq_true hh)), if_neg h]
theorem v_j_55 {v : Nat} {a : Int} : X d y ((pc, ln, 55, u, v, w, x) :: c) ls (aI a :: st) M Q ↔ (if 0 < w32 a then XL d y v ls st M Q else X d y c ls st M Q) := by
  refine (X_nx (c' := if decide (0 < w32 a) = true then blk y v else c) rfl).trans ?_
  by_cases h : 0 < w32 a
  · rw [if_pos (decide_eq_true h), if_pos h]; (try exact Iff.rfl)
  · rw [if_neg (fun hh => h (of_decide_eq_true hh)), if_neg h]
theorem v_j_56 {v : Nat} {a : Int} : X d y ((pc, ln, 56, u, v, w, x) :: c) ls (aI a :: st) M Q ↔ (if w32 a ≤ 0 then XL d y v ls st M Q else X d y c ls st M Q) := by
  refine (X_nx (c' := if decide (w32 a ≤ 0) = true then blk y v else c) rfl).trans ?_
  by_cases h : w32 a ≤ 0
  · rw [if_pos (decide_eq_true h), if_pos h]; (try exact Iff.rfl)
  · rw [if_neg (fun hh => h (of_decide_eq_true hh)), if_neg h]
theorem v_goto {v : Nat} : X d y ((pc, ln, 57, u, v, w, x) :: c) ls st M Q ↔ XL d y v ls st M Q := X_nx rfl
theorem v_sw {v L : Nat} {a : Int} (h : swl pc v a = some L) : X d y ((pc, ln, 58, u, v, w, x) :: c) ls (aI a :: st) M Q ↔ XL d y L ls st M Q := X_nx (by simp [step, h])
theorem v_ret_i {v : Nat} {z : Int} : X d y ((pc, ln, 62, 0, v, w, x) :: c) ls [aI z] M Q ↔ Q [aI z] M := X_ret rfl
theorem v_ret_z {v : Nat} {z : Int} (h : z = 0 ∨ z = 1) : X d y ((pc, ln, 62, 1, v, w, x) :: c) ls [aI z] M Q ↔ Q [aI z] M := X_ret (by simp [step, h])
theorem v_ret {v : Nat} : X d y ((pc, ln, 63, u, v, w, x) :: c) ls [] M Q ↔ Q [] M := X_ret rfl
theorem v_cpy {v nd nb dd ss : Nat} {n dp sp : Int} (hne : ss ≠ dd) (h1 : 0 ≤ n) (h2 : 0 ≤ dp) (h3 : 0 ≤ sp) (h4 : sp + n ≤ (nb : Int)) (h5 : dp + n ≤ (nd : Int)) : X d y ((pc, ln, 61, u, v, w, x) :: c) ls [aI n, aI dp, aR 0 nd dd, aI sp, aR 0 nb ss] M Q ↔ X d y c ls [] (cpy M ss dd sp dp n) Q := X_nx (by simp [step, hcpy, hne, h1, h2, h3, h4, h5])
theorem v_iv_1 {v n a : Nat}  (hw : stw st ≤ 8) : X (d + 1) y ((pc, ln, 59, 1, v, w, x) :: c) ls (aR w n a :: st) M Q ↔ XC d v [aR w n a] M (fun r M2 => X (d + 1) y c ls (r ++ st) M2 Q) := X_call (by
  simp [step, hcall, nlb_r, rk, hw])
theorem v_iv_2 {v n a : Nat} {a1 : AV} (q1 : nl a1) (hw : stw st ≤ 8) : X (d + 1) y ((pc, ln, 59, 2, v, w, x) :: c) ls (a1 :: aR w n a :: st) M Q ↔ XC d v [aR w n a, a1] M (fun r M2 => X (d + 1) y c ls (r ++ st) M2 Q) := X_call (by
  simp [step, hcall, nlb_r, rk, hw, nl_b q1])
theorem v_iv_3 {v n a : Nat} {a1 a2 : AV} (q1 : nl a1) (q2 : nl a2) (hw : stw st ≤ 8) : X (d + 1) y ((pc, ln, 59, 3, v, w, x) :: c) ls (a2 :: a1 :: aR w n a :: st) M Q ↔ XC d v [aR w n a, a1, a2] M (fun r M2 => X (d + 1) y c ls (r ++ st) M2 Q) := X_call (by
  simp [step, hcall, nlb_r, rk, hw, nl_b q1, nl_b q2])
theorem v_iv_4 {v n a : Nat} {a1 a2 a3 : AV} (q1 : nl a1) (q2 : nl a2) (q3 : nl a3) (hw : stw st ≤ 8) : X (d + 1) y ((pc, ln, 59, 4, v, w, x) :: c) ls (a3 :: a2 :: a1 :: aR w n a :: st) M Q ↔ XC d v [aR w n a, a1, a2, a3] M (fun r M2 => X (d + 1) y c ls (r ++ st) M2 Q) := X_call (by
  simp [step, hcall, nlb_r, rk, hw, nl_b q1, nl_b q2, nl_b q3])
theorem v_iv_5 {v n a : Nat} {a1 a2 a3 a4 : AV} (q1 : nl a1) (q2 : nl a2) (q3 : nl a3) (q4 : nl a4) (hw : stw st ≤ 8) : X (d + 1) y ((pc, ln, 59, 5, v, w, x) :: c) ls (a4 :: a3 :: a2 :: a1 :: aR w n a :: st) M Q ↔ XC d v [aR w n a, a1, a2, a3, a4] M (fun r M2 => X (d + 1) y c ls (r ++ st) M2 Q) := X_call (by
  simp [step, hcall, nlb_r, rk, hw, nl_b q1, nl_b q2, nl_b q3, nl_b q4])
theorem v_iv_6 {v n a : Nat} {a1 a2 a3 a4 a5 : AV} (q1 : nl a1) (q2 : nl a2) (q3 : nl a3) (q4 : nl a4) (q5 : nl a5) (hw : stw st ≤ 8) : X (d + 1) y ((pc, ln, 59, 6, v, w, x) :: c) ls (a5 :: a4 :: a3 :: a2 :: a1 :: aR w n a :: st) M Q ↔ XC d v [aR w n a, a1, a2, a3, a4, a5] M (fun r M2 => X (d + 1) y c ls (r ++ st) M2 Q) := X_call (by
  simp [step, hcall, nlb_r, rk, hw, nl_b q1, nl_b q2, nl_b q3, nl_b q4, nl_b q5])
theorem v_is2_1 {v : Nat} {a1 : AV} (q1 : nl a1) (hw : stw st ≤ 8) : X (d + 1) y ((pc, ln, 60, 1, v, w, x) :: c) ls (a1 :: st) M Q ↔ XC d v [a1] M (fun r M2 => X (d + 1) y c ls (r ++ st) M2 Q) := X_call (by
  simp [step, hcall, hw, nl_b q1])
theorem v_is2_2 {v : Nat} {a1 a2 : AV} (q1 : nl a1) (q2 : nl a2) (hw : stw st ≤ 8) : X (d + 1) y ((pc, ln, 60, 2, v, w, x) :: c) ls (a2 :: a1 :: st) M Q ↔ XC d v [a1, a2] M (fun r M2 => X (d + 1) y c ls (r ++ st) M2 Q) := X_call (by
  simp [step, hcall, hw, nl_b q1, nl_b q2])
theorem v_is2_3 {v : Nat} {a1 a2 a3 : AV} (q1 : nl a1) (q2 : nl a2) (q3 : nl a3) (hw : stw st ≤ 8) : X (d + 1) y ((pc, ln, 60, 3, v, w, x) :: c) ls (a3 :: a2 :: a1 :: st) M Q ↔ XC d v [a1, a2, a3] M (fun r M2 => X (d + 1) y c ls (r ++ st) M2 Q) := X_call (by
  simp [step, hcall, hw, nl_b q1, nl_b q2, nl_b q3])
theorem v_ivJ {v n a : Nat} {z : Int} (hw : stw st ≤ 8) : X (d + 1) y ((pc, ln, 64, u, v, w, x) :: c) ls (aL z :: aR w n a :: st) M Q ↔ XC d v [aR w n a, aL z] M (fun r M2 => X (d + 1) y c ls (r ++ st) M2 Q) := X_call (by simp [step, hw])
end VC
