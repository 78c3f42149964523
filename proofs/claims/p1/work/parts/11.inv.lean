/-! THE BRIDGE: what a step is, by its number -/
theorem h1_inv {f : Int → Int} {c : List Ent} {ls st : List AV} {M : Mem} {res} (h : h1 f c ls st M = some res) : ∃ a st0, st = aI a :: st0 ∧ res = Sum.inl (c, ls, aI (f a) :: st0, M) := by
  unfold h1 at h
  split at h
  · simp only [nx, Option.some.injEq] at h; subst h; exact ⟨_, _, rfl, rfl⟩
  · cases h
theorem h2_inv {f : Int → Int → Int} {c : List Ent} {ls st : List AV} {M : Mem} {res} (h : h2 f c ls st M = some res) : ∃ a b st0, st = aI b :: aI a :: st0 ∧ res = Sum.inl (c, ls, aI (f a b) :: st0, M) := by
  unfold h2 at h
  split at h
  · simp only [nx, Option.some.injEq] at h; subst h; exact ⟨_, _, _, rfl, rfl⟩
  · cases h
theorem h2d_inv {f : Int → Int → Int} {c : List Ent} {ls st : List AV} {M : Mem} {res} (h : h2d f c ls st M = some res) : ∃ a b st0, st = aI b :: aI a :: st0 ∧ ¬ w32 b = 0 ∧ res = Sum.inl (c, ls, aI (f a b) :: st0, M) := by
  unfold h2d at h
  split at h
  · split at h
    · cases h
    · rename_i hb; simp only [nx, Option.some.injEq] at h; subst h; exact ⟨_, _, _, rfl, hb, rfl⟩
  · cases h
theorem hj2_inv {t : Int → Int → Bool} {to c : List Ent} {ls st : List AV} {M : Mem} {res} (h : hj2 t to c ls st M = some res) : ∃ a b st0, st = aI b :: aI a :: st0 ∧ res = Sum.inl (if t (w32 a) (w32 b) then to else c, ls, st0, M) := by
  unfold hj2 at h
  split at h
  · simp only [nx, Option.some.injEq] at h; subst h; exact ⟨_, _, _, rfl, rfl⟩
  · cases h
theorem hj1_inv {t : Int → Bool} {to c : List Ent} {ls st : List AV} {M : Mem} {res} (h : hj1 t to c ls st M = some res) : ∃ a st0, st = aI a :: st0 ∧ res = Sum.inl (if t (w32 a) then to else c, ls, st0, M) := by
  unfold hj1 at h
  split at h
  · simp only [nx, Option.some.injEq] at h; subst h; exact ⟨_, _, rfl, rfl⟩
  · cases h
theorem hget0_inv {u : Int} {v w : Nat} {c : List Ent} {ls st : List AV} {M : Mem} {res} (h : hget 0 u v w c ls st M = some res) : ∃ n a st0, st = aR w n a :: st0 ∧ res = Sum.inl (c, ls, aI (M a u) :: st0, M) := by
  unfold hget at h
  split at h
  · split at h
    · rename_i hk; subst hk; simp only [if_true, nx, Option.some.injEq] at h; subst h; exact ⟨_, _, _, rfl, rfl⟩
    · cases h
  · cases h
theorem hget1_inv {u : Int} {v w : Nat} {c : List Ent} {ls st : List AV} {M : Mem} {res} (h : hget 1 u v w c ls st M = some res) : ∃ n a st0, st = aR w n a :: st0 ∧ res = Sum.inl (c, ls, aL (M a u) :: st0, M) := by
  unfold hget at h
  split at h
  · split at h
    · rename_i hk; subst hk; rw [if_neg (by decide), if_pos rfl] at h; simp only [nx, Option.some.injEq] at h; subst h; exact ⟨_, _, _, rfl, rfl⟩
    · cases h
  · cases h
theorem hget2_inv {u : Int} {v w : Nat} {c : List Ent} {ls st : List AV} {M : Mem} {res} (h : hget 2 u v w c ls st M = some res) : ∃ n a st0, st = aR w n a :: st0 ∧ res = Sum.inl (c, ls, Sum.inr (Sum.inl (rfs a v)) :: st0, M) := by
  unfold hget at h
  split at h
  · split at h
    · rename_i hk; subst hk; rw [if_neg (by decide), if_neg (by decide)] at h; simp only [nx, Option.some.injEq] at h; subst h; exact ⟨_, _, _, rfl, rfl⟩
    · cases h
  · cases h
theorem hput0_inv {u : Int} {w : Nat} {c : List Ent} {ls st : List AV} {M : Mem} {res} (h : hput 0 u w c ls st M = some res) : ∃ z n a st0, st = aI z :: aR w n a :: st0 ∧ res = Sum.inl (c, ls, st0, up M a u z) := by
  unfold hput at h
  split at h
  · split at h
    · rename_i hk; obtain ⟨rfl, -⟩ := hk; simp only [nx, Option.some.injEq] at h; subst h; exact ⟨_, _, _, _, rfl, rfl⟩
    · cases h
  · split at h
    · rename_i hk; exact absurd hk.2 (by decide)
    · cases h
  · cases h
theorem hput3_inv {u : Int} {w : Nat} {c : List Ent} {ls st : List AV} {M : Mem} {res} (h : hput 3 u w c ls st M = some res) : ∃ z n a st0, st = aI z :: aR w n a :: st0 ∧ (z = 0 ∨ z = 1) ∧ res = Sum.inl (c, ls, st0, up M a u z) := by
  unfold hput at h
  split at h
  · split at h
    · rename_i hk; obtain ⟨rfl, hz⟩ := hk; simp only [nx, Option.some.injEq] at h; subst h; exact ⟨_, _, _, _, rfl, (hz.resolve_left (by decide)).2, rfl⟩
    · cases h
  · split at h
    · rename_i hk; exact absurd hk.2 (by decide)
    · cases h
  · cases h
theorem hput1_inv {u : Int} {w : Nat} {c : List Ent} {ls st : List AV} {M : Mem} {res} (h : hput 1 u w c ls st M = some res) : ∃ z n a st0, st = aL z :: aR w n a :: st0 ∧ res = Sum.inl (c, ls, st0, up M a u z) := by
  unfold hput at h
  split at h
  · split at h
    · rename_i hk; rcases hk.2 with h9 | h9
      · exact absurd h9 (by decide)
      · exact absurd h9.1 (by decide)
    · cases h
  · split at h
    · rename_i hk; obtain ⟨rfl, -⟩ := hk; simp only [nx, Option.some.injEq] at h; subst h; exact ⟨_, _, _, _, rfl, rfl⟩
    · cases h
  · cases h
theorem hald_inv {k0 : Nat → Bool} {f : Nat → Int → AV} {c : List Ent} {ls st : List AV} {M : Mem} {res} (h : hald c ls st M k0 f = some res) : ∃ i k n a st0, st = aI i :: aR k n a :: st0 ∧ k0 k = true ∧ 0 ≤ i ∧ i < (n : Int) ∧ res = Sum.inl (c, ls, f a i :: st0, M) := by
  unfold hald at h
  split at h
  · split at h
    · rename_i hk; simp only [nx, Option.some.injEq] at h; subst h; exact ⟨_, _, _, _, _, rfl, hk.1, hk.2.1, hk.2.2, rfl⟩
    · cases h
  · cases h
theorem hast_inv {k0 : Nat → Int → Bool} {c : List Ent} {ls st : List AV} {M : Mem} {res} (h : hast c ls st M k0 = some res) : ∃ z i k n a st0, st = aI z :: aI i :: aR k n a :: st0 ∧ k0 k z = true ∧ 0 ≤ i ∧ i < (n : Int) ∧ res = Sum.inl (c, ls, st0, up M a i z) := by
  unfold hast at h
  split at h
  · split at h
    · rename_i hk; simp only [nx, Option.some.injEq] at h; subst h; exact ⟨_, _, _, _, _, _, rfl, hk.1, hk.2.1, hk.2.2, rfl⟩
    · cases h
  · cases h
theorem hlast_inv {c : List Ent} {ls st : List AV} {M : Mem} {res} (h : hlast c ls st M = some res) : ∃ z i n a st0, st = aL z :: aI i :: aR 1 n a :: st0 ∧ 0 ≤ i ∧ i < (n : Int) ∧ res = Sum.inl (c, ls, st0, up M a i z) := by
  unfold hlast at h
  split at h
  · split at h
    · rename_i hk; obtain ⟨rfl, h0, h1⟩ := hk; simp only [nx, Option.some.injEq] at h; subst h; exact ⟨_, _, _, _, _, rfl, h0, h1, rfl⟩
    · cases h
  · cases h
theorem hcpy_inv {c : List Ent} {ls st : List AV} {M : Mem} {res} (h : hcpy c ls st M = some res) : ∃ n dp nd d sp ns s, st = [aI n, aI dp, aR 0 nd d, aI sp, aR 0 ns s] ∧ 0 ≤ n ∧ 0 ≤ dp ∧ 0 ≤ sp ∧ sp + n ≤ (ns : Int) ∧ dp + n ≤ (nd : Int) ∧ res = Sum.inl (c, ls, [], cpy M s d sp dp n) := by
  unfold hcpy at h
  split at h
  · split at h
    · rename_i hk; obtain ⟨rfl, rfl, -, h0, h1, h2, h3, h4⟩ := hk; simp only [nx, Option.some.injEq] at h; subst h; exact ⟨_, _, _, _, _, _, _, rfl, h0, h1, h2, h3, h4, rfl⟩
    · cases h
  · cases h
theorem hcall_inv {u : Int} {z w : Nat} {vir : Bool} {c : List Ent} {ls st : List AV} {M : Mem} {res} (h : hcall u z w vir c ls st M = some res) : u.toNat ≤ st.length ∧ stw (st.drop u.toNat) ≤ 8 ∧ (st.take u.toNat).all nlb = true ∧ (vir = false ∨ rk (st.take u.toNat).reverse = w) ∧ res = Sum.inr (Sum.inl (z, (st.take u.toNat).reverse, (c, ls, st.drop u.toNat, M))) := by
  unfold hcall at h
  split at h
  · rename_i hk; obtain ⟨⟨h0, h1⟩, h2, h3⟩ := hk; simp only [Option.some.injEq] at h; exact ⟨h0, h1, h2, h3, h.symm⟩
  · cases h
theorem rk_inv {as : List AV} {w : Nat} (h : rk as = w) (hw : w < 1000) : ∃ n a as', as = aR w n a :: as' := by
  unfold rk at h
  split at h
  · subst h; exact ⟨_, _, _, rfl⟩
  · omega
section SI
variable {y pc ln v w x : Nat} {u : Int} {c : List Ent} {ls st : List AV} {M : Mem} {oo nL : Nat} {G : List Nat} {r : Option FieldType}
theorem st_0 : step y (pc, ln, 0, u, v, w, x) c ls st M = nx (blk y v) ls st M := rfl
theorem st_8 : step y (pc, ln, 8, u, v, w, x) c ls st M = nx c ls (aI u :: st) M := rfl
theorem st_9 : step y (pc, ln, 9, u, v, w, x) c ls st M = nx c ls (aI u :: st) M := rfl
theorem st_10 : step y (pc, ln, 10, u, v, w, x) c ls st M = nx c ls (aI u :: st) M := rfl
theorem st_11 : step y (pc, ln, 11, u, v, w, x) c ls st M = nx c ls (aI u :: st) M := rfl
theorem st_12 : step y (pc, ln, 12, u, v, w, x) c ls st M = nx c ls (aI u :: st) M := rfl
theorem st_13 : step y (pc, ln, 13, u, v, w, x) c ls st M = nx c ls (aL u :: st) M := rfl
theorem st_14 : step y (pc, ln, 14, u, v, w, x) c ls st M = nx c ls (aL u :: st) M := rfl
theorem st_15 : step y (pc, ln, 15, u, v, w, x) c ls st M = h2 (fun a b => a + b) c ls st M := rfl
theorem st_16 : step y (pc, ln, 16, u, v, w, x) c ls st M = h2 (fun a b => a - b) c ls st M := rfl
theorem st_17 : step y (pc, ln, 17, u, v, w, x) c ls st M = h2 (fun a b => a * b) c ls st M := rfl
theorem st_18 : step y (pc, ln, 18, u, v, w, x) c ls st M = h2d div32 c ls st M := rfl
theorem st_19 : step y (pc, ln, 19, u, v, w, x) c ls st M = h2d rem32 c ls st M := rfl
theorem st_20 : step y (pc, ln, 20, u, v, w, x) c ls st M = h1 (fun a => -a) c ls st M := rfl
theorem st_21 : step y (pc, ln, 21, u, v, w, x) c ls st M = h2 shl32 c ls st M := rfl
theorem st_22 : step y (pc, ln, 22, u, v, w, x) c ls st M = h2 shr32 c ls st M := rfl
theorem st_23 : step y (pc, ln, 23, u, v, w, x) c ls st M = h2 ushr32 c ls st M := rfl
theorem st_24 : step y (pc, ln, 24, u, v, w, x) c ls st M = h2 and32 c ls st M := rfl
theorem st_25 : step y (pc, ln, 25, u, v, w, x) c ls st M = h2 or32 c ls st M := rfl
theorem st_26 : step y (pc, ln, 26, u, v, w, x) c ls st M = h2 xor32 c ls st M := rfl
theorem st_28 : step y (pc, ln, 28, u, v, w, x) c ls st M = h1 w8 c ls st M := rfl
theorem st_35 : step y (pc, ln, 35, u, v, w, x) c ls st M = hget 0 u v w c ls st M := rfl
theorem st_36 : step y (pc, ln, 36, u, v, w, x) c ls st M = hput 0 u w c ls st M := rfl
theorem st_37 : step y (pc, ln, 37, u, v, w, x) c ls st M = hald c ls st M (fun k => k == 0) (fun a i => aI (M a i)) := rfl
theorem st_38 : step y (pc, ln, 38, u, v, w, x) c ls st M = hast c ls st M (fun k _ => k == 0) := rfl
theorem st_39 : step y (pc, ln, 39, u, v, w, x) c ls st M = hald c ls st M (fun k => k == 1) (fun a i => aL (M a i)) := rfl
theorem st_40 : step y (pc, ln, 40, u, v, w, x) c ls st M = hlast c ls st M := rfl
theorem st_41 : step y (pc, ln, 41, u, v, w, x) c ls st M = hald c ls st M (fun k => k == 2 || k == 3) (fun a i => aI (M a i)) := rfl
theorem st_42 : step y (pc, ln, 42, u, v, w, x) c ls st M = hast c ls st M (fun k x => (k == 2 && decide (-128 ≤ x ∧ x < 128)) || (k == 3 && decide (x = 0 ∨ x = 1))) := rfl
theorem st_43 : step y (pc, ln, 43, u, v, w, x) c ls st M = hald c ls st M (fun k => k == 4) (fun a i => Sum.inr (Sum.inl (rfs a i.toNat))) := rfl
theorem st_45 : step y (pc, ln, 45, u, v, w, x) c ls st M = hj2 (fun a b => decide (a = b)) (blk y v) c ls st M := rfl
theorem st_46 : step y (pc, ln, 46, u, v, w, x) c ls st M = hj2 (fun a b => decide (a ≠ b)) (blk y v) c ls st M := rfl
theorem st_47 : step y (pc, ln, 47, u, v, w, x) c ls st M = hj2 (fun a b => decide (a < b)) (blk y v) c ls st M := rfl
theorem st_48 : step y (pc, ln, 48, u, v, w, x) c ls st M = hj2 (fun a b => decide (b ≤ a)) (blk y v) c ls st M := rfl
theorem st_49 : step y (pc, ln, 49, u, v, w, x) c ls st M = hj2 (fun a b => decide (b < a)) (blk y v) c ls st M := rfl
theorem st_50 : step y (pc, ln, 50, u, v, w, x) c ls st M = hj2 (fun a b => decide (a ≤ b)) (blk y v) c ls st M := rfl
theorem st_51 : step y (pc, ln, 51, u, v, w, x) c ls st M = hj1 (fun a => decide (a = 0)) (blk y v) c ls st M := rfl
theorem st_52 : step y (pc, ln, 52, u, v, w, x) c ls st M = hj1 (fun a => decide (a ≠ 0)) (blk y v) c ls st M := rfl
theorem st_53 : step y (pc, ln, 53, u, v, w, x) c ls st M = hj1 (fun a => decide (a < 0)) (blk y v) c ls st M := rfl
theorem st_54 : step y (pc, ln, 54, u, v, w, x) c ls st M = hj1 (fun a => decide (0 ≤ a)) (blk y v) c ls st M := rfl
theorem st_55 : step y (pc, ln, 55, u, v, w, x) c ls st M = hj1 (fun a => decide (0 < a)) (blk y v) c ls st M := rfl
theorem st_56 : step y (pc, ln, 56, u, v, w, x) c ls st M = hj1 (fun a => decide (a ≤ 0)) (blk y v) c ls st M := rfl
theorem st_57 : step y (pc, ln, 57, u, v, w, x) c ls st M = nx (blk y v) ls st M := rfl
theorem st_59 : step y (pc, ln, 59, u, v, w, x) c ls st M = hcall u v w true c ls st M := rfl
theorem st_60 : step y (pc, ln, 60, u, v, w, x) c ls st M = hcall u v w false c ls st M := rfl
theorem st_61 : step y (pc, ln, 61, u, v, w, x) c ls st M = hcpy c ls st M := rfl
theorem st_65 : step y (pc, ln, 65, u, v, w, x) c ls st M = hget 1 u v w c ls st M := rfl
theorem st_66 : step y (pc, ln, 66, u, v, w, x) c ls st M = hget 2 u v w c ls st M := rfl
theorem st_67 : step y (pc, ln, 67, u, v, w, x) c ls st M = hput 1 u w c ls st M := rfl
theorem st_68 : step y (pc, ln, 68, u, v, w, x) c ls st M = hput 3 u w c ls st M := rfl
theorem st_1 {res} (h : step y (pc, ln, 1, u, v, w, x) c ls st M = some res) : ∃ z, ls[v]? = some (aI z) ∧ res = Sum.inl (c, ls, aI z :: st, M) := by
  change (match ls[v]? with | some (Sum.inl (Sum.inl x)) => nx c ls (aI x :: st) M | _ => none) = some res at h
  split at h
  · rename_i z hz; simp only [nx, Option.some.injEq] at h; subst h; exact ⟨_, hz, rfl⟩
  · cases h
theorem st_2 {res} (h : step y (pc, ln, 2, u, v, w, x) c ls st M = some res) : ∃ z, ls[v]? = some (aL z) ∧ res = Sum.inl (c, ls, aL z :: st, M) := by
  change (match ls[v]? with | some (Sum.inl (Sum.inr x)) => nx c ls (aL x :: st) M | _ => none) = some res at h
  split at h
  · rename_i z hz; simp only [nx, Option.some.injEq] at h; subst h; exact ⟨_, hz, rfl⟩
  · cases h
theorem st_3 {res} (h : step y (pc, ln, 3, u, v, w, x) c ls st M = some res) : ∃ z, ls[v]? = some (Sum.inr (Sum.inl z)) ∧ res = Sum.inl (c, ls, Sum.inr (Sum.inl z) :: st, M) := by
  change (match ls[v]? with | some (Sum.inr (Sum.inl x)) => nx c ls (Sum.inr (Sum.inl x) :: st) M | _ => none) = some res at h
  split at h
  · rename_i z hz; simp only [nx, Option.some.injEq] at h; subst h; exact ⟨_, hz, rfl⟩
  · cases h
theorem st_7 {res} (h : step y (pc, ln, 7, u, v, w, x) c ls st M = some res) : ∃ z, ls[v]? = some (aI z) ∧ res = Sum.inl (c, ls.set v (aI (z + u)), st, M) := by
  change (match ls[v]? with | some (Sum.inl (Sum.inl x)) => nx c (ls.set v (aI (x + u))) st M | _ => none) = some res at h
  split at h
  · rename_i z hz; simp only [nx, Option.some.injEq] at h; subst h; exact ⟨_, hz, rfl⟩
  · cases h
theorem st_4 {res} (h : step y (pc, ln, 4, u, v, w, x) c ls st M = some res) : ∃ z st0, st = aI z :: st0 ∧ res = Sum.inl (c, ls.set v (aI z), st0, M) := by
  change (match (generalizing := false) st with | Sum.inl (Sum.inl x) :: st => nx c (ls.set v (aI x)) st M | _ => none) = some res at h
  split at h
  · simp only [nx, Option.some.injEq] at h; subst h; exact ⟨_, _, rfl, rfl⟩
  · cases h
theorem st_5 {res} (h : step y (pc, ln, 5, u, v, w, x) c ls st M = some res) : ∃ z st0, st = aL z :: st0 ∧ res = Sum.inl (c, ls.set v (aL z), st0, M) := by
  change (match (generalizing := false) st with | Sum.inl (Sum.inr x) :: st => nx c (ls.set v (aL x)) st M | _ => none) = some res at h
  split at h
  · simp only [nx, Option.some.injEq] at h; subst h; exact ⟨_, _, rfl, rfl⟩
  · cases h
theorem st_6 {res} (h : step y (pc, ln, 6, u, v, w, x) c ls st M = some res) : ∃ z st0, st = Sum.inr (Sum.inl z) :: st0 ∧ res = Sum.inl (c, ls.set v (Sum.inr (Sum.inl z)), st0, M) := by
  change (match (generalizing := false) st with | Sum.inr (Sum.inl r) :: st => nx c (ls.set v (Sum.inr (Sum.inl r))) st M | _ => none) = some res at h
  split at h
  · simp only [nx, Option.some.injEq] at h; subst h; exact ⟨_, _, rfl, rfl⟩
  · cases h
theorem st_27 {res} (h : step y (pc, ln, 27, u, v, w, x) c ls st M = some res) : ∃ z st0, st = aI z :: st0 ∧ res = Sum.inl (c, ls, aL (w32 z) :: st0, M) := by
  change (match (generalizing := false) st with | Sum.inl (Sum.inl x) :: st => nx c ls (aL (w32 x) :: st) M | _ => none) = some res at h
  split at h
  · simp only [nx, Option.some.injEq] at h; subst h; exact ⟨_, _, rfl, rfl⟩
  · cases h
theorem st_29 {res} (h : step y (pc, ln, 29, u, v, w, x) c ls st M = some res) : ∃ a b st0, st = aI b :: aL a :: st0 ∧ res = Sum.inl (c, ls, aL (shl64 a b) :: st0, M) := by
  change (match (generalizing := false) st with | Sum.inl (Sum.inl b) :: Sum.inl (Sum.inr a) :: st => nx c ls (aL (shl64 a b) :: st) M | _ => none) = some res at h
  split at h
  · simp only [nx, Option.some.injEq] at h; subst h; exact ⟨_, _, _, rfl, rfl⟩
  · cases h
theorem st_30 {res} (h : step y (pc, ln, 30, u, v, w, x) c ls st M = some res) : ∃ a b st0, st = aL b :: aL a :: st0 ∧ res = Sum.inl (c, ls, aL (or64 a b) :: st0, M) := by
  change (match (generalizing := false) st with | Sum.inl (Sum.inr b) :: Sum.inl (Sum.inr a) :: st => nx c ls (aL (or64 a b) :: st) M | _ => none) = some res at h
  split at h
  · simp only [nx, Option.some.injEq] at h; subst h; exact ⟨_, _, _, rfl, rfl⟩
  · cases h
theorem st_31 {res} (h : step y (pc, ln, 31, u, v, w, x) c ls st M = some res) : ∃ a b st0, st = aL b :: aL a :: st0 ∧ res = Sum.inl (c, ls, aI (cmp64 a b) :: st0, M) := by
  change (match (generalizing := false) st with | Sum.inl (Sum.inr b) :: Sum.inl (Sum.inr a) :: st => nx c ls (aI (cmp64 a b) :: st) M | _ => none) = some res at h
  split at h
  · simp only [nx, Option.some.injEq] at h; subst h; exact ⟨_, _, _, rfl, rfl⟩
  · cases h
theorem st_32 {res} (h : step y (pc, ln, 32, u, v, w, x) c ls st M = some res) : ∃ a st0, st = a :: st0 ∧ nlb a = true ∧ res = Sum.inl (c, ls, a :: a :: st0, M) := by
  change (match (generalizing := false) st with | a :: st => if nlb a = true then nx c ls (a :: a :: st) M else none | _ => none) = some res at h
  split at h
  · split at h
    · rename_i h1; simp only [nx, Option.some.injEq] at h; subst h; exact ⟨_, _, rfl, h1, rfl⟩
    · cases h
  · cases h
theorem st_33 {res} (h : step y (pc, ln, 33, u, v, w, x) c ls st M = some res) : ∃ a b st0, st = b :: a :: st0 ∧ nlb a = true ∧ nlb b = true ∧ res = Sum.inl (c, ls, b :: a :: b :: a :: st0, M) := by
  change (match (generalizing := false) st with | b :: a :: st => if nlb a = true ∧ nlb b = true then nx c ls (b :: a :: b :: a :: st) M else none | _ => none) = some res at h
  split at h
  · split at h
    · rename_i h1; simp only [nx, Option.some.injEq] at h; subst h; exact ⟨_, _, _, rfl, h1.1, h1.2, rfl⟩
    · cases h
  · cases h
theorem st_34 {res} (h : step y (pc, ln, 34, u, v, w, x) c ls st M = some res) : ∃ a st0, st = a :: st0 ∧ nlb a = true ∧ res = Sum.inl (c, ls, st0, M) := by
  change (match (generalizing := false) st with | a :: st => if nlb a = true then nx c ls st M else none | _ => none) = some res at h
  split at h
  · split at h
    · rename_i h1; simp only [nx, Option.some.injEq] at h; subst h; exact ⟨_, _, rfl, h1, rfl⟩
    · cases h
  · cases h
theorem st_44 {res} (h : step y (pc, ln, 44, u, v, w, x) c ls st M = some res) : ∃ k n a st0, st = aR k n a :: st0 ∧ k < 5 ∧ res = Sum.inl (c, ls, aI (n : Int) :: st0, M) := by
  change (match (generalizing := false) st with | Sum.inr (Sum.inl (k, n, _)) :: st => if k < 5 then nx c ls (aI n :: st) M else none | _ => none) = some res at h
  split at h
  · split at h
    · rename_i h1; simp only [nx, Option.some.injEq] at h; subst h; exact ⟨_, _, _, _, rfl, h1, rfl⟩
    · cases h
  · cases h
theorem st_58 {res} (h : step y (pc, ln, 58, u, v, w, x) c ls st M = some res) : ∃ a t st0, st = aI a :: st0 ∧ swl pc v a = some t ∧ res = Sum.inl (blk y t, ls, st0, M) := by
  change (match (generalizing := false) st with | Sum.inl (Sum.inl x) :: st => (match (generalizing := false) swl pc v x with | some L => nx (blk y L) ls st M | none => none) | _ => none) = some res at h
  split at h
  · split at h
    · rename_i h1; simp only [nx, Option.some.injEq] at h; subst h; exact ⟨_, _, _, rfl, h1, rfl⟩
    · cases h
  · cases h
theorem st_62 {res} (h : step y (pc, ln, 62, u, v, w, x) c ls st M = some res) : ∃ z, st = [aI z] ∧ (u = 0 ∨ (z = 0 ∨ z = 1)) ∧ res = Sum.inr (Sum.inr ([aI z], M)) := by
  change (match (generalizing := false) st with | [Sum.inl (Sum.inl x)] => if u = 0 ∨ (x = 0 ∨ x = 1) then some (Sum.inr (Sum.inr ([aI x], M))) else none | _ => none) = some res at h
  split at h
  · split at h
    · rename_i h1; simp only [Option.some.injEq] at h; subst h; exact ⟨_, rfl, h1, rfl⟩
    · cases h
  · cases h
theorem st_63 {res} (h : step y (pc, ln, 63, u, v, w, x) c ls st M = some res) : st = [] ∧ res = Sum.inr (Sum.inr ([], M)) := by
  change (match (generalizing := false) st with | [] => some (Sum.inr (Sum.inr ([], M))) | _ => none) = some res at h
  split at h
  · simp only [Option.some.injEq] at h; subst h; exact ⟨rfl, rfl⟩
  · cases h
theorem st_64 {res} (h : step y (pc, ln, 64, u, v, w, x) c ls st M = some res) : ∃ z n a st0, st = aL z :: aR w n a :: st0 ∧ stw st0 ≤ 8 ∧ res = Sum.inr (Sum.inl (v, [aR w n a, aL z], (c, ls, st0, M))) := by
  change (match (generalizing := false) st with | Sum.inl (Sum.inr x) :: Sum.inr (Sum.inl (k, n, a)) :: st => if k = w ∧ stw st ≤ 8 then some (Sum.inr (Sum.inl (v, [aR k n a, aL x], (c, ls, st, M)))) else none | _ => none) = some res at h
  split at h
  · split at h
    · rename_i h1; obtain ⟨rfl, h2⟩ := h1; simp only [Option.some.injEq] at h; subst h; exact ⟨_, _, _, _, rfl, h2, rfl⟩
    · cases h
  · cases h
theorem ok_0 : okX oo G nL r (pc, ln, 0, u, v, w, x) = decide (v = pc) := rfl
theorem in_1 : ins (pc, ln, 1, u, v, w, x) = (if ln = 1 then .iload_n (Fin.ofNat 4 v) else .iload v) := rfl
theorem ok_1 : okX oo G nL r (pc, ln, 1, u, v, w, x) = lnv ln v := rfl
theorem in_2 : ins (pc, ln, 2, u, v, w, x) = (if ln = 1 then .lload_n (Fin.ofNat 4 v) else .lload v) := rfl
theorem ok_2 : okX oo G nL r (pc, ln, 2, u, v, w, x) = lnv ln v := rfl
theorem in_3 : ins (pc, ln, 3, u, v, w, x) = (if ln = 1 then .aload_n (Fin.ofNat 4 v) else .aload v) := rfl
theorem ok_3 : okX oo G nL r (pc, ln, 3, u, v, w, x) = lnv ln v := rfl
theorem in_4 : ins (pc, ln, 4, u, v, w, x) = (if ln = 1 then .istore_n (Fin.ofNat 4 v) else .istore v) := rfl
theorem ok_4 : okX oo G nL r (pc, ln, 4, u, v, w, x) = (lnv ln v && decide (v < nL) && noL G v) := rfl
theorem in_5 : ins (pc, ln, 5, u, v, w, x) = (if ln = 1 then .lstore_n (Fin.ofNat 4 v) else .lstore v) := rfl
theorem ok_5 : okX oo G nL r (pc, ln, 5, u, v, w, x) = (lnv ln v && decide (v + 1 < nL) && noL G v && decide (v ∈ G)) := rfl
theorem in_6 : ins (pc, ln, 6, u, v, w, x) = (if ln = 1 then .astore_n (Fin.ofNat 4 v) else .astore v) := rfl
theorem ok_6 : okX oo G nL r (pc, ln, 6, u, v, w, x) = (lnv ln v && decide (v < nL) && noL G v) := rfl
theorem in_7 : ins (pc, ln, 7, u, v, w, x) = .iinc v u := rfl
theorem ok_7 : okX oo G nL r (pc, ln, 7, u, v, w, x) = (decide (ln = 3) && decide (v < nL) && noL G v) := rfl
theorem in_8 : ins (pc, ln, 8, u, v, w, x) = .iconst u := rfl
theorem ok_8 : okX oo G nL r (pc, ln, 8, u, v, w, x) = decide (ln = 1) := rfl
theorem in_9 : ins (pc, ln, 9, u, v, w, x) = .bipush u := rfl
theorem ok_9 : okX oo G nL r (pc, ln, 9, u, v, w, x) = (decide (ln = 2) && decide (-128 ≤ u ∧ u < 128)) := rfl
theorem in_10 : ins (pc, ln, 10, u, v, w, x) = .sipush u := rfl
theorem ok_10 : okX oo G nL r (pc, ln, 10, u, v, w, x) = (decide (ln = 3) && decide (-32768 ≤ u ∧ u < 32768)) := rfl
theorem in_11 : ins (pc, ln, 11, u, v, w, x) = .ldc x := rfl
theorem ok_11 : okX oo G nL r (pc, ln, 11, u, v, w, x) = (decide (ln = 2) && cox.any (fun q => decide (q.1 = oo) && decide (q.2.1 = x) && decide (q.2.2.1 = u))) := rfl
theorem in_12 : ins (pc, ln, 12, u, v, w, x) = .ldc_w x := rfl
theorem ok_12 : okX oo G nL r (pc, ln, 12, u, v, w, x) = (decide (ln = 3) && cox.any (fun q => decide (q.1 = oo) && decide (q.2.1 = x) && decide (q.2.2.1 = u))) := rfl
theorem in_13 : ins (pc, ln, 13, u, v, w, x) = .ldc2_w x := rfl
theorem ok_13 : okX oo G nL r (pc, ln, 13, u, v, w, x) = (decide (ln = 3) && clx.any (fun q => decide (q.1 = oo) && decide (q.2.1 = x) && decide (q.2.2.1 = u))) := rfl
theorem in_14 : ins (pc, ln, 14, u, v, w, x) = .lconst (Fin.ofNat 2 u.toNat) := rfl
theorem ok_14 : okX oo G nL r (pc, ln, 14, u, v, w, x) = (decide (ln = 1) && decide (0 ≤ u ∧ u < 2)) := rfl
theorem in_15 : ins (pc, ln, 15, u, v, w, x) = .iadd := rfl
theorem ok_15 : okX oo G nL r (pc, ln, 15, u, v, w, x) = decide (ln = 1) := rfl
theorem in_16 : ins (pc, ln, 16, u, v, w, x) = .isub := rfl
theorem ok_16 : okX oo G nL r (pc, ln, 16, u, v, w, x) = decide (ln = 1) := rfl
theorem in_17 : ins (pc, ln, 17, u, v, w, x) = .imul := rfl
theorem ok_17 : okX oo G nL r (pc, ln, 17, u, v, w, x) = decide (ln = 1) := rfl
theorem in_18 : ins (pc, ln, 18, u, v, w, x) = .idiv := rfl
theorem ok_18 : okX oo G nL r (pc, ln, 18, u, v, w, x) = decide (ln = 1) := rfl
theorem in_19 : ins (pc, ln, 19, u, v, w, x) = .irem := rfl
theorem ok_19 : okX oo G nL r (pc, ln, 19, u, v, w, x) = decide (ln = 1) := rfl
theorem in_20 : ins (pc, ln, 20, u, v, w, x) = .ineg := rfl
theorem ok_20 : okX oo G nL r (pc, ln, 20, u, v, w, x) = decide (ln = 1) := rfl
theorem in_21 : ins (pc, ln, 21, u, v, w, x) = .ishl := rfl
theorem ok_21 : okX oo G nL r (pc, ln, 21, u, v, w, x) = decide (ln = 1) := rfl
theorem in_22 : ins (pc, ln, 22, u, v, w, x) = .ishr := rfl
theorem ok_22 : okX oo G nL r (pc, ln, 22, u, v, w, x) = decide (ln = 1) := rfl
theorem in_23 : ins (pc, ln, 23, u, v, w, x) = .iushr := rfl
theorem ok_23 : okX oo G nL r (pc, ln, 23, u, v, w, x) = decide (ln = 1) := rfl
theorem in_24 : ins (pc, ln, 24, u, v, w, x) = .iand := rfl
theorem ok_24 : okX oo G nL r (pc, ln, 24, u, v, w, x) = decide (ln = 1) := rfl
theorem in_25 : ins (pc, ln, 25, u, v, w, x) = .ior := rfl
theorem ok_25 : okX oo G nL r (pc, ln, 25, u, v, w, x) = decide (ln = 1) := rfl
theorem in_26 : ins (pc, ln, 26, u, v, w, x) = .ixor := rfl
theorem ok_26 : okX oo G nL r (pc, ln, 26, u, v, w, x) = decide (ln = 1) := rfl
theorem in_27 : ins (pc, ln, 27, u, v, w, x) = .i2l := rfl
theorem ok_27 : okX oo G nL r (pc, ln, 27, u, v, w, x) = decide (ln = 1) := rfl
theorem in_28 : ins (pc, ln, 28, u, v, w, x) = .i2b := rfl
theorem ok_28 : okX oo G nL r (pc, ln, 28, u, v, w, x) = decide (ln = 1) := rfl
theorem in_29 : ins (pc, ln, 29, u, v, w, x) = .lshl := rfl
theorem ok_29 : okX oo G nL r (pc, ln, 29, u, v, w, x) = decide (ln = 1) := rfl
theorem in_30 : ins (pc, ln, 30, u, v, w, x) = .lor := rfl
theorem ok_30 : okX oo G nL r (pc, ln, 30, u, v, w, x) = decide (ln = 1) := rfl
theorem in_31 : ins (pc, ln, 31, u, v, w, x) = .lcmp := rfl
theorem ok_31 : okX oo G nL r (pc, ln, 31, u, v, w, x) = decide (ln = 1) := rfl
theorem in_32 : ins (pc, ln, 32, u, v, w, x) = .dup := rfl
theorem ok_32 : okX oo G nL r (pc, ln, 32, u, v, w, x) = decide (ln = 1) := rfl
theorem in_33 : ins (pc, ln, 33, u, v, w, x) = .dup2 := rfl
theorem ok_33 : okX oo G nL r (pc, ln, 33, u, v, w, x) = decide (ln = 1) := rfl
theorem in_34 : ins (pc, ln, 34, u, v, w, x) = .pop := rfl
theorem ok_34 : okX oo G nL r (pc, ln, 34, u, v, w, x) = decide (ln = 1) := rfl
theorem in_35 : ins (pc, ln, 35, u, v, w, x) = .getfield x := rfl
theorem ok_35 : okX oo G nL r (pc, ln, 35, u, v, w, x) = (decide (ln = 3) && decide (u = (v : Int)) && decide (10 ≤ w) && fdk oo (w - 10) v x && (decide (cTy (w - 10) v = .int) || decide (cTy (w - 10) v = .boolean))) := rfl
theorem in_36 : ins (pc, ln, 36, u, v, w, x) = .putfield x := rfl
theorem ok_36 : okX oo G nL r (pc, ln, 36, u, v, w, x) = (decide (ln = 3) && decide (u = (v : Int)) && decide (10 ≤ w) && fdk oo (w - 10) v x && decide (cTy (w - 10) v = .int) && decide (((cT (w - 10)) v).2.2.2 = false)) := rfl
theorem in_37 : ins (pc, ln, 37, u, v, w, x) = .iaload := rfl
theorem ok_37 : okX oo G nL r (pc, ln, 37, u, v, w, x) = decide (ln = 1) := rfl
theorem in_38 : ins (pc, ln, 38, u, v, w, x) = .iastore := rfl
theorem ok_38 : okX oo G nL r (pc, ln, 38, u, v, w, x) = decide (ln = 1) := rfl
theorem in_39 : ins (pc, ln, 39, u, v, w, x) = .laload := rfl
theorem ok_39 : okX oo G nL r (pc, ln, 39, u, v, w, x) = decide (ln = 1) := rfl
theorem in_40 : ins (pc, ln, 40, u, v, w, x) = .lastore := rfl
theorem ok_40 : okX oo G nL r (pc, ln, 40, u, v, w, x) = decide (ln = 1) := rfl
theorem in_41 : ins (pc, ln, 41, u, v, w, x) = .baload := rfl
theorem ok_41 : okX oo G nL r (pc, ln, 41, u, v, w, x) = decide (ln = 1) := rfl
theorem in_42 : ins (pc, ln, 42, u, v, w, x) = .bastore := rfl
theorem ok_42 : okX oo G nL r (pc, ln, 42, u, v, w, x) = decide (ln = 1) := rfl
theorem in_43 : ins (pc, ln, 43, u, v, w, x) = .aaload := rfl
theorem ok_43 : okX oo G nL r (pc, ln, 43, u, v, w, x) = decide (ln = 1) := rfl
theorem in_44 : ins (pc, ln, 44, u, v, w, x) = .arraylength := rfl
theorem ok_44 : okX oo G nL r (pc, ln, 44, u, v, w, x) = decide (ln = 1) := rfl
theorem in_45 : ins (pc, ln, 45, u, v, w, x) = .if_icmp .eq ((v : Int) - (pc : Int)) := rfl
theorem ok_45 : okX oo G nL r (pc, ln, 45, u, v, w, x) = decide (ln = 3) := rfl
theorem in_46 : ins (pc, ln, 46, u, v, w, x) = .if_icmp .ne ((v : Int) - (pc : Int)) := rfl
theorem ok_46 : okX oo G nL r (pc, ln, 46, u, v, w, x) = decide (ln = 3) := rfl
theorem in_47 : ins (pc, ln, 47, u, v, w, x) = .if_icmp .lt ((v : Int) - (pc : Int)) := rfl
theorem ok_47 : okX oo G nL r (pc, ln, 47, u, v, w, x) = decide (ln = 3) := rfl
theorem in_48 : ins (pc, ln, 48, u, v, w, x) = .if_icmp .ge ((v : Int) - (pc : Int)) := rfl
theorem ok_48 : okX oo G nL r (pc, ln, 48, u, v, w, x) = decide (ln = 3) := rfl
theorem in_49 : ins (pc, ln, 49, u, v, w, x) = .if_icmp .gt ((v : Int) - (pc : Int)) := rfl
theorem ok_49 : okX oo G nL r (pc, ln, 49, u, v, w, x) = decide (ln = 3) := rfl
theorem in_50 : ins (pc, ln, 50, u, v, w, x) = .if_icmp .le ((v : Int) - (pc : Int)) := rfl
theorem ok_50 : okX oo G nL r (pc, ln, 50, u, v, w, x) = decide (ln = 3) := rfl
theorem in_51 : ins (pc, ln, 51, u, v, w, x) = .ifCond .eq ((v : Int) - (pc : Int)) := rfl
theorem ok_51 : okX oo G nL r (pc, ln, 51, u, v, w, x) = decide (ln = 3) := rfl
theorem in_52 : ins (pc, ln, 52, u, v, w, x) = .ifCond .ne ((v : Int) - (pc : Int)) := rfl
theorem ok_52 : okX oo G nL r (pc, ln, 52, u, v, w, x) = decide (ln = 3) := rfl
theorem in_53 : ins (pc, ln, 53, u, v, w, x) = .ifCond .lt ((v : Int) - (pc : Int)) := rfl
theorem ok_53 : okX oo G nL r (pc, ln, 53, u, v, w, x) = decide (ln = 3) := rfl
theorem in_54 : ins (pc, ln, 54, u, v, w, x) = .ifCond .ge ((v : Int) - (pc : Int)) := rfl
theorem ok_54 : okX oo G nL r (pc, ln, 54, u, v, w, x) = decide (ln = 3) := rfl
theorem in_55 : ins (pc, ln, 55, u, v, w, x) = .ifCond .gt ((v : Int) - (pc : Int)) := rfl
theorem ok_55 : okX oo G nL r (pc, ln, 55, u, v, w, x) = decide (ln = 3) := rfl
theorem in_56 : ins (pc, ln, 56, u, v, w, x) = .ifCond .le ((v : Int) - (pc : Int)) := rfl
theorem ok_56 : okX oo G nL r (pc, ln, 56, u, v, w, x) = decide (ln = 3) := rfl
theorem in_57 : ins (pc, ln, 57, u, v, w, x) = .goto ((v : Int) - (pc : Int)) := rfl
theorem ok_57 : okX oo G nL r (pc, ln, 57, u, v, w, x) = decide (ln = 3) := rfl
theorem in_58 : ins (pc, ln, 58, u, v, w, x) = .tableswitch (sw v).1 (sw v).2.1 (sw v).2.2.1 (sw v).2.2.2 := rfl
theorem ok_58 : okX oo G nL r (pc, ln, 58, u, v, w, x) = ((sw v).2.2.2.all (fun f => decide (0 ≤ (pc : Int) + f)) && decide (0 ≤ (pc : Int) + (sw v).1)) := rfl
theorem in_59 : ins (pc, ln, 59, u, v, w, x) = .invokevirtual x := rfl
theorem ok_59 : okX oo G nL r (pc, ln, 59, u, v, w, x) = (decide (ln = 3) && mlk oo v x && decide (v < 227) && (mdq v).2.1 && decide (w = 10 + mdO v) && decide (mdO v < 13) && decide ((npar v).map (· + 1) = some u.toNat) && (mdG v).all (fun g => decide (u.toNat ≤ g)) && decide (u.toNat ≤ mdL v)) := rfl
theorem in_60 : ins (pc, ln, 60, u, v, w, x) = .invokestatic x := rfl
theorem ok_60 : okX oo G nL r (pc, ln, 60, u, v, w, x) = (decide (ln = 3) && mlk oo v x && decide (v < 227) && !(mdq v).2.1 && decide (npar v = some u.toNat) && (mdG v).all (fun g => decide (u.toNat ≤ g)) && decide (u.toNat ≤ mdL v)) := rfl
theorem in_61 : ins (pc, ln, 61, u, v, w, x) = .invokestatic x := rfl
theorem ok_61 : okX oo G nL r (pc, ln, 61, u, v, w, x) = (decide (ln = 3) && acx.any (fun q => decide (q.1 = oo) && decide (q.2.1 = x))) := rfl
theorem in_62 : ins (pc, ln, 62, u, v, w, x) = .ireturn := rfl
theorem ok_62 : okX oo G nL r (pc, ln, 62, u, v, w, x) = (decide (ln = 1) && ((decide (u = 0) && decide (r = some .int)) || (decide (u = 1) && decide (r = some .boolean)))) := rfl
theorem in_63 : ins (pc, ln, 63, u, v, w, x) = .return_ := rfl
theorem ok_63 : okX oo G nL r (pc, ln, 63, u, v, w, x) = (decide (ln = 1) && decide (r = none)) := rfl
theorem in_64 : ins (pc, ln, 64, u, v, w, x) = .invokevirtual x := rfl
theorem ok_64 : okX oo G nL r (pc, ln, 64, u, v, w, x) = (decide (ln = 3) && mlk oo v x && decide (v < 227) && (mdq v).2.1 && decide (w = 10 + mdO v) && decide (mdO v < 13) && decide (npar v = some 1) && (mdG v).all (fun g => decide (g = 1 ∨ 3 ≤ g)) && decide (1 ∈ mdG v) && decide (3 ≤ mdL v)) := rfl
theorem in_65 : ins (pc, ln, 65, u, v, w, x) = .getfield x := rfl
theorem ok_65 : okX oo G nL r (pc, ln, 65, u, v, w, x) = (decide (ln = 3) && decide (u = (v : Int)) && decide (10 ≤ w) && fdk oo (w - 10) v x && decide (cTy (w - 10) v = .long)) := rfl
theorem in_66 : ins (pc, ln, 66, u, v, w, x) = .getfield x := rfl
theorem ok_66 : okX oo G nL r (pc, ln, 66, u, v, w, x) = (decide (ln = 3) && decide (u = (v : Int)) && decide (10 ≤ w) && fdk oo (w - 10) v x && isRf (cTy (w - 10) v)) := rfl
theorem in_67 : ins (pc, ln, 67, u, v, w, x) = .putfield x := rfl
theorem ok_67 : okX oo G nL r (pc, ln, 67, u, v, w, x) = (decide (ln = 3) && decide (u = (v : Int)) && decide (10 ≤ w) && fdk oo (w - 10) v x && decide (cTy (w - 10) v = .long) && decide (((cT (w - 10)) v).2.2.2 = false)) := rfl
theorem in_68 : ins (pc, ln, 68, u, v, w, x) = .putfield x := rfl
theorem ok_68 : okX oo G nL r (pc, ln, 68, u, v, w, x) = (decide (ln = 3) && decide (u = (v : Int)) && decide (10 ≤ w) && fdk oo (w - 10) v x && decide (cTy (w - 10) v = .boolean) && decide (((cT (w - 10)) v).2.2.2 = false)) := rfl
/-- what comes back is nothing, or an int -/
def shR (r : List AV) : Prop := r = [] ∨ ∃ x, r = [aI x]
theorem shR.len {r : List AV} (h : shR r) : r.length ≤ 1 := by
  rcases h with rfl | ⟨x, rfl⟩
  · exact Nat.zero_le _
  · exact Nat.le_refl _
theorem shR.ok {S : List Nat} {r : List AV} (h : shR r) : SRs S r := by
  rcases h with rfl | ⟨x, rfl⟩
  · intro v hv; cases hv
  · intro v hv
    rcases List.mem_cons.mp hv with rfl | h9
    · exact ⟨trivial, rfl⟩
    · cases h9
def shP (res : Cfg ⊕ ((Nat × List AV × Cfg) ⊕ (List AV × Mem))) : Prop := (∃ q, res = Sum.inl q) ∨ (∃ q, res = Sum.inr (Sum.inl q)) ∨ (∃ r, res = Sum.inr (Sum.inr r) ∧ shR r.1)
theorem shape {op : Nat} {res : Cfg ⊕ ((Nat × List AV × Cfg) ⊕ (List AV × Mem))} (h : step y (pc, ln, op, u, v, w, x) c ls st M = some res) : shP res := by
  by_cases h0 : op = 0
  · subst h0
    rw [st_0] at h
    simp only [nx, Option.some.injEq] at h
    exact Or.inl ⟨_, h.symm⟩
  by_cases h1 : op = 1
  · subst h1
    obtain ⟨_, _, h⟩ := st_1 h
    exact Or.inl ⟨_, h⟩
  by_cases h2 : op = 2
  · subst h2
    obtain ⟨_, _, h⟩ := st_2 h
    exact Or.inl ⟨_, h⟩
  by_cases h3 : op = 3
  · subst h3
    obtain ⟨_, _, h⟩ := st_3 h
    exact Or.inl ⟨_, h⟩
  by_cases h4 : op = 4
  · subst h4
    obtain ⟨_, _, _, h⟩ := st_4 h
    exact Or.inl ⟨_, h⟩
  by_cases h5 : op = 5
  · subst h5
    obtain ⟨_, _, _, h⟩ := st_5 h
    exact Or.inl ⟨_, h⟩
  by_cases h6 : op = 6
  · subst h6
    obtain ⟨_, _, _, h⟩ := st_6 h
    exact Or.inl ⟨_, h⟩
  by_cases h7 : op = 7
  · subst h7
    obtain ⟨_, _, h⟩ := st_7 h
    exact Or.inl ⟨_, h⟩
  by_cases h8 : op = 8
  · subst h8
    rw [st_8] at h
    simp only [nx, Option.some.injEq] at h
    exact Or.inl ⟨_, h.symm⟩
  by_cases h9 : op = 9
  · subst h9
    rw [st_9] at h
    simp only [nx, Option.some.injEq] at h
    exact Or.inl ⟨_, h.symm⟩
  by_cases h10 : op = 10
  · subst h10
    rw [st_10] at h
    simp only [nx, Option.some.injEq] at h
    exact Or.inl ⟨_, h.symm⟩
  by_cases h11 : op = 11
  · subst h11
    rw [st_11] at h
    simp only [nx, Option.some.injEq] at h
    exact Or.inl ⟨_, h.symm⟩
  by_cases h12 : op = 12
  · subst h12
    rw [st_12] at h
    simp only [nx, Option.some.injEq] at h
    exact Or.inl ⟨_, h.symm⟩
  by_cases h13 : op = 13
  · subst h13
    rw [st_13] at h
    simp only [nx, Option.some.injEq] at h
    exact Or.inl ⟨_, h.symm⟩
  by_cases h14 : op = 14
  · subst h14
    rw [st_14] at h
    simp only [nx, Option.some.injEq] at h
    exact Or.inl ⟨_, h.symm⟩
  by_cases h15 : op = 15
  · subst h15
    rw [st_15] at h
    obtain ⟨_, _, _, _, h⟩ := h2_inv h
    exact Or.inl ⟨_, h⟩
  by_cases h16 : op = 16
  · subst h16
    rw [st_16] at h
    obtain ⟨_, _, _, _, h⟩ := h2_inv h
    exact Or.inl ⟨_, h⟩
  by_cases h17 : op = 17
  · subst h17
    rw [st_17] at h
    obtain ⟨_, _, _, _, h⟩ := h2_inv h
    exact Or.inl ⟨_, h⟩
  by_cases h18 : op = 18
  · subst h18
    rw [st_18] at h
    obtain ⟨_, _, _, _, _, h⟩ := h2d_inv h
    exact Or.inl ⟨_, h⟩
  by_cases h19 : op = 19
  · subst h19
    rw [st_19] at h
    obtain ⟨_, _, _, _, _, h⟩ := h2d_inv h
    exact Or.inl ⟨_, h⟩
  by_cases h20 : op = 20
  · subst h20
    rw [st_20] at h
    obtain ⟨_, _, _, h⟩ := h1_inv h
    exact Or.inl ⟨_, h⟩
  by_cases h21 : op = 21
  · subst h21
    rw [st_21] at h
    obtain ⟨_, _, _, _, h⟩ := h2_inv h
    exact Or.inl ⟨_, h⟩
  by_cases h22 : op = 22
  · subst h22
    rw [st_22] at h
    obtain ⟨_, _, _, _, h⟩ := h2_inv h
    exact Or.inl ⟨_, h⟩
  by_cases h23 : op = 23
  · subst h23
    rw [st_23] at h
    obtain ⟨_, _, _, _, h⟩ := h2_inv h
    exact Or.inl ⟨_, h⟩
  by_cases h24 : op = 24
  · subst h24
    rw [st_24] at h
    obtain ⟨_, _, _, _, h⟩ := h2_inv h
    exact Or.inl ⟨_, h⟩
  by_cases h25 : op = 25
  · subst h25
    rw [st_25] at h
    obtain ⟨_, _, _, _, h⟩ := h2_inv h
    exact Or.inl ⟨_, h⟩
  by_cases h26 : op = 26
  · subst h26
    rw [st_26] at h
    obtain ⟨_, _, _, _, h⟩ := h2_inv h
    exact Or.inl ⟨_, h⟩
  by_cases h27 : op = 27
  · subst h27
    obtain ⟨_, _, _, h⟩ := st_27 h
    exact Or.inl ⟨_, h⟩
  by_cases h28 : op = 28
  · subst h28
    rw [st_28] at h
    obtain ⟨_, _, _, h⟩ := h1_inv h
    exact Or.inl ⟨_, h⟩
  by_cases h29 : op = 29
  · subst h29
    obtain ⟨_, _, _, _, h⟩ := st_29 h
    exact Or.inl ⟨_, h⟩
  by_cases h30 : op = 30
  · subst h30
    obtain ⟨_, _, _, _, h⟩ := st_30 h
    exact Or.inl ⟨_, h⟩
  by_cases h31 : op = 31
  · subst h31
    obtain ⟨_, _, _, _, h⟩ := st_31 h
    exact Or.inl ⟨_, h⟩
  by_cases h32 : op = 32
  · subst h32
    obtain ⟨_, _, _, _, h⟩ := st_32 h
    exact Or.inl ⟨_, h⟩
  by_cases h33 : op = 33
  · subst h33
    obtain ⟨_, _, _, _, _, _, h⟩ := st_33 h
    exact Or.inl ⟨_, h⟩
  by_cases h34 : op = 34
  · subst h34
    obtain ⟨_, _, _, _, h⟩ := st_34 h
    exact Or.inl ⟨_, h⟩
  by_cases h35 : op = 35
  · subst h35
    rw [st_35] at h
    obtain ⟨_, _, _, _, h⟩ := hget0_inv h
    exact Or.inl ⟨_, h⟩
  by_cases h36 : op = 36
  · subst h36
    rw [st_36] at h
    obtain ⟨_, _, _, _, _, h⟩ := hput0_inv h
    exact Or.inl ⟨_, h⟩
  by_cases h37 : op = 37
  · subst h37
    rw [st_37] at h
    obtain ⟨_, _, _, _, _, _, _, _, _, h⟩ := hald_inv h
    exact Or.inl ⟨_, h⟩
  by_cases h38 : op = 38
  · subst h38
    rw [st_38] at h
    obtain ⟨_, _, _, _, _, _, _, _, _, _, h⟩ := hast_inv h
    exact Or.inl ⟨_, h⟩
  by_cases h39 : op = 39
  · subst h39
    rw [st_39] at h
    obtain ⟨_, _, _, _, _, _, _, _, _, h⟩ := hald_inv h
    exact Or.inl ⟨_, h⟩
  by_cases h40 : op = 40
  · subst h40
    rw [st_40] at h
    obtain ⟨_, _, _, _, _, _, _, _, h⟩ := hlast_inv h
    exact Or.inl ⟨_, h⟩
  by_cases h41 : op = 41
  · subst h41
    rw [st_41] at h
    obtain ⟨_, _, _, _, _, _, _, _, _, h⟩ := hald_inv h
    exact Or.inl ⟨_, h⟩
  by_cases h42 : op = 42
  · subst h42
    rw [st_42] at h
    obtain ⟨_, _, _, _, _, _, _, _, _, _, h⟩ := hast_inv h
    exact Or.inl ⟨_, h⟩
  by_cases h43 : op = 43
  · subst h43
    rw [st_43] at h
    obtain ⟨_, _, _, _, _, _, _, _, _, h⟩ := hald_inv h
    exact Or.inl ⟨_, h⟩
  by_cases h44 : op = 44
  · subst h44
    obtain ⟨_, _, _, _, _, _, h⟩ := st_44 h
    exact Or.inl ⟨_, h⟩
  by_cases h45 : op = 45
  · subst h45
    rw [st_45] at h
    obtain ⟨_, _, _, _, h⟩ := hj2_inv h
    exact Or.inl ⟨_, h⟩
  by_cases h46 : op = 46
  · subst h46
    rw [st_46] at h
    obtain ⟨_, _, _, _, h⟩ := hj2_inv h
    exact Or.inl ⟨_, h⟩
  by_cases h47 : op = 47
  · subst h47
    rw [st_47] at h
    obtain ⟨_, _, _, _, h⟩ := hj2_inv h
    exact Or.inl ⟨_, h⟩
  by_cases h48 : op = 48
  · subst h48
    rw [st_48] at h
    obtain ⟨_, _, _, _, h⟩ := hj2_inv h
    exact Or.inl ⟨_, h⟩
  by_cases h49 : op = 49
  · subst h49
    rw [st_49] at h
    obtain ⟨_, _, _, _, h⟩ := hj2_inv h
    exact Or.inl ⟨_, h⟩
  by_cases h50 : op = 50
  · subst h50
    rw [st_50] at h
    obtain ⟨_, _, _, _, h⟩ := hj2_inv h
    exact Or.inl ⟨_, h⟩
  by_cases h51 : op = 51
  · subst h51
    rw [st_51] at h
    obtain ⟨_, _, _, h⟩ := hj1_inv h
    exact Or.inl ⟨_, h⟩
  by_cases h52 : op = 52
  · subst h52
    rw [st_52] at h
    obtain ⟨_, _, _, h⟩ := hj1_inv h
    exact Or.inl ⟨_, h⟩
  by_cases h53 : op = 53
  · subst h53
    rw [st_53] at h
    obtain ⟨_, _, _, h⟩ := hj1_inv h
    exact Or.inl ⟨_, h⟩
  by_cases h54 : op = 54
  · subst h54
    rw [st_54] at h
    obtain ⟨_, _, _, h⟩ := hj1_inv h
    exact Or.inl ⟨_, h⟩
  by_cases h55 : op = 55
  · subst h55
    rw [st_55] at h
    obtain ⟨_, _, _, h⟩ := hj1_inv h
    exact Or.inl ⟨_, h⟩
  by_cases h56 : op = 56
  · subst h56
    rw [st_56] at h
    obtain ⟨_, _, _, h⟩ := hj1_inv h
    exact Or.inl ⟨_, h⟩
  by_cases h57 : op = 57
  · subst h57
    rw [st_57] at h
    simp only [nx, Option.some.injEq] at h
    exact Or.inl ⟨_, h.symm⟩
  by_cases h58 : op = 58
  · subst h58
    obtain ⟨_, _, _, _, _, h⟩ := st_58 h
    exact Or.inl ⟨_, h⟩
  by_cases h59 : op = 59
  · subst h59
    rw [st_59] at h
    obtain ⟨_, _, _, _, h⟩ := hcall_inv h
    exact Or.inr (Or.inl ⟨_, h⟩)
  by_cases h60 : op = 60
  · subst h60
    rw [st_60] at h
    obtain ⟨_, _, _, _, h⟩ := hcall_inv h
    exact Or.inr (Or.inl ⟨_, h⟩)
  by_cases h61 : op = 61
  · subst h61
    rw [st_61] at h
    obtain ⟨_, _, _, _, _, _, _, _, _, _, _, _, _, h⟩ := hcpy_inv h
    exact Or.inl ⟨_, h⟩
  by_cases h62 : op = 62
  · subst h62
    obtain ⟨z, _, _, h⟩ := st_62 h
    exact Or.inr (Or.inr ⟨_, h, Or.inr ⟨z, rfl⟩⟩)
  by_cases h63 : op = 63
  · subst h63
    obtain ⟨_, h⟩ := st_63 h
    exact Or.inr (Or.inr ⟨_, h, Or.inl rfl⟩)
  by_cases h64 : op = 64
  · subst h64
    obtain ⟨_, _, _, _, _, _, h⟩ := st_64 h
    exact Or.inr (Or.inl ⟨_, h⟩)
  by_cases h65 : op = 65
  · subst h65
    rw [st_65] at h
    obtain ⟨_, _, _, _, h⟩ := hget1_inv h
    exact Or.inl ⟨_, h⟩
  by_cases h66 : op = 66
  · subst h66
    rw [st_66] at h
    obtain ⟨_, _, _, _, h⟩ := hget2_inv h
    exact Or.inl ⟨_, h⟩
  by_cases h67 : op = 67
  · subst h67
    rw [st_67] at h
    obtain ⟨_, _, _, _, _, h⟩ := hput1_inv h
    exact Or.inl ⟨_, h⟩
  by_cases h68 : op = 68
  · subst h68
    rw [st_68] at h
    obtain ⟨_, _, _, _, _, _, h⟩ := hput3_inv h
    exact Or.inl ⟨_, h⟩
  exfalso
  simp only [step, h0, h1, h2, h3, h4, h5, h6, h7, h8, h9, h10, h11, h12, h13, h14, h15, h16, h17, h18, h19, h20, h21, h22, h23, h24, h25, h26, h27, h28, h29, h30, h31, h32, h33, h34, h35, h36, h37, h38, h39, h40, h41, h42, h43, h44, h45, h46, h47, h48, h49, h50, h51, h52, h53, h54, h55, h56, h57, h58, h59, h60, h61, h62, h63, h64, h65, h66, h67, h68, if_false] at h
  cases h
end SI
