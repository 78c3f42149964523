/-! BEST, pure: all that one BARGE can do about a RAFT of others (the class's way) -/
section ST
variable (m n : Nat) (cm lv : Nat → Int) (st : Int) (tk : Nat → Nat → Int)
def lsF (S : Nat → Int) (p i : Nat) : Nat → Int
  | 0 => if cm i = st then S p else 500000000
  | k + 1 => if occ p k = 4 then (if S (adc p i k) + tk (adc p i k) k < lsF S p i k then S (adc p i k) + tk (adc p i k) k else lsF S p i k) else lsF S p i k
def updS (S : Nat → Int) (c : Nat) (x : Int) : Nat → Int := fun a => if a = c then x else S a
def mvS (S : Nat → Int) (L : Int) (p i : Nat) : Nat → (Nat → Int) × Int
  | 0 => if lv i = st ∧ L < S p then (updS S p L, 1) else (S, 0)
  | k + 1 => if occ p k = 4 ∧ L + tk (adc p i k) k < (mvS S L p i k).1 (adc p i k) then (updS (mvS S L p i k).1 (adc p i k) (L + tk (adc p i k) k), 1) else mvS S L p i k
noncomputable def mvE (S : Nat → Int) (p i : Nat) : (Nat → Int) × Int := if lsF cm st tk S p i n < 500000000 then mvS lv st tk S (lsF cm st tk S p i n) p i n else (S, 0)
/-- nothing is left to do for a BARGE -/
def cloS (S : Nat → Int) (i : Nat) : Prop := ∀ u v k, S u < 500000000 → edI n cm lv st tk i u v k → S v ≤ S u + k
/-- .. about one RAFT -/
def tgt (S : Nat → Int) (p i : Nat) : Prop := ∃ L : Int, (cm i = st → L ≤ S p) ∧ (∀ k, k < n → occ p k = 4 → L ≤ S (adc p i k) + tk (adc p i k) k) ∧ (L < 500000000 → (lv i = st → S p ≤ L) ∧ ∀ k, k < n → occ p k = 4 → S (adc p i k) ≤ L + tk (adc p i k) k)
/-- what stands of the array while it goes on -/
def sndS (A S : Nat → Int) : Prop := ∀ c, S c ≤ 500000000 ∧ (S c < 500000000 → Wk m n cm lv st tk A c (S c))
end ST
section SU
variable {m n : Nat} {cm lv : Nat → Int} {st : Int} {tk : Nat → Nat → Int} {A S : Nat → Int}
theorem ls_le {p i : Nat} : ∀ t : Nat, (cm i = st → lsF cm st tk S p i t ≤ S p) ∧ ∀ k, k < t → occ p k = 4 → lsF cm st tk S p i t ≤ S (adc p i k) + tk (adc p i k) k
  | 0 => ⟨fun h => by unfold lsF; rw [if_pos h]; exact Int.le_refl _, fun k hk => absurd hk (Nat.not_lt_zero k)⟩
  | t + 1 => by
    obtain ⟨h1, h2⟩ := ls_le (p := p) (i := i) t
    unfold lsF
    by_cases c : occ p t = 4
    · rw [if_pos c]
      by_cases c2 : S (adc p i t) + tk (adc p i t) t < lsF cm st tk S p i t
      · rw [if_pos c2]
        refine ⟨fun h => by have := h1 h; omega, fun k hk hf => ?_⟩
        by_cases e : k = t
        · rw [e]; exact Int.le_refl _
        · have := h2 k (by omega) hf
          omega
      · rw [if_neg c2]
        refine ⟨h1, fun k hk hf => ?_⟩
        by_cases e : k = t
        · rw [e]; omega
        · exact h2 k (by omega) hf
    · rw [if_neg c]
      refine ⟨h1, fun k hk hf => ?_⟩
      by_cases e : k = t
      · rw [e] at hf; exact absurd hf c
      · exact h2 k (by omega) hf
theorem ls_w {p i : Nat} : ∀ t : Nat, lsF cm st tk S p i t < 500000000 → (cm i = st ∧ lsF cm st tk S p i t = S p) ∨ ∃ k, k < t ∧ occ p k = 4 ∧ lsF cm st tk S p i t = S (adc p i k) + tk (adc p i k) k
  | 0, h => by
    unfold lsF at h ⊢
    by_cases c : cm i = st
    · rw [if_pos c]; exact Or.inl ⟨c, rfl⟩
    · rw [if_neg c] at h; exact absurd h (by decide)
  | t + 1, h => by
    have ih := ls_w (p := p) (i := i) t
    unfold lsF at h ⊢
    by_cases c : occ p t = 4
    · rw [if_pos c] at h ⊢
      by_cases c2 : S (adc p i t) + tk (adc p i t) t < lsF cm st tk S p i t
      · rw [if_pos c2]
        exact Or.inr ⟨t, Nat.lt_succ_self t, c, rfl⟩
      · rw [if_neg c2] at h ⊢
        rcases ih h with g | ⟨k, k1, k2, k3⟩
        · exact Or.inl g
        · exact Or.inr ⟨k, by omega, k2, k3⟩
    · rw [if_neg c] at h ⊢
      rcases ih h with g | ⟨k, k1, k2, k3⟩
      · exact Or.inl g
      · exact Or.inr ⟨k, by omega, k2, k3⟩
theorem ls_b {p i : Nat} (hT : ∀ c k, 0 ≤ tk c k ∧ tk c k ≤ 2000) (hS : ∀ c, 0 ≤ S c ∧ S c ≤ 500000000) : ∀ t : Nat, 0 ≤ lsF cm st tk S p i t ∧ lsF cm st tk S p i t ≤ 500000000
  | 0 => by
    unfold lsF
    have := hS p
    by_cases c : cm i = st
    · rw [if_pos c]; exact this
    · rw [if_neg c]; decide
  | t + 1 => by
    have ih := ls_b (p := p) (i := i) hT hS t
    have h1 := hT (adc p i t) t
    have h2 := hS (adc p i t)
    unfold lsF
    by_cases c : occ p t = 4
    · rw [if_pos c]
      by_cases c2 : S (adc p i t) + tk (adc p i t) t < lsF cm st tk S p i t
      · rw [if_pos c2]; omega
      · rw [if_neg c2]; exact ih
    · rw [if_neg c]; exact ih
/-- what the second walk leaves -/
theorem mv_sp {L : Int} {p i : Nat} : ∀ t : Nat, ((mvS lv st tk S L p i t).2 = 0 ∧ (mvS lv st tk S L p i t).1 = S ∨ (mvS lv st tk S L p i t).2 = 1 ∧ ∃ c, (mvS lv st tk S L p i t).1 c < S c) ∧ (∀ c, (mvS lv st tk S L p i t).1 c ≤ S c) ∧ (∀ c, (mvS lv st tk S L p i t).1 c = S c ∨ ((mvS lv st tk S L p i t).1 c < S c ∧ ((c = p ∧ lv i = st ∧ (mvS lv st tk S L p i t).1 c = L) ∨ ∃ k, k < t ∧ occ p k = 4 ∧ c = adc p i k ∧ (mvS lv st tk S L p i t).1 c = L + tk c k))) ∧ (lv i = st → (mvS lv st tk S L p i t).1 p ≤ L) ∧ ∀ k, k < t → occ p k = 4 → (mvS lv st tk S L p i t).1 (adc p i k) ≤ L + tk (adc p i k) k
  | 0 => by
    unfold mvS
    by_cases c : lv i = st ∧ L < S p
    · rw [if_pos c]
      refine ⟨Or.inr ⟨rfl, p, ?_⟩, fun a => ?_, fun a => ?_, fun _ => ?_, fun k hk => absurd hk (Nat.not_lt_zero k)⟩
      · show updS S p L p < S p
        unfold updS
        rw [if_pos rfl]
        exact c.2
      · show updS S p L a ≤ S a
        unfold updS
        by_cases e : a = p
        · rw [if_pos e, e]; omega
        · rw [if_neg e]; exact Int.le_refl _
      · show updS S p L a = S a ∨ (updS S p L a < S a ∧ ((a = p ∧ lv i = st ∧ updS S p L a = L) ∨ _))
        unfold updS
        by_cases e : a = p
        · rw [if_pos e]
          right
          rw [e]
          exact ⟨c.2, Or.inl ⟨rfl, c.1, rfl⟩⟩
        · rw [if_neg e]; exact Or.inl rfl
      · show updS S p L p ≤ L
        unfold updS
        rw [if_pos rfl]
        exact Int.le_refl _
    · rw [if_neg c]
      exact ⟨Or.inl ⟨rfl, rfl⟩, fun a => Int.le_refl _, fun a => Or.inl rfl, fun h => by
        show S p ≤ L
        omega, fun k hk => absurd hk (Nat.not_lt_zero k)⟩
  | t + 1 => by
    obtain ⟨h1, h2, h3, h4, h5⟩ := mv_sp (L := L) (p := p) (i := i) t
    unfold mvS
    generalize mvS lv st tk S L p i t = Y at h1 h2 h3 h4 h5 ⊢
    by_cases c : occ p t = 4 ∧ L + tk (adc p i t) t < Y.1 (adc p i t)
    · rw [if_pos c]
      have ev : ∀ a, updS Y.1 (adc p i t) (L + tk (adc p i t) t) a ≤ Y.1 a := fun a => by
        unfold updS
        by_cases e : a = adc p i t
        · rw [if_pos e, e]; omega
        · rw [if_neg e]; exact Int.le_refl _
      refine ⟨Or.inr ⟨rfl, adc p i t, ?_⟩, fun a => ?_, fun a => ?_, fun h => ?_, fun k hk hf => ?_⟩
      · show updS Y.1 (adc p i t) (L + tk (adc p i t) t) (adc p i t) < S (adc p i t)
        have := h2 (adc p i t)
        unfold updS
        rw [if_pos rfl]
        omega
      · show updS Y.1 (adc p i t) (L + tk (adc p i t) t) a ≤ S a
        have := ev a
        have := h2 a
        omega
      · show updS Y.1 (adc p i t) (L + tk (adc p i t) t) a = S a ∨ (updS Y.1 (adc p i t) (L + tk (adc p i t) t) a < S a ∧ ((a = p ∧ lv i = st ∧ updS Y.1 (adc p i t) (L + tk (adc p i t) t) a = L) ∨ ∃ k, k < t + 1 ∧ occ p k = 4 ∧ a = adc p i k ∧ updS Y.1 (adc p i t) (L + tk (adc p i t) t) a = L + tk a k))
        unfold updS
        by_cases e : a = adc p i t
        · rw [if_pos e]
          right
          have := h2 a
          refine ⟨by rw [e] at this ⊢; omega, Or.inr ⟨t, Nat.lt_succ_self t, c.1, e, by rw [e]⟩⟩
        · rw [if_neg e]
          rcases h3 a with g | ⟨g1, g2 | ⟨k, k1, k2, k3, k4⟩⟩
          · exact Or.inl g
          · exact Or.inr ⟨g1, Or.inl g2⟩
          · exact Or.inr ⟨g1, Or.inr ⟨k, by omega, k2, k3, k4⟩⟩
      · show updS Y.1 (adc p i t) (L + tk (adc p i t) t) p ≤ L
        have := ev p
        have := h4 h
        omega
      · show updS Y.1 (adc p i t) (L + tk (adc p i t) t) (adc p i k) ≤ L + tk (adc p i k) k
        by_cases e : k = t
        · unfold updS
          rw [e, if_pos rfl]
          exact Int.le_refl _
        · have := ev (adc p i k)
          have := h5 k (by omega) hf
          omega
    · rw [if_neg c]
      refine ⟨h1, h2, fun a => ?_, h4, fun k hk hf => ?_⟩
      · rcases h3 a with g | ⟨g1, g2 | ⟨k, k1, k2, k3, k4⟩⟩
        · exact Or.inl g
        · exact Or.inr ⟨g1, Or.inl g2⟩
        · exact Or.inr ⟨g1, Or.inr ⟨k, by omega, k2, k3, k4⟩⟩
      · by_cases e : k = t
        · rw [e] at hf ⊢
          omega
        · exact h5 k (by omega) hf
/-- a move: what it leaves -/
theorem mvE_sp (hO : okW m n cm lv st tk A) {p i : Nat} (hi : i < m) (hp : vcd m n p) (hd : dg p i = 0) (hS : sndS m n cm lv st tk A S) (Y : (Nat → Int) × Int) (hY : Y = mvE n cm lv st tk S p i) : (Y.2 = 0 ∧ Y.1 = S ∨ Y.2 = 1 ∧ ∃ c, Y.1 c < S c) ∧ (∀ c, Y.1 c ≤ S c) ∧ sndS m n cm lv st tk A Y.1 ∧ tgt n cm lv st tk Y.1 p i ∧ ∀ c, rmc c i ≠ p → Y.1 c = S c := by
  obtain ⟨o1, o2, o3, o4, -⟩ := hO
  have i4 : i < 4 := by omega
  have lt := o3 i hi
  have le := ls_le (cm := cm) (st := st) (tk := tk) (S := S) (p := p) (i := i) n
  have wi := ls_w (cm := cm) (st := st) (tk := tk) (S := S) (p := p) (i := i) n
  unfold mvE at hY
  by_cases hL : lsF cm st tk S p i n < 500000000
  · rw [if_pos hL] at hY
    obtain ⟨g1, g2, g3, g4, g5⟩ := mv_sp (lv := lv) (st := st) (tk := tk) (S := S) (L := lsF cm st tk S p i n) (p := p) (i := i) n
    rw [← hY] at g1 g2 g3 g4 g5
    have W := wi hL
    clear hY wi
    generalize lsF cm st tk S p i n = L at *
    refine ⟨g1, g2, fun c => ⟨by have := g2 c; have := (hS c).1; omega, fun hlt => ?_⟩, ⟨L, fun h => ?_, fun k hk hf => ?_, fun _ => ⟨g4, g5⟩⟩, fun c hc => ?_⟩
    · rcases g3 c with e | ⟨e, ⟨rfl, e2, e3⟩ | ⟨k, k1, k2, rfl, k4⟩⟩
      · rw [e] at hlt ⊢
        exact (hS c).2 hlt
      · rw [e3]
        rcases W with ⟨w1, w2⟩ | ⟨k, w1, w2, w3⟩
        · omega
        · obtain ⟨d1, d2⟩ := dg_adc i4 hd (show k < 7 by omega)
          have t := o4 (adc c i k) k
          have wk := (hS (adc c i k)).2 (by omega)
          rw [w3]
          exact wk.s hi (Or.inr ⟨k, d1, Or.inl ⟨e2, (rmc_adc i4 hd (by omega)).symm, rfl⟩⟩)
      · rw [k4]
        rcases W with ⟨w1, w2⟩ | ⟨k0, w1, w2, w3⟩
        · have wk := (hS p).2 (by omega)
          rw [w2]
          exact wk.s hi (Or.inl ⟨hd, w1, k, k1, k2, rfl, rfl⟩)
        · obtain ⟨d1, d2⟩ := dg_adc i4 hd (show k0 < 7 by omega)
          have t := o4 (adc p i k0) k0
          have wk := (hS (adc p i k0)).2 (by omega)
          by_cases ek : k = k0
          · rw [ek] at e k4
            omega
          · have oc := occ_ad hp i4 hi hd w1 o2 w2 k
            rw [if_neg ek, k2] at oc
            have := wk.s hi (Or.inr ⟨k0, d1, Or.inr ⟨k, k1, ek, oc, by rw [rmc_adc i4 hd (by omega)], rfl⟩⟩)
            rw [w3]
            rw [show S (adc p i k0) + tk (adc p i k0) k0 + tk (adc p i k) k = S (adc p i k0) + (tk (adc p i k0) k0 + tk (adc p i k) k) by omega]
            exact this
    · have := le.1 h
      rcases g3 p with e | ⟨e, ⟨-, e2, e3⟩ | ⟨k, k1, k2, k3, k4⟩⟩
      · rw [e]; exact this
      · omega
      · have := (dg_adc i4 hd (show k < 7 by omega)).1
        rw [← k3, hd] at this
        omega
    · have h1 := le.2 k hk hf
      have t := o4 (adc p i k) k
      rcases g3 (adc p i k) with e | ⟨e, ⟨e1, e2, e3⟩ | ⟨k', k1, k2, k3, k4⟩⟩
      · rw [e]; exact h1
      · have := (dg_adc i4 hd (show k < 7 by omega)).1
        rw [e1, hd] at this
        omega
      · have t2 := o4 (adc p i k) k'
        omega
    · rcases g3 c with e | ⟨e, ⟨e1, e2, e3⟩ | ⟨k, k1, k2, k3, k4⟩⟩
      · exact e
      · rw [e1, rmc_z hd] at hc
        exact absurd rfl hc
      · rw [k3, rmc_adc i4 hd (by omega)] at hc
        exact absurd rfl hc
  · rw [if_neg hL] at hY
    rw [hY]
    exact ⟨Or.inl ⟨rfl, rfl⟩, fun c => Int.le_refl _, hS, ⟨_, le.1, le.2, fun h => absurd h hL⟩, fun c _ => rfl⟩
theorem tgt_cg {S2 : Nat → Int} {p i : Nat} (hi : i < 4) (hn : n ≤ 6) (hd : dg p i = 0) (h : tgt n cm lv st tk S p i) (he : ∀ c, rmc c i = p → S2 c = S c) : tgt n cm lv st tk S2 p i := by
  obtain ⟨L, h1, h2, h3⟩ := h
  have e0 := he p (rmc_z hd)
  have e1 : ∀ k, k < n → S2 (adc p i k) = S (adc p i k) := fun k hk => he _ (rmc_adc hi hd (by omega))
  refine ⟨L, fun h => by rw [e0]; exact h1 h, fun k hk hf => by rw [e1 k hk]; exact h2 k hk hf, fun hL => ⟨fun h => by rw [e0]; exact (h3 hL).1 h, fun k hk hf => by rw [e1 k hk]; exact (h3 hL).2 k hk hf⟩⟩
/-- about all RAFTS -/
theorem cloS_of (hO : okW m n cm lv st tk A) {i : Nat} (hi : i < m) (hS : sndS m n cm lv st tk A S) (h : ∀ p, vcd m n p → dg p i = 0 → (∀ j, j < m → (dg p j ≠ 0 → j ≠ i ∧ cm j ≤ st ∧ st ≤ lv j) ∧ (j ≠ i → cm j < st → st < lv j → dg p j ≠ 0)) → tgt n cm lv st tk S p i) : cloS n cm lv st tk S i := by
  intro u v k hu he
  have hO' := hO
  obtain ⟨o1, o2, o3, o4, -⟩ := hO
  have i4 : i < 4 := by omega
  obtain ⟨j1, j2⟩ := ((hS u).2 hu |>.J hO').1
  obtain ⟨d1, d2⟩ := dg_rmc (c := u) i4
  have T := h (rmc u i) (vcd_rm j1 i4) d1 (fun j hj => by
    have q := j2 j hj
    refine ⟨fun hne => ?_, fun hji q1 q2 => ?_⟩
    · have hji : j ≠ i := fun e => by rw [e, d1] at hne; exact hne rfl
      rw [d2 j (by omega) hji] at hne
      exact ⟨hji, q.2 hne⟩
    · rw [d2 j (by omega) hji]
      exact q.1 ⟨q1, q2⟩)
  obtain ⟨L, t1, t2, t3⟩ := T
  have hF := (hS v).1
  rcases he with ⟨h1, h2, c, c1, c2, rfl, rfl⟩ | ⟨j, h1, ⟨h2, rfl, rfl⟩ | ⟨c, c1, c2, c3, rfl, rfl⟩⟩
  · have e : rmc u i = u := rmc_z h1
    rw [e] at t1 t2 t3
    have q1 := t1 h2
    have t := o4 (adc u i c) c
    by_cases hL : L < 500000000
    · have := (t3 hL).2 c c1 c2
      omega
    · omega
  · have e : adc (rmc u i) i j = u := adc_rmc i4 h1
    have jn : j < n := by have := j1.2.2.1 i i4; omega
    have fr : occ (rmc u i) j = 4 := by rw [occ_rm j1 i4 h1, if_pos rfl]
    have q1 := t2 j jn fr
    rw [e] at q1
    by_cases hL : L < 500000000
    · have := (t3 hL).1 h2
      omega
    · omega
  · have e : adc (rmc u i) i j = u := adc_rmc i4 h1
    have jn : j < n := by have := j1.2.2.1 i i4; omega
    have fr : occ (rmc u i) j = 4 := by rw [occ_rm j1 i4 h1, if_pos rfl]
    have q1 := t2 j jn fr
    rw [e] at q1
    have fr2 : occ (rmc u i) c = 4 := by rw [occ_rm j1 i4 h1, if_neg c2]; exact c3
    have t := o4 (adc (rmc u i) i c) c
    by_cases hL : L < 500000000
    · have := (t3 hL).2 c c1 fr2
      omega
    · omega
end SU
