/-! BEST, pure: rounds of sweeps come to an end -/
def nxi (m i : Nat) : Nat := if i + 1 < m then i + 1 else 0
/-- who was swept last, the latest q of those that are here -/
def bk (m here : Nat) : Nat → Nat → Nat → Nat
  | 0, _, _ => 0
  | f + 1, i, q => if q = 0 then 0 else if here.testBit (if i = 0 then m - 1 else i - 1) then 2 ^ (if i = 0 then m - 1 else i - 1) ||| bk m here f (if i = 0 then m - 1 else i - 1) (q - 1) else bk m here f (if i = 0 then m - 1 else i - 1) q
def all4 (f : Nat → Bool) : Bool := f 0 && f 1 && f 2 && f 3
theorem all4_t {f : Nat → Bool} (h : all4 f = true) {i : Nat} (hi : i < 4) : f i = true := by
  unfold all4 at h
  rw [Bool.and_eq_true, Bool.and_eq_true, Bool.and_eq_true] at h
  rcases i4 hi with rfl | rfl | rfl | rfl
  · exact h.1.1.1
  · exact h.1.1.2
  · exact h.1.2
  · exact h.2
def subB (a b : Nat) : Bool := all4 (fun x => !a.testBit x || b.testBit x)
theorem subB_t {a b x : Nat} (h : subB a b = true) (hx : x < 4) (ha : a.testBit x = true) : b.testBit x = true := by
  have := all4_t h hx
  rw [ha] at this
  exact this
/-- rounds till one that is here -/
def dsx (m here : Nat) : Nat → Nat → Nat
  | 0, _ => 0
  | f + 1, i => if here.testBit i then 0 else dsx m here f (nxi m i) + 1
def bkC (m here i q : Nat) : Bool :=
  (!(decide (i < m) && decide (here < 2 ^ m))) ||
  ((!(here.testBit i && decide (q < cnt 4 here.testBit)) || subB (bk m here m (nxi m i) (q + 1)) (2 ^ i ||| bk m here m i q)) &&
   (here.testBit i || subB (bk m here m (nxi m i) q) (bk m here m i q)) &&
   (!here.testBit i || subB (bk m here m (nxi m i) 1) (2 ^ i)) &&
   (!decide (cnt 4 here.testBit ≤ q) || subB here (bk m here m i q)) &&
   (decide (here = 0) || (decide (dsx m here 4 i ≤ 3) && (here.testBit i || decide (dsx m here 4 (nxi m i) + 1 = dsx m here 4 i)))))
theorem bkC_all : (List.range 5).all (fun m => (List.range 16).all (fun here => (List.range 4).all (fun i => (List.range 5).all (fun q => bkC m here i q)))) = true := by decide +kernel
theorem bk_0 {m here : Nat} : ∀ (f i : Nat), bk m here f i 0 = 0
  | 0, _ => rfl
  | f + 1, i => by unfold bk; rw [if_pos rfl]
theorem bkC_e {m here i q : Nat} (hm : m ≤ 4) (hh : here < 2 ^ m) (hi : i < m) (hq : q ≤ 4) : (here.testBit i = true → q < cnt 4 here.testBit → subB (bk m here m (nxi m i) (q + 1)) (2 ^ i ||| bk m here m i q) = true) ∧ (here.testBit i = false → subB (bk m here m (nxi m i) q) (bk m here m i q) = true) ∧ (here.testBit i = true → subB (bk m here m (nxi m i) 1) (2 ^ i) = true) ∧ (cnt 4 here.testBit ≤ q → subB here (bk m here m i q) = true) ∧ (here ≠ 0 → dsx m here 4 i ≤ 3 ∧ (here.testBit i = false → dsx m here 4 (nxi m i) + 1 = dsx m here 4 i)) := by
  have h16 : here < 16 := Nat.lt_of_lt_of_le hh (Nat.pow_le_pow_right (by decide) hm)
  have h := bkC_all
  rw [List.all_eq_true] at h
  have h1 := h m (List.mem_range.mpr (by omega))
  rw [List.all_eq_true] at h1
  have h2 := h1 here (List.mem_range.mpr h16)
  rw [List.all_eq_true] at h2
  have h3 := h2 i (List.mem_range.mpr (by omega))
  rw [List.all_eq_true] at h3
  have h4 := h3 q (List.mem_range.mpr (by omega))
  unfold bkC at h4
  rw [decide_eq_true hi, decide_eq_true hh] at h4
  simp only [Bool.and_true, Bool.not_true, Bool.false_or, Bool.and_eq_true, Bool.or_eq_true, Bool.not_eq_true', decide_eq_true_iff, decide_eq_false_iff_not] at h4
  obtain ⟨⟨⟨⟨a1, a2⟩, a3⟩, a4⟩, a5⟩ := h4
  refine ⟨fun t1 t2 => ?_, fun t1 => ?_, fun t1 => ?_, fun t1 => ?_, fun t1 => ⟨?_, fun t2 => ?_⟩⟩
  · rcases a1 with a | a
    · rw [t1, decide_eq_true t2] at a
      exact absurd a (by decide)
    · exact a
  · rcases a2 with a | a
    · rw [t1] at a; exact absurd a (by decide)
    · exact a
  · rcases a3 with a | a
    · rw [t1] at a; exact absurd a (by decide)
    · exact a
  · rcases a4 with a | a
    · exact absurd t1 a
    · exact a
  · rcases a5 with a | a
    · exact absurd a t1
    · exact a.1
  · rcases a5 with a | a
    · exact absurd a t1
    · rcases a.2 with b | b
      · rw [t2] at b; exact absurd b (by decide)
      · exact b
section FI
variable {m n : Nat} {cm lv : Nat → Int} {st : Int} {tk : Nat → Nat → Int} {A S S2 : Nat → Int}
/-- what has come to its least -/
def Fn (m n : Nat) (cm lv : Nat → Int) (st : Int) (tk : Nat → Nat → Int) (A S : Nat → Int) (c : Nat) : Prop := (∃ x, Wk m n cm lv st tk A c x) ∧ S c = dsV m n cm lv st tk A c
noncomputable def fnB (m n : Nat) (cm lv : Nat → Int) (st : Int) (tk : Nat → Nat → Int) (A S : Nat → Int) (c : Nat) : Bool := @decide (Fn m n cm lv st tk A S c) (Classical.propDecidable _)
theorem fnB_t {c : Nat} : fnB m n cm lv st tk A S c = true ↔ Fn m n cm lv st tk A S c := by
  unfold fnB
  exact @decide_eq_true_iff _ (Classical.propDecidable _)
theorem snd_ge (hO : okW m n cm lv st tk A) {X : Int} (hX : ∀ c, A c < 100000000 → A c ≤ X) (hX2 : X ≤ 90000000) (hS : sndS m n cm lv st tk A S) {c : Nat} {x : Int} (h : Wk m n cm lv st tk A c x) : dsV m n cm lv st tk A c ≤ S c := by
  by_cases hlt : S c < 500000000
  · exact (dsV_y hO ((hS c).2 hlt)).2
  · have := dsV_b hO hX h
    omega
theorem fn_mono (hO : okW m n cm lv st tk A) {X : Int} (hX : ∀ c, A c < 100000000 → A c ≤ X) (hX2 : X ≤ 90000000) (hS2 : sndS m n cm lv st tk A S2) (hle : ∀ c, S2 c ≤ S c) {c : Nat} (h : Fn m n cm lv st tk A S c) : Fn m n cm lv st tk A S2 c := by
  obtain ⟨⟨x, hx⟩, h2⟩ := h
  have g1 := snd_ge hO hX hX2 hS2 hx
  have g2 := hle c
  exact ⟨⟨x, hx⟩, by omega⟩
theorem fn_cnt (hO : okW m n cm lv st tk A) {X : Int} (hX : ∀ c, A c < 100000000 → A c ≤ X) (hX2 : X ≤ 90000000) (hS2 : sndS m n cm lv st tk A S2) (hle : ∀ c, S2 c ≤ S c) : cnt 4096 (fnB m n cm lv st tk A S) ≤ cnt 4096 (fnB m n cm lv st tk A S2) := cnt_mono (fun c _ hc => fnB_t.mpr (fn_mono hO hX hX2 hS2 hle (fnB_t.mp hc)))
theorem fn_grow (hO : okW m n cm lv st tk A) {X : Int} (hX : ∀ c, A c < 100000000 → A c ≤ X) (hX2 : X ≤ 90000000) (hS2 : sndS m n cm lv st tk A S2) (hle : ∀ c, S2 c ≤ S c) {c : Nat} (h : Fn m n cm lv st tk A S2 c) (hn : ¬ Fn m n cm lv st tk A S c) : cnt 4096 (fnB m n cm lv st tk A S) < cnt 4096 (fnB m n cm lv st tk A S2) := by
  obtain ⟨x, hx⟩ := h.1
  exact cnt_lt (fun c _ hc => fnB_t.mpr (fn_mono hO hX hX2 hS2 hle (fnB_t.mp hc))) ⟨c, (hx.J hO).1.1.1, fnB_t.mpr h, by
    cases e : fnB m n cm lv st tk A S c
    · rfl
    · exact absurd (fnB_t.mp e) hn⟩
/-- when all has come to its least, nothing falls any more -/
theorem fn_all (hO : okW m n cm lv st tk A) {X : Int} (hX : ∀ c, A c < 100000000 → A c ≤ X) (hX2 : X ≤ 90000000) (hS : sndS m n cm lv st tk A S) (hS2 : sndS m n cm lv st tk A S2) (hle : ∀ c, S2 c ≤ S c) (hall : ∀ c x, Wk m n cm lv st tk A c x → S c = dsV m n cm lv st tk A c) (c : Nat) : S2 c = S c := by
  have g2 := hle c
  by_cases hr : ∃ x, Wk m n cm lv st tk A c x
  · obtain ⟨x, hx⟩ := hr
    have g1 := snd_ge hO hX hX2 hS2 hx
    have g3 := hall c x hx
    omega
  · have q1 := (hS c).1
    by_cases hlt : S2 c < 500000000
    · exact absurd ⟨_, (hS2 c).2 hlt⟩ hr
    · omega
end FI
