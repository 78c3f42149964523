/-! THE BRIDGE: values, cells, worlds -/
def rv (ad : Nat → Nat) (v : AV) : Value := match v with
  | Sum.inl (Sum.inl x) => .int (Int32.ofInt x)
  | Sum.inl (Sum.inr x) => .long (Int64.ofInt x)
  | Sum.inr (Sum.inl q) => .ref (ad q.2.2)
  | Sum.inr (Sum.inr _) => .null
def isU (v : AV) : Bool := match v with
  | Sum.inr (Sum.inr _) => true
  | _ => false
def okv (S : List Nat) (v : AV) : Prop := match v with
  | Sum.inr (Sum.inl q) => q.2.2 ∈ S ∧ shp q.2.2 = (q.1, q.2.1)
  | _ => True
def fval (ad : Nat → Nat) (M : Mem) (a j : Nat) (ty : FieldType) : Value := match ty with
  | .int => .int (Int32.ofInt (M a (j : Int)))
  | .boolean => .int (Int32.ofInt (M a (j : Int)))
  | .long => .long (Int64.ofInt (M a (j : Int)))
  | _ => .ref (ad (rfs a j).2.2)
def flds (ad : Nat → Nat) (M : Mem) (a k : Nat) : List Value := (List.range (cN k)).map (fun j => fval ad M a j (cTy k j))
def went (T : Nat → ClassId) (ad : Nat → Nat) (M : Mem) (a : Nat) : va_E :=
  if (shp a).1 = 0 then .inl (T 0, (shp a).2, .inl (fun j => Int32.ofInt (M a (j : Int)))) else
  if (shp a).1 = 1 then .inl (T 1, (shp a).2, .inr (.inl (fun j => Int64.ofInt (M a (j : Int))))) else
  if (shp a).1 = 2 then .inl (T 2, (shp a).2, .inl (fun j => Int32.ofInt (M a (j : Int)))) else
  if (shp a).1 = 3 then .inl (T 3, (shp a).2, .inl (fun j => Int32.ofInt (M a (j : Int)))) else
  if (shp a).1 = 4 then .inl (T 4, (shp a).2, .inr (.inr (.inr (.inr (fun j => some (ad (rfs a j).2.2)))))) else
  .inr ((shp a).1 - 10, flds ad M a ((shp a).1 - 10))
def wld (T : Nat → ClassId) (ad : Nat → Nat) (M : Mem) (S : List Nat) : va_W := S.map (fun a => (ad a, went T ad M a))
def tysL (T : Nat → ClassId) : List (ClassId × FieldType) := [(T 0, .int), (T 1, .long), (T 2, .byte), (T 3, .boolean), (T 4, .object "BargeRaft$State")]
def rok (S : List Nat) (a j : Nat) : Bool := decide ((rfs a j).2.2 ∈ S) && decide (shp (rfs a j).2.2 = ((rfs a j).1, (rfs a j).2.1))
/-- what is reached from S lies in S -/
def clo (S : List Nat) : Bool := S.all (fun a => (decide ((shp a).1 < 10) || (List.range (cN ((shp a).1 - 10))).all (fun j => !isRf (cTy ((shp a).1 - 10) j) || rok S a j)) && (decide ((shp a).1 ≠ 4) || (List.range (shp a).2).all (fun j => rok S a j)))
theorem clo_obj {S : List Nat} {a k j : Nat} (h : clo S = true) (ha : a ∈ S) (hs : (shp a).1 = 10 + k) (hj : j < cN k) (hr : isRf (cTy k j) = true) : (rfs a j).2.2 ∈ S ∧ shp (rfs a j).2.2 = ((rfs a j).1, (rfs a j).2.1) := by
  have h1 := List.all_eq_true.mp h a ha
  rw [Bool.and_eq_true] at h1
  have h2 := h1.1
  rw [hs, Nat.add_sub_cancel_left, Bool.or_eq_true] at h2
  rcases h2 with h2 | h2
  · have := of_decide_eq_true h2; omega
  · have h3 := List.all_eq_true.mp h2 j (List.mem_range.mpr hj)
    rw [hr] at h3
    simp only [Bool.not_true, Bool.false_or, rok, Bool.and_eq_true, decide_eq_true_eq] at h3
    exact h3
theorem clo_arr {S : List Nat} {a j : Nat} (h : clo S = true) (ha : a ∈ S) (hs : (shp a).1 = 4) (hj : j < (shp a).2) : (rfs a j).2.2 ∈ S ∧ shp (rfs a j).2.2 = ((rfs a j).1, (rfs a j).2.1) := by
  have h1 := List.all_eq_true.mp h a ha
  rw [Bool.and_eq_true] at h1
  have h2 := h1.2
  rw [Bool.or_eq_true] at h2
  rcases h2 with h2 | h2
  · exact absurd hs (of_decide_eq_true h2)
  · have h3 := List.all_eq_true.mp h2 j (List.mem_range.mpr hj)
    simp only [rok, Bool.and_eq_true, decide_eq_true_eq] at h3
    exact h3
theorem shp_lt (a : Nat) : (shp a).2 < 20000 := by
  by_cases h : a < 92
  · have h1 : (List.range 92).all (fun a => decide ((shp a).2 < 20000)) = true := by decide +kernel
    exact of_decide_eq_true (List.all_eq_true.mp h1 a (List.mem_range.mpr h))
  · have : shp a = (99, 0) := by
      unfold shp
      rw [List.getD_eq_getElem?_getD, List.getElem?_eq_none (by show 92 ≤ a; omega)]
      rfl
    rw [this]; decide
/-- the addresses of the cells are apart, and of a kind -/
def adD (A : Nat → Prop) (ad : Nat → Nat) (S : List Nat) : Prop := (∀ (i j a b : Nat), S[i]? = some a → S[j]? = some b → ad a = ad b → i = j) ∧ ∀ a ∈ S, A (ad a)
theorem wld_i {T : Nat → ClassId} {ad : Nat → Nat} {M : Mem} {S : List Nat} {i : Nat} {q : Nat × va_E} (h : (wld T ad M S)[i]? = some q) : ∃ a, S[i]? = some a ∧ q = (ad a, went T ad M a) := by
  unfold wld at h
  rw [List.getElem?_map] at h
  cases hs : S[i]? with
  | none => rw [hs] at h; cases h
  | some a => rw [hs] at h; exact ⟨a, rfl, (Option.some.inj h).symm⟩
theorem wld_a {T : Nat → ClassId} {ad : Nat → Nat} {M : Mem} {S : List Nat} {i a : Nat} (h : S[i]? = some a) : (wld T ad M S)[i]? = some (ad a, went T ad M a) := by
  unfold wld
  rw [List.getElem?_map, h]
  rfl
theorem adD.D {A : Nat → Prop} {T : Nat → ClassId} {ad : Nat → Nat} {M : Mem} {S : List Nat} (h : adD A ad S) : va_D A (wld T ad M S) := by
  refine ⟨fun i j p q hp hq hpq => ?_, fun k q hq => ?_⟩
  · obtain ⟨a, ha, rfl⟩ := wld_i hp
    obtain ⟨b, hb, rfl⟩ := wld_i hq
    exact h.1 i j a b ha hb hpq
  · obtain ⟨a, ha, rfl⟩ := wld_i hq
    exact h.2 a (List.mem_of_getElem? ha)
theorem wld_set {A : Nat → Prop} {T : Nat → ClassId} {ad : Nat → Nat} {M M' : Mem} {S : List Nat} {q0 a : Nat} {E : va_E} (hD : adD A ad S) (hq : S[q0]? = some a) (hE : went T ad M' a = E) (ho : ∀ b, b ≠ a → went T ad M' b = went T ad M b) :
    (wld T ad M S).set q0 (ad a, E) = wld T ad M' S := by
  apply List.ext_getElem?
  intro i
  rw [List.getElem?_set]
  by_cases hi : q0 = i
  · subst hi
    rw [if_pos rfl, wld_a hq, hE]
    have hl : q0 < (wld T ad M S).length := (List.getElem?_eq_some_iff.mp (wld_a (T := T) (ad := ad) (M := M) hq)).1
    rw [if_pos hl]
  · rw [if_neg hi]
    cases hs : S[i]? with
    | none => simp [wld, hs]
    | some b =>
      rw [wld_a hs, wld_a hs]
      by_cases hb : b = a
      · subst hb
        exact absurd (hD.1 q0 i b b hq hs rfl) hi
      · rw [ho b hb]
theorem fval_up {ad : Nat → Nat} {M : Mem} {a b j : Nat} {i x : Int} (h : b ≠ a) (ty : FieldType) : fval ad (up M a i x) b j ty = fval ad M b j ty := by
  cases ty <;> simp [fval, up, h]
theorem went_up {T : Nat → ClassId} {ad : Nat → Nat} {M : Mem} {a b : Nat} {i x : Int} (h : b ≠ a) : went T ad (up M a i x) b = went T ad M b := by
  have h2 : flds ad (up M a i x) b ((shp b).1 - 10) = flds ad M b ((shp b).1 - 10) := by
    unfold flds
    exact List.map_congr_left fun j _ => fval_up h _
  simp only [went, h2, up, h, false_and, if_false]
theorem went_cpy {T : Nat → ClassId} {ad : Nat → Nat} {M : Mem} {ss a b : Nat} {sp dp n : Int} (h : b ≠ a) : went T ad (cpy M ss a sp dp n) b = went T ad M b := by
  have h2 : flds ad (cpy M ss a sp dp n) b ((shp b).1 - 10) = flds ad M b ((shp b).1 - 10) := by
    unfold flds
    exact List.map_congr_left fun j _ => by cases (cTy ((shp b).1 - 10) j) <;> simp [fval, cpy, h]
  simp only [went, h2, cpy, h, false_and, if_false]
theorem fun_up {M : Mem} {a : Nat} {i x : Int} (h0 : 0 ≤ i) : (fun j : Nat => Int32.ofInt (up M a i x a (j : Int))) = upd (fun j : Nat => Int32.ofInt (M a (j : Int))) i.toNat (Int32.ofInt x) := by
  funext j
  simp only [up, upd, true_and]
  by_cases h : j = i.toNat
  · rw [if_pos h, if_pos (by omega)]
  · rw [if_neg h, if_neg (by omega)]
theorem fun_upL {M : Mem} {a : Nat} {i x : Int} (h0 : 0 ≤ i) : (fun j : Nat => Int64.ofInt (up M a i x a (j : Int))) = vp_updL (fun j : Nat => Int64.ofInt (M a (j : Int))) i.toNat (Int64.ofInt x) := by
  funext j
  simp only [up, vp_updL, true_and]
  by_cases h : j = i.toNat
  · rw [if_pos h, if_pos (by omega)]
  · rw [if_neg h, if_neg (by omega)]
theorem fun_cpy {M : Mem} {ss a : Nat} {sp dp n : Int} (h0 : 0 ≤ sp) (h1 : 0 ≤ dp) (h2 : 0 ≤ n) : (fun j : Nat => Int32.ofInt (cpy M ss a sp dp n a (j : Int))) = va_cpy (fun j : Nat => Int32.ofInt (M ss (j : Int))) (fun j : Nat => Int32.ofInt (M a (j : Int))) sp.toNat dp.toNat n.toNat := by
  funext j
  simp only [cpy, va_cpy, true_and]
  by_cases h : dp.toNat ≤ j ∧ j < dp.toNat + n.toNat
  · rw [if_pos h, if_pos (by omega)]
    have : sp + ((j : Int) - dp) = ((sp.toNat + (j - dp.toNat) : Nat) : Int) := by omega
    rw [this]
  · rw [if_neg h, if_neg (by omega)]
theorem flds_get {ad : Nat → Nat} {M : Mem} {a k j : Nat} (h : j < cN k) : (flds ad M a k)[j]? = some (fval ad M a j (cTy k j)) := by
  unfold flds
  rw [List.getElem?_map, List.getElem?_range h]
  rfl
theorem flds_up {ad : Nat → Nat} {M : Mem} {a k j : Nat} {x : Int} (h : j < cN k) : flds ad (up M a (j : Int) x) a k = (flds ad M a k).set j (fval ad (up M a (j : Int) x) a j (cTy k j)) := by
  apply List.ext_getElem?
  intro i
  rw [List.getElem?_set]
  by_cases hj : j = i
  · subst hj
    rw [if_pos rfl, flds_get h, if_pos (by unfold flds; simpa using h)]
  · rw [if_neg hj]
    by_cases hi : i < cN k
    · rw [flds_get hi, flds_get hi]
      have hne : ¬ ((i : Int) = (j : Int)) := fun h9 => hj (by omega)
      cases (cTy k i) <;> simp [fval, up, hne]
    · simp [flds, hi]
/-! numbers -/
theorem w32_bmod (x : Int) : x.bmod Int32.size = w32 x := by
  simp only [Int.bmod, Int32.size, w32]
  split <;> omega
theorem w64_bmod (x : Int) : x.bmod Int64.size = w64 x := by
  simp only [Int.bmod, Int64.size, w64]
  split <;> omega
theorem ti32 (x : Int) : (Int32.ofInt x).toInt = w32 x := by rw [Int32.toInt_ofInt, w32_bmod]
theorem ti64 (x : Int) : (Int64.ofInt x).toInt = w64 x := by rw [Int64.toInt_ofInt, w64_bmod]
theorem w32_of {x : Int} (h1 : -2147483648 ≤ x) (h2 : x < 2147483648) : w32 x = x := by unfold w32; omega
theorem w32_rng (x : Int) : -2147483648 ≤ w32 x ∧ w32 x < 2147483648 := by unfold w32; omega
theorem lt32 {a b : Int} : Int32.ofInt a < Int32.ofInt b ↔ w32 a < w32 b := by rw [Int32.lt_iff_toInt_lt, ti32, ti32]
theorem le32 {a b : Int} : Int32.ofInt a ≤ Int32.ofInt b ↔ w32 a ≤ w32 b := by rw [Int32.le_iff_toInt_le, ti32, ti32]
theorem eq32 {a b : Int} : Int32.ofInt a = Int32.ofInt b ↔ w32 a = w32 b := by rw [← Int32.toInt_inj, ti32, ti32]
theorem z32 : (0 : Int32) = Int32.ofInt 0 := rfl
theorem wz : w32 0 = 0 := rfl
theorem eqz {a : Int} : Int32.ofInt a = 0 ↔ w32 a = 0 := by rw [z32, eq32, wz]
theorem ltz {a : Int} : Int32.ofInt a < 0 ↔ w32 a < 0 := by rw [z32, lt32, wz]
theorem gez {a : Int} : 0 ≤ Int32.ofInt a ↔ 0 ≤ w32 a := by rw [z32, le32, wz]
theorem gtz {a : Int} : 0 < Int32.ofInt a ↔ 0 < w32 a := by rw [z32, lt32, wz]
theorem lez {a : Int} : Int32.ofInt a ≤ 0 ↔ w32 a ≤ 0 := by rw [z32, le32, wz]
theorem tnc {i : Int} (h0 : 0 ≤ i) (h1 : i < 2147483648) : (Int32.ofInt i).toNatClampNeg = i.toNat := by
  rw [← Int32.toNat_toInt, ti32, w32_of (by omega) h1]
theorem vin {i : Int} {n : Nat} (h0 : 0 ≤ i) (h1 : i < (n : Int)) (hn : n < 20000) : vp_in (Int32.ofInt i) n := by
  unfold vp_in
  rw [tnc h0 (by omega), ltz, w32_of (by omega) (by omega)]
  omega
theorem n_i2l (a : Int) : (Int32.ofInt a).toInt64 = Int64.ofInt (w32 a) := by
  apply Int64.toInt_inj.mp
  have h := w32_rng a
  rw [Int32.toInt_toInt64, ti32, ti64]
  unfold w64; omega
theorem n_i2b (a : Int) : (Int32.ofInt a).toInt8.toInt32 = Int32.ofInt (w8 a) := by
  apply Int32.toInt_inj.mp
  rw [Int8.toInt_toInt32, Int32.toInt_toInt8, ti32, ti32]
  have hb : ∀ t : Int, t.bmod (2 ^ 8) = (t + 128) % 256 - 128 := by
    intro t
    rw [Int.bmod_def]
    have e : (((2 : Nat) ^ 8 : Nat) : Int) = 256 := rfl
    rw [e]
    split <;> omega
  rw [hb]
  unfold w32 w8
  omega
theorem n_bip {n : Int} (h1 : -128 ≤ n) (h2 : n < 128) : (Int8.ofInt n).toInt32 = Int32.ofInt n := by
  apply Int32.toInt_inj.mp
  rw [Int8.toInt_toInt32, Int8.toInt_ofInt_of_le (by omega) (by omega), ti32, w32_of (by omega) (by omega)]
theorem n_sip {n : Int} (h1 : -32768 ≤ n) (h2 : n < 32768) : (Int16.ofInt n).toInt32 = Int32.ofInt n := by
  apply Int32.toInt_inj.mp
  rw [Int16.toInt_toInt32, Int16.toInt_ofInt_of_le (by omega) (by omega), ti32, w32_of (by omega) (by omega)]
theorem n_cmp (a b : Int) : lg_cmp (Int64.ofInt a) (Int64.ofInt b) = Int32.ofInt (cmp64 a b) := by
  unfold lg_cmp cmp64
  have e1 : (Int64.ofInt a > Int64.ofInt b) ↔ w64 b < w64 a := by rw [gt_iff_lt, Int64.lt_iff_toInt_lt, ti64, ti64]
  have e2 : (Int64.ofInt a = Int64.ofInt b) ↔ w64 a = w64 b := by rw [← Int64.toInt_inj, ti64, ti64]
  by_cases h1 : w64 b < w64 a
  · rw [if_pos (e1.mpr h1), if_neg (by omega), if_neg (by omega)]; rfl
  · rw [if_neg (fun h => h1 (e1.mp h))]
    by_cases h2 : w64 a = w64 b
    · rw [if_pos (e2.mpr h2), if_neg (by omega), if_pos h2]; rfl
    · rw [if_neg (fun h => h2 (e2.mp h)), if_pos (by omega)]; rfl
theorem n_nz {b : Int} (h : ¬ w32 b = 0) : ¬ Int32.ofInt b = 0 := fun h9 => h (eqz.mp h9)
/-! locals -/
def lvl (ad : Nat → Nat) : Nat → List AV → List (Nat × Value)
  | _, [] => []
  | i, v :: r => if isU v = true then lvl ad (i + 1) r else (i, rv ad v) :: lvl ad (i + 1) r
theorem lvl_mem {ad : Nat → Nat} {q : Nat × Value} : ∀ {i : Nat} {ls : List AV}, q ∈ lvl ad i ls ↔ ∃ k v, ls[k]? = some v ∧ q.1 = i + k ∧ isU v = false ∧ q.2 = rv ad v := by
  intro i ls
  induction ls generalizing i with
  | nil => simp [lvl]
  | cons w r ih =>
    have hstep : (∃ k v, (w :: r)[k]? = some v ∧ q.1 = i + k ∧ isU v = false ∧ q.2 = rv ad v) ↔ ((q.1 = i ∧ isU w = false ∧ q.2 = rv ad w) ∨ ∃ k v, r[k]? = some v ∧ q.1 = i + 1 + k ∧ isU v = false ∧ q.2 = rv ad v) := by
      constructor
      · rintro ⟨k, v, h1, h2, h3, h4⟩
        cases k with
        | zero => simp at h1; subst h1; exact Or.inl ⟨by omega, h3, h4⟩
        | succ k => exact Or.inr ⟨k, v, by simpa using h1, by omega, h3, h4⟩
      · rintro (⟨h1, h2, h3⟩ | ⟨k, v, h1, h2, h3, h4⟩)
        · exact ⟨0, w, by simp, by omega, h2, h3⟩
        · exact ⟨k + 1, v, by simpa using h1, by omega, h3, h4⟩
    have hl : lvl ad i (w :: r) = if isU w = true then lvl ad (i + 1) r else (i, rv ad w) :: lvl ad (i + 1) r := rfl
    rw [hstep, ← ih, hl]
    by_cases hw : isU w = true
    · rw [if_pos hw]
      simp [hw]
    · rw [if_neg hw, List.mem_cons]
      have hw' : isU w = false := by simpa using hw
      constructor
      · rintro (h | h)
        · subst h; exact Or.inl ⟨rfl, hw', rfl⟩
        · exact Or.inr h
      · rintro (⟨h1, -, h3⟩ | h)
        · exact Or.inl (Prod.ext h1 h3)
        · exact Or.inr h
/-- the locals of the small machine and those of the frame -/
def LR (S : List Nat) (ad : Nat → Nat) (y : Nat) (ls : List AV) (js : Array Slot) : Prop :=
  ls.length = mdL y ∧ lv_has js (mdL y) (lvl ad 0 ls) ∧ (∀ (j : Nat) (x : Int), ls[j]? = some (aL x) → j ∈ mdG y) ∧ (∀ j ∈ mdG y, ∀ v, ls[j + 1]? = some v → v = aU) ∧ ∀ v ∈ ls, okv S v
theorem LR.get {S : List Nat} {ad : Nat → Nat} {y i : Nat} {ls : List AV} {js : Array Slot} {v : AV} (h : LR S ad y ls js) (hi : ls[i]? = some v) (hu : isU v = false) : js[i]? = some (.val (rv ad v)) :=
  h.2.1.2.2 (i, rv ad v) (lvl_mem.mpr ⟨i, v, hi, by simp, hu, rfl⟩)
theorem LR.ok {S : List Nat} {ad : Nat → Nat} {y i : Nat} {ls : List AV} {js : Array Slot} {v : AV} (h : LR S ad y ls js) (hi : ls[i]? = some v) : okv S v := h.2.2.2.2 v (List.mem_of_getElem? hi)
theorem cat2 {ad : Nat → Nat} {v : AV} (h : (rv ad v).category = 2) : ∃ x, v = aL x := by
  rcases v with (v | v) | (v | v)
  · cases h
  · exact ⟨v, rfl⟩
  · cases h
  · cases h
theorem LR.set1 {S : List Nat} {ad : Nat → Nat} {y i : Nat} {ls : List AV} {js js' : Array Slot} {z : AV} (h : LR S ad y ls js) (hG : noL (mdG y) i = true) (hz : nl z) (hok : okv S z)
    (h2 : lv_has js' (mdL y) ((i, rv ad z) :: (lvl ad 0 ls).filter (fun q => !(q.1 == i) && !(q.1 + 1 == i && q.2.category == 2)))) : LR S ad y (ls.set i z) js' := by
  obtain ⟨g1, g2, g3, g4, g5⟩ := h
  have hG' : ∀ g ∈ mdG y, g + 1 ≠ i := fun g hg => of_decide_eq_true (List.all_eq_true.mp hG g hg)
  refine ⟨by rw [List.length_set]; exact g1, ⟨h2.1, h2.2.1, fun q hq => h2.2.2 q ?_⟩, fun j x hj => ?_, fun j hj v hv => ?_, fun v hv => ?_⟩
  · obtain ⟨k, v, hk, hq1, hu, hq2⟩ := lvl_mem.mp hq
    rw [List.getElem?_set] at hk
    by_cases hi : i = k
    · subst hi
      rw [if_pos rfl] at hk
      split at hk
      · cases hk
        exact List.mem_cons.mpr (Or.inl (Prod.ext (by simpa using hq1) hq2))
      · cases hk
    · rw [if_neg hi] at hk
      refine List.mem_cons_of_mem _ (List.mem_filter.mpr ⟨lvl_mem.mpr ⟨k, v, hk, hq1, hu, hq2⟩, ?_⟩)
      have e1 : ¬ q.1 = i := by omega
      by_cases hc : q.2.category = 2
      · rw [hq2] at hc
        obtain ⟨x, rfl⟩ := cat2 hc
        have := hG' k (g3 k x hk)
        have e2 : ¬ q.1 + 1 = i := by omega
        simp [e1, e2]
      · simp [e1, hc]
  · rw [List.getElem?_set] at hj
    by_cases hi : i = j
    · subst hi
      rw [if_pos rfl] at hj
      split at hj
      · cases hj; cases hz
      · cases hj
    · rw [if_neg hi] at hj
      exact g3 j x hj
  · rw [List.getElem?_set, if_neg (fun h9 => hG' j hj h9.symm)] at hv
    exact g4 j hj v hv
  · rcases List.mem_or_eq_of_mem_set hv with h9 | h9
    · exact g5 v h9
    · subst h9; exact hok
theorem LR.set2 {S : List Nat} {ad : Nat → Nat} {y i : Nat} {ls : List AV} {js js' : Array Slot} {x : Int} (h : LR S ad y ls js) (hG : noL (mdG y) i = true) (hi : i ∈ mdG y)
    (h2 : lv_has js' (mdL y) ((i, rv ad (aL x)) :: (lvl ad 0 ls).filter (fun q => !(q.1 == i) && (!(q.1 == i + 1) && !(q.1 + 1 == i && q.2.category == 2))))) : LR S ad y (ls.set i (aL x)) js' := by
  obtain ⟨g1, g2, g3, g4, g5⟩ := h
  have hG' : ∀ g ∈ mdG y, g + 1 ≠ i := fun g hg => of_decide_eq_true (List.all_eq_true.mp hG g hg)
  refine ⟨by rw [List.length_set]; exact g1, ⟨h2.1, h2.2.1, fun q hq => h2.2.2 q ?_⟩, fun j x' hj => ?_, fun j hj v hv => ?_, fun v hv => ?_⟩
  · obtain ⟨k, v, hk, hq1, hu, hq2⟩ := lvl_mem.mp hq
    rw [List.getElem?_set] at hk
    by_cases hi' : i = k
    · subst hi'
      rw [if_pos rfl] at hk
      split at hk
      · cases hk
        exact List.mem_cons.mpr (Or.inl (Prod.ext (by simpa using hq1) hq2))
      · cases hk
    · rw [if_neg hi'] at hk
      refine List.mem_cons_of_mem _ (List.mem_filter.mpr ⟨lvl_mem.mpr ⟨k, v, hk, hq1, hu, hq2⟩, ?_⟩)
      have e1 : ¬ q.1 = i := by omega
      have e3 : ¬ q.1 = i + 1 := by
        intro h9
        have hk1 : k = i + 1 := by omega
        subst hk1
        have := g4 i hi v hk
        subst this
        cases hu
      by_cases hc : q.2.category = 2
      · rw [hq2] at hc
        obtain ⟨x2, rfl⟩ := cat2 hc
        have := hG' k (g3 k x2 hk)
        have e2 : ¬ q.1 + 1 = i := by omega
        simp [e1, e2, e3]
      · simp [e1, e3, hc]
  · by_cases hi' : i = j
    · subst hi'; exact hi
    · rw [List.getElem?_set, if_neg hi'] at hj
      exact g3 j x' hj
  · rw [List.getElem?_set, if_neg (fun h9 => hG' j hj h9.symm)] at hv
    exact g4 j hj v hv
  · rcases List.mem_or_eq_of_mem_set hv with h9 | h9
    · exact g5 v h9
    · subst h9; exact trivial
/-- the stack of the small machine -/
def SRs (S : List Nat) (st : List AV) : Prop := ∀ v ∈ st, okv S v ∧ isU v = false
theorem SRs.i {S : List Nat} {st : List AV} {z : Int} (h : SRs S st) : SRs S (aI z :: st) := fun v hv => by
  rcases List.mem_cons.mp hv with rfl | h9
  · exact ⟨trivial, rfl⟩
  · exact h v h9
theorem SRs.l {S : List Nat} {st : List AV} {z : Int} (h : SRs S st) : SRs S (aL z :: st) := fun v hv => by
  rcases List.mem_cons.mp hv with rfl | h9
  · exact ⟨trivial, rfl⟩
  · exact h v h9
theorem SRs.c {S : List Nat} {st : List AV} {w : AV} (h1 : okv S w ∧ isU w = false) (h : SRs S st) : SRs S (w :: st) := fun v hv => by
  rcases List.mem_cons.mp hv with rfl | h9
  · exact h1
  · exact h v h9
theorem SRs.t {S : List Nat} {st : List AV} {w : AV} (h : SRs S (w :: st)) : SRs S st := fun v hv => h v (List.mem_cons_of_mem _ hv)
theorem SRs.h {S : List Nat} {st : List AV} {w : AV} (h : SRs S (w :: st)) : okv S w ∧ isU w = false := h w List.mem_cons_self
theorem rv_c {ad : Nat → Nat} {v : AV} : (rv ad v).category = wd v := by
  rcases v with (v | v) | (v | v) <;> rfl
theorem rv_sum {ad : Nat → Nat} {st : List AV} : ((st.map (rv ad)).map fun v => v.category).sum = stw st := by
  induction st with
  | nil => rfl
  | cons v st ih => simp only [List.map_cons, List.sum_cons, stw, ih, rv_c]
