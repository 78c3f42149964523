/-! THE BRIDGE: calls, returns, and the contract of every method -/
theorem md_spec {z : Nat} (h : z < 227) : Cond.code (mdY z) (mdB z) (mdL z) (mdR z) ∈ gtb ∧ ((mdq z).2.1 = true → Cond.instanceMethod (mdY z) ∈ gtb ∧ Cond.selects (mdY z).cls (mdY z) (mdY z) ∈ gtb) ∧ ((mdq z).2.1 = false → Cond.static (mdY z) ∈ gtb) ∧ Cond.initialized (mdY z).cls ∈ gtb ∧ ((mdY z).cls ≠ "java/lang/invoke/MethodHandle" ∧ (mdY z).cls ≠ "java/lang/invoke/VarHandle") ∧ plainFor (mdY z) = true ∧ (mdY z).cls = cR (mdO z) := by
  obtain ⟨h1, h2⟩ := md_all h
  simp only [mdOk, Bool.and_eq_true, decide_eq_true_eq] at h2
  obtain ⟨⟨⟨⟨g1, g2⟩, g3⟩, g4⟩, g5⟩ := h2
  refine ⟨List.mem_filter.mpr ⟨List.mem_of_getElem? h1, rfl⟩, fun hv => ?_, fun hv => ?_, atb_mem g2, g3, g4, g5⟩
  · rw [if_pos hv, Bool.and_eq_true] at g1
    exact ⟨atb_mem g1.1, atb_mem g1.2⟩
  · rw [if_neg (by rw [hv]; decide)] at g1
    exact atb_mem g1
theorem look_all {f : Nat → List Ent → Bool} (h0 : ∀ L, f L [] = true) : ∀ (l : List (Nat × List Ent)), l.all (fun q => f q.1 q.2) = true → ∀ L, f L ((l.lookup L).getD []) = true := by
  intro l
  induction l with
  | nil => intro _ L; exact h0 L
  | cons q l ih =>
    intro h L
    rw [List.all_cons, Bool.and_eq_true] at h
    obtain ⟨k, b⟩ := q
    rw [List.lookup_cons]
    by_cases hL : (L == k) = true
    · rw [hL]
      have : L = k := eq_of_beq hL
      subst this
      exact h.1
    · have hL' : (L == k) = false := by simpa using hL
      rw [hL']
      exact ih h.2 L
theorem blk_cod {y : Nat} (h : y < 227) (L : Nat) : cody y L (blk y L) = true :=
  look_all (f := fun L b => cody y L b) (fun _ => rfl) _ (mk_all h) L
def wsz (z : Nat) : List Cond := Cond.code (mdY z) (mdB z) (mdL z) (mdR z) :: gtb
def rmd (d : Nat) : Room := { frames := d + 1, cells := 0, slots := 0, locals := 60 * (d + 1) }
def Pcz (D : va_G) (T : Nat → ClassId) (ad : Nat → Nat) (S : List Nat) (as : List AV) (M : Mem) : Array Value → State → Prop :=
  va_Pc (as.map (rv ad)) (fun U => va_P D classes (wld T ad M S) U.heap ∧ va_K D classes (tysL T) U)
def Qg (D : va_G) (T : Nat → ClassId) (A : Nat → Prop) (ad : Nat → Nat) (S : List Nat) (r : List AV) (M' : Mem) : Array Value → State → Outcome → State → Prop :=
  fun _ st oc t => (oc = .returned ((r.map (rv ad)).head?) ∧ va_P D classes (wld T ad M' S) t.heap) ∧ va_F A st t
theorem gtb_good {w : Cond} (h : w ∈ gtb) : (w.onTables && w.keeps) = true ∨ ∃ ty, w = .arrayClass ty := good_of_word (List.mem_filter.mp h).2
theorem wsz_good {z : Nat} (h : z < 227) : GoodIn gtb (wsz z) := by
  intro w hw
  have hg : w ∈ gtb := by
    rcases List.mem_cons.mp hw with rfl | h9
    · exact (md_spec h).1
    · exact h9
  exact ⟨hg, gtb_good hg⟩
theorem pcz_blind {D : va_G} {T : Nat → ClassId} {ad : Nat → Nat} {S : List Nat} {as : List AV} {M : Mem} : FrameBlind (Pcz D T ad S as M) :=
  fun a U g mk q => ⟨q.1, q.2.1, va_K.moved (u := U) (U := U.calling g mk a) (Vm.Alike.refl U.vm) q.2.2⟩
theorem Met_ofF {l : Launch} {y : MethodName} {ws ws' : List Cond} {rm : Room} {Pc : Array Value → State → Prop} {Qc : Array Value → State → Outcome → State → Prop} {mc ms : Nat} {free : Addr → Prop} {cc : ByteArray} {maxL : Nat} {ret : Option FieldType}
    (hy : plainFor y = true) (hw : ws = Cond.code y cc maxL ret :: ws')
    (body : ∀ p e s m args below meth c s₁, BodyLoose p l y (headSpec ws rm) cc maxL ret e s m args below meth c s₁ → c.maxLocals = maxL → Pc args s →
      W p l e (headSpec ws rm).room s m args below meth c s.heap [] 0 0 (MQ below Qc args s mc ms free) (entryFrame m args maxL)) : Met l y ws rm Pc Qc mc ms free := by
  refine MetFree.of_bodySF (code := cc) (maxLocals := maxL) (ret := ret) hy ?_ ?_
  · intro args s m h hn
    obtain ⟨meth, c, h1, h2, h3, h4, h5, h6, -, -⟩ := Cond.code_spec hn (atoms_spec (ws := ws) h _ (by rw [hw]; exact List.mem_cons_self))
    exact ⟨meth, c, h1, h2, h3, h4, h5, h6⟩
  · intro p e s m args below meth c s₁ B hml hP _
    have hh0 : s₁.heap = s.heap := by rw [B.state]; rfl
    obtain ⟨t, a1, o, b1, b2, b3⟩ := body p e s m args below meth c s₁ B hml hP s₁ hh0 (Stand.of_body B)
    exact ⟨t, o, a1, b1, b2, ⟨b3.1, b3.2⟩⟩
/-! the locals at the entry -/
theorem lvargs_nl {ad : Nat → Nat} : ∀ (as : List AV) (i : Nat), as.all nlb = true → ∀ (j : Nat) (v : AV), as[j]? = some v → (i + j, rv ad v) ∈ lv_args i (as.map (rv ad)) := by
  intro as
  induction as with
  | nil => intro i _ j v h; cases h
  | cons w as ih =>
    intro i h j v hj
    rw [List.all_cons, Bool.and_eq_true] at h
    rw [List.map_cons]
    unfold lv_args
    rw [nlb_cat h.1, if_neg (by decide)]
    cases j with
    | zero =>
      have : w = v := by simpa using hj
      subst this
      exact List.mem_cons_self
    | succ j =>
      refine List.mem_cons_of_mem _ ?_
      have := ih (i + 1) h.2 j v (by simpa using hj)
      rwa [show i + 1 + j = i + (j + 1) by omega] at this
theorem slG_nl {G : List Nat} : ∀ (as : List AV) (i : Nat), (∀ g ∈ G, i + as.length ≤ g) → slG G i as = as := by
  intro as
  induction as with
  | nil => intro i _; rfl
  | cons w as ih =>
    intro i h
    unfold slG
    rw [if_neg (fun h9 => by have := h i h9; simp at this; omega), ih (i + 1) (fun g hg => by have := h g hg; simp at this; omega)]
theorem sl_len {ad : Nat → Nat} : ∀ (as : List AV), as.all nlb = true → (lg_sl (as.map (rv ad))).length = as.length := by
  intro as
  induction as with
  | nil => intro _; rfl
  | cons w as ih =>
    intro h
    rw [List.all_cons, Bool.and_eq_true] at h
    have := ih h.2
    simp only [lg_sl, List.map_cons, List.flatMap_cons, List.length_append, List.length_cons] at this ⊢
    rw [nlb_cat h.1, if_neg (by decide), this]
    simp; omega
def eOK (z : Nat) (as : List AV) : Prop := (as.all nlb = true ∧ (∀ g ∈ mdG z, as.length ≤ g) ∧ as.length ≤ mdL z) ∨ (∃ q x, as = [Sum.inr (Sum.inl q), aL x] ∧ (∀ g ∈ mdG z, g = 1 ∨ 3 ≤ g) ∧ 1 ∈ mdG z ∧ 3 ≤ mdL z)
theorem ent_LR {S : List Nat} {ad : Nat → Nat} {z : Nat} {as : List AV} (h : eOK z as) (hs : SRs S as) : LR S ad z (ini z as) ((lg_sl (as.map (rv ad)) ++ List.replicate (mdL z - (lg_sl (as.map (rv ad))).length) Slot.unset).toArray) := by
  rcases h with ⟨h1, h2, h3⟩ | ⟨q, x, rfl, h2, h3, h4⟩
  · have hl := lv_entry (as.map (rv ad)) (n := mdL z) (by rw [sl_len as h1]; exact h3)
    have hi : ini z as = as ++ List.replicate (mdL z - as.length) aU := by
      unfold ini
      rw [slG_nl as 0 (fun g hg => by have := h2 g hg; omega)]
    rw [hi]
    refine ⟨by simp; omega, ⟨hl.1, hl.2.1, fun q hq => hl.2.2 q ?_⟩, fun j x hj => ?_, fun j hj v hv => ?_, fun v hv => ?_⟩
    · obtain ⟨k, v, hk, hq1, hu, hq2⟩ := lvl_mem.mp hq
      by_cases hk2 : k < as.length
      · rw [List.getElem?_append_left hk2] at hk
        have := lvargs_nl (ad := ad) as 0 h1 k v hk
        rw [← hq1, ← hq2] at this
        exact this
      · rw [List.getElem?_append_right (by omega)] at hk
        have := List.eq_of_mem_replicate (List.mem_of_getElem? hk)
        subst this
        cases hu
    · by_cases hk2 : j < as.length
      · rw [List.getElem?_append_left hk2] at hj
        have := List.all_eq_true.mp h1 _ (List.mem_of_getElem? hj)
        cases this
      · rw [List.getElem?_append_right (by omega)] at hj
        have := List.eq_of_mem_replicate (List.mem_of_getElem? hj)
        cases this
    · have := h2 j hj
      rw [List.getElem?_append_right (by omega)] at hv
      exact List.eq_of_mem_replicate (List.mem_of_getElem? hv)
    · rcases List.mem_append.mp hv with h9 | h9
      · exact (hs v h9).1
      · have := List.eq_of_mem_replicate h9
        subst this
        exact trivial
  · have hsl : lg_sl ([Sum.inr (Sum.inl q), aL x].map (rv ad)) = [.val (.ref (ad q.2.2)), .val (.long (Int64.ofInt x)), .second] := rfl
    have hl := lv_entry ([Sum.inr (Sum.inl q), aL x].map (rv ad)) (n := mdL z) (by rw [hsl]; exact h4)
    have h0 : ¬ 0 ∈ mdG z := fun h9 => by rcases h2 0 h9 with h | h <;> omega
    have hi : ini z [Sum.inr (Sum.inl q), aL x] = [Sum.inr (Sum.inl q), aL x, aU] ++ List.replicate (mdL z - 3) aU := by
      unfold ini
      have : slG (mdG z) 0 [Sum.inr (Sum.inl q), aL x] = [Sum.inr (Sum.inl q), aL x, aU] := by
        simp only [slG]
        rw [if_neg h0, if_pos h3]
      rw [this]
      rfl
    rw [hi]
    have hg : ∀ (k : Nat) (v : AV), ([Sum.inr (Sum.inl q), aL x, aU] ++ List.replicate (mdL z - 3) aU)[k]? = some v → (k = 0 ∧ v = Sum.inr (Sum.inl q)) ∨ (k = 1 ∧ v = aL x) ∨ v = aU := by
      intro k v hk
      match k with
      | 0 => exact Or.inl ⟨rfl, by simpa using hk.symm⟩
      | 1 => exact Or.inr (Or.inl ⟨rfl, by simpa using hk.symm⟩)
      | 2 => exact Or.inr (Or.inr (by simpa using hk.symm))
      | k + 3 =>
        rw [List.getElem?_append_right (by simp)] at hk
        exact Or.inr (Or.inr (List.eq_of_mem_replicate (List.mem_of_getElem? hk)))
    refine ⟨by simp; omega, ⟨hl.1, hl.2.1, fun p hp => hl.2.2 p ?_⟩, fun j x' hj => ?_, fun j hj v hv => ?_, fun v hv => ?_⟩
    · obtain ⟨k, v, hk, hq1, hu, hq2⟩ := lvl_mem.mp hp
      rcases hg k v hk with ⟨rfl, rfl⟩ | ⟨rfl, rfl⟩ | rfl
      · have : p = (0, .ref (ad q.2.2)) := Prod.ext (by simpa using hq1) hq2
        rw [this]; exact List.mem_cons_self
      · have : p = (1, .long (Int64.ofInt x)) := Prod.ext (by simpa using hq1) hq2
        rw [this]; exact List.mem_cons_of_mem _ List.mem_cons_self
      · cases hu
    · rcases hg j _ hj with ⟨rfl, h9⟩ | ⟨rfl, h9⟩ | h9
      · cases h9
      · exact h3
      · cases h9
    · rcases hg (j + 1) v hv with ⟨h8, h9⟩ | ⟨h8, h9⟩ | h9
      · omega
      · exact absurd hj (by rw [show j = 0 by omega]; exact h0)
      · exact h9
    · obtain ⟨k, hk⟩ := List.getElem?_of_mem hv
      rcases hg k v hk with ⟨rfl, rfl⟩ | ⟨rfl, rfl⟩ | rfl
      · exact (hs _ List.mem_cons_self).1
      · exact trivial
      · exact trivial
section CN
variable {p : Program} {l : Launch} {e : Env} {R : Room} {s : State} {m : MethodId} {args : Array Value} {below : List Frame} {meth : Method} {c : Code} {D : va_G} {T : Nat → ClassId} {A : Nat → Prop} {ad : Nat → Nat} {S : List Nat} {H0 : Heap} {Q : State → Prop} {y pc : Nat} {ls st : List AV} {M : Mem}
theorem br_call {H : Heap} {locs : List Loc} {js : Array Slot} {st0 rest : List Value} {a : Array Value} {r : List AV} {M' : Mem} (hr : va_Run p l e R s m args below meth c H locs 0 0 0 0 (F0 m pc js st0) rest (Qg D T A ad S r M' a) A) (hl : r.length ≤ 1) (hS : va_S A H0 H locs)
    (kk : ∀ (H1 : Heap) (locs1 : List Loc), va_P D classes (wld T ad M' S) H1 → va_S A H0 H1 locs1 → W p l e R s m args below meth c H1 locs1 0 0 Q (F0 m (pc + 3) js (r.map (rv ad) ++ rest))) : W p l e R s m args below meth c H locs 0 0 Q (F0 m pc js st0) := by
  intro T1 hT X
  obtain ⟨v, st₀, t, T', L, h0, X', hL, e1, e2, ⟨⟨hv, hb⟩, hz, hk⟩, st⟩ := hr T1 hT X
  have hv' : v.toList = r.map (rv ad) := by
    have : v = (r.map (rv ad)).head? := by injection hv
    rw [this]
    match r, hl with
    | [], _ => rfl
    | [w], _ => rfl
  rw [h0] at hz hk
  obtain ⟨t2, a1, b1⟩ := kk T'.heap (locs ++ L) (by rw [e1]; exact hb)
    ⟨Nat.le_trans hS.1 (by rw [e1]; exact hz), fun q h1 h2 => by rw [e1, hk q (Nat.lt_of_lt_of_le h1 hS.1) h2]; exact hS.2.1 q h1 h2, fun q hq => by
      rcases List.mem_append.mp hq with h | h
      · exact hS.2.2 q h
      · exact hL q h⟩ T' rfl X'
  rw [hv'] at st
  exact ⟨t2, st t2 a1, b1⟩
theorem sk_callV (C : Cx p s m args meth c D T A ad S y) {d z x n a : Nat} {as' r st' : List AV} {M' : Mem} (hR : R = rmd (d + 1)) (hz : z < 227) (hv : (mdq z).2.1 = true) (h13 : mdO z < 13) (hp : npar z = some as'.length) (hd : decode (mdB y) pc = .ok (.invokevirtual x, 3)) (hl : mlk (mdO y) z x = true) (hcw : stw st' ≤ 8)
    (hM : Met l (mdY z) (wsz z) (rmd d) (Pcz D T ad S (aR (10 + mdO z) n a :: as') M) (Qg D T A ad S r M') 0 0 A) (hr1 : r.length ≤ 1) (hrs : SRs S r) (k : Wt p l e R s m args below meth c D T A ad S H0 Q y (pc + 3) ls (r ++ st') M') :
    Wt p l e R s m args below meth c D T A ad S H0 Q y pc ls (as'.reverse ++ aR (10 + mdO z) n a :: st') M := by
  obtain ⟨hx, hb, hml, hr, hown, hts, hK, hlk, hD, hC⟩ := C
  intro js H locs hL hs hP hS
  obtain ⟨g1, g2, g3, g4, g5, g6, g7⟩ := md_spec hz
  have hst' : SRs S st' := fun v hv => hs v (List.mem_append_right _ (List.mem_cons_of_mem _ hv))
  obtain ⟨ha, hsh⟩ : a ∈ S ∧ shp a = (10 + mdO z, n) := (hs _ (List.mem_append_right _ List.mem_cons_self)).1
  obtain ⟨q0, hq0⟩ := List.getElem?_of_mem ha
  have he : (wld T ad M S)[q0]? = some (ad a, .inr (mdO z, flds ad M a (mdO z))) := by rw [wld_a hq0, went_obj hsh (by omega), Nat.add_sub_cancel_left]
  have hlen : mdL z ≤ 40 := mdL_le z
  have cb := callB_of (R := R) (own := cR (mdO y)) (index := x) (mc := 0) (ms := 0) as'.length hts (wsz_good hz) (ws' := gtb) rfl (rm := rmd d) rfl rfl (hts _ g4) (hts _ (mlk_spec hl)) ⟨g5.1, g5.2, hp⟩ ⟨by rw [hR]; exact Nat.le_refl _, by rw [hR]; show 8 + (mdL z + 11) + 60 * (d + 1) ≤ 60 * (d + 1 + 1); omega⟩
  have hrun := va_runV (As := as'.map (rv ad)) (b := ad a) (rest := st'.map (rv ad)) (locs := locs) (cells := 0) (slots := 0) (below := below) (e := e) (meth := meth) (g := F0 m pc js ((as'.reverse ++ aR (10 + mdO z) n a :: st').map (rv ad))) (C := (mdY z).cls) (H := H) ⟨hx, hb, hml, hown, hts⟩ hM ⟨cb, hts _ (g2 hv).1, hts _ (g2 hv).2⟩
    ⟨pcz_blind, by rw [g7]; exact va_recv hK hP (ci := mdO z) (q := (cR (mdO z), cT (mdO z), cN (mdO z))) (cls_at _ h13) he, fun U hU hW => ⟨rfl, by rw [hU]; exact hP, va_K.moved hW.alike hK⟩⟩ rfl (by simp) hL.2.1.1 (by simp [rv]) (by show 2 * 0 + _ ≤ 8; rw [rv_sum]; omega) hd ⟨Nat.zero_le _, Nat.zero_le _⟩
  refine br_call hrun hr1 hS (fun H1 locs1 hP1 hS1 => ?_)
  have := k js H1 locs1 hL (fun v hv => by
    rcases List.mem_append.mp hv with h9 | h9
    · exact hrs v h9
    · exact hst' v h9) hP1 hS1
  rwa [List.map_append] at this
theorem sk_callS (C : Cx p s m args meth c D T A ad S y) {d z x : Nat} {as r st' : List AV} {M' : Mem} (hR : R = rmd (d + 1)) (hz : z < 227) (hv : (mdq z).2.1 = false) (hp : npar z = some as.length) (hd : decode (mdB y) pc = .ok (.invokestatic x, 3)) (hl : mlk (mdO y) z x = true) (hcw : stw st' ≤ 8)
    (hM : Met l (mdY z) (wsz z) (rmd d) (Pcz D T ad S as M) (Qg D T A ad S r M') 0 0 A) (hr1 : r.length ≤ 1) (hrs : SRs S r) (k : Wt p l e R s m args below meth c D T A ad S H0 Q y (pc + 3) ls (r ++ st') M') :
    Wt p l e R s m args below meth c D T A ad S H0 Q y pc ls (as.reverse ++ st') M := by
  obtain ⟨hx, hb, hml, hr, hown, hts, hK, hlk, hD, hC⟩ := C
  intro js H locs hL hs hP hS
  obtain ⟨g1, g2, g3, g4, g5, g6, g7⟩ := md_spec hz
  have hst' : SRs S st' := fun v hv => hs v (List.mem_append_right _ hv)
  have hlen : mdL z ≤ 40 := mdL_le z
  have cb := callB_of (R := R) (own := cR (mdO y)) (index := x) (mc := 0) (ms := 0) as.length hts (wsz_good hz) (ws' := gtb) rfl (rm := rmd d) rfl rfl (hts _ g4) (hts _ (mlk_spec hl)) ⟨g5.1, g5.2, hp⟩ ⟨by rw [hR]; exact Nat.le_refl _, by rw [hR]; show 8 + (mdL z + 11) + 60 * (d + 1) ≤ 60 * (d + 1 + 1); omega⟩
  have hrun := va_runS (As := as.map (rv ad)) (rest := st'.map (rv ad)) (locs := locs) (cells := 0) (slots := 0) (below := below) (e := e) (meth := meth) (g := F0 m pc js ((as.reverse ++ st').map (rv ad))) (H := H) ⟨hx, hb, hml, hown, hts⟩ hM ⟨cb, hts _ (g3 hv)⟩
    ⟨pcz_blind, fun U hU hW => ⟨rfl, by rw [hU]; exact hP, va_K.moved hW.alike hK⟩⟩ rfl (by simp) hL.2.1.1 (by simp) (by show 2 * 0 + _ ≤ 8; rw [rv_sum]; omega) hd ⟨Nat.zero_le _, Nat.zero_le _⟩
  refine br_call hrun hr1 hS (fun H1 locs1 hP1 hS1 => ?_)
  have := k js H1 locs1 hL (fun v hv => by
    rcases List.mem_append.mp hv with h9 | h9
    · exact hrs v h9
    · exact hst' v h9) hP1 hS1
  rwa [List.map_append] at this
theorem sk_62 (C : Cx p s m args meth c D T A ad S y) {z u : Int} (hd : decode (mdB y) pc = .ok (.ireturn, 1)) (hz : u = 0 ∨ (z = 0 ∨ z = 1)) (ho : (u = 0 ∧ mdR y = some .int) ∨ (u = 1 ∧ mdR y = some .boolean)) :
    Wt p l e R s m args below meth c D T A ad S s.heap (MQ below (Qg D T A ad S [aI z] M) args s 0 0 A) y pc ls [aI z] M := by
  obtain ⟨hx, hb, hml, hr, hown, hts, hK, hlk, hD, hC⟩ := C
  intro js H locs hL hs hP hS
  have hq : ∀ t : State, t.heap = H → s.WarmedH t.vm → Qg D T A ad S [aI z] M args s (.returned (some (.int (Int32.ofInt z)))) t := fun t ht _ => ⟨⟨rfl, by rw [ht]; exact hP⟩, hS.F ht⟩
  rcases ho with ⟨-, ho⟩ | ⟨rfl, ho⟩
  · exact W.zret hx hb (by rw [hr, ho]) rfl hq hS.2.2 hd hlk
  · have hz := hz.resolve_left (by decide)
    exact W.zret (ty := .boolean) hx hb (by rw [hr, ho]) (by rcases hz with rfl | rfl <;> rfl) hq hS.2.2 hd hlk
theorem sk_63 (C : Cx p s m args meth c D T A ad S y) (hd : decode (mdB y) pc = .ok (.return_, 1)) (ho : mdR y = none) :
    Wt p l e R s m args below meth c D T A ad S s.heap (MQ below (Qg D T A ad S [] M) args s 0 0 A) y pc ls [] M := by
  obtain ⟨hx, hb, hml, hr, hown, hts, hK, hlk, hD, hC⟩ := C
  intro js H locs hL hs hP hS
  have hq : ∀ t : State, t.heap = H → s.WarmedH t.vm → Qg D T A ad S [] M args s (.returned none) t := fun t ht _ => ⟨⟨rfl, by rw [ht]; exact hP⟩, hS.F ht⟩
  exact W.vret hx hb (by rw [hr, ho]) hq hS.2.2 hd hlk
end CN
theorem exec_shR : ∀ (n d y : Nat) (c : List Ent) (ls st : List AV) (M : Mem) (r : List AV × Mem), exec n d y c ls st M = some r → shR r.1 := by
  intro n
  induction n with
  | zero => intro d y c ls st M r h; cases h
  | succ n ih =>
    intro d y c ls st M r h
    cases c with
    | nil => cases h
    | cons e c =>
      obtain ⟨pc, ln, op, u, v, w, x⟩ := e
      simp only [exec] at h
      cases hst : step y (pc, ln, op, u, v, w, x) c ls st M with
      | none => rw [hst] at h; cases h
      | some res =>
        rw [hst] at h
        rcases shape hst with ⟨q, rfl⟩ | ⟨q, rfl⟩ | ⟨r1, rfl, hr⟩
        · exact ih _ _ _ _ _ _ _ h
        · simp only at h
          cases d with
          | zero => cases h
          | succ d =>
            simp only at h
            split at h
            · cases h
            · exact ih _ _ _ _ _ _ _ h
        · simp only [Option.some.injEq] at h
          subst h
          exact hr
section SM
variable {p : Program} {l : Launch} {e : Env} {R : Room} {s : State} {m : MethodId} {args : Array Value} {below : List Frame} {meth : Method} {c : Code} {D : va_G} {T : Nat → ClassId} {A : Nat → Prop} {ad : Nat → Nat} {S : List Nat} {y : Nat}
def IHP (l : Launch) (D : va_G) (T : Nat → ClassId) (A : Nat → Prop) (ad : Nat → Nat) (S : List Nat) (d : Nat) : Prop :=
  ∀ (z : Nat) (as r : List AV) (M M' : Mem), z < 227 → eOK z as → SRs S as → (∃ n, exec n d z (blk z 0) (ini z as) [] M = some (r, M')) → Met l (mdY z) (wsz z) (rmd d) (Pcz D T ad S as M) (Qg D T A ad S r M') 0 0 A
theorem sim (C : Cx p s m args meth c D T A ad S y) (hy : y < 227) (d : Nat) (hR : R = rmd d) (hIH : ∀ d', d = d' + 1 → IHP l D T A ad S d') : ∀ (n : Nat) (c0 : List Ent) (ls st : List AV) (M : Mem) (pc : Nat) (r : List AV × Mem), exec n d y c0 ls st M = some r → cody y pc c0 = true →
    Wt p l e R s m args below meth c D T A ad S s.heap (MQ below (Qg D T A ad S r.1 r.2) args s 0 0 A) y pc ls st M := by
  intro n
  induction n with
  | zero => intro c0 ls st M pc r h; cases h
  | succ n ih =>
    intro c0 ls st M pc r h hcod
    cases c0 with
    | nil => cases h
    | cons e0 c0 =>
      obtain ⟨pc', ln, op, u, v, w, x⟩ := e0
      simp only [cody, cod, Bool.and_eq_true, Bool.or_eq_true, decide_eq_true_eq] at hcod
      obtain ⟨⟨rfl, hok⟩, hc⟩ := hcod
      simp only [okE, Bool.and_eq_true, Bool.or_eq_true, decide_eq_true_eq] at hok
      obtain ⟨hd, ho⟩ := hok
      have hb : ∀ L, cody y L (blk y L) = true := blk_cod hy
      simp only [exec] at h
      cases hst : step y (pc', ln, op, u, v, w, x) c0 ls st M with
      | none => rw [hst] at h; cases h
      | some res =>
        rw [hst] at h
        by_cases h59 : op = 59
        · subst h59
          have hd2 := hd.resolve_left (by decide)
          clear hd
          rw [in_59] at hd2
          rw [ok_59] at ho
          simp only [Bool.and_eq_true, decide_eq_true_eq] at ho
          obtain ⟨⟨⟨⟨⟨⟨⟨⟨rfl, ho1⟩, ho2⟩, ho3⟩, ho4⟩, ho5⟩, ho6⟩, ho7⟩, ho8⟩ := ho
          have hc := hc.resolve_left (by decide)
          rw [st_59] at hst
          obtain ⟨i0, i1, i2, i3, rfl⟩ := hcall_inv hst
          simp only at h
          cases d with
          | zero => cases h
          | succ d =>
            simp only at h
            obtain ⟨n1, a1, as1, has⟩ := rk_inv (i3.resolve_left (by decide)) (by omega)
            have hst2 : st = as1.reverse ++ aR w n1 a1 :: st.drop u.toNat := by
              have e1 : st.take u.toNat = (aR w n1 a1 :: as1).reverse := by rw [← has, List.reverse_reverse]
              have e2 := List.take_append_drop u.toNat st
              rw [e1] at e2
              have e3 : (aR w n1 a1 :: as1).reverse ++ st.drop u.toNat = as1.reverse ++ aR w n1 a1 :: st.drop u.toNat := by simp
              exact e2.symm.trans e3
            have hlen : as1.length + 1 = u.toNat := by
              have := congrArg List.length has
              rw [List.length_reverse, List.length_take] at this
              simp at this
              omega
            rw [has] at h
            cases hx : exec n d v (blk v 0) (ini v (aR w n1 a1 :: as1)) [] M with
            | none => rw [hx] at h; cases h
            | some r1 =>
              rw [hx] at h
              simp only at h
              have hall : (aR w n1 a1 :: as1).all nlb = true := by rw [← has, List.all_reverse]; exact i2
              have hnp : npar v = some as1.length := by
                cases hn : npar v with
                | none => rw [hn] at ho6; cases ho6
                | some k =>
                  rw [hn] at ho6
                  have : k + 1 = u.toNat := Option.some.inj ho6
                  congr 1; omega
              subst ho4
              have hsr := exec_shR _ _ _ _ _ _ _ _ hx
              have hk := ih _ _ _ _ _ _ h hc
              intro js H locs hL hs hP hS
              rw [hst2] at hs ⊢
              have hsas : SRs S (aR (10 + mdO v) n1 a1 :: as1) := fun z hz => by
                rcases List.mem_cons.mp hz with rfl | h9
                · exact hs _ (List.mem_append_right _ List.mem_cons_self)
                · exact hs _ (List.mem_append_left _ (List.mem_reverse.mpr h9))
              have hM := hIH d rfl v (aR (10 + mdO v) n1 a1 :: as1) r1.1 M r1.2 ho2 (Or.inl ⟨hall, fun g hg => by
                have := of_decide_eq_true (List.all_eq_true.mp ho7 g hg)
                show as1.length + 1 ≤ g
                omega, by show as1.length + 1 ≤ mdL v; omega⟩) hsas ⟨n, hx⟩
              exact sk_callV C hR ho2 ho3 ho5 hnp hd2 ho1 i1 hM hsr.len hsr.ok hk js H locs hL hs hP hS
        by_cases h60 : op = 60
        · subst h60
          have hd2 := hd.resolve_left (by decide)
          clear hd
          rw [in_60] at hd2
          rw [ok_60] at ho
          simp only [Bool.and_eq_true, decide_eq_true_eq, Bool.not_eq_true'] at ho
          obtain ⟨⟨⟨⟨⟨⟨rfl, ho1⟩, ho2⟩, ho3⟩, ho6⟩, ho7⟩, ho8⟩ := ho
          have hc := hc.resolve_left (by decide)
          rw [st_60] at hst
          obtain ⟨i0, i1, i2, i3, rfl⟩ := hcall_inv hst
          simp only at h
          cases d with
          | zero => cases h
          | succ d =>
            simp only at h
            have hst2 : st = (st.take u.toNat).reverse.reverse ++ st.drop u.toNat := by rw [List.reverse_reverse, List.take_append_drop]
            have hlen : (st.take u.toNat).reverse.length = u.toNat := by rw [List.length_reverse, List.length_take]; omega
            generalize (st.take u.toNat).reverse = as1 at h hst2 hlen
            cases hx : exec n d v (blk v 0) (ini v as1) [] M with
            | none => rw [hx] at h; cases h
            | some r1 =>
              rw [hx] at h
              simp only at h
              have hsr := exec_shR _ _ _ _ _ _ _ _ hx
              have hk := ih _ _ _ _ _ _ h hc
              intro js H locs hL hs hP hS
              have hall : as1.all nlb = true := by
                have e1 : st.take u.toNat = as1.reverse := by
                  have e2 := hst2
                  have e3 : st = st.take u.toNat ++ st.drop u.toNat := (List.take_append_drop _ _).symm
                  rw [e3] at e2
                  exact List.append_cancel_right (by rw [← e3] at e2; rw [List.take_append_drop]; exact e2)
                rw [e1, List.all_reverse] at i2
                exact i2
              rw [hst2] at hs ⊢
              have hsas : SRs S as1 := fun z hz => hs _ (List.mem_append_left _ (List.mem_reverse.mpr hz))
              have hM := hIH d rfl v as1 r1.1 M r1.2 ho2 (Or.inl ⟨hall, fun g hg => by
                have := of_decide_eq_true (List.all_eq_true.mp ho7 g hg)
                omega, by omega⟩) hsas ⟨n, hx⟩
              exact sk_callS C hR ho2 ho3 (by rw [hlen]; exact ho6) hd2 ho1 i1 hM hsr.len hsr.ok hk js H locs hL hs hP hS
        by_cases h64 : op = 64
        · subst h64
          have hd2 := hd.resolve_left (by decide)
          clear hd
          rw [in_64] at hd2
          rw [ok_64] at ho
          simp only [Bool.and_eq_true, decide_eq_true_eq] at ho
          obtain ⟨⟨⟨⟨⟨⟨⟨⟨⟨rfl, ho1⟩, ho2⟩, ho3⟩, ho4⟩, ho5⟩, ho6⟩, ho7⟩, ho8⟩, ho9⟩ := ho
          have hc := hc.resolve_left (by decide)
          obtain ⟨z1, n1, a1, st0, rfl, i1, rfl⟩ := st_64 hst
          simp only at h
          cases d with
          | zero => cases h
          | succ d =>
            simp only at h
            cases hx : exec n d v (blk v 0) (ini v [aR w n1 a1, aL z1]) [] M with
            | none => rw [hx] at h; cases h
            | some r1 =>
              rw [hx] at h
              simp only at h
              subst ho4
              have hsr := exec_shR _ _ _ _ _ _ _ _ hx
              have hk := ih _ _ _ _ _ _ h hc
              intro js H locs hL hs hP hS
              have hsas : SRs S [aR (10 + mdO v) n1 a1, aL z1] := SRs.c hs.t.h (SRs.l (fun v hv => by cases hv))
              have hM := hIH d rfl v [aR (10 + mdO v) n1 a1, aL z1] r1.1 M r1.2 ho2 (Or.inr ⟨_, _, rfl, fun g hg => of_decide_eq_true (List.all_eq_true.mp ho7 g hg), ho8, ho9⟩) hsas ⟨n, hx⟩
              exact sk_callV (as' := [aL z1]) C hR ho2 ho3 ho5 ho6 hd2 ho1 i1 hM hsr.len hsr.ok hk js H locs hL hs hP hS
        by_cases h62 : op = 62
        · subst h62
          have hd2 := hd.resolve_left (by decide)
          clear hd
          rw [in_62] at hd2
          rw [ok_62] at ho
          simp only [Bool.and_eq_true, Bool.or_eq_true, decide_eq_true_eq] at ho
          obtain ⟨rfl, ho⟩ := ho
          obtain ⟨z, rfl, hz, rfl⟩ := st_62 hst
          simp only [Option.some.injEq] at h
          subst h
          exact sk_62 C hd2 hz ho
        by_cases h63 : op = 63
        · subst h63
          have hd2 := hd.resolve_left (by decide)
          clear hd
          rw [in_63] at hd2
          rw [ok_63] at ho
          simp only [Bool.and_eq_true, decide_eq_true_eq] at ho
          obtain ⟨rfl, ho⟩ := ho
          obtain ⟨rfl, rfl⟩ := st_63 hst
          simp only [Option.some.injEq] at h
          subst h
          exact sk_63 C hd2 ho
        obtain ⟨q, rfl, hk⟩ := dp_all (l := l) (e := e) (R := R) (below := below) (H0 := s.heap) (Q := MQ below (Qg D T A ad S r.1 r.2) args s 0 0 A) C hd ho hc hb (by rw [hR]; exact ⟨by show 1 ≤ d + 1; omega, by show 60 ≤ 60 * (d + 1); omega⟩) hst ⟨h59, h60, h62, h63, h64⟩
        exact hk (fun pc2 hpc2 => ih _ _ _ _ _ _ h hpc2)
theorem con0 (hD : adD A ad S) (hC : clo S = true) (d : Nat) (hIH : ∀ d', d = d' + 1 → IHP l D T A ad S d') : IHP l D T A ad S d := by
  intro z as r M M' hz he hs ⟨n, hx⟩
  obtain ⟨g1, g2, g3, g4, g5, g6, g7⟩ := md_spec hz
  refine Met_ofF (cc := mdB z) (maxL := mdL z) (ret := mdR z) g6 rfl ?_
  intro p e s m args below meth c s₁ B hml hv
  obtain ⟨rfl, hP, hK⟩ := hv
  have hts := atoms_spec (ws := wsz z) B.pre
  have hown : s.vm.findClass (cR (mdO z)) = some m.cls := by rw [← g7]; exact findClass_of_methodNamed B.named
  have C : Cx p s m _ meth c D T A ad S z := ⟨B.exec, B.bytes, hml, B.returns, hown, fun w hw => hts w (List.mem_cons_of_mem _ hw), hK, B.notSynchronized, hD, hC⟩
  rw [lg_entry_eq]
  exact sim C hz d rfl hIH n (blk z 0) (ini z as) [] M 0 (r, M') hx (blk_cod hz 0) _ _ _ (ent_LR he hs) (fun v hv => by cases hv) hP va_S.rf
theorem con (hD : adD A ad S) (hC : clo S = true) : ∀ d, IHP l D T A ad S d := by
  intro d
  induction d with
  | zero => exact con0 hD hC 0 (fun d' h => by omega)
  | succ d ih =>
    refine con0 hD hC (d + 1) (fun d' h => ?_)
    have h2 : d = d' := by omega
    rw [← h2]
    exact ih
end SM
