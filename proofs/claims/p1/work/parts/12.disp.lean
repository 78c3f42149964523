/-! THE BRIDGE: one step, any -/
def cody (y pc : Nat) (c : List Ent) : Bool := cod (mdB y) (mdO y) (mdG y) (mdL y) (mdR y) pc c
section DI
variable {p : Program} {l : Launch} {e : Env} {R : Room} {s : State} {m : MethodId} {args : Array Value} {below : List Frame} {meth : Method} {c : Code} {D : va_G} {T : Nat → ClassId} {A : Nat → Prop} {ad : Nat → Nat} {S : List Nat} {H0 : Heap} {Q : State → Prop} {y pc ln v w x : Nat} {u : Int} {c0 : List Ent} {ls st : List AV} {M : Mem} {res : Cfg ⊕ ((Nat × List AV × Cfg) ⊕ (List AV × Mem))}
/-- what a step comes to, in the machine -/
def DP (p : Program) (l : Launch) (e : Env) (R : Room) (s : State) (m : MethodId) (args : Array Value) (below : List Frame) (meth : Method) (c : Code) (D : va_G) (T : Nat → ClassId) (A : Nat → Prop) (ad : Nat → Nat) (S : List Nat) (H0 : Heap) (Q : State → Prop) (y pc : Nat) (ls st : List AV) (M : Mem) (res : Cfg ⊕ ((Nat × List AV × Cfg) ⊕ (List AV × Mem))) : Prop :=
  ∃ q : Cfg, res = Sum.inl q ∧ ((∀ pc', cody y pc' q.1 = true → Wt p l e R s m args below meth c D T A ad S H0 Q y pc' q.2.1 q.2.2.1 q.2.2.2) → Wt p l e R s m args below meth c D T A ad S H0 Q y pc ls st M)
theorem dp_0 (C : Cx p s m args meth c D T A ad S y) (ho : okX (mdO y) (mdG y) (mdL y) (mdR y) (pc, ln, 0, u, v, w, x) = true) (hc : tmn 0 = true ∨ cody y (pc + ln) c0 = true) (hb : ∀ L, cody y L (blk y L) = true) (hs : step y (pc, ln, 0, u, v, w, x) c0 ls st M = some res) : DP p l e R s m args below meth c D T A ad S H0 Q y pc ls st M res := by
  rw [ok_0] at ho
  rw [st_0] at hs
  simp only [nx, Option.some.injEq] at hs
  subst hs
  have hv : v = pc := of_decide_eq_true ho
  subst hv
  exact ⟨_, rfl, fun k => k v (hb v)⟩
theorem dp_1 (C : Cx p s m args meth c D T A ad S y) (hd : decode (mdB y) pc = .ok (ins (pc, ln, 1, u, v, w, x), ln)) (ho : okX (mdO y) (mdG y) (mdL y) (mdR y) (pc, ln, 1, u, v, w, x) = true) (hc : tmn 1 = true ∨ cody y (pc + ln) c0 = true) (hb : ∀ L, cody y L (blk y L) = true) (hs : step y (pc, ln, 1, u, v, w, x) c0 ls st M = some res) : DP p l e R s m args below meth c D T A ad S H0 Q y pc ls st M res := by
  rw [ok_1] at ho
  rw [in_1] at hd
  have hc := hc.resolve_left (by decide)
  obtain ⟨z, hz, rfl⟩ := st_1 hs
  exact ⟨_, rfl, fun k => sk_il C hd ho hz (k _ hc)⟩
theorem dp_2 (C : Cx p s m args meth c D T A ad S y) (hd : decode (mdB y) pc = .ok (ins (pc, ln, 2, u, v, w, x), ln)) (ho : okX (mdO y) (mdG y) (mdL y) (mdR y) (pc, ln, 2, u, v, w, x) = true) (hc : tmn 2 = true ∨ cody y (pc + ln) c0 = true) (hb : ∀ L, cody y L (blk y L) = true) (hs : step y (pc, ln, 2, u, v, w, x) c0 ls st M = some res) : DP p l e R s m args below meth c D T A ad S H0 Q y pc ls st M res := by
  rw [ok_2] at ho
  rw [in_2] at hd
  have hc := hc.resolve_left (by decide)
  obtain ⟨z, hz, rfl⟩ := st_2 hs
  exact ⟨_, rfl, fun k => sk_ll C hd ho hz (k _ hc)⟩
theorem dp_3 (C : Cx p s m args meth c D T A ad S y) (hd : decode (mdB y) pc = .ok (ins (pc, ln, 3, u, v, w, x), ln)) (ho : okX (mdO y) (mdG y) (mdL y) (mdR y) (pc, ln, 3, u, v, w, x) = true) (hc : tmn 3 = true ∨ cody y (pc + ln) c0 = true) (hb : ∀ L, cody y L (blk y L) = true) (hs : step y (pc, ln, 3, u, v, w, x) c0 ls st M = some res) : DP p l e R s m args below meth c D T A ad S H0 Q y pc ls st M res := by
  rw [ok_3] at ho
  rw [in_3] at hd
  have hc := hc.resolve_left (by decide)
  obtain ⟨z, hz, rfl⟩ := st_3 hs
  exact ⟨_, rfl, fun k => sk_al C hd ho hz (k _ hc)⟩
theorem dp_4 (C : Cx p s m args meth c D T A ad S y) (hd : decode (mdB y) pc = .ok (ins (pc, ln, 4, u, v, w, x), ln)) (ho : okX (mdO y) (mdG y) (mdL y) (mdR y) (pc, ln, 4, u, v, w, x) = true) (hc : tmn 4 = true ∨ cody y (pc + ln) c0 = true) (hb : ∀ L, cody y L (blk y L) = true) (hs : step y (pc, ln, 4, u, v, w, x) c0 ls st M = some res) : DP p l e R s m args below meth c D T A ad S H0 Q y pc ls st M res := by
  rw [ok_4] at ho
  rw [in_4] at hd
  simp only [Bool.and_eq_true, decide_eq_true_eq] at ho
  have hc := hc.resolve_left (by decide)
  obtain ⟨z, st0, rfl, rfl⟩ := st_4 hs
  exact ⟨_, rfl, fun k => sk_is C hd ho.1.1 ho.1.2 ho.2 (k _ hc)⟩
theorem dp_5 (C : Cx p s m args meth c D T A ad S y) (hd : decode (mdB y) pc = .ok (ins (pc, ln, 5, u, v, w, x), ln)) (ho : okX (mdO y) (mdG y) (mdL y) (mdR y) (pc, ln, 5, u, v, w, x) = true) (hc : tmn 5 = true ∨ cody y (pc + ln) c0 = true) (hb : ∀ L, cody y L (blk y L) = true) (hs : step y (pc, ln, 5, u, v, w, x) c0 ls st M = some res) : DP p l e R s m args below meth c D T A ad S H0 Q y pc ls st M res := by
  rw [ok_5] at ho
  rw [in_5] at hd
  simp only [Bool.and_eq_true, decide_eq_true_eq] at ho
  have hc := hc.resolve_left (by decide)
  obtain ⟨z, st0, rfl, rfl⟩ := st_5 hs
  exact ⟨_, rfl, fun k => sk_ls C hd ho.1.1.1 ho.1.1.2 ho.1.2 ho.2 (k _ hc)⟩
theorem dp_6 (C : Cx p s m args meth c D T A ad S y) (hd : decode (mdB y) pc = .ok (ins (pc, ln, 6, u, v, w, x), ln)) (ho : okX (mdO y) (mdG y) (mdL y) (mdR y) (pc, ln, 6, u, v, w, x) = true) (hc : tmn 6 = true ∨ cody y (pc + ln) c0 = true) (hb : ∀ L, cody y L (blk y L) = true) (hs : step y (pc, ln, 6, u, v, w, x) c0 ls st M = some res) : DP p l e R s m args below meth c D T A ad S H0 Q y pc ls st M res := by
  rw [ok_6] at ho
  rw [in_6] at hd
  simp only [Bool.and_eq_true, decide_eq_true_eq] at ho
  have hc := hc.resolve_left (by decide)
  obtain ⟨z, st0, rfl, rfl⟩ := st_6 hs
  exact ⟨_, rfl, fun k => sk_as C hd ho.1.1 ho.1.2 ho.2 (k _ hc)⟩
theorem dp_7 (C : Cx p s m args meth c D T A ad S y) (hd : decode (mdB y) pc = .ok (ins (pc, ln, 7, u, v, w, x), ln)) (ho : okX (mdO y) (mdG y) (mdL y) (mdR y) (pc, ln, 7, u, v, w, x) = true) (hc : tmn 7 = true ∨ cody y (pc + ln) c0 = true) (hb : ∀ L, cody y L (blk y L) = true) (hs : step y (pc, ln, 7, u, v, w, x) c0 ls st M = some res) : DP p l e R s m args below meth c D T A ad S H0 Q y pc ls st M res := by
  rw [ok_7] at ho
  rw [in_7] at hd
  simp only [Bool.and_eq_true, decide_eq_true_eq] at ho
  have hc := hc.resolve_left (by decide)
  obtain ⟨z, hz, rfl⟩ := st_7 hs
  obtain ⟨⟨rfl, h1⟩, h2⟩ := ho
  exact ⟨_, rfl, fun k => sk_inc C hd h1 h2 hz (k _ hc)⟩
theorem dp_8 (C : Cx p s m args meth c D T A ad S y) (hd : decode (mdB y) pc = .ok (ins (pc, ln, 8, u, v, w, x), ln)) (ho : okX (mdO y) (mdG y) (mdL y) (mdR y) (pc, ln, 8, u, v, w, x) = true) (hc : tmn 8 = true ∨ cody y (pc + ln) c0 = true) (hb : ∀ L, cody y L (blk y L) = true) (hs : step y (pc, ln, 8, u, v, w, x) c0 ls st M = some res) : DP p l e R s m args below meth c D T A ad S H0 Q y pc ls st M res := by
  rw [ok_8] at ho
  rw [in_8] at hd
  have hc := hc.resolve_left (by decide)
  rw [st_8] at hs
  simp only [nx, Option.some.injEq] at hs
  subst hs
  have hln : ln = 1 := of_decide_eq_true ho
  subst hln
  exact ⟨_, rfl, fun k => sk_8 (x := x) C hd (k _ hc)⟩
theorem dp_9 (C : Cx p s m args meth c D T A ad S y) (hd : decode (mdB y) pc = .ok (ins (pc, ln, 9, u, v, w, x), ln)) (ho : okX (mdO y) (mdG y) (mdL y) (mdR y) (pc, ln, 9, u, v, w, x) = true) (hc : tmn 9 = true ∨ cody y (pc + ln) c0 = true) (hb : ∀ L, cody y L (blk y L) = true) (hs : step y (pc, ln, 9, u, v, w, x) c0 ls st M = some res) : DP p l e R s m args below meth c D T A ad S H0 Q y pc ls st M res := by
  rw [ok_9] at ho
  rw [in_9] at hd
  simp only [Bool.and_eq_true, decide_eq_true_eq] at ho
  have hc := hc.resolve_left (by decide)
  rw [st_9] at hs
  simp only [nx, Option.some.injEq] at hs
  subst hs
  have hln := ho.1
  subst hln
  exact ⟨_, rfl, fun k => sk_9 (x := x) C hd ho.2 (k _ hc)⟩
theorem dp_10 (C : Cx p s m args meth c D T A ad S y) (hd : decode (mdB y) pc = .ok (ins (pc, ln, 10, u, v, w, x), ln)) (ho : okX (mdO y) (mdG y) (mdL y) (mdR y) (pc, ln, 10, u, v, w, x) = true) (hc : tmn 10 = true ∨ cody y (pc + ln) c0 = true) (hb : ∀ L, cody y L (blk y L) = true) (hs : step y (pc, ln, 10, u, v, w, x) c0 ls st M = some res) : DP p l e R s m args below meth c D T A ad S H0 Q y pc ls st M res := by
  rw [ok_10] at ho
  rw [in_10] at hd
  simp only [Bool.and_eq_true, decide_eq_true_eq] at ho
  have hc := hc.resolve_left (by decide)
  rw [st_10] at hs
  simp only [nx, Option.some.injEq] at hs
  subst hs
  have hln := ho.1
  subst hln
  exact ⟨_, rfl, fun k => sk_10 (x := x) C hd ho.2 (k _ hc)⟩
theorem dp_11 (C : Cx p s m args meth c D T A ad S y) (hd : decode (mdB y) pc = .ok (ins (pc, ln, 11, u, v, w, x), ln)) (ho : okX (mdO y) (mdG y) (mdL y) (mdR y) (pc, ln, 11, u, v, w, x) = true) (hc : tmn 11 = true ∨ cody y (pc + ln) c0 = true) (hb : ∀ L, cody y L (blk y L) = true) (hs : step y (pc, ln, 11, u, v, w, x) c0 ls st M = some res) : DP p l e R s m args below meth c D T A ad S H0 Q y pc ls st M res := by
  rw [ok_11] at ho
  rw [in_11] at hd
  rw [Bool.and_eq_true, decide_eq_true_eq] at ho
  have hc := hc.resolve_left (by decide)
  rw [st_11] at hs
  simp only [nx, Option.some.injEq] at hs
  subst hs
  have hln := ho.1
  subst hln
  exact ⟨_, rfl, fun k => sk_11 (x := x) C hd (cox_spec ho.2) (k _ hc)⟩
theorem dp_12 (C : Cx p s m args meth c D T A ad S y) (hd : decode (mdB y) pc = .ok (ins (pc, ln, 12, u, v, w, x), ln)) (ho : okX (mdO y) (mdG y) (mdL y) (mdR y) (pc, ln, 12, u, v, w, x) = true) (hc : tmn 12 = true ∨ cody y (pc + ln) c0 = true) (hb : ∀ L, cody y L (blk y L) = true) (hs : step y (pc, ln, 12, u, v, w, x) c0 ls st M = some res) : DP p l e R s m args below meth c D T A ad S H0 Q y pc ls st M res := by
  rw [ok_12] at ho
  rw [in_12] at hd
  rw [Bool.and_eq_true, decide_eq_true_eq] at ho
  have hc := hc.resolve_left (by decide)
  rw [st_12] at hs
  simp only [nx, Option.some.injEq] at hs
  subst hs
  have hln := ho.1
  subst hln
  exact ⟨_, rfl, fun k => sk_12 (x := x) C hd (cox_spec ho.2) (k _ hc)⟩
theorem dp_13 (C : Cx p s m args meth c D T A ad S y) (hd : decode (mdB y) pc = .ok (ins (pc, ln, 13, u, v, w, x), ln)) (ho : okX (mdO y) (mdG y) (mdL y) (mdR y) (pc, ln, 13, u, v, w, x) = true) (hc : tmn 13 = true ∨ cody y (pc + ln) c0 = true) (hb : ∀ L, cody y L (blk y L) = true) (hs : step y (pc, ln, 13, u, v, w, x) c0 ls st M = some res) : DP p l e R s m args below meth c D T A ad S H0 Q y pc ls st M res := by
  rw [ok_13] at ho
  rw [in_13] at hd
  rw [Bool.and_eq_true, decide_eq_true_eq] at ho
  have hc := hc.resolve_left (by decide)
  rw [st_13] at hs
  simp only [nx, Option.some.injEq] at hs
  subst hs
  have hln := ho.1
  subst hln
  exact ⟨_, rfl, fun k => sk_13 (x := x) C hd (clx_spec ho.2) (k _ hc)⟩
theorem dp_14 (C : Cx p s m args meth c D T A ad S y) (hd : decode (mdB y) pc = .ok (ins (pc, ln, 14, u, v, w, x), ln)) (ho : okX (mdO y) (mdG y) (mdL y) (mdR y) (pc, ln, 14, u, v, w, x) = true) (hc : tmn 14 = true ∨ cody y (pc + ln) c0 = true) (hb : ∀ L, cody y L (blk y L) = true) (hs : step y (pc, ln, 14, u, v, w, x) c0 ls st M = some res) : DP p l e R s m args below meth c D T A ad S H0 Q y pc ls st M res := by
  rw [ok_14] at ho
  rw [in_14] at hd
  simp only [Bool.and_eq_true, decide_eq_true_eq] at ho
  have hc := hc.resolve_left (by decide)
  rw [st_14] at hs
  simp only [nx, Option.some.injEq] at hs
  subst hs
  have hln := ho.1
  subst hln
  exact ⟨_, rfl, fun k => sk_14 (x := x) C hd ho.2 (k _ hc)⟩
theorem dp_15 (C : Cx p s m args meth c D T A ad S y) (hd : decode (mdB y) pc = .ok (ins (pc, ln, 15, u, v, w, x), ln)) (ho : okX (mdO y) (mdG y) (mdL y) (mdR y) (pc, ln, 15, u, v, w, x) = true) (hc : tmn 15 = true ∨ cody y (pc + ln) c0 = true) (hb : ∀ L, cody y L (blk y L) = true) (hs : step y (pc, ln, 15, u, v, w, x) c0 ls st M = some res) : DP p l e R s m args below meth c D T A ad S H0 Q y pc ls st M res := by
  rw [ok_15] at ho
  rw [in_15] at hd
  have hc := hc.resolve_left (by decide)
  have hln : ln = 1 := of_decide_eq_true ho
  subst hln
  rw [st_15] at hs
  obtain ⟨a, b, st0, rfl, rfl⟩ := h2_inv hs
  exact ⟨_, rfl, fun k => sk_15 C hd (k _ hc)⟩
theorem dp_16 (C : Cx p s m args meth c D T A ad S y) (hd : decode (mdB y) pc = .ok (ins (pc, ln, 16, u, v, w, x), ln)) (ho : okX (mdO y) (mdG y) (mdL y) (mdR y) (pc, ln, 16, u, v, w, x) = true) (hc : tmn 16 = true ∨ cody y (pc + ln) c0 = true) (hb : ∀ L, cody y L (blk y L) = true) (hs : step y (pc, ln, 16, u, v, w, x) c0 ls st M = some res) : DP p l e R s m args below meth c D T A ad S H0 Q y pc ls st M res := by
  rw [ok_16] at ho
  rw [in_16] at hd
  have hc := hc.resolve_left (by decide)
  have hln : ln = 1 := of_decide_eq_true ho
  subst hln
  rw [st_16] at hs
  obtain ⟨a, b, st0, rfl, rfl⟩ := h2_inv hs
  exact ⟨_, rfl, fun k => sk_16 C hd (k _ hc)⟩
theorem dp_17 (C : Cx p s m args meth c D T A ad S y) (hd : decode (mdB y) pc = .ok (ins (pc, ln, 17, u, v, w, x), ln)) (ho : okX (mdO y) (mdG y) (mdL y) (mdR y) (pc, ln, 17, u, v, w, x) = true) (hc : tmn 17 = true ∨ cody y (pc + ln) c0 = true) (hb : ∀ L, cody y L (blk y L) = true) (hs : step y (pc, ln, 17, u, v, w, x) c0 ls st M = some res) : DP p l e R s m args below meth c D T A ad S H0 Q y pc ls st M res := by
  rw [ok_17] at ho
  rw [in_17] at hd
  have hc := hc.resolve_left (by decide)
  have hln : ln = 1 := of_decide_eq_true ho
  subst hln
  rw [st_17] at hs
  obtain ⟨a, b, st0, rfl, rfl⟩ := h2_inv hs
  exact ⟨_, rfl, fun k => sk_17 C hd (k _ hc)⟩
theorem dp_21 (C : Cx p s m args meth c D T A ad S y) (hd : decode (mdB y) pc = .ok (ins (pc, ln, 21, u, v, w, x), ln)) (ho : okX (mdO y) (mdG y) (mdL y) (mdR y) (pc, ln, 21, u, v, w, x) = true) (hc : tmn 21 = true ∨ cody y (pc + ln) c0 = true) (hb : ∀ L, cody y L (blk y L) = true) (hs : step y (pc, ln, 21, u, v, w, x) c0 ls st M = some res) : DP p l e R s m args below meth c D T A ad S H0 Q y pc ls st M res := by
  rw [ok_21] at ho
  rw [in_21] at hd
  have hc := hc.resolve_left (by decide)
  have hln : ln = 1 := of_decide_eq_true ho
  subst hln
  rw [st_21] at hs
  obtain ⟨a, b, st0, rfl, rfl⟩ := h2_inv hs
  exact ⟨_, rfl, fun k => sk_21 C hd (k _ hc)⟩
theorem dp_22 (C : Cx p s m args meth c D T A ad S y) (hd : decode (mdB y) pc = .ok (ins (pc, ln, 22, u, v, w, x), ln)) (ho : okX (mdO y) (mdG y) (mdL y) (mdR y) (pc, ln, 22, u, v, w, x) = true) (hc : tmn 22 = true ∨ cody y (pc + ln) c0 = true) (hb : ∀ L, cody y L (blk y L) = true) (hs : step y (pc, ln, 22, u, v, w, x) c0 ls st M = some res) : DP p l e R s m args below meth c D T A ad S H0 Q y pc ls st M res := by
  rw [ok_22] at ho
  rw [in_22] at hd
  have hc := hc.resolve_left (by decide)
  have hln : ln = 1 := of_decide_eq_true ho
  subst hln
  rw [st_22] at hs
  obtain ⟨a, b, st0, rfl, rfl⟩ := h2_inv hs
  exact ⟨_, rfl, fun k => sk_22 C hd (k _ hc)⟩
theorem dp_23 (C : Cx p s m args meth c D T A ad S y) (hd : decode (mdB y) pc = .ok (ins (pc, ln, 23, u, v, w, x), ln)) (ho : okX (mdO y) (mdG y) (mdL y) (mdR y) (pc, ln, 23, u, v, w, x) = true) (hc : tmn 23 = true ∨ cody y (pc + ln) c0 = true) (hb : ∀ L, cody y L (blk y L) = true) (hs : step y (pc, ln, 23, u, v, w, x) c0 ls st M = some res) : DP p l e R s m args below meth c D T A ad S H0 Q y pc ls st M res := by
  rw [ok_23] at ho
  rw [in_23] at hd
  have hc := hc.resolve_left (by decide)
  have hln : ln = 1 := of_decide_eq_true ho
  subst hln
  rw [st_23] at hs
  obtain ⟨a, b, st0, rfl, rfl⟩ := h2_inv hs
  exact ⟨_, rfl, fun k => sk_23 C hd (k _ hc)⟩
theorem dp_24 (C : Cx p s m args meth c D T A ad S y) (hd : decode (mdB y) pc = .ok (ins (pc, ln, 24, u, v, w, x), ln)) (ho : okX (mdO y) (mdG y) (mdL y) (mdR y) (pc, ln, 24, u, v, w, x) = true) (hc : tmn 24 = true ∨ cody y (pc + ln) c0 = true) (hb : ∀ L, cody y L (blk y L) = true) (hs : step y (pc, ln, 24, u, v, w, x) c0 ls st M = some res) : DP p l e R s m args below meth c D T A ad S H0 Q y pc ls st M res := by
  rw [ok_24] at ho
  rw [in_24] at hd
  have hc := hc.resolve_left (by decide)
  have hln : ln = 1 := of_decide_eq_true ho
  subst hln
  rw [st_24] at hs
  obtain ⟨a, b, st0, rfl, rfl⟩ := h2_inv hs
  exact ⟨_, rfl, fun k => sk_24 C hd (k _ hc)⟩
theorem dp_25 (C : Cx p s m args meth c D T A ad S y) (hd : decode (mdB y) pc = .ok (ins (pc, ln, 25, u, v, w, x), ln)) (ho : okX (mdO y) (mdG y) (mdL y) (mdR y) (pc, ln, 25, u, v, w, x) = true) (hc : tmn 25 = true ∨ cody y (pc + ln) c0 = true) (hb : ∀ L, cody y L (blk y L) = true) (hs : step y (pc, ln, 25, u, v, w, x) c0 ls st M = some res) : DP p l e R s m args below meth c D T A ad S H0 Q y pc ls st M res := by
  rw [ok_25] at ho
  rw [in_25] at hd
  have hc := hc.resolve_left (by decide)
  have hln : ln = 1 := of_decide_eq_true ho
  subst hln
  rw [st_25] at hs
  obtain ⟨a, b, st0, rfl, rfl⟩ := h2_inv hs
  exact ⟨_, rfl, fun k => sk_25 C hd (k _ hc)⟩
theorem dp_26 (C : Cx p s m args meth c D T A ad S y) (hd : decode (mdB y) pc = .ok (ins (pc, ln, 26, u, v, w, x), ln)) (ho : okX (mdO y) (mdG y) (mdL y) (mdR y) (pc, ln, 26, u, v, w, x) = true) (hc : tmn 26 = true ∨ cody y (pc + ln) c0 = true) (hb : ∀ L, cody y L (blk y L) = true) (hs : step y (pc, ln, 26, u, v, w, x) c0 ls st M = some res) : DP p l e R s m args below meth c D T A ad S H0 Q y pc ls st M res := by
  rw [ok_26] at ho
  rw [in_26] at hd
  have hc := hc.resolve_left (by decide)
  have hln : ln = 1 := of_decide_eq_true ho
  subst hln
  rw [st_26] at hs
  obtain ⟨a, b, st0, rfl, rfl⟩ := h2_inv hs
  exact ⟨_, rfl, fun k => sk_26 C hd (k _ hc)⟩
theorem dp_18 (C : Cx p s m args meth c D T A ad S y) (hd : decode (mdB y) pc = .ok (ins (pc, ln, 18, u, v, w, x), ln)) (ho : okX (mdO y) (mdG y) (mdL y) (mdR y) (pc, ln, 18, u, v, w, x) = true) (hc : tmn 18 = true ∨ cody y (pc + ln) c0 = true) (hb : ∀ L, cody y L (blk y L) = true) (hs : step y (pc, ln, 18, u, v, w, x) c0 ls st M = some res) : DP p l e R s m args below meth c D T A ad S H0 Q y pc ls st M res := by
  rw [ok_18] at ho
  rw [in_18] at hd
  have hc := hc.resolve_left (by decide)
  have hln : ln = 1 := of_decide_eq_true ho
  subst hln
  rw [st_18] at hs
  obtain ⟨a, b, st0, rfl, h1, rfl⟩ := h2d_inv hs
  exact ⟨_, rfl, fun k => sk_18 C hd h1 (k _ hc)⟩
theorem dp_19 (C : Cx p s m args meth c D T A ad S y) (hd : decode (mdB y) pc = .ok (ins (pc, ln, 19, u, v, w, x), ln)) (ho : okX (mdO y) (mdG y) (mdL y) (mdR y) (pc, ln, 19, u, v, w, x) = true) (hc : tmn 19 = true ∨ cody y (pc + ln) c0 = true) (hb : ∀ L, cody y L (blk y L) = true) (hs : step y (pc, ln, 19, u, v, w, x) c0 ls st M = some res) : DP p l e R s m args below meth c D T A ad S H0 Q y pc ls st M res := by
  rw [ok_19] at ho
  rw [in_19] at hd
  have hc := hc.resolve_left (by decide)
  have hln : ln = 1 := of_decide_eq_true ho
  subst hln
  rw [st_19] at hs
  obtain ⟨a, b, st0, rfl, h1, rfl⟩ := h2d_inv hs
  exact ⟨_, rfl, fun k => sk_19 C hd h1 (k _ hc)⟩
theorem dp_20 (C : Cx p s m args meth c D T A ad S y) (hd : decode (mdB y) pc = .ok (ins (pc, ln, 20, u, v, w, x), ln)) (ho : okX (mdO y) (mdG y) (mdL y) (mdR y) (pc, ln, 20, u, v, w, x) = true) (hc : tmn 20 = true ∨ cody y (pc + ln) c0 = true) (hb : ∀ L, cody y L (blk y L) = true) (hs : step y (pc, ln, 20, u, v, w, x) c0 ls st M = some res) : DP p l e R s m args below meth c D T A ad S H0 Q y pc ls st M res := by
  rw [ok_20] at ho
  rw [in_20] at hd
  have hc := hc.resolve_left (by decide)
  have hln : ln = 1 := of_decide_eq_true ho
  subst hln
  rw [st_20] at hs
  obtain ⟨a, st0, rfl, rfl⟩ := h1_inv hs
  exact ⟨_, rfl, fun k => sk_20 C hd (k _ hc)⟩
theorem dp_28 (C : Cx p s m args meth c D T A ad S y) (hd : decode (mdB y) pc = .ok (ins (pc, ln, 28, u, v, w, x), ln)) (ho : okX (mdO y) (mdG y) (mdL y) (mdR y) (pc, ln, 28, u, v, w, x) = true) (hc : tmn 28 = true ∨ cody y (pc + ln) c0 = true) (hb : ∀ L, cody y L (blk y L) = true) (hs : step y (pc, ln, 28, u, v, w, x) c0 ls st M = some res) : DP p l e R s m args below meth c D T A ad S H0 Q y pc ls st M res := by
  rw [ok_28] at ho
  rw [in_28] at hd
  have hc := hc.resolve_left (by decide)
  have hln : ln = 1 := of_decide_eq_true ho
  subst hln
  rw [st_28] at hs
  obtain ⟨a, st0, rfl, rfl⟩ := h1_inv hs
  exact ⟨_, rfl, fun k => sk_28 C hd (k _ hc)⟩
theorem dp_27 (C : Cx p s m args meth c D T A ad S y) (hd : decode (mdB y) pc = .ok (ins (pc, ln, 27, u, v, w, x), ln)) (ho : okX (mdO y) (mdG y) (mdL y) (mdR y) (pc, ln, 27, u, v, w, x) = true) (hc : tmn 27 = true ∨ cody y (pc + ln) c0 = true) (hb : ∀ L, cody y L (blk y L) = true) (hs : step y (pc, ln, 27, u, v, w, x) c0 ls st M = some res) : DP p l e R s m args below meth c D T A ad S H0 Q y pc ls st M res := by
  rw [ok_27] at ho
  rw [in_27] at hd
  have hc := hc.resolve_left (by decide)
  have hln : ln = 1 := of_decide_eq_true ho
  subst hln
  obtain ⟨a, st0, rfl, rfl⟩ := st_27 hs
  exact ⟨_, rfl, fun k => sk_27 C hd (k _ hc)⟩
theorem dp_29 (C : Cx p s m args meth c D T A ad S y) (hd : decode (mdB y) pc = .ok (ins (pc, ln, 29, u, v, w, x), ln)) (ho : okX (mdO y) (mdG y) (mdL y) (mdR y) (pc, ln, 29, u, v, w, x) = true) (hc : tmn 29 = true ∨ cody y (pc + ln) c0 = true) (hb : ∀ L, cody y L (blk y L) = true) (hs : step y (pc, ln, 29, u, v, w, x) c0 ls st M = some res) : DP p l e R s m args below meth c D T A ad S H0 Q y pc ls st M res := by
  rw [ok_29] at ho
  rw [in_29] at hd
  have hc := hc.resolve_left (by decide)
  have hln : ln = 1 := of_decide_eq_true ho
  subst hln
  obtain ⟨a, b, st0, rfl, rfl⟩ := st_29 hs
  exact ⟨_, rfl, fun k => sk_29 C hd (k _ hc)⟩
theorem dp_30 (C : Cx p s m args meth c D T A ad S y) (hd : decode (mdB y) pc = .ok (ins (pc, ln, 30, u, v, w, x), ln)) (ho : okX (mdO y) (mdG y) (mdL y) (mdR y) (pc, ln, 30, u, v, w, x) = true) (hc : tmn 30 = true ∨ cody y (pc + ln) c0 = true) (hb : ∀ L, cody y L (blk y L) = true) (hs : step y (pc, ln, 30, u, v, w, x) c0 ls st M = some res) : DP p l e R s m args below meth c D T A ad S H0 Q y pc ls st M res := by
  rw [ok_30] at ho
  rw [in_30] at hd
  have hc := hc.resolve_left (by decide)
  have hln : ln = 1 := of_decide_eq_true ho
  subst hln
  obtain ⟨a, b, st0, rfl, rfl⟩ := st_30 hs
  exact ⟨_, rfl, fun k => sk_30 C hd (k _ hc)⟩
theorem dp_31 (C : Cx p s m args meth c D T A ad S y) (hd : decode (mdB y) pc = .ok (ins (pc, ln, 31, u, v, w, x), ln)) (ho : okX (mdO y) (mdG y) (mdL y) (mdR y) (pc, ln, 31, u, v, w, x) = true) (hc : tmn 31 = true ∨ cody y (pc + ln) c0 = true) (hb : ∀ L, cody y L (blk y L) = true) (hs : step y (pc, ln, 31, u, v, w, x) c0 ls st M = some res) : DP p l e R s m args below meth c D T A ad S H0 Q y pc ls st M res := by
  rw [ok_31] at ho
  rw [in_31] at hd
  have hc := hc.resolve_left (by decide)
  have hln : ln = 1 := of_decide_eq_true ho
  subst hln
  obtain ⟨a, b, st0, rfl, rfl⟩ := st_31 hs
  exact ⟨_, rfl, fun k => sk_31 C hd (k _ hc)⟩
theorem dp_32 (C : Cx p s m args meth c D T A ad S y) (hd : decode (mdB y) pc = .ok (ins (pc, ln, 32, u, v, w, x), ln)) (ho : okX (mdO y) (mdG y) (mdL y) (mdR y) (pc, ln, 32, u, v, w, x) = true) (hc : tmn 32 = true ∨ cody y (pc + ln) c0 = true) (hb : ∀ L, cody y L (blk y L) = true) (hs : step y (pc, ln, 32, u, v, w, x) c0 ls st M = some res) : DP p l e R s m args below meth c D T A ad S H0 Q y pc ls st M res := by
  rw [ok_32] at ho
  rw [in_32] at hd
  have hc := hc.resolve_left (by decide)
  have hln : ln = 1 := of_decide_eq_true ho
  subst hln
  obtain ⟨a, st0, rfl, h1, rfl⟩ := st_32 hs
  exact ⟨_, rfl, fun k => sk_32 C hd h1 (k _ hc)⟩
theorem dp_34 (C : Cx p s m args meth c D T A ad S y) (hd : decode (mdB y) pc = .ok (ins (pc, ln, 34, u, v, w, x), ln)) (ho : okX (mdO y) (mdG y) (mdL y) (mdR y) (pc, ln, 34, u, v, w, x) = true) (hc : tmn 34 = true ∨ cody y (pc + ln) c0 = true) (hb : ∀ L, cody y L (blk y L) = true) (hs : step y (pc, ln, 34, u, v, w, x) c0 ls st M = some res) : DP p l e R s m args below meth c D T A ad S H0 Q y pc ls st M res := by
  rw [ok_34] at ho
  rw [in_34] at hd
  have hc := hc.resolve_left (by decide)
  have hln : ln = 1 := of_decide_eq_true ho
  subst hln
  obtain ⟨a, st0, rfl, h1, rfl⟩ := st_34 hs
  exact ⟨_, rfl, fun k => sk_34 C hd h1 (k _ hc)⟩
theorem dp_33 (C : Cx p s m args meth c D T A ad S y) (hd : decode (mdB y) pc = .ok (ins (pc, ln, 33, u, v, w, x), ln)) (ho : okX (mdO y) (mdG y) (mdL y) (mdR y) (pc, ln, 33, u, v, w, x) = true) (hc : tmn 33 = true ∨ cody y (pc + ln) c0 = true) (hb : ∀ L, cody y L (blk y L) = true) (hs : step y (pc, ln, 33, u, v, w, x) c0 ls st M = some res) : DP p l e R s m args below meth c D T A ad S H0 Q y pc ls st M res := by
  rw [ok_33] at ho
  rw [in_33] at hd
  have hc := hc.resolve_left (by decide)
  have hln : ln = 1 := of_decide_eq_true ho
  subst hln
  obtain ⟨a, b, st0, rfl, h1, h2, rfl⟩ := st_33 hs
  exact ⟨_, rfl, fun k => sk_33 C hd h1 h2 (k _ hc)⟩
theorem dp_35 (C : Cx p s m args meth c D T A ad S y) (hd : decode (mdB y) pc = .ok (ins (pc, ln, 35, u, v, w, x), ln)) (ho : okX (mdO y) (mdG y) (mdL y) (mdR y) (pc, ln, 35, u, v, w, x) = true) (hc : tmn 35 = true ∨ cody y (pc + ln) c0 = true) (hb : ∀ L, cody y L (blk y L) = true) (hs : step y (pc, ln, 35, u, v, w, x) c0 ls st M = some res) : DP p l e R s m args below meth c D T A ad S H0 Q y pc ls st M res := by
  rw [ok_35] at ho
  rw [in_35] at hd
  have hc := hc.resolve_left (by decide)
  rw [st_35] at hs
  obtain ⟨n, a, st0, rfl, rfl⟩ := hget0_inv hs
  rw [Bool.and_eq_true, Bool.and_eq_true, Bool.and_eq_true, Bool.and_eq_true] at ho
  obtain ⟨⟨⟨⟨h0, h1⟩, h2⟩, hf⟩, h3⟩ := ho
  have hln := of_decide_eq_true h0
  subst hln
  have hu := of_decide_eq_true h1
  subst hu
  exact ⟨_, rfl, fun k => sk_35 C hd (of_decide_eq_true h2) hf (by simpa using h3) (k _ hc)⟩
theorem dp_65 (C : Cx p s m args meth c D T A ad S y) (hd : decode (mdB y) pc = .ok (ins (pc, ln, 65, u, v, w, x), ln)) (ho : okX (mdO y) (mdG y) (mdL y) (mdR y) (pc, ln, 65, u, v, w, x) = true) (hc : tmn 65 = true ∨ cody y (pc + ln) c0 = true) (hb : ∀ L, cody y L (blk y L) = true) (hs : step y (pc, ln, 65, u, v, w, x) c0 ls st M = some res) : DP p l e R s m args below meth c D T A ad S H0 Q y pc ls st M res := by
  rw [ok_65] at ho
  rw [in_65] at hd
  have hc := hc.resolve_left (by decide)
  rw [st_65] at hs
  obtain ⟨n, a, st0, rfl, rfl⟩ := hget1_inv hs
  rw [Bool.and_eq_true, Bool.and_eq_true, Bool.and_eq_true, Bool.and_eq_true] at ho
  obtain ⟨⟨⟨⟨h0, h1⟩, h2⟩, hf⟩, h3⟩ := ho
  have hln := of_decide_eq_true h0
  subst hln
  have hu := of_decide_eq_true h1
  subst hu
  exact ⟨_, rfl, fun k => sk_65 C hd (of_decide_eq_true h2) hf (of_decide_eq_true h3) (k _ hc)⟩
theorem dp_66 (C : Cx p s m args meth c D T A ad S y) (hd : decode (mdB y) pc = .ok (ins (pc, ln, 66, u, v, w, x), ln)) (ho : okX (mdO y) (mdG y) (mdL y) (mdR y) (pc, ln, 66, u, v, w, x) = true) (hc : tmn 66 = true ∨ cody y (pc + ln) c0 = true) (hb : ∀ L, cody y L (blk y L) = true) (hs : step y (pc, ln, 66, u, v, w, x) c0 ls st M = some res) : DP p l e R s m args below meth c D T A ad S H0 Q y pc ls st M res := by
  rw [ok_66] at ho
  rw [in_66] at hd
  have hc := hc.resolve_left (by decide)
  rw [st_66] at hs
  obtain ⟨n, a, st0, rfl, rfl⟩ := hget2_inv hs
  rw [Bool.and_eq_true, Bool.and_eq_true, Bool.and_eq_true, Bool.and_eq_true] at ho
  obtain ⟨⟨⟨⟨h0, h1⟩, h2⟩, hf⟩, h3⟩ := ho
  have hln := of_decide_eq_true h0
  subst hln
  have hu := of_decide_eq_true h1
  subst hu
  exact ⟨_, rfl, fun k => sk_66 C hd (of_decide_eq_true h2) hf h3 (k _ hc)⟩
theorem dp_36 (C : Cx p s m args meth c D T A ad S y) (hd : decode (mdB y) pc = .ok (ins (pc, ln, 36, u, v, w, x), ln)) (ho : okX (mdO y) (mdG y) (mdL y) (mdR y) (pc, ln, 36, u, v, w, x) = true) (hc : tmn 36 = true ∨ cody y (pc + ln) c0 = true) (hb : ∀ L, cody y L (blk y L) = true) (hs : step y (pc, ln, 36, u, v, w, x) c0 ls st M = some res) : DP p l e R s m args below meth c D T A ad S H0 Q y pc ls st M res := by
  rw [ok_36] at ho
  rw [in_36] at hd
  have hc := hc.resolve_left (by decide)
  rw [st_36] at hs
  obtain ⟨z, n, a, st0, rfl, rfl⟩ := hput0_inv hs
  rw [Bool.and_eq_true, Bool.and_eq_true, Bool.and_eq_true, Bool.and_eq_true, Bool.and_eq_true] at ho
  obtain ⟨⟨⟨⟨⟨h0, h1⟩, h2⟩, hf⟩, h3⟩, h4⟩ := ho
  have hln := of_decide_eq_true h0
  subst hln
  have hu := of_decide_eq_true h1
  subst hu
  exact ⟨_, rfl, fun k => sk_36 C hd (of_decide_eq_true h2) hf (of_decide_eq_true h3) (of_decide_eq_true h4) (k _ hc)⟩
theorem dp_67 (C : Cx p s m args meth c D T A ad S y) (hd : decode (mdB y) pc = .ok (ins (pc, ln, 67, u, v, w, x), ln)) (ho : okX (mdO y) (mdG y) (mdL y) (mdR y) (pc, ln, 67, u, v, w, x) = true) (hc : tmn 67 = true ∨ cody y (pc + ln) c0 = true) (hb : ∀ L, cody y L (blk y L) = true) (hs : step y (pc, ln, 67, u, v, w, x) c0 ls st M = some res) : DP p l e R s m args below meth c D T A ad S H0 Q y pc ls st M res := by
  rw [ok_67] at ho
  rw [in_67] at hd
  have hc := hc.resolve_left (by decide)
  rw [st_67] at hs
  obtain ⟨z, n, a, st0, rfl, rfl⟩ := hput1_inv hs
  rw [Bool.and_eq_true, Bool.and_eq_true, Bool.and_eq_true, Bool.and_eq_true, Bool.and_eq_true] at ho
  obtain ⟨⟨⟨⟨⟨h0, h1⟩, h2⟩, hf⟩, h3⟩, h4⟩ := ho
  have hln := of_decide_eq_true h0
  subst hln
  have hu := of_decide_eq_true h1
  subst hu
  exact ⟨_, rfl, fun k => sk_67 C hd (of_decide_eq_true h2) hf (of_decide_eq_true h3) (of_decide_eq_true h4) (k _ hc)⟩
theorem dp_68 (C : Cx p s m args meth c D T A ad S y) (hd : decode (mdB y) pc = .ok (ins (pc, ln, 68, u, v, w, x), ln)) (ho : okX (mdO y) (mdG y) (mdL y) (mdR y) (pc, ln, 68, u, v, w, x) = true) (hc : tmn 68 = true ∨ cody y (pc + ln) c0 = true) (hb : ∀ L, cody y L (blk y L) = true) (hs : step y (pc, ln, 68, u, v, w, x) c0 ls st M = some res) : DP p l e R s m args below meth c D T A ad S H0 Q y pc ls st M res := by
  rw [ok_68] at ho
  rw [in_68] at hd
  have hc := hc.resolve_left (by decide)
  rw [st_68] at hs
  obtain ⟨z, n, a, st0, rfl, hz, rfl⟩ := hput3_inv hs
  rw [Bool.and_eq_true, Bool.and_eq_true, Bool.and_eq_true, Bool.and_eq_true, Bool.and_eq_true] at ho
  obtain ⟨⟨⟨⟨⟨h0, h1⟩, h2⟩, hf⟩, h3⟩, h4⟩ := ho
  have hln := of_decide_eq_true h0
  subst hln
  have hu := of_decide_eq_true h1
  subst hu
  exact ⟨_, rfl, fun k => sk_68 C hd (of_decide_eq_true h2) hf (of_decide_eq_true h3) (of_decide_eq_true h4) hz (k _ hc)⟩
theorem dp_37 (C : Cx p s m args meth c D T A ad S y) (hd : decode (mdB y) pc = .ok (ins (pc, ln, 37, u, v, w, x), ln)) (ho : okX (mdO y) (mdG y) (mdL y) (mdR y) (pc, ln, 37, u, v, w, x) = true) (hc : tmn 37 = true ∨ cody y (pc + ln) c0 = true) (hb : ∀ L, cody y L (blk y L) = true) (hs : step y (pc, ln, 37, u, v, w, x) c0 ls st M = some res) : DP p l e R s m args below meth c D T A ad S H0 Q y pc ls st M res := by
  rw [ok_37] at ho
  rw [in_37] at hd
  have hc := hc.resolve_left (by decide)
  have hln : ln = 1 := of_decide_eq_true ho
  subst hln
  rw [st_37] at hs
  obtain ⟨i, k, n, a, st0, rfl, hk, h0, h1, rfl⟩ := hald_inv hs
  have hk : k = 0 := eq_of_beq hk
  subst hk
  exact ⟨_, rfl, fun k => sk_37 C hd h0 h1 (k _ hc)⟩
theorem dp_39 (C : Cx p s m args meth c D T A ad S y) (hd : decode (mdB y) pc = .ok (ins (pc, ln, 39, u, v, w, x), ln)) (ho : okX (mdO y) (mdG y) (mdL y) (mdR y) (pc, ln, 39, u, v, w, x) = true) (hc : tmn 39 = true ∨ cody y (pc + ln) c0 = true) (hb : ∀ L, cody y L (blk y L) = true) (hs : step y (pc, ln, 39, u, v, w, x) c0 ls st M = some res) : DP p l e R s m args below meth c D T A ad S H0 Q y pc ls st M res := by
  rw [ok_39] at ho
  rw [in_39] at hd
  have hc := hc.resolve_left (by decide)
  have hln : ln = 1 := of_decide_eq_true ho
  subst hln
  rw [st_39] at hs
  obtain ⟨i, k, n, a, st0, rfl, hk, h0, h1, rfl⟩ := hald_inv hs
  have hk : k = 1 := eq_of_beq hk
  subst hk
  exact ⟨_, rfl, fun k => sk_39 C hd h0 h1 (k _ hc)⟩
theorem dp_43 (C : Cx p s m args meth c D T A ad S y) (hd : decode (mdB y) pc = .ok (ins (pc, ln, 43, u, v, w, x), ln)) (ho : okX (mdO y) (mdG y) (mdL y) (mdR y) (pc, ln, 43, u, v, w, x) = true) (hc : tmn 43 = true ∨ cody y (pc + ln) c0 = true) (hb : ∀ L, cody y L (blk y L) = true) (hs : step y (pc, ln, 43, u, v, w, x) c0 ls st M = some res) : DP p l e R s m args below meth c D T A ad S H0 Q y pc ls st M res := by
  rw [ok_43] at ho
  rw [in_43] at hd
  have hc := hc.resolve_left (by decide)
  have hln : ln = 1 := of_decide_eq_true ho
  subst hln
  rw [st_43] at hs
  obtain ⟨i, k, n, a, st0, rfl, hk, h0, h1, rfl⟩ := hald_inv hs
  have hk : k = 4 := eq_of_beq hk
  subst hk
  exact ⟨_, rfl, fun k => sk_43 C hd h0 h1 (k _ hc)⟩
theorem dp_38 (C : Cx p s m args meth c D T A ad S y) (hd : decode (mdB y) pc = .ok (ins (pc, ln, 38, u, v, w, x), ln)) (ho : okX (mdO y) (mdG y) (mdL y) (mdR y) (pc, ln, 38, u, v, w, x) = true) (hc : tmn 38 = true ∨ cody y (pc + ln) c0 = true) (hb : ∀ L, cody y L (blk y L) = true) (hs : step y (pc, ln, 38, u, v, w, x) c0 ls st M = some res) : DP p l e R s m args below meth c D T A ad S H0 Q y pc ls st M res := by
  rw [ok_38] at ho
  rw [in_38] at hd
  have hc := hc.resolve_left (by decide)
  have hln : ln = 1 := of_decide_eq_true ho
  subst hln
  rw [st_38] at hs
  obtain ⟨z, i, k, n, a, st0, rfl, hk, h0, h1, rfl⟩ := hast_inv hs
  have hk : k = 0 := eq_of_beq hk
  subst hk
  exact ⟨_, rfl, fun k => sk_38 C hd h0 h1 (k _ hc)⟩
theorem dp_40 (C : Cx p s m args meth c D T A ad S y) (hd : decode (mdB y) pc = .ok (ins (pc, ln, 40, u, v, w, x), ln)) (ho : okX (mdO y) (mdG y) (mdL y) (mdR y) (pc, ln, 40, u, v, w, x) = true) (hc : tmn 40 = true ∨ cody y (pc + ln) c0 = true) (hb : ∀ L, cody y L (blk y L) = true) (hs : step y (pc, ln, 40, u, v, w, x) c0 ls st M = some res) : DP p l e R s m args below meth c D T A ad S H0 Q y pc ls st M res := by
  rw [ok_40] at ho
  rw [in_40] at hd
  have hc := hc.resolve_left (by decide)
  have hln : ln = 1 := of_decide_eq_true ho
  subst hln
  rw [st_40] at hs
  obtain ⟨z, i, n, a, st0, rfl, h0, h1, rfl⟩ := hlast_inv hs
  exact ⟨_, rfl, fun k => sk_40 C hd h0 h1 (k _ hc)⟩
theorem dp_41 (C : Cx p s m args meth c D T A ad S y) (hd : decode (mdB y) pc = .ok (ins (pc, ln, 41, u, v, w, x), ln)) (ho : okX (mdO y) (mdG y) (mdL y) (mdR y) (pc, ln, 41, u, v, w, x) = true) (hc : tmn 41 = true ∨ cody y (pc + ln) c0 = true) (hb : ∀ L, cody y L (blk y L) = true) (hs : step y (pc, ln, 41, u, v, w, x) c0 ls st M = some res) : DP p l e R s m args below meth c D T A ad S H0 Q y pc ls st M res := by
  rw [ok_41] at ho
  rw [in_41] at hd
  have hc := hc.resolve_left (by decide)
  have hln : ln = 1 := of_decide_eq_true ho
  subst hln
  rw [st_41] at hs
  obtain ⟨i, k, n, a, st0, rfl, hk, h0, h1, rfl⟩ := hald_inv hs
  have hk : k = 2 ∨ k = 3 := by simpa using hk
  rcases hk with rfl | rfl
  · exact ⟨_, rfl, fun k => sk_41b C hd h0 h1 (k _ hc)⟩
  · exact ⟨_, rfl, fun k => sk_41z C hd h0 h1 (k _ hc)⟩
theorem dp_42 (C : Cx p s m args meth c D T A ad S y) (hd : decode (mdB y) pc = .ok (ins (pc, ln, 42, u, v, w, x), ln)) (ho : okX (mdO y) (mdG y) (mdL y) (mdR y) (pc, ln, 42, u, v, w, x) = true) (hc : tmn 42 = true ∨ cody y (pc + ln) c0 = true) (hb : ∀ L, cody y L (blk y L) = true) (hs : step y (pc, ln, 42, u, v, w, x) c0 ls st M = some res) : DP p l e R s m args below meth c D T A ad S H0 Q y pc ls st M res := by
  rw [ok_42] at ho
  rw [in_42] at hd
  have hc := hc.resolve_left (by decide)
  have hln : ln = 1 := of_decide_eq_true ho
  subst hln
  rw [st_42] at hs
  obtain ⟨z, i, k, n, a, st0, rfl, hk, h0, h1, rfl⟩ := hast_inv hs
  have hk : (k = 2 ∧ -128 ≤ z ∧ z < 128) ∨ (k = 3 ∧ (z = 0 ∨ z = 1)) := by simpa using hk
  rcases hk with ⟨rfl, h2, h3⟩ | ⟨rfl, h2⟩
  · exact ⟨_, rfl, fun k => sk_42b C hd h0 h1 h2 h3 (k _ hc)⟩
  · exact ⟨_, rfl, fun k => sk_42z C hd h0 h1 h2 (k _ hc)⟩
theorem dp_44 (C : Cx p s m args meth c D T A ad S y) (hd : decode (mdB y) pc = .ok (ins (pc, ln, 44, u, v, w, x), ln)) (ho : okX (mdO y) (mdG y) (mdL y) (mdR y) (pc, ln, 44, u, v, w, x) = true) (hc : tmn 44 = true ∨ cody y (pc + ln) c0 = true) (hb : ∀ L, cody y L (blk y L) = true) (hs : step y (pc, ln, 44, u, v, w, x) c0 ls st M = some res) : DP p l e R s m args below meth c D T A ad S H0 Q y pc ls st M res := by
  rw [ok_44] at ho
  rw [in_44] at hd
  have hc := hc.resolve_left (by decide)
  have hln : ln = 1 := of_decide_eq_true ho
  subst hln
  obtain ⟨k, n, a, st0, rfl, h1, rfl⟩ := st_44 hs
  exact ⟨_, rfl, fun k => sk_44 C hd h1 (k _ hc)⟩
theorem dp_45 (C : Cx p s m args meth c D T A ad S y) (hd : decode (mdB y) pc = .ok (ins (pc, ln, 45, u, v, w, x), ln)) (ho : okX (mdO y) (mdG y) (mdL y) (mdR y) (pc, ln, 45, u, v, w, x) = true) (hc : tmn 45 = true ∨ cody y (pc + ln) c0 = true) (hb : ∀ L, cody y L (blk y L) = true) (hs : step y (pc, ln, 45, u, v, w, x) c0 ls st M = some res) : DP p l e R s m args below meth c D T A ad S H0 Q y pc ls st M res := by
  rw [ok_45] at ho
  rw [in_45] at hd
  have hc := hc.resolve_left (by decide)
  have hln : ln = 3 := of_decide_eq_true ho
  subst hln
  rw [st_45] at hs
  obtain ⟨a, b, st0, rfl, rfl⟩ := hj2_inv hs
  refine ⟨_, rfl, fun k => sk_45 C hd (fun h => k v (by rw [if_pos (decide_eq_true h)]; exact hb v)) (fun h => k _ ?_)⟩
  rw [if_neg (fun h9 => h (of_decide_eq_true h9))]
  exact hc
theorem dp_46 (C : Cx p s m args meth c D T A ad S y) (hd : decode (mdB y) pc = .ok (ins (pc, ln, 46, u, v, w, x), ln)) (ho : okX (mdO y) (mdG y) (mdL y) (mdR y) (pc, ln, 46, u, v, w, x) = true) (hc : tmn 46 = true ∨ cody y (pc + ln) c0 = true) (hb : ∀ L, cody y L (blk y L) = true) (hs : step y (pc, ln, 46, u, v, w, x) c0 ls st M = some res) : DP p l e R s m args below meth c D T A ad S H0 Q y pc ls st M res := by
  rw [ok_46] at ho
  rw [in_46] at hd
  have hc := hc.resolve_left (by decide)
  have hln : ln = 3 := of_decide_eq_true ho
  subst hln
  rw [st_46] at hs
  obtain ⟨a, b, st0, rfl, rfl⟩ := hj2_inv hs
  refine ⟨_, rfl, fun k => sk_46 C hd (fun h => k v (by rw [if_pos (decide_eq_true h)]; exact hb v)) (fun h => k _ ?_)⟩
  rw [if_neg (fun h9 => h (of_decide_eq_true h9))]
  exact hc
theorem dp_47 (C : Cx p s m args meth c D T A ad S y) (hd : decode (mdB y) pc = .ok (ins (pc, ln, 47, u, v, w, x), ln)) (ho : okX (mdO y) (mdG y) (mdL y) (mdR y) (pc, ln, 47, u, v, w, x) = true) (hc : tmn 47 = true ∨ cody y (pc + ln) c0 = true) (hb : ∀ L, cody y L (blk y L) = true) (hs : step y (pc, ln, 47, u, v, w, x) c0 ls st M = some res) : DP p l e R s m args below meth c D T A ad S H0 Q y pc ls st M res := by
  rw [ok_47] at ho
  rw [in_47] at hd
  have hc := hc.resolve_left (by decide)
  have hln : ln = 3 := of_decide_eq_true ho
  subst hln
  rw [st_47] at hs
  obtain ⟨a, b, st0, rfl, rfl⟩ := hj2_inv hs
  refine ⟨_, rfl, fun k => sk_47 C hd (fun h => k v (by rw [if_pos (decide_eq_true h)]; exact hb v)) (fun h => k _ ?_)⟩
  rw [if_neg (fun h9 => h (of_decide_eq_true h9))]
  exact hc
theorem dp_48 (C : Cx p s m args meth c D T A ad S y) (hd : decode (mdB y) pc = .ok (ins (pc, ln, 48, u, v, w, x), ln)) (ho : okX (mdO y) (mdG y) (mdL y) (mdR y) (pc, ln, 48, u, v, w, x) = true) (hc : tmn 48 = true ∨ cody y (pc + ln) c0 = true) (hb : ∀ L, cody y L (blk y L) = true) (hs : step y (pc, ln, 48, u, v, w, x) c0 ls st M = some res) : DP p l e R s m args below meth c D T A ad S H0 Q y pc ls st M res := by
  rw [ok_48] at ho
  rw [in_48] at hd
  have hc := hc.resolve_left (by decide)
  have hln : ln = 3 := of_decide_eq_true ho
  subst hln
  rw [st_48] at hs
  obtain ⟨a, b, st0, rfl, rfl⟩ := hj2_inv hs
  refine ⟨_, rfl, fun k => sk_48 C hd (fun h => k v (by rw [if_pos (decide_eq_true h)]; exact hb v)) (fun h => k _ ?_)⟩
  rw [if_neg (fun h9 => h (of_decide_eq_true h9))]
  exact hc
theorem dp_49 (C : Cx p s m args meth c D T A ad S y) (hd : decode (mdB y) pc = .ok (ins (pc, ln, 49, u, v, w, x), ln)) (ho : okX (mdO y) (mdG y) (mdL y) (mdR y) (pc, ln, 49, u, v, w, x) = true) (hc : tmn 49 = true ∨ cody y (pc + ln) c0 = true) (hb : ∀ L, cody y L (blk y L) = true) (hs : step y (pc, ln, 49, u, v, w, x) c0 ls st M = some res) : DP p l e R s m args below meth c D T A ad S H0 Q y pc ls st M res := by
  rw [ok_49] at ho
  rw [in_49] at hd
  have hc := hc.resolve_left (by decide)
  have hln : ln = 3 := of_decide_eq_true ho
  subst hln
  rw [st_49] at hs
  obtain ⟨a, b, st0, rfl, rfl⟩ := hj2_inv hs
  refine ⟨_, rfl, fun k => sk_49 C hd (fun h => k v (by rw [if_pos (decide_eq_true h)]; exact hb v)) (fun h => k _ ?_)⟩
  rw [if_neg (fun h9 => h (of_decide_eq_true h9))]
  exact hc
theorem dp_50 (C : Cx p s m args meth c D T A ad S y) (hd : decode (mdB y) pc = .ok (ins (pc, ln, 50, u, v, w, x), ln)) (ho : okX (mdO y) (mdG y) (mdL y) (mdR y) (pc, ln, 50, u, v, w, x) = true) (hc : tmn 50 = true ∨ cody y (pc + ln) c0 = true) (hb : ∀ L, cody y L (blk y L) = true) (hs : step y (pc, ln, 50, u, v, w, x) c0 ls st M = some res) : DP p l e R s m args below meth c D T A ad S H0 Q y pc ls st M res := by
  rw [ok_50] at ho
  rw [in_50] at hd
  have hc := hc.resolve_left (by decide)
  have hln : ln = 3 := of_decide_eq_true ho
  subst hln
  rw [st_50] at hs
  obtain ⟨a, b, st0, rfl, rfl⟩ := hj2_inv hs
  refine ⟨_, rfl, fun k => sk_50 C hd (fun h => k v (by rw [if_pos (decide_eq_true h)]; exact hb v)) (fun h => k _ ?_)⟩
  rw [if_neg (fun h9 => h (of_decide_eq_true h9))]
  exact hc
theorem dp_51 (C : Cx p s m args meth c D T A ad S y) (hd : decode (mdB y) pc = .ok (ins (pc, ln, 51, u, v, w, x), ln)) (ho : okX (mdO y) (mdG y) (mdL y) (mdR y) (pc, ln, 51, u, v, w, x) = true) (hc : tmn 51 = true ∨ cody y (pc + ln) c0 = true) (hb : ∀ L, cody y L (blk y L) = true) (hs : step y (pc, ln, 51, u, v, w, x) c0 ls st M = some res) : DP p l e R s m args below meth c D T A ad S H0 Q y pc ls st M res := by
  rw [ok_51] at ho
  rw [in_51] at hd
  have hc := hc.resolve_left (by decide)
  have hln : ln = 3 := of_decide_eq_true ho
  subst hln
  rw [st_51] at hs
  obtain ⟨a, st0, rfl, rfl⟩ := hj1_inv hs
  refine ⟨_, rfl, fun k => sk_51 C hd (fun h => k v (by rw [if_pos (decide_eq_true h)]; exact hb v)) (fun h => k _ ?_)⟩
  rw [if_neg (fun h9 => h (of_decide_eq_true h9))]
  exact hc
theorem dp_52 (C : Cx p s m args meth c D T A ad S y) (hd : decode (mdB y) pc = .ok (ins (pc, ln, 52, u, v, w, x), ln)) (ho : okX (mdO y) (mdG y) (mdL y) (mdR y) (pc, ln, 52, u, v, w, x) = true) (hc : tmn 52 = true ∨ cody y (pc + ln) c0 = true) (hb : ∀ L, cody y L (blk y L) = true) (hs : step y (pc, ln, 52, u, v, w, x) c0 ls st M = some res) : DP p l e R s m args below meth c D T A ad S H0 Q y pc ls st M res := by
  rw [ok_52] at ho
  rw [in_52] at hd
  have hc := hc.resolve_left (by decide)
  have hln : ln = 3 := of_decide_eq_true ho
  subst hln
  rw [st_52] at hs
  obtain ⟨a, st0, rfl, rfl⟩ := hj1_inv hs
  refine ⟨_, rfl, fun k => sk_52 C hd (fun h => k v (by rw [if_pos (decide_eq_true h)]; exact hb v)) (fun h => k _ ?_)⟩
  rw [if_neg (fun h9 => h (of_decide_eq_true h9))]
  exact hc
theorem dp_53 (C : Cx p s m args meth c D T A ad S y) (hd : decode (mdB y) pc = .ok (ins (pc, ln, 53, u, v, w, x), ln)) (ho : okX (mdO y) (mdG y) (mdL y) (mdR y) (pc, ln, 53, u, v, w, x) = true) (hc : tmn 53 = true ∨ cody y (pc + ln) c0 = true) (hb : ∀ L, cody y L (blk y L) = true) (hs : step y (pc, ln, 53, u, v, w, x) c0 ls st M = some res) : DP p l e R s m args below meth c D T A ad S H0 Q y pc ls st M res := by
  rw [ok_53] at ho
  rw [in_53] at hd
  have hc := hc.resolve_left (by decide)
  have hln : ln = 3 := of_decide_eq_true ho
  subst hln
  rw [st_53] at hs
  obtain ⟨a, st0, rfl, rfl⟩ := hj1_inv hs
  refine ⟨_, rfl, fun k => sk_53 C hd (fun h => k v (by rw [if_pos (decide_eq_true h)]; exact hb v)) (fun h => k _ ?_)⟩
  rw [if_neg (fun h9 => h (of_decide_eq_true h9))]
  exact hc
theorem dp_54 (C : Cx p s m args meth c D T A ad S y) (hd : decode (mdB y) pc = .ok (ins (pc, ln, 54, u, v, w, x), ln)) (ho : okX (mdO y) (mdG y) (mdL y) (mdR y) (pc, ln, 54, u, v, w, x) = true) (hc : tmn 54 = true ∨ cody y (pc + ln) c0 = true) (hb : ∀ L, cody y L (blk y L) = true) (hs : step y (pc, ln, 54, u, v, w, x) c0 ls st M = some res) : DP p l e R s m args below meth c D T A ad S H0 Q y pc ls st M res := by
  rw [ok_54] at ho
  rw [in_54] at hd
  have hc := hc.resolve_left (by decide)
  have hln : ln = 3 := of_decide_eq_true ho
  subst hln
  rw [st_54] at hs
  obtain ⟨a, st0, rfl, rfl⟩ := hj1_inv hs
  refine ⟨_, rfl, fun k => sk_54 C hd (fun h => k v (by rw [if_pos (decide_eq_true h)]; exact hb v)) (fun h => k _ ?_)⟩
  rw [if_neg (fun h9 => h (of_decide_eq_true h9))]
  exact hc
theorem dp_55 (C : Cx p s m args meth c D T A ad S y) (hd : decode (mdB y) pc = .ok (ins (pc, ln, 55, u, v, w, x), ln)) (ho : okX (mdO y) (mdG y) (mdL y) (mdR y) (pc, ln, 55, u, v, w, x) = true) (hc : tmn 55 = true ∨ cody y (pc + ln) c0 = true) (hb : ∀ L, cody y L (blk y L) = true) (hs : step y (pc, ln, 55, u, v, w, x) c0 ls st M = some res) : DP p l e R s m args below meth c D T A ad S H0 Q y pc ls st M res := by
  rw [ok_55] at ho
  rw [in_55] at hd
  have hc := hc.resolve_left (by decide)
  have hln : ln = 3 := of_decide_eq_true ho
  subst hln
  rw [st_55] at hs
  obtain ⟨a, st0, rfl, rfl⟩ := hj1_inv hs
  refine ⟨_, rfl, fun k => sk_55 C hd (fun h => k v (by rw [if_pos (decide_eq_true h)]; exact hb v)) (fun h => k _ ?_)⟩
  rw [if_neg (fun h9 => h (of_decide_eq_true h9))]
  exact hc
theorem dp_56 (C : Cx p s m args meth c D T A ad S y) (hd : decode (mdB y) pc = .ok (ins (pc, ln, 56, u, v, w, x), ln)) (ho : okX (mdO y) (mdG y) (mdL y) (mdR y) (pc, ln, 56, u, v, w, x) = true) (hc : tmn 56 = true ∨ cody y (pc + ln) c0 = true) (hb : ∀ L, cody y L (blk y L) = true) (hs : step y (pc, ln, 56, u, v, w, x) c0 ls st M = some res) : DP p l e R s m args below meth c D T A ad S H0 Q y pc ls st M res := by
  rw [ok_56] at ho
  rw [in_56] at hd
  have hc := hc.resolve_left (by decide)
  have hln : ln = 3 := of_decide_eq_true ho
  subst hln
  rw [st_56] at hs
  obtain ⟨a, st0, rfl, rfl⟩ := hj1_inv hs
  refine ⟨_, rfl, fun k => sk_56 C hd (fun h => k v (by rw [if_pos (decide_eq_true h)]; exact hb v)) (fun h => k _ ?_)⟩
  rw [if_neg (fun h9 => h (of_decide_eq_true h9))]
  exact hc
theorem dp_57 (C : Cx p s m args meth c D T A ad S y) (hd : decode (mdB y) pc = .ok (ins (pc, ln, 57, u, v, w, x), ln)) (ho : okX (mdO y) (mdG y) (mdL y) (mdR y) (pc, ln, 57, u, v, w, x) = true) (hc : tmn 57 = true ∨ cody y (pc + ln) c0 = true) (hb : ∀ L, cody y L (blk y L) = true) (hs : step y (pc, ln, 57, u, v, w, x) c0 ls st M = some res) : DP p l e R s m args below meth c D T A ad S H0 Q y pc ls st M res := by
  rw [ok_57] at ho
  rw [in_57] at hd
  have hln : ln = 3 := of_decide_eq_true ho
  subst hln
  rw [st_57] at hs
  simp only [nx, Option.some.injEq] at hs
  subst hs
  exact ⟨_, rfl, fun k => sk_57 C hd (k v (hb v))⟩
theorem dp_58 (C : Cx p s m args meth c D T A ad S y) (hd : decode (mdB y) pc = .ok (ins (pc, ln, 58, u, v, w, x), ln)) (ho : okX (mdO y) (mdG y) (mdL y) (mdR y) (pc, ln, 58, u, v, w, x) = true) (hc : tmn 58 = true ∨ cody y (pc + ln) c0 = true) (hb : ∀ L, cody y L (blk y L) = true) (hs : step y (pc, ln, 58, u, v, w, x) c0 ls st M = some res) : DP p l e R s m args below meth c D T A ad S H0 Q y pc ls st M res := by
  rw [ok_58] at ho
  rw [in_58] at hd
  rw [Bool.and_eq_true] at ho
  obtain ⟨a, t, st0, rfl, h1, rfl⟩ := st_58 hs
  exact ⟨_, rfl, fun k => sk_58 C hd ho.1 (of_decide_eq_true ho.2) h1 (k t (hb t))⟩
theorem dp_61 (C : Cx p s m args meth c D T A ad S y) (hd : decode (mdB y) pc = .ok (ins (pc, ln, 61, u, v, w, x), ln)) (ho : okX (mdO y) (mdG y) (mdL y) (mdR y) (pc, ln, 61, u, v, w, x) = true) (hc : tmn 61 = true ∨ cody y (pc + ln) c0 = true) (hb : ∀ L, cody y L (blk y L) = true) (hR : R.frames ≥ 1 ∧ 60 ≤ R.locals) (hs : step y (pc, ln, 61, u, v, w, x) c0 ls st M = some res) : DP p l e R s m args below meth c D T A ad S H0 Q y pc ls st M res := by
  rw [ok_61] at ho
  rw [in_61] at hd
  have hc := hc.resolve_left (by decide)
  rw [st_61] at hs
  obtain ⟨n, dp, nd, d, sp, ns, s', rfl, h1, h2, h3, h4, h5, rfl⟩ := hcpy_inv hs
  rw [Bool.and_eq_true] at ho
  have hln := of_decide_eq_true ho.1
  subst hln
  exact ⟨_, rfl, fun k => sk_61 C hR hd ho.2 h1 h2 h3 h4 h5 (k _ hc)⟩
theorem dp_all (C : Cx p s m args meth c D T A ad S y) {op : Nat} (hd : op = 0 ∨ decode (mdB y) pc = .ok (ins (pc, ln, op, u, v, w, x), ln)) (ho : okX (mdO y) (mdG y) (mdL y) (mdR y) (pc, ln, op, u, v, w, x) = true) (hc : tmn op = true ∨ cody y (pc + ln) c0 = true) (hb : ∀ L, cody y L (blk y L) = true) (hR : R.frames ≥ 1 ∧ 60 ≤ R.locals) (hs : step y (pc, ln, op, u, v, w, x) c0 ls st M = some res) (hn : op ≠ 59 ∧ op ≠ 60 ∧ op ≠ 62 ∧ op ≠ 63 ∧ op ≠ 64) : DP p l e R s m args below meth c D T A ad S H0 Q y pc ls st M res := by
  by_cases h0 : op = 0
  · subst h0; exact dp_0 C ho hc hb hs
  by_cases h1 : op = 1
  · subst h1; exact dp_1 C (hd.resolve_left (by decide)) ho hc hb hs
  by_cases h2 : op = 2
  · subst h2; exact dp_2 C (hd.resolve_left (by decide)) ho hc hb hs
  by_cases h3 : op = 3
  · subst h3; exact dp_3 C (hd.resolve_left (by decide)) ho hc hb hs
  by_cases h4 : op = 4
  · subst h4; exact dp_4 C (hd.resolve_left (by decide)) ho hc hb hs
  by_cases h5 : op = 5
  · subst h5; exact dp_5 C (hd.resolve_left (by decide)) ho hc hb hs
  by_cases h6 : op = 6
  · subst h6; exact dp_6 C (hd.resolve_left (by decide)) ho hc hb hs
  by_cases h7 : op = 7
  · subst h7; exact dp_7 C (hd.resolve_left (by decide)) ho hc hb hs
  by_cases h8 : op = 8
  · subst h8; exact dp_8 C (hd.resolve_left (by decide)) ho hc hb hs
  by_cases h9 : op = 9
  · subst h9; exact dp_9 C (hd.resolve_left (by decide)) ho hc hb hs
  by_cases h10 : op = 10
  · subst h10; exact dp_10 C (hd.resolve_left (by decide)) ho hc hb hs
  by_cases h11 : op = 11
  · subst h11; exact dp_11 C (hd.resolve_left (by decide)) ho hc hb hs
  by_cases h12 : op = 12
  · subst h12; exact dp_12 C (hd.resolve_left (by decide)) ho hc hb hs
  by_cases h13 : op = 13
  · subst h13; exact dp_13 C (hd.resolve_left (by decide)) ho hc hb hs
  by_cases h14 : op = 14
  · subst h14; exact dp_14 C (hd.resolve_left (by decide)) ho hc hb hs
  by_cases h15 : op = 15
  · subst h15; exact dp_15 C (hd.resolve_left (by decide)) ho hc hb hs
  by_cases h16 : op = 16
  · subst h16; exact dp_16 C (hd.resolve_left (by decide)) ho hc hb hs
  by_cases h17 : op = 17
  · subst h17; exact dp_17 C (hd.resolve_left (by decide)) ho hc hb hs
  by_cases h18 : op = 18
  · subst h18; exact dp_18 C (hd.resolve_left (by decide)) ho hc hb hs
  by_cases h19 : op = 19
  · subst h19; exact dp_19 C (hd.resolve_left (by decide)) ho hc hb hs
  by_cases h20 : op = 20
  · subst h20; exact dp_20 C (hd.resolve_left (by decide)) ho hc hb hs
  by_cases h21 : op = 21
  · subst h21; exact dp_21 C (hd.resolve_left (by decide)) ho hc hb hs
  by_cases h22 : op = 22
  · subst h22; exact dp_22 C (hd.resolve_left (by decide)) ho hc hb hs
  by_cases h23 : op = 23
  · subst h23; exact dp_23 C (hd.resolve_left (by decide)) ho hc hb hs
  by_cases h24 : op = 24
  · subst h24; exact dp_24 C (hd.resolve_left (by decide)) ho hc hb hs
  by_cases h25 : op = 25
  · subst h25; exact dp_25 C (hd.resolve_left (by decide)) ho hc hb hs
  by_cases h26 : op = 26
  · subst h26; exact dp_26 C (hd.resolve_left (by decide)) ho hc hb hs
  by_cases h27 : op = 27
  · subst h27; exact dp_27 C (hd.resolve_left (by decide)) ho hc hb hs
  by_cases h28 : op = 28
  · subst h28; exact dp_28 C (hd.resolve_left (by decide)) ho hc hb hs
  by_cases h29 : op = 29
  · subst h29; exact dp_29 C (hd.resolve_left (by decide)) ho hc hb hs
  by_cases h30 : op = 30
  · subst h30; exact dp_30 C (hd.resolve_left (by decide)) ho hc hb hs
  by_cases h31 : op = 31
  · subst h31; exact dp_31 C (hd.resolve_left (by decide)) ho hc hb hs
  by_cases h32 : op = 32
  · subst h32; exact dp_32 C (hd.resolve_left (by decide)) ho hc hb hs
  by_cases h33 : op = 33
  · subst h33; exact dp_33 C (hd.resolve_left (by decide)) ho hc hb hs
  by_cases h34 : op = 34
  · subst h34; exact dp_34 C (hd.resolve_left (by decide)) ho hc hb hs
  by_cases h35 : op = 35
  · subst h35; exact dp_35 C (hd.resolve_left (by decide)) ho hc hb hs
  by_cases h36 : op = 36
  · subst h36; exact dp_36 C (hd.resolve_left (by decide)) ho hc hb hs
  by_cases h37 : op = 37
  · subst h37; exact dp_37 C (hd.resolve_left (by decide)) ho hc hb hs
  by_cases h38 : op = 38
  · subst h38; exact dp_38 C (hd.resolve_left (by decide)) ho hc hb hs
  by_cases h39 : op = 39
  · subst h39; exact dp_39 C (hd.resolve_left (by decide)) ho hc hb hs
  by_cases h40 : op = 40
  · subst h40; exact dp_40 C (hd.resolve_left (by decide)) ho hc hb hs
  by_cases h41 : op = 41
  · subst h41; exact dp_41 C (hd.resolve_left (by decide)) ho hc hb hs
  by_cases h42 : op = 42
  · subst h42; exact dp_42 C (hd.resolve_left (by decide)) ho hc hb hs
  by_cases h43 : op = 43
  · subst h43; exact dp_43 C (hd.resolve_left (by decide)) ho hc hb hs
  by_cases h44 : op = 44
  · subst h44; exact dp_44 C (hd.resolve_left (by decide)) ho hc hb hs
  by_cases h45 : op = 45
  · subst h45; exact dp_45 C (hd.resolve_left (by decide)) ho hc hb hs
  by_cases h46 : op = 46
  · subst h46; exact dp_46 C (hd.resolve_left (by decide)) ho hc hb hs
  by_cases h47 : op = 47
  · subst h47; exact dp_47 C (hd.resolve_left (by decide)) ho hc hb hs
  by_cases h48 : op = 48
  · subst h48; exact dp_48 C (hd.resolve_left (by decide)) ho hc hb hs
  by_cases h49 : op = 49
  · subst h49; exact dp_49 C (hd.resolve_left (by decide)) ho hc hb hs
  by_cases h50 : op = 50
  · subst h50; exact dp_50 C (hd.resolve_left (by decide)) ho hc hb hs
  by_cases h51 : op = 51
  · subst h51; exact dp_51 C (hd.resolve_left (by decide)) ho hc hb hs
  by_cases h52 : op = 52
  · subst h52; exact dp_52 C (hd.resolve_left (by decide)) ho hc hb hs
  by_cases h53 : op = 53
  · subst h53; exact dp_53 C (hd.resolve_left (by decide)) ho hc hb hs
  by_cases h54 : op = 54
  · subst h54; exact dp_54 C (hd.resolve_left (by decide)) ho hc hb hs
  by_cases h55 : op = 55
  · subst h55; exact dp_55 C (hd.resolve_left (by decide)) ho hc hb hs
  by_cases h56 : op = 56
  · subst h56; exact dp_56 C (hd.resolve_left (by decide)) ho hc hb hs
  by_cases h57 : op = 57
  · subst h57; exact dp_57 C (hd.resolve_left (by decide)) ho hc hb hs
  by_cases h58 : op = 58
  · subst h58; exact dp_58 C (hd.resolve_left (by decide)) ho hc hb hs
  by_cases h61 : op = 61
  · subst h61; exact dp_61 C (hd.resolve_left (by decide)) ho hc hb hR hs
  by_cases h65 : op = 65
  · subst h65; exact dp_65 C (hd.resolve_left (by decide)) ho hc hb hs
  by_cases h66 : op = 66
  · subst h66; exact dp_66 C (hd.resolve_left (by decide)) ho hc hb hs
  by_cases h67 : op = 67
  · subst h67; exact dp_67 C (hd.resolve_left (by decide)) ho hc hb hs
  by_cases h68 : op = 68
  · subst h68; exact dp_68 C (hd.resolve_left (by decide)) ho hc hb hs
  exfalso
  simp only [step, h0, h1, h2, h3, h4, h5, h6, h7, h8, h9, h10, h11, h12, h13, h14, h15, h16, h17, h18, h19, h20, h21, h22, h23, h24, h25, h26, h27, h28, h29, h30, h31, h32, h33, h34, h35, h36, h37, h38, h39, h40, h41, h42, h43, h44, h45, h46, h47, h48, h49, h50, h51, h52, h53, h54, h55, h56, h57, h58, h61, h65, h66, h67, h68, hn.1, hn.2.1, hn.2.2.1, hn.2.2.2.1, hn.2.2.2.2, if_false] at hs
  cases hs
end DI
