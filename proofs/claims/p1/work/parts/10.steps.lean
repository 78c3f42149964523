/-! THE BRIDGE: the steps -/
def iwP (k : Nat) : Prop := ∀ w ∈ u_ws (cR k) (cT k) (cN k), w ∈ gtb
theorem iw_all : ∀ k, k < 13 → iwP k
  | 0, _ => iw_0
  | 1, _ => iw_1
  | 2, _ => iw_2
  | 3, _ => iw_3
  | 4, _ => iw_4
  | 5, _ => iw_5
  | 6, _ => iw_6
  | 7, _ => iw_7
  | 8, _ => iw_8
  | 9, _ => iw_9
  | 10, _ => iw_10
  | 11, _ => iw_11
  | 12, _ => iw_12
  | n + 13, h => absurd h (by omega)
theorem cls_at : ∀ k, k < 13 → classes[k]? = some (cR k, cT k, cN k)
  | 0, _ => rfl
  | 1, _ => rfl
  | 2, _ => rfl
  | 3, _ => rfl
  | 4, _ => rfl
  | 5, _ => rfl
  | 6, _ => rfl
  | 7, _ => rfl
  | 8, _ => rfl
  | 9, _ => rfl
  | 10, _ => rfl
  | 11, _ => rfl
  | 12, _ => rfl
  | n + 13, h => absurd h (by omega)
def tyP (k : Nat) : Prop := ∀ j, j < cN k → parseFieldDescriptor ((cT k) j).2.2.1 = some (cTy k j)
theorem ty_all : ∀ k, k < 13 → tyP k
  | 0, _ => tyX0_ok
  | 1, _ => tyX1_ok
  | 2, _ => tyX2_ok
  | 3, _ => tyX3_ok
  | 4, _ => tyX4_ok
  | 5, _ => tyX5_ok
  | 6, _ => tyX6_ok
  | 7, _ => tyX7_ok
  | 8, _ => tyX8_ok
  | 9, _ => tyX9_ok
  | 10, _ => tyX10_ok
  | 11, _ => tyX11_ok
  | 12, _ => tyX12_ok
  | n + 13, h => absurd h (by omega)
def nmP (k : Nat) : Prop := ∀ a, a < cN k → ∀ b, b < cN k → a ≠ b → ((cT k) a).2.1 ≠ ((cT k) b).2.1
theorem nm_all : ∀ k, k < 13 → nmP k
  | 0, _ => nmX0
  | 1, _ => nmX1
  | 2, _ => nmX2
  | 3, _ => nmX3
  | 4, _ => nmX4
  | 5, _ => nmX5
  | 6, _ => nmX6
  | 7, _ => nmX7
  | 8, _ => nmX8
  | 9, _ => nmX9
  | 10, _ => nmX10
  | 11, _ => nmX11
  | 12, _ => nmX12
  | n + 13, h => absurd h (by omega)
theorem mdL_le (z : Nat) : mdL z ≤ 40 := by
  by_cases h : z < 227
  · have h1 : (List.range 227).all (fun a => decide (mdL a ≤ 40)) = true := by decide +kernel
    exact of_decide_eq_true (List.all_eq_true.mp h1 z (List.mem_range.mpr h))
  · have : mdL z = 0 := by
      unfold mdL
      rw [List.getD_eq_getElem?_getD, List.getElem?_eq_none (by show 227 ≤ z; omega)]
      rfl
    rw [this]; decide
theorem fdk_spec {oo k v x : Nat} (h : fdk oo k v x = true) : (Cond.fieldLink (cR oo) x (cR k) ((cT k) v).2.1 ((cT k) v).2.2.1) ∈ gtb ∧ ((cT k) v).1 = cR k ∧ k < 13 ∧ v < cN k := by
  obtain ⟨q, hq, h1⟩ := List.any_eq_true.mp h
  simp only [Bool.and_eq_true, decide_eq_true_eq] at h1
  obtain ⟨⟨⟨rfl, rfl⟩, rfl⟩, rfl⟩ := h1
  have h2 := List.all_eq_true.mp flx_ok q hq
  simp only [Bool.and_eq_true, decide_eq_true_eq] at h2
  exact ⟨atb_mem h2.1.1, h2.1.2, h2.2.1, h2.2.2⟩
theorem mlk_spec {oo v x : Nat} (h : mlk oo v x = true) : Cond.methodLink (cR oo) x (mdY v) ∈ gtb := by
  obtain ⟨q, hq, h1⟩ := List.any_eq_true.mp h
  simp only [Bool.and_eq_true, decide_eq_true_eq] at h1
  obtain ⟨⟨rfl, rfl⟩, rfl⟩ := h1
  exact atb_mem (List.all_eq_true.mp mlx_ok q hq)
theorem cox_spec {oo x : Nat} {u : Int} (h : cox.any (fun q => decide (q.1 = oo) && decide (q.2.1 = x) && decide (q.2.2.1 = u)) = true) : Cond.constant (cR oo) x (Int32.ofInt u) ∈ gtb := by
  obtain ⟨q, hq, h1⟩ := List.any_eq_true.mp h
  simp only [Bool.and_eq_true, decide_eq_true_eq] at h1
  obtain ⟨⟨rfl, rfl⟩, rfl⟩ := h1
  exact atb_mem (List.all_eq_true.mp cox_ok q hq)
theorem clx_spec {oo x : Nat} {u : Int} (h : clx.any (fun q => decide (q.1 = oo) && decide (q.2.1 = x) && decide (q.2.2.1 = u)) = true) : Cond.constantLong (cR oo) x (Int64.ofInt u) ∈ gtb := by
  obtain ⟨q, hq, h1⟩ := List.any_eq_true.mp h
  simp only [Bool.and_eq_true, decide_eq_true_eq] at h1
  obtain ⟨⟨rfl, rfl⟩, rfl⟩ := h1
  exact atb_mem (List.all_eq_true.mp clx_ok q hq)
theorem acx_spec {oo x : Nat} (h : acx.any (fun q => decide (q.1 = oo) && decide (q.2.1 = x)) = true) : Cond.methodLink (cR oo) x arraycopyName ∈ gtb := by
  obtain ⟨q, hq, h1⟩ := List.any_eq_true.mp h
  simp only [Bool.and_eq_true, decide_eq_true_eq] at h1
  obtain ⟨rfl, rfl⟩ := h1
  exact atb_mem (List.all_eq_true.mp acx_ok q hq)
theorem lnv_or {ln v : Nat} (h : lnv ln v = true) : (ln = 1 ∧ v < 4) ∨ ln = 2 := by
  simpa [lnv] using h
theorem went_obj {T : Nat → ClassId} {ad : Nat → Nat} {M : Mem} {a w n : Nat} (hs : shp a = (w, n)) (hw : 10 ≤ w) : went T ad M a = .inr (w - 10, flds ad M a (w - 10)) := by
  unfold went
  rw [hs]
  simp only
  rw [if_neg (by omega), if_neg (by omega), if_neg (by omega), if_neg (by omega), if_neg (by omega)]
theorem went_0 {T : Nat → ClassId} {ad : Nat → Nat} {M : Mem} {a n : Nat} (hs : shp a = (0, n)) : went T ad M a = .inl (T 0, n, .inl (fun j => Int32.ofInt (M a (j : Int)))) := by
  unfold went; rw [hs]; rfl
theorem went_1 {T : Nat → ClassId} {ad : Nat → Nat} {M : Mem} {a n : Nat} (hs : shp a = (1, n)) : went T ad M a = .inl (T 1, n, .inr (.inl (fun j => Int64.ofInt (M a (j : Int))))) := by
  unfold went; rw [hs]; rfl
theorem went_2 {T : Nat → ClassId} {ad : Nat → Nat} {M : Mem} {a n : Nat} (hs : shp a = (2, n)) : went T ad M a = .inl (T 2, n, .inl (fun j => Int32.ofInt (M a (j : Int)))) := by
  unfold went; rw [hs]; rfl
theorem went_3 {T : Nat → ClassId} {ad : Nat → Nat} {M : Mem} {a n : Nat} (hs : shp a = (3, n)) : went T ad M a = .inl (T 3, n, .inl (fun j => Int32.ofInt (M a (j : Int)))) := by
  unfold went; rw [hs]; rfl
theorem went_4 {T : Nat → ClassId} {ad : Nat → Nat} {M : Mem} {a n : Nat} (hs : shp a = (4, n)) : went T ad M a = .inl (T 4, n, .inr (.inr (.inr (.inr (fun j => some (ad (rfs a j).2.2)))))) := by
  unfold went; rw [hs]; rfl
theorem fval_rf {ad : Nat → Nat} {M : Mem} {a j : Nat} {ty : FieldType} (h : isRf ty = true) : fval ad M a j ty = .ref (ad (rfs a j).2.2) := by
  cases ty <;> first | rfl | cases h
theorem nar_b {z : Int} (h1 : -128 ≤ z) (h2 : z < 128) : vp_nar .byte (Int32.ofInt z) = Int32.ofInt z := by
  show (Int32.ofInt z).toInt8.toInt32 = Int32.ofInt z
  rw [n_i2b]
  unfold w8
  congr 1; omega
theorem nar_z {z : Int} (h : z = 0 ∨ z = 1) : vp_nar .boolean (Int32.ofInt z) = Int32.ofInt z := by
  rcases h with rfl | rfl <;> rfl
def Cx (p : Program) (s : State) (m : MethodId) (args : Array Value) (meth : Method) (c : Code) (D : va_G) (T : Nat → ClassId) (A : Nat → Prop) (ad : Nat → Nat) (S : List Nat) (y : Nat) : Prop :=
  p.tables.exec = Jvm.exec ∧ c.code = mdB y ∧ c.maxLocals = mdL y ∧ meth.sig.returnType = mdR y ∧ s.vm.findClass (cR (mdO y)) = some m.cls ∧ (∀ w ∈ gtb, w.before args s = true) ∧ va_K D classes (tysL T) s ∧ meth.locks = false ∧ adD A ad S ∧ clo S = true
def Wt (p : Program) (l : Launch) (e : Env) (R : Room) (s : State) (m : MethodId) (args : Array Value) (below : List Frame) (meth : Method) (c : Code) (D : va_G) (T : Nat → ClassId) (A : Nat → Prop) (ad : Nat → Nat) (S : List Nat) (H0 : Heap) (Q : State → Prop) (y pc : Nat) (ls st : List AV) (M : Mem) : Prop :=
  ∀ (js : Array Slot) (H : Heap) (locs : List Loc), LR S ad y ls js → SRs S st → va_P D classes (wld T ad M S) H → va_S A H0 H locs → W p l e R s m args below meth c H locs 0 0 Q (F0 m pc js (st.map (rv ad)))
section ST
variable {p : Program} {l : Launch} {e : Env} {R : Room} {s : State} {m : MethodId} {args : Array Value} {below : List Frame} {meth : Method} {c : Code} {D : va_G} {T : Nat → ClassId} {A : Nat → Prop} {ad : Nat → Nat} {S : List Nat} {H0 : Heap} {Q : State → Prop} {y pc ln : Nat} {ls st : List AV} {M : Mem}
theorem sk_il (C : Cx p s m args meth c D T A ad S y) {i : Nat} {z : Int} (hd : decode (mdB y) pc = .ok (if ln = 1 then .iload_n (Fin.ofNat 4 i) else .iload i, ln)) (hl : lnv ln i = true) (hz : ls[i]? = some (aI z)) (k : Wt p l e R s m args below meth c D T A ad S H0 Q y (pc + ln) ls (aI z :: st) M) : Wt p l e R s m args below meth c D T A ad S H0 Q y pc ls st M := by
  obtain ⟨hx, hb, hml, hr, hown, hts, hK, hlk, hD, hC⟩ := C
  intro js H locs hL hs hP hS
  have k' := k js H locs hL hs.i hP hS
  have hj := hL.get hz rfl
  rcases lnv_or hl with ⟨rfl, h4⟩ | rfl
  · rw [if_pos rfl] at hd
    exact lv_iload_n hx hb hd (by show i % 4 = i; exact Nat.mod_eq_of_lt h4) hj k'
  · rw [if_neg (by decide)] at hd
    exact lv_iload hx hb hd hj k'
theorem sk_ll (C : Cx p s m args meth c D T A ad S y) {i : Nat} {z : Int} (hd : decode (mdB y) pc = .ok (if ln = 1 then .lload_n (Fin.ofNat 4 i) else .lload i, ln)) (hl : lnv ln i = true) (hz : ls[i]? = some (aL z)) (k : Wt p l e R s m args below meth c D T A ad S H0 Q y (pc + ln) ls (aL z :: st) M) : Wt p l e R s m args below meth c D T A ad S H0 Q y pc ls st M := by
  obtain ⟨hx, hb, hml, hr, hown, hts, hK, hlk, hD, hC⟩ := C
  intro js H locs hL hs hP hS
  have k' := k js H locs hL hs.l hP hS
  have hj := hL.get hz rfl
  rcases lnv_or hl with ⟨rfl, h4⟩ | rfl
  · rw [if_pos rfl] at hd
    exact lv_lload_n hx hb hd (by show i % 4 = i; exact Nat.mod_eq_of_lt h4) hj k'
  · rw [if_neg (by decide)] at hd
    exact lv_lload hx hb hd hj k'
theorem sk_al (C : Cx p s m args meth c D T A ad S y) {i : Nat} {z : Nat × Nat × Nat} (hd : decode (mdB y) pc = .ok (if ln = 1 then .aload_n (Fin.ofNat 4 i) else .aload i, ln)) (hl : lnv ln i = true) (hz : ls[i]? = some (Sum.inr (Sum.inl z))) (k : Wt p l e R s m args below meth c D T A ad S H0 Q y (pc + ln) ls (Sum.inr (Sum.inl z) :: st) M) : Wt p l e R s m args below meth c D T A ad S H0 Q y pc ls st M := by
  obtain ⟨hx, hb, hml, hr, hown, hts, hK, hlk, hD, hC⟩ := C
  intro js H locs hL hs hP hS
  have k' := k js H locs hL (hs.c ⟨hL.ok hz, rfl⟩) hP hS
  have hj := hL.get hz rfl
  rcases lnv_or hl with ⟨rfl, h4⟩ | rfl
  · rw [if_pos rfl] at hd
    exact lv_aload_n hx hb hd (by show i % 4 = i; exact Nat.mod_eq_of_lt h4) hj k'
  · rw [if_neg (by decide)] at hd
    exact lv_aload hx hb hd hj k'
theorem sk_is (C : Cx p s m args meth c D T A ad S y) {i : Nat} {z : Int} (hd : decode (mdB y) pc = .ok (if ln = 1 then .istore_n (Fin.ofNat 4 i) else .istore i, ln)) (hl : lnv ln i = true) (hn : i < mdL y) (hG : noL (mdG y) i = true) (k : Wt p l e R s m args below meth c D T A ad S H0 Q y (pc + ln) (ls.set i (aI z)) st M) : Wt p l e R s m args below meth c D T A ad S H0 Q y pc ls (aI z :: st) M := by
  obtain ⟨hx, hb, hml, hr, hown, hts, hK, hlk, hD, hC⟩ := C
  intro js H locs hL hs hP hS
  rcases lnv_or hl with ⟨rfl, h4⟩ | rfl
  · rw [if_pos rfl] at hd
    exact lv_istore_n hx hb hd (by show i % 4 = i; exact Nat.mod_eq_of_lt h4) hL.2.1 hn rfl (fun js' h => k js' H locs (hL.set1 hG trivial trivial h) hs.t hP hS)
  · rw [if_neg (by decide)] at hd
    exact lv_istore hx hb hd hL.2.1 hn rfl (fun js' h => k js' H locs (hL.set1 hG trivial trivial h) hs.t hP hS)
theorem sk_as (C : Cx p s m args meth c D T A ad S y) {i : Nat} {z : Nat × Nat × Nat} (hd : decode (mdB y) pc = .ok (if ln = 1 then .astore_n (Fin.ofNat 4 i) else .astore i, ln)) (hl : lnv ln i = true) (hn : i < mdL y) (hG : noL (mdG y) i = true) (k : Wt p l e R s m args below meth c D T A ad S H0 Q y (pc + ln) (ls.set i (Sum.inr (Sum.inl z))) st M) : Wt p l e R s m args below meth c D T A ad S H0 Q y pc ls (Sum.inr (Sum.inl z) :: st) M := by
  obtain ⟨hx, hb, hml, hr, hown, hts, hK, hlk, hD, hC⟩ := C
  intro js H locs hL hs hP hS
  rcases lnv_or hl with ⟨rfl, h4⟩ | rfl
  · rw [if_pos rfl] at hd
    exact lv_astore_n hx hb hd (by show i % 4 = i; exact Nat.mod_eq_of_lt h4) hL.2.1 hn rfl (fun js' h => k js' H locs (hL.set1 hG trivial hs.h.1 h) hs.t hP hS)
  · rw [if_neg (by decide)] at hd
    exact lv_astore hx hb hd hL.2.1 hn rfl (fun js' h => k js' H locs (hL.set1 hG trivial hs.h.1 h) hs.t hP hS)
theorem sk_ls (C : Cx p s m args meth c D T A ad S y) {i : Nat} {z : Int} (hd : decode (mdB y) pc = .ok (if ln = 1 then .lstore_n (Fin.ofNat 4 i) else .lstore i, ln)) (hl : lnv ln i = true) (hn : i + 1 < mdL y) (hG : noL (mdG y) i = true) (hi : i ∈ mdG y) (k : Wt p l e R s m args below meth c D T A ad S H0 Q y (pc + ln) (ls.set i (aL z)) st M) : Wt p l e R s m args below meth c D T A ad S H0 Q y pc ls (aL z :: st) M := by
  obtain ⟨hx, hb, hml, hr, hown, hts, hK, hlk, hD, hC⟩ := C
  intro js H locs hL hs hP hS
  rcases lnv_or hl with ⟨rfl, h4⟩ | rfl
  · rw [if_pos rfl] at hd
    exact lv_lstore_n hx hb hd (by show i % 4 = i; exact Nat.mod_eq_of_lt h4) hL.2.1 hn rfl (fun js' h => k js' H locs (hL.set2 hG hi h) hs.t hP hS)
  · rw [if_neg (by decide)] at hd
    exact lv_lstore hx hb hd hL.2.1 hn rfl (fun js' h => k js' H locs (hL.set2 hG hi h) hs.t hP hS)
theorem sk_inc (C : Cx p s m args meth c D T A ad S y) {i : Nat} {z u : Int} (hd : decode (mdB y) pc = .ok (.iinc i u, 3)) (hn : i < mdL y) (hG : noL (mdG y) i = true) (hz : ls[i]? = some (aI z)) (k : Wt p l e R s m args below meth c D T A ad S H0 Q y (pc + 3) (ls.set i (aI (z + u))) st M) : Wt p l e R s m args below meth c D T A ad S H0 Q y pc ls st M := by
  obtain ⟨hx, hb, hml, hr, hown, hts, hK, hlk, hD, hC⟩ := C
  intro js H locs hL hs hP hS
  have hm : (i, rv ad (aI z)) ∈ lvl ad 0 ls := lvl_mem.mpr ⟨i, aI z, hz, by simp, rfl, rfl⟩
  obtain ⟨k0, hk0⟩ := List.getElem?_of_mem hm
  exact lv_iinc hx hb hd hL.2.1 hk0 (v := Int32.ofInt (z + u)) (by rw [Int32.ofInt_add]) hn rfl (fun js' h => k js' H locs (hL.set1 (z := aI (z + u)) hG trivial trivial h) hs hP hS)
theorem sk_8 (C : Cx p s m args meth c D T A ad S y) {u : Int} {x : Nat} (hd : decode (mdB y) pc = .ok (.iconst u, 1)) (k : Wt p l e R s m args below meth c D T A ad S H0 Q y (pc + 1) ls (aI u :: st) M) : Wt p l e R s m args below meth c D T A ad S H0 Q y pc ls st M := by
  obtain ⟨hx, hb, hml, hr, hown, hts, hK, hlk, hD, hC⟩ := C
  intro js H locs hL hs hP hS
  exact lv_iconst hx hb hd rfl (k js H locs hL hs.i hP hS)
theorem sk_9 (C : Cx p s m args meth c D T A ad S y) {u : Int} {x : Nat} (hd : decode (mdB y) pc = .ok (.bipush u, 2)) (h1 : -128 ≤ u ∧ u < 128) (k : Wt p l e R s m args below meth c D T A ad S H0 Q y (pc + 2) ls (aI u :: st) M) : Wt p l e R s m args below meth c D T A ad S H0 Q y pc ls st M := by
  obtain ⟨hx, hb, hml, hr, hown, hts, hK, hlk, hD, hC⟩ := C
  intro js H locs hL hs hP hS
  exact lv_bipush hx hb hd (n_bip h1.1 h1.2) (k js H locs hL hs.i hP hS)
theorem sk_10 (C : Cx p s m args meth c D T A ad S y) {u : Int} {x : Nat} (hd : decode (mdB y) pc = .ok (.sipush u, 3)) (h1 : -32768 ≤ u ∧ u < 32768) (k : Wt p l e R s m args below meth c D T A ad S H0 Q y (pc + 3) ls (aI u :: st) M) : Wt p l e R s m args below meth c D T A ad S H0 Q y pc ls st M := by
  obtain ⟨hx, hb, hml, hr, hown, hts, hK, hlk, hD, hC⟩ := C
  intro js H locs hL hs hP hS
  exact lv_sipush hx hb hd (n_sip h1.1 h1.2) (k js H locs hL hs.i hP hS)
theorem sk_11 (C : Cx p s m args meth c D T A ad S y) {u : Int} {x : Nat} (hd : decode (mdB y) pc = .ok (.ldc x, 2)) (h1 : Cond.constant (cR (mdO y)) x (Int32.ofInt u) ∈ gtb) (k : Wt p l e R s m args below meth c D T A ad S H0 Q y (pc + 2) ls (aI u :: st) M) : Wt p l e R s m args below meth c D T A ad S H0 Q y pc ls st M := by
  obtain ⟨hx, hb, hml, hr, hown, hts, hK, hlk, hD, hC⟩ := C
  intro js H locs hL hs hP hS
  exact lv_ldc hx hb hown (hts _ h1) hd (k js H locs hL hs.i hP hS)
theorem sk_12 (C : Cx p s m args meth c D T A ad S y) {u : Int} {x : Nat} (hd : decode (mdB y) pc = .ok (.ldc_w x, 3)) (h1 : Cond.constant (cR (mdO y)) x (Int32.ofInt u) ∈ gtb) (k : Wt p l e R s m args below meth c D T A ad S H0 Q y (pc + 3) ls (aI u :: st) M) : Wt p l e R s m args below meth c D T A ad S H0 Q y pc ls st M := by
  obtain ⟨hx, hb, hml, hr, hown, hts, hK, hlk, hD, hC⟩ := C
  intro js H locs hL hs hP hS
  exact lv_ldcw hx hb hown (hts _ h1) hd (k js H locs hL hs.i hP hS)
theorem sk_13 (C : Cx p s m args meth c D T A ad S y) {u : Int} {x : Nat} (hd : decode (mdB y) pc = .ok (.ldc2_w x, 3)) (h1 : Cond.constantLong (cR (mdO y)) x (Int64.ofInt u) ∈ gtb) (k : Wt p l e R s m args below meth c D T A ad S H0 Q y (pc + 3) ls (aL u :: st) M) : Wt p l e R s m args below meth c D T A ad S H0 Q y pc ls st M := by
  obtain ⟨hx, hb, hml, hr, hown, hts, hK, hlk, hD, hC⟩ := C
  intro js H locs hL hs hP hS
  exact lv_ldc2 hx hb hown (hts _ h1) hd (k js H locs hL hs.l hP hS)
theorem sk_14 (C : Cx p s m args meth c D T A ad S y) {u : Int} {x : Nat} (hd : decode (mdB y) pc = .ok (.lconst (Fin.ofNat 2 u.toNat), 1)) (h1 : 0 ≤ u ∧ u < 2) (k : Wt p l e R s m args below meth c D T A ad S H0 Q y (pc + 1) ls (aL u :: st) M) : Wt p l e R s m args below meth c D T A ad S H0 Q y pc ls st M := by
  obtain ⟨hx, hb, hml, hr, hown, hts, hK, hlk, hD, hC⟩ := C
  intro js H locs hL hs hP hS
  exact lv_lconst hx hb hd (v := Int64.ofInt u) (by rcases (show u = 0 ∨ u = 1 by omega) with rfl | rfl <;> rfl) (k js H locs hL hs.l hP hS)
theorem sk_15 (C : Cx p s m args meth c D T A ad S y) {a b : Int} (hd : decode (mdB y) pc = .ok (.iadd, 1)) (k : Wt p l e R s m args below meth c D T A ad S H0 Q y (pc + 1) ls (aI (a + b) :: st) M) : Wt p l e R s m args below meth c D T A ad S H0 Q y pc ls (aI b :: aI a :: st) M := by
  obtain ⟨hx, hb, hml, hr, hown, hts, hK, hlk, hD, hC⟩ := C
  intro js H locs hL hs hP hS
  have e1 : Int32.ofInt (a + b) = Int32.ofInt a + Int32.ofInt b := Int32.ofInt_add a b
  have k' : W p l e R s m args below meth c H locs 0 0 Q (F0 m (pc + 1) js (.int (Int32.ofInt (a + b)) :: st.map (rv ad))) := k js H locs hL hs.t.t.i hP hS
  rw [e1] at k'
  exact lv_iadd hx hb hd k'
theorem sk_16 (C : Cx p s m args meth c D T A ad S y) {a b : Int} (hd : decode (mdB y) pc = .ok (.isub, 1)) (k : Wt p l e R s m args below meth c D T A ad S H0 Q y (pc + 1) ls (aI (a - b) :: st) M) : Wt p l e R s m args below meth c D T A ad S H0 Q y pc ls (aI b :: aI a :: st) M := by
  obtain ⟨hx, hb, hml, hr, hown, hts, hK, hlk, hD, hC⟩ := C
  intro js H locs hL hs hP hS
  have e1 : Int32.ofInt (a - b) = Int32.ofInt a - Int32.ofInt b := Int32.ofInt_sub a b
  have k' : W p l e R s m args below meth c H locs 0 0 Q (F0 m (pc + 1) js (.int (Int32.ofInt (a - b)) :: st.map (rv ad))) := k js H locs hL hs.t.t.i hP hS
  rw [e1] at k'
  exact lv_isub hx hb hd k'
theorem sk_17 (C : Cx p s m args meth c D T A ad S y) {a b : Int} (hd : decode (mdB y) pc = .ok (.imul, 1)) (k : Wt p l e R s m args below meth c D T A ad S H0 Q y (pc + 1) ls (aI (a * b) :: st) M) : Wt p l e R s m args below meth c D T A ad S H0 Q y pc ls (aI b :: aI a :: st) M := by
  obtain ⟨hx, hb, hml, hr, hown, hts, hK, hlk, hD, hC⟩ := C
  intro js H locs hL hs hP hS
  have e1 : Int32.ofInt (a * b) = Int32.ofInt a * Int32.ofInt b := Int32.ofInt_mul a b
  have k' : W p l e R s m args below meth c H locs 0 0 Q (F0 m (pc + 1) js (.int (Int32.ofInt (a * b)) :: st.map (rv ad))) := k js H locs hL hs.t.t.i hP hS
  rw [e1] at k'
  exact lv_imul hx hb hd k'
theorem sk_21 (C : Cx p s m args meth c D T A ad S y) {a b : Int} (hd : decode (mdB y) pc = .ok (.ishl, 1)) (k : Wt p l e R s m args below meth c D T A ad S H0 Q y (pc + 1) ls (aI (shl32 a b) :: st) M) : Wt p l e R s m args below meth c D T A ad S H0 Q y pc ls (aI b :: aI a :: st) M := by
  obtain ⟨hx, hb, hml, hr, hown, hts, hK, hlk, hD, hC⟩ := C
  intro js H locs hL hs hP hS
  have e1 : Int32.ofInt (shl32 a b) = Int32.ofInt a <<< (Int32.ofInt b &&& 31) := Int32.ofInt_toInt _
  have k' : W p l e R s m args below meth c H locs 0 0 Q (F0 m (pc + 1) js (.int (Int32.ofInt (shl32 a b)) :: st.map (rv ad))) := k js H locs hL hs.t.t.i hP hS
  rw [e1] at k'
  exact lv_ishl hx hb hd k'
theorem sk_22 (C : Cx p s m args meth c D T A ad S y) {a b : Int} (hd : decode (mdB y) pc = .ok (.ishr, 1)) (k : Wt p l e R s m args below meth c D T A ad S H0 Q y (pc + 1) ls (aI (shr32 a b) :: st) M) : Wt p l e R s m args below meth c D T A ad S H0 Q y pc ls (aI b :: aI a :: st) M := by
  obtain ⟨hx, hb, hml, hr, hown, hts, hK, hlk, hD, hC⟩ := C
  intro js H locs hL hs hP hS
  have e1 : Int32.ofInt (shr32 a b) = Int32.ofInt a >>> (Int32.ofInt b &&& 31) := Int32.ofInt_toInt _
  have k' : W p l e R s m args below meth c H locs 0 0 Q (F0 m (pc + 1) js (.int (Int32.ofInt (shr32 a b)) :: st.map (rv ad))) := k js H locs hL hs.t.t.i hP hS
  rw [e1] at k'
  exact lv_ishr hx hb hd k'
theorem sk_24 (C : Cx p s m args meth c D T A ad S y) {a b : Int} (hd : decode (mdB y) pc = .ok (.iand, 1)) (k : Wt p l e R s m args below meth c D T A ad S H0 Q y (pc + 1) ls (aI (and32 a b) :: st) M) : Wt p l e R s m args below meth c D T A ad S H0 Q y pc ls (aI b :: aI a :: st) M := by
  obtain ⟨hx, hb, hml, hr, hown, hts, hK, hlk, hD, hC⟩ := C
  intro js H locs hL hs hP hS
  have e1 : Int32.ofInt (and32 a b) = Int32.ofInt a &&& Int32.ofInt b := Int32.ofInt_toInt _
  have k' : W p l e R s m args below meth c H locs 0 0 Q (F0 m (pc + 1) js (.int (Int32.ofInt (and32 a b)) :: st.map (rv ad))) := k js H locs hL hs.t.t.i hP hS
  rw [e1] at k'
  exact lv_iand hx hb hd k'
theorem sk_25 (C : Cx p s m args meth c D T A ad S y) {a b : Int} (hd : decode (mdB y) pc = .ok (.ior, 1)) (k : Wt p l e R s m args below meth c D T A ad S H0 Q y (pc + 1) ls (aI (or32 a b) :: st) M) : Wt p l e R s m args below meth c D T A ad S H0 Q y pc ls (aI b :: aI a :: st) M := by
  obtain ⟨hx, hb, hml, hr, hown, hts, hK, hlk, hD, hC⟩ := C
  intro js H locs hL hs hP hS
  have e1 : Int32.ofInt (or32 a b) = Int32.ofInt a ||| Int32.ofInt b := Int32.ofInt_toInt _
  have k' : W p l e R s m args below meth c H locs 0 0 Q (F0 m (pc + 1) js (.int (Int32.ofInt (or32 a b)) :: st.map (rv ad))) := k js H locs hL hs.t.t.i hP hS
  rw [e1] at k'
  exact lv_ior hx hb hd k'
theorem sk_26 (C : Cx p s m args meth c D T A ad S y) {a b : Int} (hd : decode (mdB y) pc = .ok (.ixor, 1)) (k : Wt p l e R s m args below meth c D T A ad S H0 Q y (pc + 1) ls (aI (xor32 a b) :: st) M) : Wt p l e R s m args below meth c D T A ad S H0 Q y pc ls (aI b :: aI a :: st) M := by
  obtain ⟨hx, hb, hml, hr, hown, hts, hK, hlk, hD, hC⟩ := C
  intro js H locs hL hs hP hS
  have e1 : Int32.ofInt (xor32 a b) = Int32.ofInt a ^^^ Int32.ofInt b := Int32.ofInt_toInt _
  have k' : W p l e R s m args below meth c H locs 0 0 Q (F0 m (pc + 1) js (.int (Int32.ofInt (xor32 a b)) :: st.map (rv ad))) := k js H locs hL hs.t.t.i hP hS
  rw [e1] at k'
  exact lv_ixor hx hb hd k'
theorem sk_18 (C : Cx p s m args meth c D T A ad S y) {a b : Int} (hd : decode (mdB y) pc = .ok (.idiv, 1)) (h1 : ¬ w32 b = 0) (k : Wt p l e R s m args below meth c D T A ad S H0 Q y (pc + 1) ls (aI (div32 a b) :: st) M) : Wt p l e R s m args below meth c D T A ad S H0 Q y pc ls (aI b :: aI a :: st) M := by
  obtain ⟨hx, hb, hml, hr, hown, hts, hK, hlk, hD, hC⟩ := C
  intro js H locs hL hs hP hS
  have e1 : Int32.ofInt (div32 a b) = Int32.ofInt a / Int32.ofInt b := Int32.ofInt_toInt _
  have k' : W p l e R s m args below meth c H locs 0 0 Q (F0 m (pc + 1) js (.int (Int32.ofInt (div32 a b)) :: st.map (rv ad))) := k js H locs hL hs.t.t.i hP hS
  rw [e1] at k'
  exact lv_idiv hx hb hd (n_nz h1) k'
theorem sk_19 (C : Cx p s m args meth c D T A ad S y) {a b : Int} (hd : decode (mdB y) pc = .ok (.irem, 1)) (h1 : ¬ w32 b = 0) (k : Wt p l e R s m args below meth c D T A ad S H0 Q y (pc + 1) ls (aI (rem32 a b) :: st) M) : Wt p l e R s m args below meth c D T A ad S H0 Q y pc ls (aI b :: aI a :: st) M := by
  obtain ⟨hx, hb, hml, hr, hown, hts, hK, hlk, hD, hC⟩ := C
  intro js H locs hL hs hP hS
  have e1 : Int32.ofInt (rem32 a b) = Int32.ofInt a - Int32.ofInt a / Int32.ofInt b * Int32.ofInt b := Int32.ofInt_toInt _
  have k' : W p l e R s m args below meth c H locs 0 0 Q (F0 m (pc + 1) js (.int (Int32.ofInt (rem32 a b)) :: st.map (rv ad))) := k js H locs hL hs.t.t.i hP hS
  rw [e1] at k'
  exact lv_irem hx hb hd (n_nz h1) k'
theorem sk_20 (C : Cx p s m args meth c D T A ad S y) {a : Int} (hd : decode (mdB y) pc = .ok (.ineg, 1)) (k : Wt p l e R s m args below meth c D T A ad S H0 Q y (pc + 1) ls (aI (-a) :: st) M) : Wt p l e R s m args below meth c D T A ad S H0 Q y pc ls (aI a :: st) M := by
  obtain ⟨hx, hb, hml, hr, hown, hts, hK, hlk, hD, hC⟩ := C
  intro js H locs hL hs hP hS
  have k' : W p l e R s m args below meth c H locs 0 0 Q (F0 m (pc + 1) js (.int (Int32.ofInt (-a)) :: st.map (rv ad))) := k js H locs hL hs.t.i hP hS
  rw [Int32.ofInt_neg] at k'
  exact lv_ineg hx hb hd k'
theorem sk_23 (C : Cx p s m args meth c D T A ad S y) {a b : Int} (hd : decode (mdB y) pc = .ok (.iushr, 1)) (k : Wt p l e R s m args below meth c D T A ad S H0 Q y (pc + 1) ls (aI (ushr32 a b) :: st) M) : Wt p l e R s m args below meth c D T A ad S H0 Q y pc ls (aI b :: aI a :: st) M := by
  obtain ⟨hx, hb, hml, hr, hown, hts, hK, hlk, hD, hC⟩ := C
  intro js H locs hL hs hP hS
  exact lv_iushr hx hb hd (v := Int32.ofInt (ushr32 a b)) (Int32.ofInt_toInt _).symm (k js H locs hL hs.t.t.i hP hS)
theorem sk_27 (C : Cx p s m args meth c D T A ad S y) {a : Int} (hd : decode (mdB y) pc = .ok (.i2l, 1)) (k : Wt p l e R s m args below meth c D T A ad S H0 Q y (pc + 1) ls (aL (w32 a) :: st) M) : Wt p l e R s m args below meth c D T A ad S H0 Q y pc ls (aI a :: st) M := by
  obtain ⟨hx, hb, hml, hr, hown, hts, hK, hlk, hD, hC⟩ := C
  intro js H locs hL hs hP hS
  exact lv_i2l hx hb hd (n_i2l a) (k js H locs hL hs.t.l hP hS)
theorem sk_28 (C : Cx p s m args meth c D T A ad S y) {a : Int} (hd : decode (mdB y) pc = .ok (.i2b, 1)) (k : Wt p l e R s m args below meth c D T A ad S H0 Q y (pc + 1) ls (aI (w8 a) :: st) M) : Wt p l e R s m args below meth c D T A ad S H0 Q y pc ls (aI a :: st) M := by
  obtain ⟨hx, hb, hml, hr, hown, hts, hK, hlk, hD, hC⟩ := C
  intro js H locs hL hs hP hS
  exact lv_i2b hx hb hd (n_i2b a) (k js H locs hL hs.t.i hP hS)
theorem sk_29 (C : Cx p s m args meth c D T A ad S y) {a b : Int} (hd : decode (mdB y) pc = .ok (.lshl, 1)) (k : Wt p l e R s m args below meth c D T A ad S H0 Q y (pc + 1) ls (aL (shl64 a b) :: st) M) : Wt p l e R s m args below meth c D T A ad S H0 Q y pc ls (aI b :: aL a :: st) M := by
  obtain ⟨hx, hb, hml, hr, hown, hts, hK, hlk, hD, hC⟩ := C
  intro js H locs hL hs hP hS
  exact lv_lshl hx hb hd (v := Int64.ofInt (shl64 a b)) (Int64.ofInt_toInt _).symm (k js H locs hL hs.t.t.l hP hS)
theorem sk_30 (C : Cx p s m args meth c D T A ad S y) {a b : Int} (hd : decode (mdB y) pc = .ok (.lor, 1)) (k : Wt p l e R s m args below meth c D T A ad S H0 Q y (pc + 1) ls (aL (or64 a b) :: st) M) : Wt p l e R s m args below meth c D T A ad S H0 Q y pc ls (aL b :: aL a :: st) M := by
  obtain ⟨hx, hb, hml, hr, hown, hts, hK, hlk, hD, hC⟩ := C
  intro js H locs hL hs hP hS
  have e1 : Int64.ofInt (or64 a b) = Int64.ofInt a ||| Int64.ofInt b := Int64.ofInt_toInt _
  have k' : W p l e R s m args below meth c H locs 0 0 Q (F0 m (pc + 1) js (.long (Int64.ofInt (or64 a b)) :: st.map (rv ad))) := k js H locs hL hs.t.t.l hP hS
  rw [e1] at k'
  exact lv_lor hx hb hd k'
theorem sk_31 (C : Cx p s m args meth c D T A ad S y) {a b : Int} (hd : decode (mdB y) pc = .ok (.lcmp, 1)) (k : Wt p l e R s m args below meth c D T A ad S H0 Q y (pc + 1) ls (aI (cmp64 a b) :: st) M) : Wt p l e R s m args below meth c D T A ad S H0 Q y pc ls (aL b :: aL a :: st) M := by
  obtain ⟨hx, hb, hml, hr, hown, hts, hK, hlk, hD, hC⟩ := C
  intro js H locs hL hs hP hS
  have k' : W p l e R s m args below meth c H locs 0 0 Q (F0 m (pc + 1) js (.int (Int32.ofInt (cmp64 a b)) :: st.map (rv ad))) := k js H locs hL hs.t.t.i hP hS
  rw [← n_cmp] at k'
  exact W.lcmp hx hb hd k'
theorem nlb_cat {v : AV} (h : nlb v = true) : (rv ad v).category = 1 := by
  rcases v with (v | v) | (v | v)
  · rfl
  · cases h
  · rfl
  · cases h
theorem sk_32 (C : Cx p s m args meth c D T A ad S y) {a : AV} (hd : decode (mdB y) pc = .ok (.dup, 1)) (h1 : nlb a = true) (k : Wt p l e R s m args below meth c D T A ad S H0 Q y (pc + 1) ls (a :: a :: st) M) : Wt p l e R s m args below meth c D T A ad S H0 Q y pc ls (a :: st) M := by
  obtain ⟨hx, hb, hml, hr, hown, hts, hK, hlk, hD, hC⟩ := C
  intro js H locs hL hs hP hS
  exact lv_dup hx hb hd (nlb_cat h1) (k js H locs hL (hs.c hs.h) hP hS)
theorem sk_33 (C : Cx p s m args meth c D T A ad S y) {a b : AV} (hd : decode (mdB y) pc = .ok (.dup2, 1)) (h1 : nlb a = true) (h2 : nlb b = true) (k : Wt p l e R s m args below meth c D T A ad S H0 Q y (pc + 1) ls (b :: a :: b :: a :: st) M) : Wt p l e R s m args below meth c D T A ad S H0 Q y pc ls (b :: a :: st) M := by
  obtain ⟨hx, hb, hml, hr, hown, hts, hK, hlk, hD, hC⟩ := C
  intro js H locs hL hs hP hS
  exact lv_dup2_11 hx hb hd (nlb_cat h2) (nlb_cat h1) (k js H locs hL ((hs.c hs.t.h).c hs.h) hP hS)
theorem sk_34 (C : Cx p s m args meth c D T A ad S y) {a : AV} (hd : decode (mdB y) pc = .ok (.pop, 1)) (h1 : nlb a = true) (k : Wt p l e R s m args below meth c D T A ad S H0 Q y (pc + 1) ls st M) : Wt p l e R s m args below meth c D T A ad S H0 Q y pc ls (a :: st) M := by
  obtain ⟨hx, hb, hml, hr, hown, hts, hK, hlk, hD, hC⟩ := C
  intro js H locs hL hs hP hS
  exact lv_pop hx hb hd (nlb_cat h1) (k js H locs hL hs.t hP hS)
theorem sk_35 (C : Cx p s m args meth c D T A ad S y) {w n a v x : Nat} (hd : decode (mdB y) pc = .ok (.getfield x, 3)) (hw : 10 ≤ w) (hf : fdk (mdO y) (w - 10) v x = true) (ht : cTy (w - 10) v = .int ∨ cTy (w - 10) v = .boolean) (k : Wt p l e R s m args below meth c D T A ad S H0 Q y (pc + 3) ls (aI (M a (v : Int)) :: st) M) : Wt p l e R s m args below meth c D T A ad S H0 Q y pc ls (aR w n a :: st) M := by
  obtain ⟨hx, hb, hml, hr, hown, hts, hK, hlk, hD, hC⟩ := C
  intro js H locs hL hs hP hS
  obtain ⟨f1, f2, f3, f4⟩ := fdk_spec hf
  obtain ⟨ha, hsh⟩ : a ∈ S ∧ shp a = (w, n) := hs.h.1
  obtain ⟨q0, hq0⟩ := List.getElem?_of_mem ha
  have he : (wld T ad M S)[q0]? = some (ad a, .inr (w - 10, flds ad M a (w - 10))) := by rw [wld_a hq0, went_obj hsh hw]
  have hv : (flds ad M a (w - 10))[v]? = some (.int (Int32.ofInt (M a (v : Int)))) := by
    rw [flds_get f4]
    rcases ht with h | h <;> rw [h] <;> rfl
  exact va_get hx hb hts (iw_all _ f3) hown hK hP q0 he (cls_at _ f3) v f4 (hts _ f1) (fun x h => by rw [f2] at h; exact h) hv hd (k js H locs hL hs.t.i hP hS)
theorem sk_65 (C : Cx p s m args meth c D T A ad S y) {w n a v x : Nat} (hd : decode (mdB y) pc = .ok (.getfield x, 3)) (hw : 10 ≤ w) (hf : fdk (mdO y) (w - 10) v x = true) (ht : cTy (w - 10) v = .long) (k : Wt p l e R s m args below meth c D T A ad S H0 Q y (pc + 3) ls (aL (M a (v : Int)) :: st) M) : Wt p l e R s m args below meth c D T A ad S H0 Q y pc ls (aR w n a :: st) M := by
  obtain ⟨hx, hb, hml, hr, hown, hts, hK, hlk, hD, hC⟩ := C
  intro js H locs hL hs hP hS
  obtain ⟨f1, f2, f3, f4⟩ := fdk_spec hf
  obtain ⟨ha, hsh⟩ : a ∈ S ∧ shp a = (w, n) := hs.h.1
  obtain ⟨q0, hq0⟩ := List.getElem?_of_mem ha
  have he : (wld T ad M S)[q0]? = some (ad a, .inr (w - 10, flds ad M a (w - 10))) := by rw [wld_a hq0, went_obj hsh hw]
  have hv : (flds ad M a (w - 10))[v]? = some (.long (Int64.ofInt (M a (v : Int)))) := by
    rw [flds_get f4]
    rw [ht]; rfl
  exact va_get hx hb hts (iw_all _ f3) hown hK hP q0 he (cls_at _ f3) v f4 (hts _ f1) (fun x h => by rw [f2] at h; exact h) hv hd (k js H locs hL hs.t.l hP hS)
theorem sk_66 (C : Cx p s m args meth c D T A ad S y) {w n a v x : Nat} (hd : decode (mdB y) pc = .ok (.getfield x, 3)) (hw : 10 ≤ w) (hf : fdk (mdO y) (w - 10) v x = true) (ht : isRf (cTy (w - 10) v) = true) (k : Wt p l e R s m args below meth c D T A ad S H0 Q y (pc + 3) ls (Sum.inr (Sum.inl (rfs a v)) :: st) M) : Wt p l e R s m args below meth c D T A ad S H0 Q y pc ls (aR w n a :: st) M := by
  obtain ⟨hx, hb, hml, hr, hown, hts, hK, hlk, hD, hC⟩ := C
  intro js H locs hL hs hP hS
  obtain ⟨f1, f2, f3, f4⟩ := fdk_spec hf
  obtain ⟨ha, hsh⟩ : a ∈ S ∧ shp a = (w, n) := hs.h.1
  obtain ⟨q0, hq0⟩ := List.getElem?_of_mem ha
  have he : (wld T ad M S)[q0]? = some (ad a, .inr (w - 10, flds ad M a (w - 10))) := by rw [wld_a hq0, went_obj hsh hw]
  have hv : (flds ad M a (w - 10))[v]? = some (.ref (ad (rfs a v).2.2)) := by rw [flds_get f4, fval_rf ht]
  have hk := clo_obj hC ha (k := w - 10) (by rw [hsh]; show w = 10 + (w - 10); omega) f4 ht
  exact va_get hx hb hts (iw_all _ f3) hown hK hP q0 he (cls_at _ f3) v f4 (hts _ f1) (fun x h => by rw [f2] at h; exact h) hv hd (k js H locs hL (hs.t.c ⟨hk, rfl⟩) hP hS)
theorem sk_36 (C : Cx p s m args meth c D T A ad S y) {w n a v x : Nat} (hd : decode (mdB y) pc = .ok (.putfield x, 3)) (hw : 10 ≤ w) (hf : fdk (mdO y) (w - 10) v x = true) {z : Int} (ht : cTy (w - 10) v = .int) (hfin : ((cT (w - 10)) v).2.2.2 = false) (k : Wt p l e R s m args below meth c D T A ad S H0 Q y (pc + 3) ls st (up M a (v : Int) z)) : Wt p l e R s m args below meth c D T A ad S H0 Q y pc ls (aI z :: aR w n a :: st) M := by
  obtain ⟨hx, hb, hml, hr, hown, hts, hK, hlk, hD, hC⟩ := C
  intro js H locs hL hs hP hS
  obtain ⟨f1, f2, f3, f4⟩ := fdk_spec hf
  obtain ⟨ha, hsh⟩ : a ∈ S ∧ shp a = (w, n) := hs.t.h.1
  obtain ⟨q0, hq0⟩ := List.getElem?_of_mem ha
  have he : (wld T ad M S)[q0]? = some (ad a, .inr (w - 10, flds ad M a (w - 10))) := by rw [wld_a hq0, went_obj hsh hw]
  have hE : went T ad (up M a (v : Int) z) a = .inr (w - 10, (flds ad M a (w - 10)).set v (rv ad (aI z))) := by
    rw [went_obj hsh hw, flds_up f4, ht]
    simp [fval, up, rv]
  have hpd := ty_all _ f3 v f4
  rw [ht] at hpd
  exact va_put hx hb hts (iw_all _ f3) (cTy (w - 10)) (ty_all _ f3) (nm_all _ f3) hown hK hP hD.D hS q0 he (cls_at _ f3) v f4 (hts _ f1) (fun x h => by rw [f2] at h; exact h) hfin hpd rfl rfl (by simpa [flds] using f4) hd
    (fun H1 locs1 hP1 _ hS1 => k js H1 locs1 hL hs.t.t (by rw [wld_set hD hq0 hE (fun b hb => went_up hb)] at hP1; exact hP1) hS1)
theorem sk_67 (C : Cx p s m args meth c D T A ad S y) {w n a v x : Nat} (hd : decode (mdB y) pc = .ok (.putfield x, 3)) (hw : 10 ≤ w) (hf : fdk (mdO y) (w - 10) v x = true) {z : Int} (ht : cTy (w - 10) v = .long) (hfin : ((cT (w - 10)) v).2.2.2 = false) (k : Wt p l e R s m args below meth c D T A ad S H0 Q y (pc + 3) ls st (up M a (v : Int) z)) : Wt p l e R s m args below meth c D T A ad S H0 Q y pc ls (aL z :: aR w n a :: st) M := by
  obtain ⟨hx, hb, hml, hr, hown, hts, hK, hlk, hD, hC⟩ := C
  intro js H locs hL hs hP hS
  obtain ⟨f1, f2, f3, f4⟩ := fdk_spec hf
  obtain ⟨ha, hsh⟩ : a ∈ S ∧ shp a = (w, n) := hs.t.h.1
  obtain ⟨q0, hq0⟩ := List.getElem?_of_mem ha
  have he : (wld T ad M S)[q0]? = some (ad a, .inr (w - 10, flds ad M a (w - 10))) := by rw [wld_a hq0, went_obj hsh hw]
  have hE : went T ad (up M a (v : Int) z) a = .inr (w - 10, (flds ad M a (w - 10)).set v (rv ad (aL z))) := by
    rw [went_obj hsh hw, flds_up f4, ht]
    simp [fval, up, rv]
  have hpd := ty_all _ f3 v f4
  rw [ht] at hpd
  exact va_put hx hb hts (iw_all _ f3) (cTy (w - 10)) (ty_all _ f3) (nm_all _ f3) hown hK hP hD.D hS q0 he (cls_at _ f3) v f4 (hts _ f1) (fun x h => by rw [f2] at h; exact h) hfin hpd rfl rfl (by simpa [flds] using f4) hd
    (fun H1 locs1 hP1 _ hS1 => k js H1 locs1 hL hs.t.t (by rw [wld_set hD hq0 hE (fun b hb => went_up hb)] at hP1; exact hP1) hS1)
theorem sk_68 (C : Cx p s m args meth c D T A ad S y) {w n a v x : Nat} (hd : decode (mdB y) pc = .ok (.putfield x, 3)) (hw : 10 ≤ w) (hf : fdk (mdO y) (w - 10) v x = true) {z : Int} (ht : cTy (w - 10) v = .boolean) (hfin : ((cT (w - 10)) v).2.2.2 = false) (hz : z = 0 ∨ z = 1) (k : Wt p l e R s m args below meth c D T A ad S H0 Q y (pc + 3) ls st (up M a (v : Int) z)) : Wt p l e R s m args below meth c D T A ad S H0 Q y pc ls (aI z :: aR w n a :: st) M := by
  obtain ⟨hx, hb, hml, hr, hown, hts, hK, hlk, hD, hC⟩ := C
  intro js H locs hL hs hP hS
  obtain ⟨f1, f2, f3, f4⟩ := fdk_spec hf
  obtain ⟨ha, hsh⟩ : a ∈ S ∧ shp a = (w, n) := hs.t.h.1
  obtain ⟨q0, hq0⟩ := List.getElem?_of_mem ha
  have he : (wld T ad M S)[q0]? = some (ad a, .inr (w - 10, flds ad M a (w - 10))) := by rw [wld_a hq0, went_obj hsh hw]
  have hE : went T ad (up M a (v : Int) z) a = .inr (w - 10, (flds ad M a (w - 10)).set v (rv ad (aI z))) := by
    rw [went_obj hsh hw, flds_up f4, ht]
    simp [fval, up, rv]
  have hpd := ty_all _ f3 v f4
  rw [ht] at hpd
  exact va_put hx hb hts (iw_all _ f3) (cTy (w - 10)) (ty_all _ f3) (nm_all _ f3) hown hK hP hD.D hS q0 he (cls_at _ f3) v f4 (hts _ f1) (fun x h => by rw [f2] at h; exact h) hfin hpd (by rcases hz with rfl | rfl <;> rfl) (by rcases hz with rfl | rfl <;> rfl) (by simpa [flds] using f4) hd
    (fun H1 locs1 hP1 _ hS1 => k js H1 locs1 hL hs.t.t (by rw [wld_set hD hq0 hE (fun b hb => went_up hb)] at hP1; exact hP1) hS1)
theorem sk_37 (C : Cx p s m args meth c D T A ad S y) {n a : Nat} {i : Int} (hd : decode (mdB y) pc = .ok (.iaload, 1)) (h0 : 0 ≤ i) (hn : i < (n : Int)) (k : Wt p l e R s m args below meth c D T A ad S H0 Q y (pc + 1) ls (aI (M a i) :: st) M) : Wt p l e R s m args below meth c D T A ad S H0 Q y pc ls (aI i :: aR 0 n a :: st) M := by
  obtain ⟨hx, hb, hml, hr, hown, hts, hK, hlk, hD, hC⟩ := C
  intro js H locs hL hs hP hS
  have hn2 : n < 20000 := by
    obtain ⟨-, hsh⟩ : a ∈ S ∧ shp a = (0, n) := hs.t.h.1
    have := shp_lt a
    rw [hsh] at this
    exact this
  obtain ⟨ha, hsh⟩ : a ∈ S ∧ shp a = (0, n) := hs.t.h.1
  obtain ⟨q0, hq0⟩ := List.getElem?_of_mem ha
  have he := wld_a (T := T) (ad := ad) (M := M) hq0
  rw [went_0 hsh] at he
  have hi := vin h0 hn hn2
  have ht := tnc h0 (by omega : i < 2147483648)
  refine va_iald hx hb hK hP q0 0 he rfl hi hd ?_
  rw [ht, Int.toNat_of_nonneg h0]
  exact k js H locs hL hs.t.t.i hP hS
theorem sk_41b (C : Cx p s m args meth c D T A ad S y) {n a : Nat} {i : Int} (hd : decode (mdB y) pc = .ok (.baload, 1)) (h0 : 0 ≤ i) (hn : i < (n : Int)) (k : Wt p l e R s m args below meth c D T A ad S H0 Q y (pc + 1) ls (aI (M a i) :: st) M) : Wt p l e R s m args below meth c D T A ad S H0 Q y pc ls (aI i :: aR 2 n a :: st) M := by
  obtain ⟨hx, hb, hml, hr, hown, hts, hK, hlk, hD, hC⟩ := C
  intro js H locs hL hs hP hS
  have hn2 : n < 20000 := by
    obtain ⟨-, hsh⟩ : a ∈ S ∧ shp a = (2, n) := hs.t.h.1
    have := shp_lt a
    rw [hsh] at this
    exact this
  obtain ⟨ha, hsh⟩ : a ∈ S ∧ shp a = (2, n) := hs.t.h.1
  obtain ⟨q0, hq0⟩ := List.getElem?_of_mem ha
  have he := wld_a (T := T) (ad := ad) (M := M) hq0
  rw [went_2 hsh] at he
  have hi := vin h0 hn hn2
  have ht := tnc h0 (by omega : i < 2147483648)
  refine va_bald hx hb hK hP q0 2 he rfl hi hd ?_
  rw [ht, Int.toNat_of_nonneg h0]
  exact k js H locs hL hs.t.t.i hP hS
theorem sk_41z (C : Cx p s m args meth c D T A ad S y) {n a : Nat} {i : Int} (hd : decode (mdB y) pc = .ok (.baload, 1)) (h0 : 0 ≤ i) (hn : i < (n : Int)) (k : Wt p l e R s m args below meth c D T A ad S H0 Q y (pc + 1) ls (aI (M a i) :: st) M) : Wt p l e R s m args below meth c D T A ad S H0 Q y pc ls (aI i :: aR 3 n a :: st) M := by
  obtain ⟨hx, hb, hml, hr, hown, hts, hK, hlk, hD, hC⟩ := C
  intro js H locs hL hs hP hS
  have hn2 : n < 20000 := by
    obtain ⟨-, hsh⟩ : a ∈ S ∧ shp a = (3, n) := hs.t.h.1
    have := shp_lt a
    rw [hsh] at this
    exact this
  obtain ⟨ha, hsh⟩ : a ∈ S ∧ shp a = (3, n) := hs.t.h.1
  obtain ⟨q0, hq0⟩ := List.getElem?_of_mem ha
  have he := wld_a (T := T) (ad := ad) (M := M) hq0
  rw [went_3 hsh] at he
  have hi := vin h0 hn hn2
  have ht := tnc h0 (by omega : i < 2147483648)
  refine va_zald hx hb hK hP q0 3 he rfl hi hd ?_
  rw [ht, Int.toNat_of_nonneg h0]
  exact k js H locs hL hs.t.t.i hP hS
theorem sk_39 (C : Cx p s m args meth c D T A ad S y) {n a : Nat} {i : Int} (hd : decode (mdB y) pc = .ok (.laload, 1)) (h0 : 0 ≤ i) (hn : i < (n : Int)) (k : Wt p l e R s m args below meth c D T A ad S H0 Q y (pc + 1) ls (aL (M a i) :: st) M) : Wt p l e R s m args below meth c D T A ad S H0 Q y pc ls (aI i :: aR 1 n a :: st) M := by
  obtain ⟨hx, hb, hml, hr, hown, hts, hK, hlk, hD, hC⟩ := C
  intro js H locs hL hs hP hS
  have hn2 : n < 20000 := by
    obtain ⟨-, hsh⟩ : a ∈ S ∧ shp a = (1, n) := hs.t.h.1
    have := shp_lt a
    rw [hsh] at this
    exact this
  obtain ⟨ha, hsh⟩ : a ∈ S ∧ shp a = (1, n) := hs.t.h.1
  obtain ⟨q0, hq0⟩ := List.getElem?_of_mem ha
  have he := wld_a (T := T) (ad := ad) (M := M) hq0
  rw [went_1 hsh] at he
  have hi := vin h0 hn hn2
  have ht := tnc h0 (by omega : i < 2147483648)
  refine va_lald hx hb hK hP q0 1 he rfl hi hd ?_
  rw [ht, Int.toNat_of_nonneg h0]
  exact k js H locs hL hs.t.t.l hP hS
theorem sk_43 (C : Cx p s m args meth c D T A ad S y) {n a : Nat} {i : Int} (hd : decode (mdB y) pc = .ok (.aaload, 1)) (h0 : 0 ≤ i) (hn : i < (n : Int)) (k : Wt p l e R s m args below meth c D T A ad S H0 Q y (pc + 1) ls (Sum.inr (Sum.inl (rfs a i.toNat)) :: st) M) : Wt p l e R s m args below meth c D T A ad S H0 Q y pc ls (aI i :: aR 4 n a :: st) M := by
  obtain ⟨hx, hb, hml, hr, hown, hts, hK, hlk, hD, hC⟩ := C
  intro js H locs hL hs hP hS
  have hn2 : n < 20000 := by
    obtain ⟨-, hsh⟩ : a ∈ S ∧ shp a = (4, n) := hs.t.h.1
    have := shp_lt a
    rw [hsh] at this
    exact this
  obtain ⟨ha, hsh⟩ : a ∈ S ∧ shp a = (4, n) := hs.t.h.1
  obtain ⟨q0, hq0⟩ := List.getElem?_of_mem ha
  have he := wld_a (T := T) (ad := ad) (M := M) hq0
  rw [went_4 hsh] at he
  have hi := vin h0 hn hn2
  have ht := tnc h0 (by omega : i < 2147483648)
  refine va_aldq hx hb hK hP q0 4 he rfl hi hd ?_
  rw [ht]
  have hk := clo_arr (j := i.toNat) hC ha (by rw [hsh]) (by rw [hsh]; show i.toNat < n; omega)
  exact k js H locs hL (hs.t.t.c ⟨hk, rfl⟩) hP hS
theorem sk_38 (C : Cx p s m args meth c D T A ad S y) {n a : Nat} {i : Int} (hd : decode (mdB y) pc = .ok (.iastore, 1)) (h0 : 0 ≤ i) (hn : i < (n : Int)) {z : Int} (k : Wt p l e R s m args below meth c D T A ad S H0 Q y (pc + 1) ls st (up M a i z)) : Wt p l e R s m args below meth c D T A ad S H0 Q y pc ls (aI z :: aI i :: aR 0 n a :: st) M := by
  obtain ⟨hx, hb, hml, hr, hown, hts, hK, hlk, hD, hC⟩ := C
  intro js H locs hL hs hP hS
  have hn2 : n < 20000 := by
    obtain ⟨-, hsh⟩ : a ∈ S ∧ shp a = (0, n) := hs.t.t.h.1
    have := shp_lt a
    rw [hsh] at this
    exact this
  obtain ⟨ha, hsh⟩ : a ∈ S ∧ shp a = (0, n) := hs.t.t.h.1
  obtain ⟨q0, hq0⟩ := List.getElem?_of_mem ha
  have he := wld_a (T := T) (ad := ad) (M := M) hq0
  rw [went_0 hsh] at he
  have hi := vin h0 hn hn2
  have ht := tnc h0 (by omega : i < 2147483648)
  have hE : went T ad (up M a i z) a = .inl (T 0, n, .inl (upd (fun j => Int32.ofInt (M a (j : Int))) i.toNat (Int32.ofInt z))) := by rw [went_0 hsh, fun_up h0]
  exact va_iast hx hb hK hP hD.D hS q0 0 he rfl hi hd (fun H1 locs1 hP1 _ hS1 => k js H1 locs1 hL hs.t.t.t (by rw [ht, wld_set hD hq0 hE (fun b hb => went_up hb)] at hP1; exact hP1) hS1)
theorem sk_42b (C : Cx p s m args meth c D T A ad S y) {n a : Nat} {i : Int} (hd : decode (mdB y) pc = .ok (.bastore, 1)) (h0 : 0 ≤ i) (hn : i < (n : Int)) {z : Int} (h1 : -128 ≤ z) (h2 : z < 128) (k : Wt p l e R s m args below meth c D T A ad S H0 Q y (pc + 1) ls st (up M a i z)) : Wt p l e R s m args below meth c D T A ad S H0 Q y pc ls (aI z :: aI i :: aR 2 n a :: st) M := by
  obtain ⟨hx, hb, hml, hr, hown, hts, hK, hlk, hD, hC⟩ := C
  intro js H locs hL hs hP hS
  have hn2 : n < 20000 := by
    obtain ⟨-, hsh⟩ : a ∈ S ∧ shp a = (2, n) := hs.t.t.h.1
    have := shp_lt a
    rw [hsh] at this
    exact this
  obtain ⟨ha, hsh⟩ : a ∈ S ∧ shp a = (2, n) := hs.t.t.h.1
  obtain ⟨q0, hq0⟩ := List.getElem?_of_mem ha
  have he := wld_a (T := T) (ad := ad) (M := M) hq0
  rw [went_2 hsh] at he
  have hi := vin h0 hn hn2
  have ht := tnc h0 (by omega : i < 2147483648)
  have hE : went T ad (up M a i z) a = .inl (T 2, n, .inl (upd (fun j => Int32.ofInt (M a (j : Int))) i.toNat (Int32.ofInt z))) := by rw [went_2 hsh, fun_up h0]
  exact va_bast hx hb hK hP hD.D hS q0 2 he rfl hi hd (fun H1 locs1 hP1 _ hS1 => k js H1 locs1 hL hs.t.t.t (by rw [nar_b h1 h2, ht, wld_set hD hq0 hE (fun b hb => went_up hb)] at hP1; exact hP1) hS1)
theorem sk_42z (C : Cx p s m args meth c D T A ad S y) {n a : Nat} {i : Int} (hd : decode (mdB y) pc = .ok (.bastore, 1)) (h0 : 0 ≤ i) (hn : i < (n : Int)) {z : Int} (h1 : z = 0 ∨ z = 1) (k : Wt p l e R s m args below meth c D T A ad S H0 Q y (pc + 1) ls st (up M a i z)) : Wt p l e R s m args below meth c D T A ad S H0 Q y pc ls (aI z :: aI i :: aR 3 n a :: st) M := by
  obtain ⟨hx, hb, hml, hr, hown, hts, hK, hlk, hD, hC⟩ := C
  intro js H locs hL hs hP hS
  have hn2 : n < 20000 := by
    obtain ⟨-, hsh⟩ : a ∈ S ∧ shp a = (3, n) := hs.t.t.h.1
    have := shp_lt a
    rw [hsh] at this
    exact this
  obtain ⟨ha, hsh⟩ : a ∈ S ∧ shp a = (3, n) := hs.t.t.h.1
  obtain ⟨q0, hq0⟩ := List.getElem?_of_mem ha
  have he := wld_a (T := T) (ad := ad) (M := M) hq0
  rw [went_3 hsh] at he
  have hi := vin h0 hn hn2
  have ht := tnc h0 (by omega : i < 2147483648)
  have hE : went T ad (up M a i z) a = .inl (T 3, n, .inl (upd (fun j => Int32.ofInt (M a (j : Int))) i.toNat (Int32.ofInt z))) := by rw [went_3 hsh, fun_up h0]
  exact va_zast hx hb hK hP hD.D hS q0 3 he rfl hi hd (fun H1 locs1 hP1 _ hS1 => k js H1 locs1 hL hs.t.t.t (by rw [nar_z h1, ht, wld_set hD hq0 hE (fun b hb => went_up hb)] at hP1; exact hP1) hS1)
theorem sk_40 (C : Cx p s m args meth c D T A ad S y) {n a : Nat} {i : Int} (hd : decode (mdB y) pc = .ok (.lastore, 1)) (h0 : 0 ≤ i) (hn : i < (n : Int)) {z : Int} (k : Wt p l e R s m args below meth c D T A ad S H0 Q y (pc + 1) ls st (up M a i z)) : Wt p l e R s m args below meth c D T A ad S H0 Q y pc ls (aL z :: aI i :: aR 1 n a :: st) M := by
  obtain ⟨hx, hb, hml, hr, hown, hts, hK, hlk, hD, hC⟩ := C
  intro js H locs hL hs hP hS
  have hn2 : n < 20000 := by
    obtain ⟨-, hsh⟩ : a ∈ S ∧ shp a = (1, n) := hs.t.t.h.1
    have := shp_lt a
    rw [hsh] at this
    exact this
  obtain ⟨ha, hsh⟩ : a ∈ S ∧ shp a = (1, n) := hs.t.t.h.1
  obtain ⟨q0, hq0⟩ := List.getElem?_of_mem ha
  have he := wld_a (T := T) (ad := ad) (M := M) hq0
  rw [went_1 hsh] at he
  have hi := vin h0 hn hn2
  have ht := tnc h0 (by omega : i < 2147483648)
  have hE : went T ad (up M a i z) a = .inl (T 1, n, .inr (.inl (vp_updL (fun j => Int64.ofInt (M a (j : Int))) i.toNat (Int64.ofInt z)))) := by rw [went_1 hsh, fun_upL h0]
  exact va_last hx hb hK hP hD.D hS q0 1 he rfl hi hd (fun H1 locs1 hP1 _ hS1 => k js H1 locs1 hL hs.t.t.t (by rw [ht, wld_set hD hq0 hE (fun b hb => went_up hb)] at hP1; exact hP1) hS1)
theorem sk_44 (C : Cx p s m args meth c D T A ad S y) {w n a : Nat} (hd : decode (mdB y) pc = .ok (.arraylength, 1)) (hw : w < 5) (k : Wt p l e R s m args below meth c D T A ad S H0 Q y (pc + 1) ls (aI (n : Int) :: st) M) : Wt p l e R s m args below meth c D T A ad S H0 Q y pc ls (aR w n a :: st) M := by
  obtain ⟨hx, hb, hml, hr, hown, hts, hK, hlk, hD, hC⟩ := C
  intro js H locs hL hs hP hS
  obtain ⟨ha, hsh⟩ : a ∈ S ∧ shp a = (w, n) := hs.h.1
  obtain ⟨q0, hq0⟩ := List.getElem?_of_mem ha
  have he := wld_a (T := T) (ad := ad) (M := M) hq0
  have k' := k js H locs hL hs.t.i hP hS
  have hw' : w = 0 ∨ w = 1 ∨ w = 2 ∨ w = 3 ∨ w = 4 := by omega
  rcases hw' with rfl | rfl | rfl | rfl | rfl
  · rw [went_0 hsh] at he
    exact va_alen hx hb hK hP q0 0 he rfl (v := Int32.ofInt (n : Int)) Int32.ofInt_eq_ofNat.symm hd k'
  · rw [went_1 hsh] at he
    exact va_alen hx hb hK hP q0 1 he rfl (v := Int32.ofInt (n : Int)) Int32.ofInt_eq_ofNat.symm hd k'
  · rw [went_2 hsh] at he
    exact va_alen hx hb hK hP q0 2 he rfl (v := Int32.ofInt (n : Int)) Int32.ofInt_eq_ofNat.symm hd k'
  · rw [went_3 hsh] at he
    exact va_alen hx hb hK hP q0 3 he rfl (v := Int32.ofInt (n : Int)) Int32.ofInt_eq_ofNat.symm hd k'
  · rw [went_4 hsh] at he
    exact va_alen hx hb hK hP q0 4 he rfl (v := Int32.ofInt (n : Int)) Int32.ofInt_eq_ofNat.symm hd k'
theorem sk_45 (C : Cx p s m args meth c D T A ad S y) {a b : Int} {v : Nat} (hd : decode (mdB y) pc = .ok (.if_icmp .eq ((v : Int) - (pc : Int)), 3)) (kt : w32 a = w32 b → Wt p l e R s m args below meth c D T A ad S H0 Q y v ls st M) (kf : ¬ (w32 a = w32 b) → Wt p l e R s m args below meth c D T A ad S H0 Q y (pc + 3) ls st M) : Wt p l e R s m args below meth c D T A ad S H0 Q y pc ls (aI b :: aI a :: st) M := by
  obtain ⟨hx, hb, hml, hr, hown, hts, hK, hlk, hD, hC⟩ := C
  intro js H locs hL hs hP hS
  exact lv_icmp_eq hx hb hd (tgt := v) (by omega) (fun h => kt (eq32.mp h) js H locs hL hs.t.t hP hS) (fun h => kf (fun h9 => h (eq32.mpr h9)) js H locs hL hs.t.t hP hS)
theorem sk_46 (C : Cx p s m args meth c D T A ad S y) {a b : Int} {v : Nat} (hd : decode (mdB y) pc = .ok (.if_icmp .ne ((v : Int) - (pc : Int)), 3)) (kt : w32 a ≠ w32 b → Wt p l e R s m args below meth c D T A ad S H0 Q y v ls st M) (kf : ¬ (w32 a ≠ w32 b) → Wt p l e R s m args below meth c D T A ad S H0 Q y (pc + 3) ls st M) : Wt p l e R s m args below meth c D T A ad S H0 Q y pc ls (aI b :: aI a :: st) M := by
  obtain ⟨hx, hb, hml, hr, hown, hts, hK, hlk, hD, hC⟩ := C
  intro js H locs hL hs hP hS
  exact lv_icmp_ne hx hb hd (tgt := v) (by omega) (fun h => kt (fun h9 => h (eq32.mpr h9)) js H locs hL hs.t.t hP hS) (fun h => kf (fun h9 => h9 (eq32.mp h)) js H locs hL hs.t.t hP hS)
theorem sk_47 (C : Cx p s m args meth c D T A ad S y) {a b : Int} {v : Nat} (hd : decode (mdB y) pc = .ok (.if_icmp .lt ((v : Int) - (pc : Int)), 3)) (kt : w32 a < w32 b → Wt p l e R s m args below meth c D T A ad S H0 Q y v ls st M) (kf : ¬ (w32 a < w32 b) → Wt p l e R s m args below meth c D T A ad S H0 Q y (pc + 3) ls st M) : Wt p l e R s m args below meth c D T A ad S H0 Q y pc ls (aI b :: aI a :: st) M := by
  obtain ⟨hx, hb, hml, hr, hown, hts, hK, hlk, hD, hC⟩ := C
  intro js H locs hL hs hP hS
  exact lv_icmp_lt hx hb hd (tgt := v) (by omega) (fun h => kt (lt32.mp h) js H locs hL hs.t.t hP hS) (fun h => kf (fun h9 => h (lt32.mpr h9)) js H locs hL hs.t.t hP hS)
theorem sk_48 (C : Cx p s m args meth c D T A ad S y) {a b : Int} {v : Nat} (hd : decode (mdB y) pc = .ok (.if_icmp .ge ((v : Int) - (pc : Int)), 3)) (kt : w32 b ≤ w32 a → Wt p l e R s m args below meth c D T A ad S H0 Q y v ls st M) (kf : ¬ (w32 b ≤ w32 a) → Wt p l e R s m args below meth c D T A ad S H0 Q y (pc + 3) ls st M) : Wt p l e R s m args below meth c D T A ad S H0 Q y pc ls (aI b :: aI a :: st) M := by
  obtain ⟨hx, hb, hml, hr, hown, hts, hK, hlk, hD, hC⟩ := C
  intro js H locs hL hs hP hS
  exact lv_icmp_ge hx hb hd (tgt := v) (by omega) (fun h => kt (le32.mp h) js H locs hL hs.t.t hP hS) (fun h => kf (fun h9 => h (le32.mpr h9)) js H locs hL hs.t.t hP hS)
theorem sk_49 (C : Cx p s m args meth c D T A ad S y) {a b : Int} {v : Nat} (hd : decode (mdB y) pc = .ok (.if_icmp .gt ((v : Int) - (pc : Int)), 3)) (kt : w32 b < w32 a → Wt p l e R s m args below meth c D T A ad S H0 Q y v ls st M) (kf : ¬ (w32 b < w32 a) → Wt p l e R s m args below meth c D T A ad S H0 Q y (pc + 3) ls st M) : Wt p l e R s m args below meth c D T A ad S H0 Q y pc ls (aI b :: aI a :: st) M := by
  obtain ⟨hx, hb, hml, hr, hown, hts, hK, hlk, hD, hC⟩ := C
  intro js H locs hL hs hP hS
  exact lv_icmp_gt hx hb hd (tgt := v) (by omega) (fun h => kt (lt32.mp h) js H locs hL hs.t.t hP hS) (fun h => kf (fun h9 => h (lt32.mpr h9)) js H locs hL hs.t.t hP hS)
theorem sk_50 (C : Cx p s m args meth c D T A ad S y) {a b : Int} {v : Nat} (hd : decode (mdB y) pc = .ok (.if_icmp .le ((v : Int) - (pc : Int)), 3)) (kt : w32 a ≤ w32 b → Wt p l e R s m args below meth c D T A ad S H0 Q y v ls st M) (kf : ¬ (w32 a ≤ w32 b) → Wt p l e R s m args below meth c D T A ad S H0 Q y (pc + 3) ls st M) : Wt p l e R s m args below meth c D T A ad S H0 Q y pc ls (aI b :: aI a :: st) M := by
  obtain ⟨hx, hb, hml, hr, hown, hts, hK, hlk, hD, hC⟩ := C
  intro js H locs hL hs hP hS
  exact lv_icmp_le hx hb hd (tgt := v) (by omega) (fun h => kt (le32.mp h) js H locs hL hs.t.t hP hS) (fun h => kf (fun h9 => h (le32.mpr h9)) js H locs hL hs.t.t hP hS)
theorem sk_51 (C : Cx p s m args meth c D T A ad S y) {a : Int} {v : Nat} (hd : decode (mdB y) pc = .ok (.ifCond .eq ((v : Int) - (pc : Int)), 3)) (kt : w32 a = 0 → Wt p l e R s m args below meth c D T A ad S H0 Q y v ls st M) (kf : ¬ (w32 a = 0) → Wt p l e R s m args below meth c D T A ad S H0 Q y (pc + 3) ls st M) : Wt p l e R s m args below meth c D T A ad S H0 Q y pc ls (aI a :: st) M := by
  obtain ⟨hx, hb, hml, hr, hown, hts, hK, hlk, hD, hC⟩ := C
  intro js H locs hL hs hP hS
  exact lv_if_eq hx hb hd (tgt := v) (by omega) (fun h => kt (eqz.mp h) js H locs hL hs.t hP hS) (fun h => kf (fun h9 => h (eqz.mpr h9)) js H locs hL hs.t hP hS)
theorem sk_52 (C : Cx p s m args meth c D T A ad S y) {a : Int} {v : Nat} (hd : decode (mdB y) pc = .ok (.ifCond .ne ((v : Int) - (pc : Int)), 3)) (kt : w32 a ≠ 0 → Wt p l e R s m args below meth c D T A ad S H0 Q y v ls st M) (kf : ¬ (w32 a ≠ 0) → Wt p l e R s m args below meth c D T A ad S H0 Q y (pc + 3) ls st M) : Wt p l e R s m args below meth c D T A ad S H0 Q y pc ls (aI a :: st) M := by
  obtain ⟨hx, hb, hml, hr, hown, hts, hK, hlk, hD, hC⟩ := C
  intro js H locs hL hs hP hS
  exact lv_if_ne hx hb hd (tgt := v) (by omega) (fun h => kt (fun h9 => h (eqz.mpr h9)) js H locs hL hs.t hP hS) (fun h => kf (fun h9 => h9 (eqz.mp h)) js H locs hL hs.t hP hS)
theorem sk_53 (C : Cx p s m args meth c D T A ad S y) {a : Int} {v : Nat} (hd : decode (mdB y) pc = .ok (.ifCond .lt ((v : Int) - (pc : Int)), 3)) (kt : w32 a < 0 → Wt p l e R s m args below meth c D T A ad S H0 Q y v ls st M) (kf : ¬ (w32 a < 0) → Wt p l e R s m args below meth c D T A ad S H0 Q y (pc + 3) ls st M) : Wt p l e R s m args below meth c D T A ad S H0 Q y pc ls (aI a :: st) M := by
  obtain ⟨hx, hb, hml, hr, hown, hts, hK, hlk, hD, hC⟩ := C
  intro js H locs hL hs hP hS
  exact lv_if_lt hx hb hd (tgt := v) (by omega) (fun h => kt (ltz.mp h) js H locs hL hs.t hP hS) (fun h => kf (fun h9 => h (ltz.mpr h9)) js H locs hL hs.t hP hS)
theorem sk_54 (C : Cx p s m args meth c D T A ad S y) {a : Int} {v : Nat} (hd : decode (mdB y) pc = .ok (.ifCond .ge ((v : Int) - (pc : Int)), 3)) (kt : 0 ≤ w32 a → Wt p l e R s m args below meth c D T A ad S H0 Q y v ls st M) (kf : ¬ (0 ≤ w32 a) → Wt p l e R s m args below meth c D T A ad S H0 Q y (pc + 3) ls st M) : Wt p l e R s m args below meth c D T A ad S H0 Q y pc ls (aI a :: st) M := by
  obtain ⟨hx, hb, hml, hr, hown, hts, hK, hlk, hD, hC⟩ := C
  intro js H locs hL hs hP hS
  exact lv_if_ge hx hb hd (tgt := v) (by omega) (fun h => kt (gez.mp h) js H locs hL hs.t hP hS) (fun h => kf (fun h9 => h (gez.mpr h9)) js H locs hL hs.t hP hS)
theorem sk_55 (C : Cx p s m args meth c D T A ad S y) {a : Int} {v : Nat} (hd : decode (mdB y) pc = .ok (.ifCond .gt ((v : Int) - (pc : Int)), 3)) (kt : 0 < w32 a → Wt p l e R s m args below meth c D T A ad S H0 Q y v ls st M) (kf : ¬ (0 < w32 a) → Wt p l e R s m args below meth c D T A ad S H0 Q y (pc + 3) ls st M) : Wt p l e R s m args below meth c D T A ad S H0 Q y pc ls (aI a :: st) M := by
  obtain ⟨hx, hb, hml, hr, hown, hts, hK, hlk, hD, hC⟩ := C
  intro js H locs hL hs hP hS
  exact lv_if_gt hx hb hd (tgt := v) (by omega) (fun h => kt (gtz.mp h) js H locs hL hs.t hP hS) (fun h => kf (fun h9 => h (gtz.mpr h9)) js H locs hL hs.t hP hS)
theorem sk_56 (C : Cx p s m args meth c D T A ad S y) {a : Int} {v : Nat} (hd : decode (mdB y) pc = .ok (.ifCond .le ((v : Int) - (pc : Int)), 3)) (kt : w32 a ≤ 0 → Wt p l e R s m args below meth c D T A ad S H0 Q y v ls st M) (kf : ¬ (w32 a ≤ 0) → Wt p l e R s m args below meth c D T A ad S H0 Q y (pc + 3) ls st M) : Wt p l e R s m args below meth c D T A ad S H0 Q y pc ls (aI a :: st) M := by
  obtain ⟨hx, hb, hml, hr, hown, hts, hK, hlk, hD, hC⟩ := C
  intro js H locs hL hs hP hS
  exact lv_if_le hx hb hd (tgt := v) (by omega) (fun h => kt (lez.mp h) js H locs hL hs.t hP hS) (fun h => kf (fun h9 => h (lez.mpr h9)) js H locs hL hs.t hP hS)
theorem sk_57 (C : Cx p s m args meth c D T A ad S y) {v : Nat} (hd : decode (mdB y) pc = .ok (.goto ((v : Int) - (pc : Int)), 3)) (k : Wt p l e R s m args below meth c D T A ad S H0 Q y v ls st M) : Wt p l e R s m args below meth c D T A ad S H0 Q y pc ls st M := by
  obtain ⟨hx, hb, hml, hr, hown, hts, hK, hlk, hD, hC⟩ := C
  intro js H locs hL hs hP hS
  exact lv_goto hx hb hd (tgt := v) (by omega) (k js H locs hL hs hP hS)
theorem sk_58 (C : Cx p s m args meth c D T A ad S y) {a : Int} {v t : Nat} (hd : decode (mdB y) pc = .ok (.tableswitch (sw v).1 (sw v).2.1 (sw v).2.2.1 (sw v).2.2.2, ln)) (h1 : (sw v).2.2.2.all (fun f => decide (0 ≤ (pc : Int) + f)) = true) (h2 : 0 ≤ (pc : Int) + (sw v).1) (hw : swl pc v a = some t) (k : Wt p l e R s m args below meth c D T A ad S H0 Q y t ls st M) : Wt p l e R s m args below meth c D T A ad S H0 Q y pc ls (aI a :: st) M := by
  obtain ⟨hx, hb, hml, hr, hown, hts, hK, hlk, hD, hC⟩ := C
  intro js H locs hL hs hP hS
  have k' := k js H locs hL hs.t hP hS
  unfold swl at hw
  split at hw
  · rename_i h
    cases hw
    exact lv_tableOut hx hb hd (by rw [ti32]; exact h) (by omega) k'
  · rename_i h
    cases ho : (sw v).2.2.2[(w32 a - (sw v).2.1).toNat]? with
    | none => rw [ho] at hw; cases hw
    | some f =>
      rw [ho] at hw
      have ht : ((pc : Int) + f).toNat = t := Option.some.inj hw
      have hf : 0 ≤ (pc : Int) + f := of_decide_eq_true (Array.all_eq_true_iff_forall_mem.mp h1 f (Array.mem_of_getElem? ho))
      exact lv_tableIn hx hb hd (by rw [ti32]; omega) (by rw [ti32]; omega) (by rw [ti32]; exact ho) (by omega) k'
theorem sk_61 (C : Cx p s m args meth c D T A ad S y) {x nd nb dd ss : Nat} {n dp sp : Int} (hR : R.frames ≥ 1 ∧ 60 ≤ R.locals) (hd : decode (mdB y) pc = .ok (.invokestatic x, 3)) (ho : acx.any (fun q => decide (q.1 = mdO y) && decide (q.2.1 = x)) = true) (h1 : 0 ≤ n) (h2 : 0 ≤ dp) (h3 : 0 ≤ sp) (h4 : sp + n ≤ (nb : Int)) (h5 : dp + n ≤ (nd : Int)) (k : Wt p l e R s m args below meth c D T A ad S H0 Q y (pc + 3) ls [] (cpy M ss dd sp dp n)) : Wt p l e R s m args below meth c D T A ad S H0 Q y pc ls [aI n, aI dp, aR 0 nd dd, aI sp, aR 0 nb ss] M := by
  obtain ⟨hx, hb, hml, hr, hown, hts, hK, hlk, hD, hC⟩ := C
  intro js H locs hL hs hP hS
  have hl := acx_spec ho
  obtain ⟨g1, g2, g3⟩ := acn_ok
  obtain ⟨had, hsd⟩ : dd ∈ S ∧ shp dd = (0, nd) := hs.t.t.h.1
  obtain ⟨has, hss⟩ : ss ∈ S ∧ shp ss = (0, nb) := hs.t.t.t.t.h.1
  obtain ⟨q1, hq1⟩ := List.getElem?_of_mem had
  obtain ⟨q0, hq0⟩ := List.getElem?_of_mem has
  have he1 := wld_a (T := T) (ad := ad) (M := M) hq1
  rw [went_0 hsd] at he1
  have he0 := wld_a (T := T) (ad := ad) (M := M) hq0
  rw [went_0 hss] at he0
  have b1 := shp_lt dd
  rw [hsd] at b1
  have b2 := shp_lt ss
  rw [hss] at b2
  have b1' : nd < 20000 := b1
  have b2' : nb < 20000 := b2
  have t1 := tnc h1 (by omega : n < 2147483648)
  have t2 := tnc h2 (by omega : dp < 2147483648)
  have t3 := tnc h3 (by omega : sp < 2147483648)
  have hE : went T ad (cpy M ss dd sp dp n) dd = .inl (T 0, nd, .inl (va_cpy (fun j => Int32.ofInt (M ss (j : Int))) (fun j => Int32.ofInt (M dd (j : Int))) sp.toNat dp.toNat n.toNat)) := by rw [went_0 hsd, fun_cpy h3 h2 h1]
  exact va_copyi hx hb (hml.trans hL.2.1.1.symm) hown (hts _ hl) (hts _ (atb_mem g1)) (hts _ (atb_mem g2)) (hts _ (atb_mem g3)) hK hP hD.D hS q0 q1 0 0 (ty := .int) he0 he1 rfl rfl rfl
    (by rw [ltz, w32_of (by omega) (by omega)]; omega) (by rw [ltz, w32_of (by omega) (by omega)]; omega) (by rw [ltz, w32_of (by omega) (by omega)]; omega) (by rw [t3, t1]; omega) (by rw [t2, t1]; omega) (fun _ _ => rfl) hR.1
    (by
      have e1 : nativeFrameWords "java/lang/System" "arraycopy" 5 = 7 := by decide +kernel
      rw [e1]
      show 0 + (7 + 11) ≤ R.locals
      omega) hd
    (fun H1 locs1 hP1 _ hS1 => k js H1 locs1 hL (fun v hv => absurd hv List.not_mem_nil) (by rw [t1, t2, t3, wld_set hD hq1 hE (fun b hb => went_cpy hb)] at hP1; exact hP1) hS1)
end ST
