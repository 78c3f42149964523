/-! CALLS OF THE SMALL MACHINE'S METHODS FROM OUTSIDE: by rows of the kit -/
def adl (l : List (Nat × Nat)) (a : Nat) : Nat := (l.lookup a).getD 0
def zM : Mem := fun _ _ => 0
def z0 : Int → Int := fun _ => 0
theorem z0_0 (n : Nat) (cA : ClassId) : vp_cell cA (n, .inl (fun j => Int32.ofInt (z0 (j : Int)))) = arrV cA n (fun _ => defaultValue .int) := rfl
theorem z0_1 (n : Nat) (cA : ClassId) : vp_cell cA (n, .inr (.inl (fun j => Int64.ofInt (z0 (j : Int))))) = arrV cA n (fun _ => defaultValue .long) := rfl
theorem z0_2 (n : Nat) (cA : ClassId) : vp_cell cA (n, .inl (fun j => Int32.ofInt (z0 (j : Int)))) = arrV cA n (fun _ => defaultValue .byte) := rfl
theorem z0_3 (n : Nat) (cA : ClassId) : vp_cell cA (n, .inl (fun j => Int32.ofInt (z0 (j : Int)))) = arrV cA n (fun _ => defaultValue .boolean) := rfl
theorem ka_0 {D : va_G} {T : Nat → ClassId} {s : State} {cA : ClassId} (h : va_K D classes (tysL T) s) (h2 : va_K D classes (tysL T ++ [(cA, .int)]) s) : cA = T 0 := by
  have e1 : s.vm.findClass ("[" ++ (FieldType.int).toString) = some (T 0) := (h.2 0 (T 0, .int) rfl).2
  have e2 : s.vm.findClass ("[" ++ (FieldType.int).toString) = some cA := (h2.2 5 (cA, .int) rfl).2
  exact Option.some.inj (e2.symm.trans e1)
theorem ka_1 {D : va_G} {T : Nat → ClassId} {s : State} {cA : ClassId} (h : va_K D classes (tysL T) s) (h2 : va_K D classes (tysL T ++ [(cA, .long)]) s) : cA = T 1 := by
  have e1 : s.vm.findClass ("[" ++ (FieldType.long).toString) = some (T 1) := (h.2 1 (T 1, .long) rfl).2
  have e2 : s.vm.findClass ("[" ++ (FieldType.long).toString) = some cA := (h2.2 5 (cA, .long) rfl).2
  exact Option.some.inj (e2.symm.trans e1)
theorem ka_2 {D : va_G} {T : Nat → ClassId} {s : State} {cA : ClassId} (h : va_K D classes (tysL T) s) (h2 : va_K D classes (tysL T ++ [(cA, .byte)]) s) : cA = T 2 := by
  have e1 : s.vm.findClass ("[" ++ (FieldType.byte).toString) = some (T 2) := (h.2 2 (T 2, .byte) rfl).2
  have e2 : s.vm.findClass ("[" ++ (FieldType.byte).toString) = some cA := (h2.2 5 (cA, .byte) rfl).2
  exact Option.some.inj (e2.symm.trans e1)
theorem ka_3 {D : va_G} {T : Nat → ClassId} {s : State} {cA : ClassId} (h : va_K D classes (tysL T) s) (h2 : va_K D classes (tysL T ++ [(cA, .boolean)]) s) : cA = T 3 := by
  have e1 : s.vm.findClass ("[" ++ (FieldType.boolean).toString) = some (T 3) := (h.2 3 (T 3, .boolean) rfl).2
  have e2 : s.vm.findClass ("[" ++ (FieldType.boolean).toString) = some cA := (h2.2 5 (cA, .boolean) rfl).2
  exact Option.some.inj (e2.symm.trans e1)
theorem ka_4 {D : va_G} {T : Nat → ClassId} {s : State} {cA : ClassId} (h : va_K D classes (tysL T) s) (h2 : va_K D classes (tysL T ++ [(cA, .object "BargeRaft$State")]) s) : cA = T 4 := by
  obtain ⟨-, -, -, -, -, e1⟩ := (h.2 4 (T 4, .object "BargeRaft$State") rfl).2
  obtain ⟨-, -, -, -, -, e2⟩ := (h2.2 5 (cA, .object "BargeRaft$State") rfl).2
  exact Option.some.inj (e2.symm.trans e1)
theorem adD_of {A : Nat → Prop} {T : Nat → ClassId} {ad : Nat → Nat} {M : Mem} {S : List Nat} (h : va_D A (wld T ad M S)) : adD A ad S :=
  ⟨fun i j a b hi hj hab => h.1 i j _ _ (wld_a hi) (wld_a hj) hab, fun a ha => by
    obtain ⟨i, hi⟩ := List.getElem?_of_mem ha
    exact h.2 i _ (wld_a hi)⟩
theorem ctor_good {y : MethodName} {cc : ByteArray} {n : Nat} {r : Option FieldType} (h : Cond.code y cc n r ∈ gtb) : GoodIn gtb (.code y cc n r :: gtb) := by
  intro w hw
  have hg : w ∈ gtb := by
    rcases List.mem_cons.mp hw with rfl | h9
    · exact h
    · exact h9
  exact ⟨hg, gtb_good hg⟩
theorem X_exec {d z : Nat} {as r : List AV} {M M' : Mem} (h : XC d z as M (fun a b => a = r ∧ b = M')) : ∃ n, exec n d z (blk z 0) (ini z as) [] M = some (r, M') := by
  obtain ⟨n, q, h1, h2, h3⟩ := h
  exact ⟨n, by rw [h1, ← h2, ← h3]⟩
section CT
variable {p : Program} {l : Launch} {e : Env} {R : Room} {s : State} {m : MethodId} {args : Array Value} {below : List Frame} {meth : Method} {c : Code} {D : va_G} {T : Nat → ClassId} {A A1 : Nat → Prop} {ad : Nat → Nat} {S : List Nat} {H0 H : Heap} {locs : List Loc} {cells slots : Nat} {Q : State → Prop} {pc : Nat} {ls : Array Slot} {rest : List Value} {M M' : Mem} {cc : ByteArray} {own : String}
theorem br_call2 {st0 : List Value} {a : Array Value} {r : List AV} (hr : va_Run p l e R s m args below meth c H locs cells slots 0 0 (F0 m pc ls st0) rest (Qg D T A1 ad S r M' a) A1) (hl : r.length ≤ 1) (hS : va_S A H0 H locs) (hA : ∀ q, A1 q → A q)
    (kk : ∀ (H1 : Heap) (locs1 : List Loc), va_P D classes (wld T ad M' S) H1 → H.size ≤ H1.size → (∀ q : Nat, q < H.size → ¬ A1 q → H1[q]? = H[q]?) → va_S A H0 H1 locs1 → W p l e R s m args below meth c H1 locs1 cells slots Q (F0 m (pc + 3) ls (r.map (rv ad) ++ rest))) : W p l e R s m args below meth c H locs cells slots Q (F0 m pc ls st0) := by
  intro T1 hT X
  obtain ⟨v, st₀, t, T', L, h0, X', hL, e1, e2, ⟨⟨hv, hb⟩, hz, hk⟩, st⟩ := hr T1 hT X
  have hv' : v.toList = r.map (rv ad) := by
    have : v = (r.map (rv ad)).head? := by injection hv
    rw [this]
    match r, hl with
    | [], _ => rfl
    | [w], _ => rfl
  rw [h0] at hz hk
  obtain ⟨t2, a1, b1⟩ := kk T'.heap (locs ++ L) (by rw [e1]; exact hb) (by rw [e1]; exact hz) (fun q h1 h2 => by rw [e1]; exact hk q h1 h2)
    ⟨Nat.le_trans hS.1 (by rw [e1]; exact hz), fun q h1 h2 => by rw [e1, hk q (Nat.lt_of_lt_of_le h1 hS.1) (fun h9 => h2 (hA q h9))]; exact hS.2.1 q h1 h2, fun q hq => by
      rcases List.mem_append.mp hq with h | h
      · exact hS.2.2 q h
      · exact hA _ (hL q h)⟩ T' rfl X'
  rw [hv'] at st
  exact ⟨t2, st t2 a1, b1⟩
/-- the frame that calls: its code, its own class, the tables -/
def CtF (p : Program) (s : State) (m : MethodId) (args : Array Value) (c : Code) (D : va_G) (T : Nat → ClassId) (cc : ByteArray) (own : String) (ls : Array Slot) : Prop :=
  p.tables.exec = Jvm.exec ∧ c.code = cc ∧ s.vm.findClass own = some m.cls ∧ (∀ w ∈ gtb, w.before args s = true) ∧ va_K D classes (tysL T) s ∧ ls.size = c.maxLocals
theorem ct_callV {d z x n a : Nat} {as' r : List AV} (C : CtF p s m args c D T cc own ls) (hAd : adD A1 ad S) (hC : clo S = true) (hP : va_P D classes (wld T ad M S) H) (hz : z < 227) (hv : (mdq z).2.1 = true) (h13 : mdO z < 13) (hp : npar z = some as'.length) (he : eOK z (aR (10 + mdO z) n a :: as')) (hsa : SRs S (aR (10 + mdO z) n a :: as')) (hl : Cond.methodLink own x (mdY z) ∈ gtb)
    (hR : d + 2 ≤ R.frames ∧ 60 * (d + 2) ≤ R.locals) (hf : cells ≤ R.cells ∧ slots ≤ R.slots) (hex : ∃ k, exec k d z (blk z 0) (ini z (aR (10 + mdO z) n a :: as')) [] M = some (r, M')) (hd : decode cc pc = .ok (.invokevirtual x, 3)) (hcw : (rest.map fun v => v.category).sum ≤ 8) {st0 : List Value} (hst : st0 = (as'.map (rv ad)).reverse ++ .ref (ad a) :: rest) (hS : va_S A H0 H locs) (hA : ∀ q, A1 q → A q)
    (kk : ∀ (H1 : Heap) (locs1 : List Loc), va_P D classes (wld T ad M' S) H1 → H.size ≤ H1.size → (∀ q : Nat, q < H.size → ¬ A1 q → H1[q]? = H[q]?) → va_S A H0 H1 locs1 → W p l e R s m args below meth c H1 locs1 cells slots Q (F0 m (pc + 3) ls (r.map (rv ad) ++ rest))) : W p l e R s m args below meth c H locs cells slots Q (F0 m pc ls st0) := by
  obtain ⟨hx, hb, hown, hts, hK, hsize⟩ := C
  obtain ⟨g1, g2, g3, g4, g5, g6, g7⟩ := md_spec hz
  subst hst
  have hM := con (l := l) (D := D) (T := T) hAd hC d z (aR (10 + mdO z) n a :: as') r M M' hz he hsa hex
  obtain ⟨n9, hx9⟩ := hex
  have hsh := exec_shR _ _ _ _ _ _ _ _ hx9
  obtain ⟨ha, hshp⟩ : a ∈ S ∧ shp a = (10 + mdO z, n) := (hsa _ List.mem_cons_self).1
  obtain ⟨q0, hq0⟩ := List.getElem?_of_mem ha
  have he : (wld T ad M S)[q0]? = some (ad a, .inr (mdO z, flds ad M a (mdO z))) := by rw [wld_a hq0, went_obj hshp (by omega), Nat.add_sub_cancel_left]
  have hlen : mdL z ≤ 40 := mdL_le z
  have cb := callB_of (R := R) (own := own) (index := x) (mc := 0) (ms := 0) as'.length hts (wsz_good hz) (ws' := gtb) rfl (rm := rmd d) rfl rfl (hts _ g4) (hts _ hl) ⟨g5.1, g5.2, hp⟩ ⟨by show d + 1 + 1 ≤ R.frames; omega, by show 8 + (mdL z + 11) + 60 * (d + 1) ≤ R.locals; omega⟩
  have hrun := va_runV (nL := c.maxLocals) (As := as'.map (rv ad)) (b := ad a) (rest := rest) (locs := locs) (cells := cells) (slots := slots) (below := below) (e := e) (meth := meth) (g := F0 m pc ls ((as'.map (rv ad)).reverse ++ .ref (ad a) :: rest)) (C := (mdY z).cls) (H := H) ⟨hx, hb, rfl, hown, hts⟩ hM ⟨cb, hts _ (g2 hv).1, hts _ (g2 hv).2⟩
    ⟨pcz_blind, by rw [g7]; exact va_recv hK hP (ci := mdO z) (q := (cR (mdO z), cT (mdO z), cN (mdO z))) (cls_at _ h13) he, fun U hU hW => ⟨rfl, by rw [hU]; exact hP, va_K.moved hW.alike hK⟩⟩ rfl (by simp) hsize rfl (by show 2 * 0 + _ ≤ 8; omega) hd ⟨hf.1, hf.2⟩
  exact br_call2 hrun hsh.len hS hA kk
theorem ct_callS {d z x : Nat} {as r : List AV} (C : CtF p s m args c D T cc own ls) (hAd : adD A1 ad S) (hC : clo S = true) (hP : va_P D classes (wld T ad M S) H) (hz : z < 227) (hv : (mdq z).2.1 = false) (hp : npar z = some as.length) (he : eOK z as) (hsa : SRs S as) (hl : Cond.methodLink own x (mdY z) ∈ gtb)
    (hR : d + 2 ≤ R.frames ∧ 60 * (d + 2) ≤ R.locals) (hf : cells ≤ R.cells ∧ slots ≤ R.slots) (hex : ∃ n, exec n d z (blk z 0) (ini z as) [] M = some (r, M')) (hd : decode cc pc = .ok (.invokestatic x, 3)) (hcw : (rest.map fun v => v.category).sum ≤ 8) {st0 : List Value} (hst : st0 = (as.map (rv ad)).reverse ++ rest) (hS : va_S A H0 H locs) (hA : ∀ q, A1 q → A q)
    (kk : ∀ (H1 : Heap) (locs1 : List Loc), va_P D classes (wld T ad M' S) H1 → H.size ≤ H1.size → (∀ q : Nat, q < H.size → ¬ A1 q → H1[q]? = H[q]?) → va_S A H0 H1 locs1 → W p l e R s m args below meth c H1 locs1 cells slots Q (F0 m (pc + 3) ls (r.map (rv ad) ++ rest))) : W p l e R s m args below meth c H locs cells slots Q (F0 m pc ls st0) := by
  obtain ⟨hx, hb, hown, hts, hK, hsize⟩ := C
  obtain ⟨g1, g2, g3, g4, g5, g6, g7⟩ := md_spec hz
  subst hst
  have hM := con (l := l) (D := D) (T := T) hAd hC d z as r M M' hz he hsa hex
  obtain ⟨n9, hx9⟩ := hex
  have hsh := exec_shR _ _ _ _ _ _ _ _ hx9
  have hlen : mdL z ≤ 40 := mdL_le z
  have cb := callB_of (R := R) (own := own) (index := x) (mc := 0) (ms := 0) as.length hts (wsz_good hz) (ws' := gtb) rfl (rm := rmd d) rfl rfl (hts _ g4) (hts _ hl) ⟨g5.1, g5.2, hp⟩ ⟨by show d + 1 + 1 ≤ R.frames; omega, by show 8 + (mdL z + 11) + 60 * (d + 1) ≤ R.locals; omega⟩
  have hrun := va_runS (nL := c.maxLocals) (As := as.map (rv ad)) (rest := rest) (locs := locs) (cells := cells) (slots := slots) (below := below) (e := e) (meth := meth) (g := F0 m pc ls ((as.map (rv ad)).reverse ++ rest)) (H := H) ⟨hx, hb, rfl, hown, hts⟩ hM ⟨cb, hts _ (g3 hv)⟩
    ⟨pcz_blind, fun U hU hW => ⟨rfl, by rw [hU]; exact hP, va_K.moved hW.alike hK⟩⟩ rfl (by simp) hsize rfl (by show 2 * 0 + _ ≤ 8; omega) hd ⟨hf.1, hf.2⟩
  exact br_call2 hrun hsh.len hS hA kk
end CT
