/-! THE FOUR METHODS THAT THROW -/
def cwz : List (Nat × Cond) := [(1293, .classLink RX11 138 "java/util/NoSuchElementException"), (124, .initialized "java/util/NoSuchElementException"), (889, .methodLink RX11 134 yX3_hasQuay), (893, .methodLink RX11 145 yX3_quayPart), (942, .methodLink RX11 149 yX3_hasLeg), (970, .methodLink RX11 154 yX3_legPart), (854, .methodLink RX11 157 yX3_hasBarge), (1375, .methodLink RX11 169 yX3_offStop), (1374, .methodLink RX11 165 yX3_onStop), (989, .methodLink RX11 162 yX3_bargePart), (329, .fieldLink RX11 254 "BargeRaft$State" "actCount" "I"), (1384, .methodLink RX11 257 yX7_actPart)]
theorem cwz_ok : cwz.all (fun q => atb q.1 q.2) = true := by decide +kernel
theorem cwz_at {k i : Nat} {w : Cond} (h : cwz[k]? = some (i, w)) : w ∈ gtb := atb_mem (i := i) (List.all_eq_true.mp cwz_ok _ (List.mem_of_getElem? h))
theorem cwm_242 : (.classLink RX11 138 "java/util/NoSuchElementException" : Cond) ∈ gtb := cwz_at (k := 0) rfl
theorem cwm_243 : (.initialized "java/util/NoSuchElementException" : Cond) ∈ gtb := cwz_at (k := 1) rfl
theorem cwm_244 : (.methodLink RX11 134 yX3_hasQuay : Cond) ∈ gtb := cwz_at (k := 2) rfl
theorem cwm_245 : (.methodLink RX11 145 yX3_quayPart : Cond) ∈ gtb := cwz_at (k := 3) rfl
theorem cwm_246 : (.methodLink RX11 149 yX3_hasLeg : Cond) ∈ gtb := cwz_at (k := 4) rfl
theorem cwm_247 : (.methodLink RX11 154 yX3_legPart : Cond) ∈ gtb := cwz_at (k := 5) rfl
theorem cwm_248 : (.methodLink RX11 157 yX3_hasBarge : Cond) ∈ gtb := cwz_at (k := 6) rfl
theorem cwm_249 : (.methodLink RX11 169 yX3_offStop : Cond) ∈ gtb := cwz_at (k := 7) rfl
theorem cwm_250 : (.methodLink RX11 165 yX3_onStop : Cond) ∈ gtb := cwz_at (k := 8) rfl
theorem cwm_251 : (.methodLink RX11 162 yX3_bargePart : Cond) ∈ gtb := cwz_at (k := 9) rfl
theorem cwm_252 : (.fieldLink RX11 254 "BargeRaft$State" "actCount" "I" : Cond) ∈ gtb := cwz_at (k := 10) rfl
theorem cwm_253 : (.methodLink RX11 257 yX7_actPart : Cond) ∈ gtb := cwz_at (k := 11) rfl
def TXA : String := "no such quay, or nothing of that kind is told of it"
def TXB : String := "no such leg, or nothing of that kind is told of it"
def TXC : String := "no such barge, or nothing of that kind is told of it"
def TXD : String := "no such act, or nothing of that kind is told of it"
def NSE : String := "java/util/NoSuchElementException"
/-- the constructor that takes a text: its own link lies at 13 here, the two above it have theirs at 7 -/
def yRest : List Cond := [.methodLink RX11 142 (Bundle.initS NSE), .instantiable NSE 6, .castable NSE NSE, .selects NSE Bundle.tFill0 Bundle.tFill0, .selects NSE Bundle.tFill Bundle.tFill, .lays NSE Bundle.tN "cause" "Ljava/lang/Throwable;", .lays NSE Bundle.tN "stackTrace" Bundle.steD, .lays NSE Bundle.tN "suppressedExceptions" Bundle.listD, .lays NSE Bundle.tN "detailMessage" "Ljava/lang/String;",
   .isRef (.static Bundle.tN "UNASSIGNED_STACK" Bundle.steD), .isRef (.static Bundle.tN "SUPPRESSED_SENTINEL" Bundle.listD), .fieldLink Bundle.tN 198 Bundle.tN "backtrace" "Ljava/lang/Object;", .lays Bundle.tN Bundle.tN "backtrace" "Ljava/lang/Object;", .lays NSE Bundle.tN "backtrace" "Ljava/lang/Object;"]
def yRTE : String := "java/lang/RuntimeException"
def yAll : List Cond := Bundle.throwableAtoms ++ (Bundle.throwableSAtoms ++ (Bundle.passSAtoms NSE yRTE 13 prog_30_method_4_code ++ (Bundle.chainSAtoms yRTE ["java/lang/Exception"] ++ yRest)))
def exL : List Cond := yAll.filter vx_no
theorem exL_gtb : ∀ w ∈ exL.filter goodWord, w ∈ gtb := by
  have h : ∀ w ∈ exL.filter goodWord, w ∈ lw_tbl := by decide +kernel
  intro w hw
  exact List.mem_filter.mpr ⟨h w hw, (List.mem_filter.mp hw).2⟩
def exB : List Cond := [.castable NSE NSE, .declares ⟨"java/lang/RuntimeException", "<init>", "(Ljava/lang/String;)V"⟩, .declares ⟨"java/lang/Exception", "<init>", "(Ljava/lang/String;)V"⟩, .declares ⟨"java/lang/Throwable", "<init>", "(Ljava/lang/String;)V"⟩]
theorem exL_bad : ∀ w ∈ exL.filter (fun w => !goodWord w), w ∈ exB := by decide +kernel
theorem exL_ot : ∀ w ∈ exL, vx_ot w = true := by decide +kernel
theorem exB_tbl : ∀ w ∈ exB, w ∈ lw_tbl := by decide +kernel
def exN (U : State) : Prop := va_Nw (.castable NSE NSE) U ∧ va_Nw (.declares ⟨"java/lang/RuntimeException", "<init>", "(Ljava/lang/String;)V"⟩) U ∧ va_Nw (.declares ⟨"java/lang/Exception", "<init>", "(Ljava/lang/String;)V"⟩) U ∧ va_Nw (.declares ⟨"java/lang/Throwable", "<init>", "(Ljava/lang/String;)V"⟩) U
theorem exN.warm {s U : State} (hW : s.WarmedH U.vm) (h : exN s) : exN U := ⟨va_Nw.warmC hW h.1, va_Nw.warmD hW h.2.1, va_Nw.warmD hW h.2.2.1, va_Nw.warmD hW h.2.2.2⟩
theorem exN.same {s U : State} (hv : s.vm = U.vm) (h : exN s) : exN U := ⟨va_Nw.same rfl hv h.1, va_Nw.same rfl hv h.2.1, va_Nw.same rfl hv h.2.2.1, va_Nw.same rfl hv h.2.2.2⟩
/-- what a throw wants of the state: words, two statics, the texts -/
def exS (t1 t2 t3 t4 : Nat) (A : Nat → Prop) (U : State) (H : Heap) : Prop := exN U ∧ vx_Zq Bundle.tN "UNASSIGNED_STACK" Bundle.steD A U H ∧ vx_Zq Bundle.tN "SUPPRESSED_SENTINEL" Bundle.listD A U H ∧ vk_R RX11 140 TXA t1 U ∧ vk_R RX11 152 TXB t2 U ∧ vk_R RX11 160 TXC t3 U ∧ vk_R RX11 255 TXD t4 U
theorem exS.warm {t1 t2 t3 t4 : Nat} {A : Nat → Prop} {s U : State} {H : Heap} (hW : s.WarmedH U.vm) (h : exS t1 t2 t3 t4 A s H) : exS t1 t2 t3 t4 A U H :=
  ⟨h.1.warm hW, vx_Zq.moved hW.alike h.2.1, vx_Zq.moved hW.alike h.2.2.1, vk_R.warm hW h.2.2.2.1, vk_R.warm hW h.2.2.2.2.1, vk_R.warm hW h.2.2.2.2.2.1, vk_R.warm hW h.2.2.2.2.2.2⟩
theorem exS.same {t1 t2 t3 t4 : Nat} {A : Nat → Prop} {s U : State} {H : Heap} (hv : U.vm = s.vm) (hA : s.vm.Alike U.vm) (h : exS t1 t2 t3 t4 A s H) : exS t1 t2 t3 t4 A U H :=
  ⟨h.1.same hv.symm, vx_Zq.moved hA h.2.1, vx_Zq.moved hA h.2.2.1, vk_R.same hv h.2.2.2.1, vk_R.same hv h.2.2.2.2.1, vk_R.same hv h.2.2.2.2.2.1, vk_R.same hv h.2.2.2.2.2.2⟩
theorem exS.kept {t1 t2 t3 t4 : Nat} {A : Nat → Prop} {U : State} {H H1 : Heap} (h : exS t1 t2 t3 t4 A U H) (hq : ∀ a : Nat, a < H.size → ¬ A a → H1[a]? = H[a]?) : exS t1 t2 t3 t4 A U H1 :=
  ⟨h.1, h.2.1.kept hq, h.2.2.1.kept hq, h.2.2.2⟩
theorem exS.narrow {t1 t2 t3 t4 : Nat} {A B : Nat → Prop} {U : State} {H : Heap} (h : exS t1 t2 t3 t4 A U H) (hAB : ∀ q, B q → A q) : exS t1 t2 t3 t4 B U H :=
  ⟨h.1, h.2.1.narrow hAB, h.2.2.1.narrow hAB, h.2.2.2⟩
def SALL : List Nat := SB ++ S67
theorem SALL_clo : clo SALL = true := by decide +kernel
def lawPre (D : va_G) (T : Nat → ClassId) (ad : Nat → Nat) (M : Mem) (t1 t2 t3 t4 : Nat) (A : Nat → Prop) : State → Prop := fun U => va_P D classes (wld T ad M SALL) U.heap ∧ va_K D classes (tysL T) U ∧ exS t1 t2 t3 t4 A U U.heap
theorem lawPre_blind {D : va_G} {T : Nat → ClassId} {ad : Nat → Nat} {M : Mem} {t1 t2 t3 t4 : Nat} {A : Nat → Prop} {as : List Value} : FrameBlind (va_Pc as (lawPre D T ad M t1 t2 t3 t4 A)) :=
  fun a U g mk h => ⟨h.1, h.2.1, va_K.moved (u := U) (U := U.calling g mk a) (Vm.Alike.refl U.vm) h.2.2.1, exS.same (s := U) (U := U.calling g mk a) rfl (Vm.Alike.refl U.vm) h.2.2.2⟩
theorem srs_n {S : List Nat} : SRs S [] := fun v hv => nomatch hv
theorem srs_r {S : List Nat} {k n a : Nat} {l : List AV} (ha : a ∈ S) (hs : shp a = (k, n)) (h : SRs S l) : SRs S (aR k n a :: l) := fun v hv => by
  rcases List.mem_cons.mp hv with rfl | h9
  · exact ⟨⟨ha, hs⟩, rfl⟩
  · exact h v h9
section TH
variable {p : Program} {l : Launch} {e : Env} {R : Room} {s : State} {m : MethodId} {args : Array Value} {below : List Frame} {meth : Method} {c : Code} {H : Heap} {locs : List Loc} {Qc : Array Value → State → Outcome → State → Prop} {XC : String → State → State → Prop} {A : Nat → Prop}
theorem y_d0 : decode prog_30_method_4_code 0 = .ok (.aload_n 0, 1) := by decide +kernel
theorem y_d1 : decode prog_30_method_4_code 1 = .ok (.aload_n 1, 1) := by decide +kernel
theorem y_d2 : decode prog_30_method_4_code 2 = .ok (.invokespecial 13, 3) := by decide +kernel
theorem y_d5 : decode prog_30_method_4_code 5 = .ok (.return_, 1) := by decide +kernel
theorem y_fit : Bundle.fit NSE = true := by decide +kernel
set_option maxHeartbeats 4000000 in
theorem y_ctor {cells slots : Nat} {Wt : State} (X : Stand p l e R s m args below meth c Wt locs cells slots) (hexec : p.tables.exec = Jvm.exec) (htr : e.platform.stackTraces = false)
    (hown : s.vm.findClass RX11 = some m.cls) (h : ∀ a ∈ yAll, a.before args s = true)
    (hlocs : ∀ x ∈ locs, ∀ cell, s.heap[x.base]? = some cell → cell.vm.isStatics = false)
    {a : Addr} {cX : ClassId} {kX : Class} (hfoundX : s.vm.findClass NSE = some cX) (hkX : s.vm.classes[cX]? = some kX) (hcell : Wt.heap[a]? = some (freshCell cX kX)) (hnew : s.heap.size ≤ a)
    {msg : Value} (hmsg : msg.isRef = true)
    {g : JFrame} (hg : g.method = m) (hsize : g.locals.size = c.maxLocals) (hlocked : g.locked = none) (hentered : g.entered = []) {rest : List Value} (hstack : g.stack = msg :: .ref a :: .ref a :: rest)
    (hd6 : decode c.code g.pc = .ok (.invokespecial 142, 3)) (hd9 : decode c.code (g.pc + 3) = .ok (.athrow, 1)) (hout : ∀ x ∈ c.exceptionTable.toList, covers x (g.pc + 3) = false)
    (hRframes : 5 < R.frames) (hRlocals : 2 * g.monitorRoom + ((Value.ref a :: rest).map fun v => v.category).sum + 81 ≤ R.locals) (hlocks : meth.locks = false) :
    ∃ U : State, Steps p.tables e below (Wt.setTop g) U ∧ U.status = .running ∧ Ended U below (.threw a) ∧ s.WarmedH U.vm ∧ s.sameButNew ({ U with vm := s.vm } : State) locs cells slots ∧
      ∃ ce, U.heap[a]? = some ce ∧ ce.vm = .none ∧ s.vm.findClass NSE = some ce.cls := by
  have howns : e.platform.frameOwnsMonitors = true := by rw [X.admits.platform]
  have hfin : e.platform.finalization = false := by rw [X.admits.platform]
  have hpl : e.platform.magicAccessors = ({} : Platform).magicAccessors := by rw [X.admits.platform]
  have h1 : ∀ x ∈ Bundle.throwableAtoms, x.before args s = true := fun x hx => h x (List.mem_append_left _ hx)
  have h2 : ∀ x ∈ Bundle.throwableSAtoms, x.before args s = true := fun x hx => h x (List.mem_append_right _ (List.mem_append_left _ hx))
  have h3 : ∀ x ∈ Bundle.passSAtoms NSE yRTE 13 prog_30_method_4_code, x.before args s = true := fun x hx => h x (List.mem_append_right _ (List.mem_append_right _ (List.mem_append_left _ hx)))
  have h4 : ∀ x ∈ Bundle.chainSAtoms yRTE ["java/lang/Exception"], x.before args s = true := fun x hx => h x (List.mem_append_right _ (List.mem_append_right _ (List.mem_append_right _ (List.mem_append_left _ hx))))
  have h5 : ∀ x ∈ yRest, x.before args s = true := fun x hx => h x (List.mem_append_right _ (List.mem_append_right _ (List.mem_append_right _ (List.mem_append_right _ hx))))
  obtain ⟨T, Z0, L, -, Y⟩ := ThrowableC.of_atoms (args := args) howns hfin hpl h1
  obtain ⟨Z, M, LZ, LM, hnZ⟩ := Init0T.ofS_atoms (args := args) hpl L Y h2
  obtain ⟨P1, L1, hP1m, hs1⟩ := PassC.ofS_atoms (args := args) (s := s) hpl (X := NSE) (Y := yRTE) (Bundle.fit_spec y_fit).1 (by decide) y_d0 y_d1 y_d2 y_d5 h3
  obtain ⟨P2, Ps, hlen, L2, hL, hP2m, hlink2, hlink⟩ := Bundle.chainS (args := args) hpl hnZ ["java/lang/Exception"] yRTE (by decide +kernel) (by decide +kernel) h4
  have hlink1 : P1.sup = P2.m := Option.some.inj (hs1.symm.trans hP2m)
  have hfound : s.vm.findClass NSE = some P1.m.cls := findClass_of_methodNamed hP1m
  cases Option.some.inj (hfoundX.symm.trans hfound)
  obtain ⟨c1, kX', hc1, hk, hord, -, -, hn6⟩ := Cond.instantiable_spec (h5 (.instantiable NSE 6) (by simp [yRest]))
  cases Option.some.inj (hc1.symm.trans hfound)
  cases Option.some.inj (hkX.symm.trans hk)
  have hsel : ∀ {x : MethodName} {mm : MethodId}, (Cond.selects NSE x x) ∈ yRest → s.methodNamed? x = some mm → (x.cls ≠ "java/lang/invoke/MethodHandle" ∧ x.cls ≠ "java/lang/invoke/VarHandle") → selectMethod e.platform s.vm P1.m.cls mm = .method mm := by
    intro x mm hx hn hne
    obtain ⟨c2, r2, m2, q1, q2, q3, q4, -⟩ := Cond.selects_spec (h5 _ hx)
    cases Option.some.inj (q1.symm.trans hfound)
    cases Option.some.inj (q2.symm.trans (State.methodFound?_of_named hn hne))
    cases Option.some.inj (q3.symm.trans hn)
    rw [Launch.admits_selectMethod X.admits]; exact q4
  have hsel0 := hsel (by simp [yRest]) Y.fill0 (by decide)
  have hselF := hsel (by simp [yRest]) Y.fill (by decide)
  obtain ⟨cellS0, hcS0, hiss⟩ := Y.statics
  obtain ⟨u0, hu0⟩ := Cond.staticRefV Y.unassigned L.unassignedStatic L.statics hcS0 hiss (h5 (.isRef (.static Bundle.tN "UNASSIGNED_STACK" Bundle.steD)) (by simp [yRest]))
  obtain ⟨sen, hsen⟩ := Cond.staticRefV Y.sentinel L.sentinelStatic L.statics hcS0 hiss (h5 (.isRef (.static Bundle.tN "SUPPRESSED_SENTINEL" Bundle.listD)) (by simp [yRest]))
  obtain ⟨ci198, i198, fB, hk198, hg198, ha198, hsB, -, hnB, htB, hffB⟩ := Cond.ownField (t := .object "java/lang/Object") Y.found L.cls (by decide +kernel) (h5 (.fieldLink Bundle.tN 198 Bundle.tN "backtrace" "Ljava/lang/Object;") (by simp [yRest])) (h5 (.lays Bundle.tN Bundle.tN "backtrace" "Ljava/lang/Object;") (by simp [yRest])) e.platform hpl
  obtain ⟨cellS, hcS', heS, -, hkeep⟩ := X.same.2.2.2.2.2 T.aS cellS0 hcS0
  have hcellS : Wt.heap[T.aS]? = some cellS := hcS'
  have hout' : ∀ i, (⟨T.aS, i⟩ : Loc) ∉ locs := fun i hmem => by
    have := hlocs _ hmem cellS0 hcS0
    rw [hiss] at this; cases this
  have hknownS : cellS.vm ≠ .unknown := by
    rw [heS]; intro hu
    rw [show cellS0.vm = .unknown from hu] at hiss
    cases hiss
  have hneS : T.aS ≠ a := Nat.ne_of_lt (Nat.lt_of_lt_of_le (Array.getElem?_eq_some_iff.mp hcS0).1 hnew)
  obtain ⟨iM, hffM⟩ := Y.msg
  obtain ⟨tyC, dC, hdC, hdnC⟩ := Cond.laysAt hfound hk Y.cause (h5 (.lays NSE Bundle.tN "cause" "Ljava/lang/Throwable;") (by simp [yRest]))
  obtain ⟨tyS, dS, hdS, hdnS⟩ := Cond.laysAt hfound hk Y.stack (h5 (.lays NSE Bundle.tN "stackTrace" Bundle.steD) (by simp [yRest]))
  obtain ⟨tyP, dP, hdP, hdnP⟩ := Cond.laysAt hfound hk Y.supp (h5 (.lays NSE Bundle.tN "suppressedExceptions" Bundle.listD) (by simp [yRest]))
  obtain ⟨tyM, dM, hdM, hdnM⟩ := Cond.laysAt hfound hk hffM (h5 (.lays NSE Bundle.tN "detailMessage" "Ljava/lang/String;") (by simp [yRest]))
  obtain ⟨tyB, dB, hdB, hdnB⟩ := Cond.laysAt hfound hk hffB (h5 (.lays NSE Bundle.tN "backtrace" "Ljava/lang/Object;") (by simp [yRest]))
  have bC := Cond.laysApart hdB hdC hdnB hdnC (by rw [hnB, Y.causeName]; decide)
  have bS := Cond.laysApart hdB hdS hdnB hdnS (by rw [hnB, Y.stackName]; decide)
  have bP := Cond.laysApart hdB hdP hdnB hdnP (by rw [hnB, Y.suppName]; decide)
  have hskip : SkipFacts T e.platform s (fun u => u) u0 ((preparedCellV T.toThrowableT (freshCell P1.m.cls kX) a u0 sen).withEntry Wt.cur) :=
    ⟨{ ci198 := ci198, i198 := i198, fBack := fB }, ⟨hk198, hg198, ha198, hsB⟩, by
      have := fresh_default (c := P1.m.cls) tyB
      rw [htB] at this
      simpa [preparedCellV, Cell.setSlot, Cell.withEntry, Array.getElem?_setIfInBounds, bC, bS, bP, bC.symm, bS.symm, bP.symm, defaultValue] using this, fun _ _ => rfl⟩
  obtain ⟨tm, methC, cdC, kC, vm₁, hnC, -, -, -, -, -, -, -, hW₁, st1⟩ := Steps.initColdS (tb := p.tables) (e := e) (below := below) (s := s) (U := Wt) X.here hexec X.warmed hpl hown (t := Bundle.initS NSE) rfl rfl (Bundle.fit_spec y_fit).2
    (h5 (.methodLink RX11 142 (Bundle.initS NSE)) (by simp [yRest])) (h3 (.instanceMethod (Bundle.initS NSE)) (by simp [Bundle.passSAtoms])) (bytes := prog_30_method_4_code) (maxL := 2) (h3 (.code (Bundle.initS NSE) prog_30_method_4_code 2 none) (by simp [Bundle.passSAtoms]))
    (f := g) hg (a := a) (msg := msg) (rest := .ref a :: rest) hstack hd6
  cases Option.some.inj (hnC.symm.trans hP1m)
  have X₁ := X.noted hW₁
  obtain ⟨vm₂, X₂, st2⟩ := X₁.ctorMessageOffV hexec (g := { g with stack := .ref a :: rest }) hg hsize T L Z LZ M LM (P1 :: P2 :: Ps)
    (fun P hP => by
      rcases List.mem_cons.mp hP with rfl | hP
      · exact L1
      · rcases List.mem_cons.mp hP with rfl | hP
        · exact L2
        · exact hL P hP) ⟨hlink1, hlink2, hlink⟩ (u0 := u0) (sen := sen) (self := a) hmsg (cell := freshCell P1.m.cls kX) (cellS := cellS)
    hcell (fun _ => by simp) (by simp) rfl rfl hsel0 hselF hcellS hneS hknownS (by rw [hkeep _ (hout' _)]; exact hu0) (by rw [hkeep _ (hout' _)]; exact hsen)
    (Takes.of_laid hk hord tyC (by rw [Y.causeType]; rfl)) (Takes.of_laid hk hord tyS (by rw [Y.stackType]; exact fits_refV_array _ u0)) (Takes.of_laid hk hord tyP (by rw [Y.suppType]; exact fits_refV_object _ sen))
    (Takes.of_laid hk hord tyM (by rw [Y.msgType]; exact fits_refV_object _ ⟨msg, hmsg⟩)) Y.objLocals hskip htr [] hd6
    (by simp only [List.length_cons, hlen, List.length_nil]; omega) (by simp only [List.length_cons, hlen, List.length_nil]; omega)
  obtain ⟨hwalk, hrun, hended, hWU, hsame⟩ := X₂.athrowLeaves hexec (g := { g with stack := .ref a :: rest, pc := g.pc + 3 }) hg hlocked hentered hout (a := a) (rest := rest) rfl hd9
  have hlt : a < ((Wt.setVm vm₁).setVm vm₂).heap.size := (Array.getElem?_eq_some_iff.mp hcell).1
  have hU := heapAt_setCell_self (s := (Wt.setVm vm₁).setVm vm₂) (plainBareV T.toThrowableT (freshCell P1.m.cls kX) a u0 sen msg) hlt
  refine ⟨_, st1 _ (fun acts => ?_), hrun, hended, hWU, hsame.weaken (fun y hy hlt' => ?_) (Nat.le_refl _) (Nat.le_refl _), _, hU, rfl, hfound⟩
  · rw [doInvoke_state]
    exact st2 _ hwalk
  · rcases List.mem_append.mp hy with h9 | h9
    · exact h9
    · exfalso
      have hb : y.base = a := by
        simp only [List.mem_cons, List.not_mem_nil, or_false] at h9
        rcases h9 with rfl | rfl | rfl | rfl | rfl <;> rfl
      rw [hb] at hlt'
      exact Nat.not_lt.mpr hnew hlt'
theorem x_throw {cc : ByteArray} {pc is sa t1 t2 t3 t4 : Nat} {text : String} {ls : Array Slot} (hx : p.tables.exec = Jvm.exec) (hb : c.code = cc) (hl : l.stackTraces = false) (hown : s.vm.findClass RX11 = some m.cls) (hts : ∀ w ∈ gtb, w.before args s = true) (hE : exS t1 t2 t3 t4 A s s.heap) (hstr : vk_R RX11 is text sa s) (hS : va_S A s.heap H locs) (hsize : ls.size = c.maxLocals)
    (d0 : decode cc pc = .ok (.new 138, 3)) (d3 : decode cc (pc + 3) = .ok (.dup, 1)) (d4 : decode cc (pc + 4) = .ok (.ldc is, 2)) (d6 : decode cc (pc + 6) = .ok (.invokespecial 142, 3)) (d9 : decode cc (pc + 9) = .ok (.athrow, 1))
    (hout : ∀ x ∈ c.exceptionTable.toList, False) (hR : 6 ≤ R.frames ∧ 120 ≤ R.locals ∧ 1 ≤ R.cells ∧ 6 ≤ R.slots) (hlocks : meth.locks = false)
    (hxc : ∀ t : State, s.vm.Alike t.vm → H.size ≤ t.heap.size → (∀ q : Nat, q < H.size → t.heap[q]? = H[q]?) → XC NSE s t) :
    W p l e R s m args below meth c H locs 0 0 (vx_MQ below Qc XC args s 1 6 A) (F0 m pc ls []) := by
  intro T hT X
  have htr : e.platform.stackTraces = false := (show e.platform.stackTraces = l.stackTraces by rw [X.admits.platform]).trans hl
  have Y := vx_rebase X (R' := { frames := R.frames, locals := R.locals, cells := 1, slots := 6 }) (Nat.le_refl _) (Nat.le_refl _) (by show 0 + 1 ≤ R.cells; omega) (by show 0 + 6 ≤ R.slots; omega)
  obtain ⟨s', hA⟩ : ∃ z, z = (T.setVm s.vm).setFrames (.invoking m args :: below) := ⟨_, rfl⟩
  rw [← hA] at Y
  have hvm : s'.vm = s.vm := by rw [hA]; rfl
  have hhp : s'.heap = H := by rw [hA]; exact hT
  have hW0 : s.WarmedH s'.vm := by rw [hvm]; exact State.WarmedH.refl s
  have hat0 : ∀ w ∈ exL, w.before args s = true := vx_hat (B := exB) (fun w hw => hts w (exL_gtb w hw)) exL_bad (vx_c (va_Nw.use rfl hE.1.1) (vx_c (va_Nw.use rfl hE.1.2.1) (vx_c (va_Nw.use rfl hE.1.2.2.1) (vx_c (va_Nw.use rfl hE.1.2.2.2) vx_n))))
  have hat' : ∀ w ∈ exL, w.before args s' = true := fun w hw => vx_ot_at hW0 hvm.symm (exL_ot w hw) (hat0 w hw)
  have hk' : (Cond.classLink RX11 138 NSE).before args s' = true := vx_ot_at hW0 hvm.symm (by decide +kernel) (hts _ (cwm_242))
  have hini' : (Cond.initialized NSE).before args s' = true := vx_ot_at hW0 hvm.symm (by decide +kernel) (hts _ (cwm_243))
  have hE' : exS t1 t2 t3 t4 A s' s'.heap := by rw [hhp]; exact (hE.kept hS.2.1).warm hW0
  have h : ∀ w ∈ yAll, w.before args s' = true := vx_own hat' (vx_isRefq hE'.2.1.1) (vx_isRefq hE'.2.2.1.1) hE'.2.1.2.word hE'.2.2.1.2.word
  have hown' : s'.vm.findClass RX11 = some m.cls := by rw [hvm]; exact hown
  have hins : (Cond.instantiable NSE 6).before args s' = true := h _ (List.mem_append_right _ (List.mem_append_right _ (List.mem_append_right _ (List.mem_append_right _ (by simp [yRest])))))
  obtain ⟨vm₁, cX, kX, hfX, hkX, -, -, X₁, st1⟩ := Y.newCold hx (own := RX11) (C := NSE) (index := 138) (n := 6) hown' hk' hins hini'
    (g := F0 m pc ls []) rfl (by rw [hb]; exact d0) (Nat.le_refl _) (Nat.le_refl _)
  generalize hT1 : (T.setVm vm₁).pushCell { cls := cX, slots := kX.instanceTypes.map defaultValue, vm := .none } = T1 at X₁ st1
  have hcat : (Value.ref T.heap.size).category = 1 := rfl
  have hcellA : T1.heap[T.heap.size]? = some (freshCell cX kX) := by rw [← hT1]; exact State.heap_pushCell_size _ _
  have d3' : decode c.code (pc + 3) = .ok (.dup, 1) := by rw [hb]; exact d3
  have d4' : decode c.code (pc + 4) = .ok (.ldc is, 2) := by rw [hb]; exact d4
  have hstr' : vk_R RX11 is text sa s' := vk_R.warm hW0 hstr
  obtain ⟨U, hsteps, hrun, hend, hW, hsame, ce, hce, hcv, hcc⟩ := y_ctor X₁ hx htr hown' h (fun x hx => nomatch hx) hfX hkX hcellA (by rw [hhp, hT]; exact Nat.le_refl _) (msg := .ref sa) rfl
    (g := { method := m, pc := pc + 6, locals := ls, stack := .ref sa :: .ref T.heap.size :: .ref T.heap.size :: [], locked := none }) rfl hsize rfl rfl (rest := []) rfl
    (by rw [hb]; exact d6) (by rw [hb]; exact d9) (fun x h => (hout x h).elim) (by show 5 < R.frames; omega) (by simp only [List.map_cons, List.map_nil, List.sum_cons, List.sum_nil, hcat]; show 2 * 0 + (1 + 0) + 81 ≤ R.locals; omega) hlocks
  obtain ⟨f1, f2⟩ := vx_frame hsame
  rw [hhp] at f1 f2
  have hWs : s.WarmedH U.vm := State.WarmedH.trans hW0 hW
  have hcl : s.vm.findClass NSE = some ce.cls := by rw [← hvm]; exact hcc
  have hall : s.sameButNew ({ U with vm := s.vm } : State) locs 1 6 := by
    subst hA
    obtain ⟨e1, e2⟩ := hsame
    rw [State.setFrames_setFrames] at e1
    have h2 : (T.setVm s.vm).sameButNew ({ U with vm := s.vm } : State) [] (0 + 1) (0 + 6) := ⟨e1, e2⟩
    have h3 := X.same.trans h2
    rw [List.append_nil] at h3
    exact h3.mono (by omega) (by omega)
  refine ⟨U, ?_, .threw T.heap.size, hrun, hend, Or.inr ⟨T.heap.size, rfl, NSE, ce, locs, hxc U hWs.alike f1 (fun q hq => f2 q hq (fun z hz => nomatch hz)), hce, hcv, hcl, hWs, hall, hS.2.2⟩⟩
  refine st1 _ ?_
  show Steps p.tables e below (T1.setTop { method := m, pc := pc + 3, locals := ls, stack := .ref T.heap.size :: [], locked := none }) _
  jvm_step X₁.here [X₁.here.top, hx, d3', Value.category]
  exact X₁.ldcString hx (own := RX11) (text := text) (index := is) (a := sa) hown' hstr'.1 hstr'.2
    (g := { method := m, pc := pc + 4, locals := ls, stack := .ref T.heap.size :: .ref T.heap.size :: [], locked := none }) rfl d4' _ hsteps
end TH
theorem s_actPart {d : Nat} {M : Mem} {Q : List AV → Mem → Prop} (q w : Int) (h1 : 0 ≤ q * 4 + w) (h2 : q * 4 + w < 240) : XC d 68 [aR 17 0 4, aI q, aI w] M Q ↔ Q [aI (M 12 (q * 4 + w))] M := by
  simp (disch := first | exact nl_i _ | exact nl_r _ | exact Nat.le_of_ble_eq_true rfl | exact Or.inl rfl | exact Or.inr rfl | exact w8_lo _ | exact w8_hi _ | decide | omega) only [e_68, k_68_0, v_fall, v_il_0, v_al_0, v_is_0, v_as_0, v_inc_0, v_ll_0, v_ls_0, v_il_1, v_al_1, v_is_1, v_as_1, v_inc_1, v_ll_1, v_ls_1, v_il_2, v_al_2, v_is_2, v_as_2, v_inc_2, v_ll_2, v_ls_2, v_il_3, v_al_3, v_is_3, v_as_3, v_inc_3, v_ll_3, v_ls_3, v_il_4, v_al_4, v_is_4, v_as_4, v_inc_4, v_ll_4, v_ls_4, v_il_5, v_al_5, v_is_5, v_as_5, v_inc_5, v_ll_5, v_ls_5, v_il_6, v_al_6, v_is_6, v_as_6, v_inc_6, v_il_7, v_al_7, v_is_7, v_as_7, v_inc_7, v_il_8, v_al_8, v_is_8, v_as_8, v_inc_8, v_il_9, v_al_9, v_is_9, v_as_9, v_inc_9, v_il_10, v_al_10, v_is_10, v_as_10, v_inc_10, v_il_11, v_al_11, v_is_11, v_as_11, v_inc_11, v_il_12, v_al_12, v_is_12, v_as_12, v_inc_12, v_il_13, v_al_13, v_is_13, v_as_13, v_inc_13, v_c_8, v_c_9, v_c_10, v_c_11, v_c_12, v_c_13, v_c_14, v_b_15, v_b_16, v_b_17, v_b_21, v_b_22, v_b_23, v_b_24, v_b_25, v_b_26, v_b_18, v_b_19, v_b_20, v_b_27, v_b_28, v_b_29, v_b_30, v_b_31, v_dup_i, v_dup_r, v_dup2, v_pop, v_gi, v_gl, v_gr, v_pi, v_pl, v_pz, v_iald, v_lald, v_bald, v_zald, v_aald, v_iast, v_last, v_bast, v_zast, v_alen_0, v_alen_1, v_alen_2, v_alen_3, v_alen_4, v_j_45, v_j_46, v_j_47, v_j_48, v_j_49, v_j_50, v_j_51, v_j_52, v_j_53, v_j_54, v_j_55, v_j_56, v_goto, v_sw, v_ret_i, v_ret_z, v_ret, v_cpy, v_iv_1, v_iv_2, v_iv_3, v_iv_4, v_iv_5, v_iv_6, v_is2_1, v_is2_2, v_is2_3, v_ivJ, List.nil_append, List.cons_append, rf_0_0, rf_0_1, rf_0_2, rf_0_3, rf_0_4, rf_0_5, rf_0_6, rf_0_7, rf_0_8, rf_0_9, rf_1_0, rf_1_2, rf_4_0, rf_4_1, rf_4_2, rf_5_8, rf_5_9, rf_5_10, rf_5_11, rf_5_12, rf_13_0, rf_13_1, rf_14_0, rf_14_1, rf_14_2, rf_15_8, rf_15_9, rf_15_10, rf_15_11, rf_15_12, rf_23_0, rf_23_1, rf_23_2, rf_24_8, rf_24_9, rf_24_10, rf_24_11, rf_24_12, rf_32_6, rf_34_0, rf_34_1, rf_34_2, rf_34_3, rf_35_8, rf_35_9, rf_35_10, rf_35_11, rf_35_12, rf_43_0, rf_43_1, rf_43_2, rf_43_3, rf_45_0, rf_45_1, rf_46_0, rf_46_1, rf_46_2, rf_46_3, rf_46_4, rf_46_5, rf_47_0, rf_47_1, rf_49_0, rf_49_1, rf_49_2, rf_49_3, rf_49_4, rf_49_5, rf_53_0, rf_53_1, rf_53_2, rf_53_3, rf_53_4, rf_53_5, rf_53_6, rf_53_7, rf_53_9, rf_53_10, rf_53_11, rf_53_12, rf_53_13, rf_54_0, rf_54_1, rf_55_1, rf_55_2, rf_55_3, rf_67_1, rf_67_6, rf_67_7, rf_67_8, rf_67_9, rf_67_10, rf_67_22, rf_67_23, rf_67_28, rf_67_30, rf_67_32, rf_67_33, rf_67_38, rf_67_39, rf_67_48, rf_67_49, rf_67_51, rf_67_52, rf_67_53, rf_67_54, rf_67_55, rf_67_60, rf_67_61, rf_67_62]
theorem dX11_quay_0 : decode cX11_quay 0 = .ok (.aload_n 0, 1) := by decide +kernel
theorem dX11_quay_1 : decode cX11_quay 1 = .ok (.getfield 19, 3) := by decide +kernel
theorem dX11_quay_4 : decode cX11_quay 4 = .ok (.getfield 34, 3) := by decide +kernel
theorem dX11_quay_7 : decode cX11_quay 7 = .ok (.iload_n 1, 1) := by decide +kernel
theorem dX11_quay_8 : decode cX11_quay 8 = .ok (.invokevirtual 134, 3) := by decide +kernel
theorem dX11_quay_11 : decode cX11_quay 11 = .ok (.ifCond .eq 12, 3) := by decide +kernel
theorem dX11_quay_14 : decode cX11_quay 14 = .ok (.iload_n 2, 1) := by decide +kernel
theorem dX11_quay_15 : decode cX11_quay 15 = .ok (.ifCond .lt 8, 3) := by decide +kernel
theorem dX11_quay_18 : decode cX11_quay 18 = .ok (.iload_n 2, 1) := by decide +kernel
theorem dX11_quay_19 : decode cX11_quay 19 = .ok (.iconst 3, 1) := by decide +kernel
theorem dX11_quay_20 : decode cX11_quay 20 = .ok (.if_icmp .lt 13, 3) := by decide +kernel
theorem dX11_quay_23 : decode cX11_quay 23 = .ok (.new 138, 3) := by decide +kernel
theorem dX11_quay_26 : decode cX11_quay 26 = .ok (.dup, 1) := by decide +kernel
theorem dX11_quay_27 : decode cX11_quay 27 = .ok (.ldc 140, 2) := by decide +kernel
theorem dX11_quay_29 : decode cX11_quay 29 = .ok (.invokespecial 142, 3) := by decide +kernel
theorem dX11_quay_32 : decode cX11_quay 32 = .ok (.athrow, 1) := by decide +kernel
theorem dX11_quay_33 : decode cX11_quay 33 = .ok (.aload_n 0, 1) := by decide +kernel
theorem dX11_quay_34 : decode cX11_quay 34 = .ok (.getfield 19, 3) := by decide +kernel
theorem dX11_quay_37 : decode cX11_quay 37 = .ok (.getfield 34, 3) := by decide +kernel
theorem dX11_quay_40 : decode cX11_quay 40 = .ok (.iload_n 1, 1) := by decide +kernel
theorem dX11_quay_41 : decode cX11_quay 41 = .ok (.iload_n 2, 1) := by decide +kernel
theorem dX11_quay_42 : decode cX11_quay 42 = .ok (.invokevirtual 145, 3) := by decide +kernel
theorem dX11_quay_45 : decode cX11_quay 45 = .ok (.ireturn, 1) := by decide +kernel
set_option maxHeartbeats 4000000 in
set_option maxRecDepth 100000 in
theorem c_X11_quay (l : Launch) (hl9 : l.stackTraces = false) (D : va_G) (T : Nat → ClassId) (ad : Nat → Nat) (M : Mem) (t1 t2 t3 t4 : Nat) (A : Nat → Prop) (hAd : adD A ad SALL) (q w : Int) (hq : I32 q) (hw : I32 w) (h : RI M) : vx_Met l yX11_quay (.code yX11_quay cX11_quay 3 (some .int) :: gtb) ({ frames := 6, cells := 1, slots := 6, locals := 240 } : Room) (va_Pc [.ref (ad 0), .int (Int32.ofInt q), .int (Int32.ofInt w)] (lawPre D T ad M t1 t2 t3 t4 A)) (va_Qi (fun (r : Int32) (_ : Unit) => ((0 ≤ q ∧ q < M 5 0) ∧ 0 ≤ w ∧ w < 3) ∧ r = Int32.ofInt (M 6 (q * 3 + w))) (fun _ t => va_P D classes (wld T ad M SALL) t.heap) A) (vx_X (fun _ : Unit => ¬ ((0 ≤ q ∧ q < M 5 0) ∧ 0 ≤ w ∧ w < 3)) (fun E _ t => E = NSE ∧ va_P D classes (wld T ad M SALL) t.heap) A) 1 6 A := by
  refine vx_ofW (cc := cX11_quay) (maxL := 3) (ret := some .int) (by decide) rfl ?_
  intro p e s m args below meth c s₁ B hml hout hv
  obtain ⟨rfl, hP, hK, hE⟩ := hv
  have hx := B.exec
  have hb := B.bytes
  have hr := B.returns
  have hts0 := atoms_spec (ws := .code yX11_quay cX11_quay 3 (some .int) :: gtb) B.pre
  have hts : ∀ w ∈ gtb, w.before _ s = true := fun w hw => hts0 w (List.mem_cons_of_mem _ hw)
  have hown : s.vm.findClass RX11 = some m.cls := findClass_of_methodNamed B.named
  have hlocks := B.notSynchronized
  have hS : va_S A s.heap s.heap [] := va_S.rf
  have hl := lv_entry ([.ref (ad 0), .int (Int32.ofInt q), .int (Int32.ofInt w)]) (n := 3) (Nat.le_of_ble_eq_true rfl)
  rw [lg_entry_eq]
  generalize (lg_sl ([.ref (ad 0), .int (Int32.ofInt q), .int (Int32.ofInt w)]) ++ List.replicate (3 - (lg_sl ([.ref (ad 0), .int (Int32.ofInt q), .int (Int32.ofInt w)])).length) Slot.unset).toArray = ls at hl ⊢
  have hl : lv_has ls 3 [(0, .ref (ad 0)), (1, .int (Int32.ofInt q)), (2, .int (Int32.ofInt w))] := hl
  have i0 : (wld T ad M SALL)[0]? = some (ad 0, .inr (11, flds ad M 0 11)) := wld_a rfl
  have i4 : (wld T ad M SALL)[46]? = some (ad 4, .inr (7, flds ad M 4 7)) := wld_a rfl
  refine lv_aload_n hx hb dX11_quay_0 rfl (lv_at hl 0 rfl) ?_
  refine va_get (D := D) (ci := 11) (v := .ref (ad 4)) (C := cR 11) (T := cT 11) (N := cN 11) hx hb hts (iw_all 11 (by decide)) hown hK hP 0 i0 rfl 1 (by decide) (hts _ cwm_190) (fun _ h9 => h9) rfl dX11_quay_1 ?_
  refine va_get (D := D) (ci := 7) (v := .ref (ad 5)) (C := cR 7) (T := cT 7) (N := cN 7) hx hb hts (iw_all 7 (by decide)) hown hK hP 46 i4 rfl 0 (by decide) (hts _ cwm_198) (fun _ h9 => h9) rfl dX11_quay_4 ?_
  refine lv_iload_n hx hb dX11_quay_7 rfl (lv_at hl 1 rfl) ?_
  refine ct_callV (A1 := A) (ad := ad) (S := SALL) (M := M) (d := 0) (z := 26) (n := 0) (a := 5) (as' := [aI q]) ⟨hx, hb, hown, hts, hK, hl.1.trans hml.symm⟩ hAd SALL_clo hP (by decide) (by decide +kernel) (by decide +kernel) (show npar 26 = some 1 from by decide +kernel) (Or.inl ⟨rfl, (show ∀ g ∈ mdG 26, 2 ≤ g from by decide +kernel), (show 2 ≤ mdL 26 from by decide +kernel)⟩) (srs_r (show 5 ∈ SALL from by decide +kernel) rfl (SRs.i srs_n)) cwm_244 ⟨Nat.le_of_ble_eq_true rfl, Nat.le_of_ble_eq_true rfl⟩ ⟨Nat.le_of_ble_eq_true rfl, Nat.le_of_ble_eq_true rfl⟩ (X_exec ((s_hasQuay q hq h).mpr ⟨rfl, rfl⟩)) dX11_quay_8 (Nat.le_of_ble_eq_true rfl) (rest := []) rfl hS (fun q9 h => h) (fun H1 locs1 hP1 hz hk hS => ?_)
  have hP := hP1
  clear hP1 hk hz
  generalize H1 = H at hP hS ⊢
  generalize locs1 = locs at hS ⊢
  refine W.eq (g2 := F0 m 11 ls [.int (Int32.ofInt (bi (0 ≤ q ∧ q < M 5 0)))]) rfl ?_
  have t9 : ∀ (H : Heap) (locs : List Loc), ¬ ((0 ≤ q ∧ q < M 5 0) ∧ 0 ≤ w ∧ w < 3) → va_P D classes (wld T ad M SALL) H → va_S A s.heap H locs → W p l e (headSpec (.code yX11_quay cX11_quay 3 (some .int) :: gtb) ({ frames := 6, cells := 1, slots := 6, locals := 240 } : Room)).room s m #[.ref (ad 0), .int (Int32.ofInt q), .int (Int32.ofInt w)] below meth c H locs 0 0 (vx_MQ below (va_Qi (fun (r : Int32) (_ : Unit) => ((0 ≤ q ∧ q < M 5 0) ∧ 0 ≤ w ∧ w < 3) ∧ r = Int32.ofInt (M 6 (q * 3 + w))) (fun _ t => va_P D classes (wld T ad M SALL) t.heap) A) (vx_X (fun _ : Unit => ¬ ((0 ≤ q ∧ q < M 5 0) ∧ 0 ≤ w ∧ w < 3)) (fun E _ t => E = NSE ∧ va_P D classes (wld T ad M SALL) t.heap) A) #[.ref (ad 0), .int (Int32.ofInt q), .int (Int32.ofInt w)] s 1 6 A) (F0 m 23 ls []) := fun H locs hng hP hS => by
    exact x_throw hx hb hl9 hown hts hE hE.2.2.2.1 hS (hl.1.trans hml.symm) dX11_quay_23 dX11_quay_26 dX11_quay_27 dX11_quay_29 dX11_quay_32 hout ⟨by decide, by decide, by decide, by decide⟩ hlocks (fun t ha hz hk => ⟨(), hng, ⟨rfl, hP.kept fun k q hq => hk q.1 (hP k q hq).lt⟩, ⟨Nat.le_trans hS.1 hz, fun q h1 h2 => by rw [hk q (Nat.lt_of_lt_of_le h1 hS.1)]; exact hS.2.1 q h1 h2⟩⟩)
  by_cases hq9 : 0 ≤ q ∧ q < M 5 0
  · rw [show bi (0 ≤ q ∧ q < M 5 0) = 1 from if_pos hq9]
    refine lv_if_eq hx hb dX11_quay_11 (tgt := 23) (by decide) (fun h9 => absurd h9 (by decide)) (fun _ => ?_)
    have ew : w32 w = w := w32_of hw.1 hw.2
    refine lv_iload_n hx hb dX11_quay_14 rfl (lv_at hl 2 rfl) ?_
    refine lv_if_lt hx hb dX11_quay_15 (tgt := 23) (by decide) (fun h9 => t9 H locs (fun hg => by have := ltz.mp h9; omega) hP hS) (fun h9 => ?_)
    refine lv_iload_n hx hb dX11_quay_18 rfl (lv_at hl 2 rfl) ?_
    refine lv_iconst (v := Int32.ofInt 3) hx hb dX11_quay_19 (by decide) ?_
    refine lv_icmp_lt hx hb dX11_quay_20 (tgt := 33) (by decide) (fun h8 => ?_) (fun h8 => t9 H locs (fun hg => h8 (lt32.mpr (by rw [ew]; show w < 3; exact hg.2.2))) hP hS)
    have hg : (0 ≤ q ∧ q < M 5 0) ∧ 0 ≤ w ∧ w < 3 := ⟨hq9, by have h7 : ¬ w32 w < 0 := fun h7 => h9 (ltz.mpr h7); omega, by have h7 : w32 w < w32 3 := lt32.mp h8; have e7 : w32 3 = 3 := rfl; omega⟩
    refine lv_aload_n hx hb dX11_quay_33 rfl (lv_at hl 0 rfl) ?_
    refine va_get (D := D) (ci := 11) (v := .ref (ad 4)) (C := cR 11) (T := cT 11) (N := cN 11) hx hb hts (iw_all 11 (by decide)) hown hK hP 0 i0 rfl 1 (by decide) (hts _ cwm_190) (fun _ h9 => h9) rfl dX11_quay_34 ?_
    refine va_get (D := D) (ci := 7) (v := .ref (ad 5)) (C := cR 7) (T := cT 7) (N := cN 7) hx hb hts (iw_all 7 (by decide)) hown hK hP 46 i4 rfl 0 (by decide) (hts _ cwm_198) (fun _ h9 => h9) rfl dX11_quay_37 ?_
    refine lv_iload_n hx hb dX11_quay_40 rfl (lv_at hl 1 rfl) ?_
    refine lv_iload_n hx hb dX11_quay_41 rfl (lv_at hl 2 rfl) ?_
    have hb9 : 0 ≤ q * 3 + w ∧ q * 3 + w < 24 := by have := h.1.2; omega
    refine ct_callV (A1 := A) (ad := ad) (S := SALL) (M := M) (d := 0) (z := 29) (n := 0) (a := 5) (as' := [aI q, aI w]) ⟨hx, hb, hown, hts, hK, hl.1.trans hml.symm⟩ hAd SALL_clo hP (by decide) (by decide +kernel) (by decide +kernel) (show npar 29 = some 2 from by decide +kernel) (Or.inl ⟨rfl, (show ∀ g ∈ mdG 29, 3 ≤ g from by decide +kernel), (show 3 ≤ mdL 29 from by decide +kernel)⟩) (srs_r (show 5 ∈ SALL from by decide +kernel) rfl (SRs.i (SRs.i srs_n))) cwm_245 ⟨Nat.le_of_ble_eq_true rfl, Nat.le_of_ble_eq_true rfl⟩ ⟨Nat.le_of_ble_eq_true rfl, Nat.le_of_ble_eq_true rfl⟩ (X_exec ((s_quayPart q w hb9.1 hb9.2).mpr ⟨rfl, rfl⟩)) dX11_quay_42 (Nat.le_of_ble_eq_true rfl) (rest := []) rfl hS (fun q9 h => h) (fun H1 locs1 hP1 hz hk hS => ?_)
    have hP := hP1
    clear hP1 hk hz
    generalize H1 = H at hP hS ⊢
    generalize locs1 = locs at hS ⊢
    refine W.eq (g2 := F0 m 45 ls [.int (Int32.ofInt (M 6 (q * 3 + w)))]) rfl ?_
    refine W.widen (k := 1) (n := 6) (by decide) (by decide) ?_
    exact vx_ret (W.iret hx hb hr (fun t ht hW => ⟨⟨_, (), rfl, ⟨hg, rfl⟩, by show va_P D classes _ t.heap; rw [ht]; exact hP⟩, hS.F ht⟩) hS.2.2 dX11_quay_45)
  · rw [show bi (0 ≤ q ∧ q < M 5 0) = 0 from if_neg hq9]
    refine lv_if_eq hx hb dX11_quay_11 (tgt := 23) (by decide) (fun _ => t9 H locs (fun hg => hq9 hg.1) hP hS) (fun h9 => absurd rfl h9)
theorem dX11_leg_0 : decode cX11_leg 0 = .ok (.aload_n 0, 1) := by decide +kernel
theorem dX11_leg_1 : decode cX11_leg 1 = .ok (.getfield 19, 3) := by decide +kernel
theorem dX11_leg_4 : decode cX11_leg 4 = .ok (.getfield 34, 3) := by decide +kernel
theorem dX11_leg_7 : decode cX11_leg 7 = .ok (.iload_n 1, 1) := by decide +kernel
theorem dX11_leg_8 : decode cX11_leg 8 = .ok (.invokevirtual 149, 3) := by decide +kernel
theorem dX11_leg_11 : decode cX11_leg 11 = .ok (.ifCond .eq 13, 3) := by decide +kernel
theorem dX11_leg_14 : decode cX11_leg 14 = .ok (.iload_n 2, 1) := by decide +kernel
theorem dX11_leg_15 : decode cX11_leg 15 = .ok (.ifCond .lt 9, 3) := by decide +kernel
theorem dX11_leg_18 : decode cX11_leg 18 = .ok (.iload_n 2, 1) := by decide +kernel
theorem dX11_leg_19 : decode cX11_leg 19 = .ok (.bipush 7, 2) := by decide +kernel
theorem dX11_leg_21 : decode cX11_leg 21 = .ok (.if_icmp .lt 13, 3) := by decide +kernel
theorem dX11_leg_24 : decode cX11_leg 24 = .ok (.new 138, 3) := by decide +kernel
theorem dX11_leg_27 : decode cX11_leg 27 = .ok (.dup, 1) := by decide +kernel
theorem dX11_leg_28 : decode cX11_leg 28 = .ok (.ldc 152, 2) := by decide +kernel
theorem dX11_leg_30 : decode cX11_leg 30 = .ok (.invokespecial 142, 3) := by decide +kernel
theorem dX11_leg_33 : decode cX11_leg 33 = .ok (.athrow, 1) := by decide +kernel
theorem dX11_leg_34 : decode cX11_leg 34 = .ok (.aload_n 0, 1) := by decide +kernel
theorem dX11_leg_35 : decode cX11_leg 35 = .ok (.getfield 19, 3) := by decide +kernel
theorem dX11_leg_38 : decode cX11_leg 38 = .ok (.getfield 34, 3) := by decide +kernel
theorem dX11_leg_41 : decode cX11_leg 41 = .ok (.iload_n 1, 1) := by decide +kernel
theorem dX11_leg_42 : decode cX11_leg 42 = .ok (.iload_n 2, 1) := by decide +kernel
theorem dX11_leg_43 : decode cX11_leg 43 = .ok (.invokevirtual 154, 3) := by decide +kernel
theorem dX11_leg_46 : decode cX11_leg 46 = .ok (.ireturn, 1) := by decide +kernel
set_option maxHeartbeats 4000000 in
set_option maxRecDepth 100000 in
theorem c_X11_leg (l : Launch) (hl9 : l.stackTraces = false) (D : va_G) (T : Nat → ClassId) (ad : Nat → Nat) (M : Mem) (t1 t2 t3 t4 : Nat) (A : Nat → Prop) (hAd : adD A ad SALL) (q w : Int) (hq : I32 q) (hw : I32 w) (h : RI M) : vx_Met l yX11_leg (.code yX11_leg cX11_leg 3 (some .int) :: gtb) ({ frames := 6, cells := 1, slots := 6, locals := 240 } : Room) (va_Pc [.ref (ad 0), .int (Int32.ofInt q), .int (Int32.ofInt w)] (lawPre D T ad M t1 t2 t3 t4 A)) (va_Qi (fun (r : Int32) (_ : Unit) => ((0 ≤ q ∧ q < M 5 1) ∧ 0 ≤ w ∧ w < 7) ∧ r = Int32.ofInt (M 7 (q * 7 + w))) (fun _ t => va_P D classes (wld T ad M SALL) t.heap) A) (vx_X (fun _ : Unit => ¬ ((0 ≤ q ∧ q < M 5 1) ∧ 0 ≤ w ∧ w < 7)) (fun E _ t => E = NSE ∧ va_P D classes (wld T ad M SALL) t.heap) A) 1 6 A := by
  refine vx_ofW (cc := cX11_leg) (maxL := 3) (ret := some .int) (by decide) rfl ?_
  intro p e s m args below meth c s₁ B hml hout hv
  obtain ⟨rfl, hP, hK, hE⟩ := hv
  have hx := B.exec
  have hb := B.bytes
  have hr := B.returns
  have hts0 := atoms_spec (ws := .code yX11_leg cX11_leg 3 (some .int) :: gtb) B.pre
  have hts : ∀ w ∈ gtb, w.before _ s = true := fun w hw => hts0 w (List.mem_cons_of_mem _ hw)
  have hown : s.vm.findClass RX11 = some m.cls := findClass_of_methodNamed B.named
  have hlocks := B.notSynchronized
  have hS : va_S A s.heap s.heap [] := va_S.rf
  have hl := lv_entry ([.ref (ad 0), .int (Int32.ofInt q), .int (Int32.ofInt w)]) (n := 3) (Nat.le_of_ble_eq_true rfl)
  rw [lg_entry_eq]
  generalize (lg_sl ([.ref (ad 0), .int (Int32.ofInt q), .int (Int32.ofInt w)]) ++ List.replicate (3 - (lg_sl ([.ref (ad 0), .int (Int32.ofInt q), .int (Int32.ofInt w)])).length) Slot.unset).toArray = ls at hl ⊢
  have hl : lv_has ls 3 [(0, .ref (ad 0)), (1, .int (Int32.ofInt q)), (2, .int (Int32.ofInt w))] := hl
  have i0 : (wld T ad M SALL)[0]? = some (ad 0, .inr (11, flds ad M 0 11)) := wld_a rfl
  have i4 : (wld T ad M SALL)[46]? = some (ad 4, .inr (7, flds ad M 4 7)) := wld_a rfl
  refine lv_aload_n hx hb dX11_leg_0 rfl (lv_at hl 0 rfl) ?_
  refine va_get (D := D) (ci := 11) (v := .ref (ad 4)) (C := cR 11) (T := cT 11) (N := cN 11) hx hb hts (iw_all 11 (by decide)) hown hK hP 0 i0 rfl 1 (by decide) (hts _ cwm_190) (fun _ h9 => h9) rfl dX11_leg_1 ?_
  refine va_get (D := D) (ci := 7) (v := .ref (ad 5)) (C := cR 7) (T := cT 7) (N := cN 7) hx hb hts (iw_all 7 (by decide)) hown hK hP 46 i4 rfl 0 (by decide) (hts _ cwm_198) (fun _ h9 => h9) rfl dX11_leg_4 ?_
  refine lv_iload_n hx hb dX11_leg_7 rfl (lv_at hl 1 rfl) ?_
  refine ct_callV (A1 := A) (ad := ad) (S := SALL) (M := M) (d := 0) (z := 27) (n := 0) (a := 5) (as' := [aI q]) ⟨hx, hb, hown, hts, hK, hl.1.trans hml.symm⟩ hAd SALL_clo hP (by decide) (by decide +kernel) (by decide +kernel) (show npar 27 = some 1 from by decide +kernel) (Or.inl ⟨rfl, (show ∀ g ∈ mdG 27, 2 ≤ g from by decide +kernel), (show 2 ≤ mdL 27 from by decide +kernel)⟩) (srs_r (show 5 ∈ SALL from by decide +kernel) rfl (SRs.i srs_n)) cwm_246 ⟨Nat.le_of_ble_eq_true rfl, Nat.le_of_ble_eq_true rfl⟩ ⟨Nat.le_of_ble_eq_true rfl, Nat.le_of_ble_eq_true rfl⟩ (X_exec ((s_hasLeg q hq h).mpr ⟨rfl, rfl⟩)) dX11_leg_8 (Nat.le_of_ble_eq_true rfl) (rest := []) rfl hS (fun q9 h => h) (fun H1 locs1 hP1 hz hk hS => ?_)
  have hP := hP1
  clear hP1 hk hz
  generalize H1 = H at hP hS ⊢
  generalize locs1 = locs at hS ⊢
  refine W.eq (g2 := F0 m 11 ls [.int (Int32.ofInt (bi (0 ≤ q ∧ q < M 5 1)))]) rfl ?_
  have t9 : ∀ (H : Heap) (locs : List Loc), ¬ ((0 ≤ q ∧ q < M 5 1) ∧ 0 ≤ w ∧ w < 7) → va_P D classes (wld T ad M SALL) H → va_S A s.heap H locs → W p l e (headSpec (.code yX11_leg cX11_leg 3 (some .int) :: gtb) ({ frames := 6, cells := 1, slots := 6, locals := 240 } : Room)).room s m #[.ref (ad 0), .int (Int32.ofInt q), .int (Int32.ofInt w)] below meth c H locs 0 0 (vx_MQ below (va_Qi (fun (r : Int32) (_ : Unit) => ((0 ≤ q ∧ q < M 5 1) ∧ 0 ≤ w ∧ w < 7) ∧ r = Int32.ofInt (M 7 (q * 7 + w))) (fun _ t => va_P D classes (wld T ad M SALL) t.heap) A) (vx_X (fun _ : Unit => ¬ ((0 ≤ q ∧ q < M 5 1) ∧ 0 ≤ w ∧ w < 7)) (fun E _ t => E = NSE ∧ va_P D classes (wld T ad M SALL) t.heap) A) #[.ref (ad 0), .int (Int32.ofInt q), .int (Int32.ofInt w)] s 1 6 A) (F0 m 24 ls []) := fun H locs hng hP hS => by
    exact x_throw hx hb hl9 hown hts hE hE.2.2.2.2.1 hS (hl.1.trans hml.symm) dX11_leg_24 dX11_leg_27 dX11_leg_28 dX11_leg_30 dX11_leg_33 hout ⟨by decide, by decide, by decide, by decide⟩ hlocks (fun t ha hz hk => ⟨(), hng, ⟨rfl, hP.kept fun k q hq => hk q.1 (hP k q hq).lt⟩, ⟨Nat.le_trans hS.1 hz, fun q h1 h2 => by rw [hk q (Nat.lt_of_lt_of_le h1 hS.1)]; exact hS.2.1 q h1 h2⟩⟩)
  by_cases hq9 : 0 ≤ q ∧ q < M 5 1
  · rw [show bi (0 ≤ q ∧ q < M 5 1) = 1 from if_pos hq9]
    refine lv_if_eq hx hb dX11_leg_11 (tgt := 24) (by decide) (fun h9 => absurd h9 (by decide)) (fun _ => ?_)
    have ew : w32 w = w := w32_of hw.1 hw.2
    refine lv_iload_n hx hb dX11_leg_14 rfl (lv_at hl 2 rfl) ?_
    refine lv_if_lt hx hb dX11_leg_15 (tgt := 24) (by decide) (fun h9 => t9 H locs (fun hg => by have := ltz.mp h9; omega) hP hS) (fun h9 => ?_)
    refine lv_iload_n hx hb dX11_leg_18 rfl (lv_at hl 2 rfl) ?_
    refine lv_bipush (v := Int32.ofInt 7) hx hb dX11_leg_19 (by decide) ?_
    refine lv_icmp_lt hx hb dX11_leg_21 (tgt := 34) (by decide) (fun h8 => ?_) (fun h8 => t9 H locs (fun hg => h8 (lt32.mpr (by rw [ew]; show w < 7; exact hg.2.2))) hP hS)
    have hg : (0 ≤ q ∧ q < M 5 1) ∧ 0 ≤ w ∧ w < 7 := ⟨hq9, by have h7 : ¬ w32 w < 0 := fun h7 => h9 (ltz.mpr h7); omega, by have h7 : w32 w < w32 7 := lt32.mp h8; have e7 : w32 7 = 7 := rfl; omega⟩
    refine lv_aload_n hx hb dX11_leg_34 rfl (lv_at hl 0 rfl) ?_
    refine va_get (D := D) (ci := 11) (v := .ref (ad 4)) (C := cR 11) (T := cT 11) (N := cN 11) hx hb hts (iw_all 11 (by decide)) hown hK hP 0 i0 rfl 1 (by decide) (hts _ cwm_190) (fun _ h9 => h9) rfl dX11_leg_35 ?_
    refine va_get (D := D) (ci := 7) (v := .ref (ad 5)) (C := cR 7) (T := cT 7) (N := cN 7) hx hb hts (iw_all 7 (by decide)) hown hK hP 46 i4 rfl 0 (by decide) (hts _ cwm_198) (fun _ h9 => h9) rfl dX11_leg_38 ?_
    refine lv_iload_n hx hb dX11_leg_41 rfl (lv_at hl 1 rfl) ?_
    refine lv_iload_n hx hb dX11_leg_42 rfl (lv_at hl 2 rfl) ?_
    have hb9 : 0 ≤ q * 7 + w ∧ q * 7 + w < 49 := by have := h.2.1.2; omega
    refine ct_callV (A1 := A) (ad := ad) (S := SALL) (M := M) (d := 0) (z := 30) (n := 0) (a := 5) (as' := [aI q, aI w]) ⟨hx, hb, hown, hts, hK, hl.1.trans hml.symm⟩ hAd SALL_clo hP (by decide) (by decide +kernel) (by decide +kernel) (show npar 30 = some 2 from by decide +kernel) (Or.inl ⟨rfl, (show ∀ g ∈ mdG 30, 3 ≤ g from by decide +kernel), (show 3 ≤ mdL 30 from by decide +kernel)⟩) (srs_r (show 5 ∈ SALL from by decide +kernel) rfl (SRs.i (SRs.i srs_n))) cwm_247 ⟨Nat.le_of_ble_eq_true rfl, Nat.le_of_ble_eq_true rfl⟩ ⟨Nat.le_of_ble_eq_true rfl, Nat.le_of_ble_eq_true rfl⟩ (X_exec ((s_legPart q w hb9.1 hb9.2).mpr ⟨rfl, rfl⟩)) dX11_leg_43 (Nat.le_of_ble_eq_true rfl) (rest := []) rfl hS (fun q9 h => h) (fun H1 locs1 hP1 hz hk hS => ?_)
    have hP := hP1
    clear hP1 hk hz
    generalize H1 = H at hP hS ⊢
    generalize locs1 = locs at hS ⊢
    refine W.eq (g2 := F0 m 46 ls [.int (Int32.ofInt (M 7 (q * 7 + w)))]) rfl ?_
    refine W.widen (k := 1) (n := 6) (by decide) (by decide) ?_
    exact vx_ret (W.iret hx hb hr (fun t ht hW => ⟨⟨_, (), rfl, ⟨hg, rfl⟩, by show va_P D classes _ t.heap; rw [ht]; exact hP⟩, hS.F ht⟩) hS.2.2 dX11_leg_46)
  · rw [show bi (0 ≤ q ∧ q < M 5 1) = 0 from if_neg hq9]
    refine lv_if_eq hx hb dX11_leg_11 (tgt := 24) (by decide) (fun _ => t9 H locs (fun hg => hq9 hg.1) hP hS) (fun h9 => absurd rfl h9)
theorem dX11_barge_0 : decode cX11_barge 0 = .ok (.aload_n 0, 1) := by decide +kernel
theorem dX11_barge_1 : decode cX11_barge 1 = .ok (.getfield 19, 3) := by decide +kernel
theorem dX11_barge_4 : decode cX11_barge 4 = .ok (.getfield 34, 3) := by decide +kernel
theorem dX11_barge_7 : decode cX11_barge 7 = .ok (.iload_n 1, 1) := by decide +kernel
theorem dX11_barge_8 : decode cX11_barge 8 = .ok (.invokevirtual 157, 3) := by decide +kernel
theorem dX11_barge_11 : decode cX11_barge 11 = .ok (.ifCond .eq 12, 3) := by decide +kernel
theorem dX11_barge_14 : decode cX11_barge 14 = .ok (.iload_n 2, 1) := by decide +kernel
theorem dX11_barge_15 : decode cX11_barge 15 = .ok (.ifCond .lt 8, 3) := by decide +kernel
theorem dX11_barge_18 : decode cX11_barge 18 = .ok (.iload_n 2, 1) := by decide +kernel
theorem dX11_barge_19 : decode cX11_barge 19 = .ok (.iconst 5, 1) := by decide +kernel
theorem dX11_barge_20 : decode cX11_barge 20 = .ok (.if_icmp .le 13, 3) := by decide +kernel
theorem dX11_barge_23 : decode cX11_barge 23 = .ok (.new 138, 3) := by decide +kernel
theorem dX11_barge_26 : decode cX11_barge 26 = .ok (.dup, 1) := by decide +kernel
theorem dX11_barge_27 : decode cX11_barge 27 = .ok (.ldc 160, 2) := by decide +kernel
theorem dX11_barge_29 : decode cX11_barge 29 = .ok (.invokespecial 142, 3) := by decide +kernel
theorem dX11_barge_32 : decode cX11_barge 32 = .ok (.athrow, 1) := by decide +kernel
theorem dX11_barge_33 : decode cX11_barge 33 = .ok (.iload_n 2, 1) := by decide +kernel
theorem dX11_barge_34 : decode cX11_barge 34 = .ok (.iconst 4, 1) := by decide +kernel
theorem dX11_barge_35 : decode cX11_barge 35 = .ok (.if_icmp .ge 16, 3) := by decide +kernel
theorem dX11_barge_38 : decode cX11_barge 38 = .ok (.aload_n 0, 1) := by decide +kernel
theorem dX11_barge_39 : decode cX11_barge 39 = .ok (.getfield 19, 3) := by decide +kernel
theorem dX11_barge_42 : decode cX11_barge 42 = .ok (.getfield 34, 3) := by decide +kernel
theorem dX11_barge_45 : decode cX11_barge 45 = .ok (.iload_n 1, 1) := by decide +kernel
theorem dX11_barge_46 : decode cX11_barge 46 = .ok (.iload_n 2, 1) := by decide +kernel
theorem dX11_barge_47 : decode cX11_barge 47 = .ok (.invokevirtual 162, 3) := by decide +kernel
theorem dX11_barge_50 : decode cX11_barge 50 = .ok (.ireturn, 1) := by decide +kernel
theorem dX11_barge_51 : decode cX11_barge 51 = .ok (.iload_n 2, 1) := by decide +kernel
theorem dX11_barge_52 : decode cX11_barge 52 = .ok (.iconst 4, 1) := by decide +kernel
theorem dX11_barge_53 : decode cX11_barge 53 = .ok (.if_icmp .ne 17, 3) := by decide +kernel
theorem dX11_barge_56 : decode cX11_barge 56 = .ok (.aload_n 0, 1) := by decide +kernel
theorem dX11_barge_57 : decode cX11_barge 57 = .ok (.getfield 19, 3) := by decide +kernel
theorem dX11_barge_60 : decode cX11_barge 60 = .ok (.getfield 34, 3) := by decide +kernel
theorem dX11_barge_63 : decode cX11_barge 63 = .ok (.iload_n 1, 1) := by decide +kernel
theorem dX11_barge_64 : decode cX11_barge 64 = .ok (.invokevirtual 165, 3) := by decide +kernel
theorem dX11_barge_67 : decode cX11_barge 67 = .ok (.goto 14, 3) := by decide +kernel
theorem dX11_barge_70 : decode cX11_barge 70 = .ok (.aload_n 0, 1) := by decide +kernel
theorem dX11_barge_71 : decode cX11_barge 71 = .ok (.getfield 19, 3) := by decide +kernel
theorem dX11_barge_74 : decode cX11_barge 74 = .ok (.getfield 34, 3) := by decide +kernel
theorem dX11_barge_77 : decode cX11_barge 77 = .ok (.iload_n 1, 1) := by decide +kernel
theorem dX11_barge_78 : decode cX11_barge 78 = .ok (.invokevirtual 169, 3) := by decide +kernel
theorem dX11_barge_81 : decode cX11_barge 81 = .ok (.ireturn, 1) := by decide +kernel
set_option maxHeartbeats 4000000 in
set_option maxRecDepth 100000 in
theorem c_X11_barge (l : Launch) (hl9 : l.stackTraces = false) (D : va_G) (T : Nat → ClassId) (ad : Nat → Nat) (M : Mem) (t1 t2 t3 t4 : Nat) (A : Nat → Prop) (hAd : adD A ad SALL) (q w : Int) (hq : I32 q) (hw : I32 w) (h : RI M) : vx_Met l yX11_barge (.code yX11_barge cX11_barge 3 (some .int) :: gtb) ({ frames := 6, cells := 1, slots := 6, locals := 240 } : Room) (va_Pc [.ref (ad 0), .int (Int32.ofInt q), .int (Int32.ofInt w)] (lawPre D T ad M t1 t2 t3 t4 A)) (va_Qi (fun (r : Int32) (_ : Unit) => ((0 ≤ q ∧ q < M 5 2) ∧ 0 ≤ w ∧ w ≤ 5) ∧ r = Int32.ofInt (if w < 4 then M 8 (q * 4 + w) else if w = 4 then (if M 8 (4 * q) < M 8 (4 * q + 1) then M 8 (4 * q) else 2 * (M 5 0 - 1) - M 8 (4 * q)) else (if M 8 (4 * q) < M 8 (4 * q + 1) then M 8 (4 * q + 1) else 2 * (M 5 0 - 1) - M 8 (4 * q + 1)))) (fun _ t => va_P D classes (wld T ad M SALL) t.heap) A) (vx_X (fun _ : Unit => ¬ ((0 ≤ q ∧ q < M 5 2) ∧ 0 ≤ w ∧ w ≤ 5)) (fun E _ t => E = NSE ∧ va_P D classes (wld T ad M SALL) t.heap) A) 1 6 A := by
  refine vx_ofW (cc := cX11_barge) (maxL := 3) (ret := some .int) (by decide) rfl ?_
  intro p e s m args below meth c s₁ B hml hout hv
  obtain ⟨rfl, hP, hK, hE⟩ := hv
  have hx := B.exec
  have hb := B.bytes
  have hr := B.returns
  have hts0 := atoms_spec (ws := .code yX11_barge cX11_barge 3 (some .int) :: gtb) B.pre
  have hts : ∀ w ∈ gtb, w.before _ s = true := fun w hw => hts0 w (List.mem_cons_of_mem _ hw)
  have hown : s.vm.findClass RX11 = some m.cls := findClass_of_methodNamed B.named
  have hlocks := B.notSynchronized
  have hS : va_S A s.heap s.heap [] := va_S.rf
  have hl := lv_entry ([.ref (ad 0), .int (Int32.ofInt q), .int (Int32.ofInt w)]) (n := 3) (Nat.le_of_ble_eq_true rfl)
  rw [lg_entry_eq]
  generalize (lg_sl ([.ref (ad 0), .int (Int32.ofInt q), .int (Int32.ofInt w)]) ++ List.replicate (3 - (lg_sl ([.ref (ad 0), .int (Int32.ofInt q), .int (Int32.ofInt w)])).length) Slot.unset).toArray = ls at hl ⊢
  have hl : lv_has ls 3 [(0, .ref (ad 0)), (1, .int (Int32.ofInt q)), (2, .int (Int32.ofInt w))] := hl
  have i0 : (wld T ad M SALL)[0]? = some (ad 0, .inr (11, flds ad M 0 11)) := wld_a rfl
  have i4 : (wld T ad M SALL)[46]? = some (ad 4, .inr (7, flds ad M 4 7)) := wld_a rfl
  refine lv_aload_n hx hb dX11_barge_0 rfl (lv_at hl 0 rfl) ?_
  refine va_get (D := D) (ci := 11) (v := .ref (ad 4)) (C := cR 11) (T := cT 11) (N := cN 11) hx hb hts (iw_all 11 (by decide)) hown hK hP 0 i0 rfl 1 (by decide) (hts _ cwm_190) (fun _ h9 => h9) rfl dX11_barge_1 ?_
  refine va_get (D := D) (ci := 7) (v := .ref (ad 5)) (C := cR 7) (T := cT 7) (N := cN 7) hx hb hts (iw_all 7 (by decide)) hown hK hP 46 i4 rfl 0 (by decide) (hts _ cwm_198) (fun _ h9 => h9) rfl dX11_barge_4 ?_
  refine lv_iload_n hx hb dX11_barge_7 rfl (lv_at hl 1 rfl) ?_
  refine ct_callV (A1 := A) (ad := ad) (S := SALL) (M := M) (d := 0) (z := 28) (n := 0) (a := 5) (as' := [aI q]) ⟨hx, hb, hown, hts, hK, hl.1.trans hml.symm⟩ hAd SALL_clo hP (by decide) (by decide +kernel) (by decide +kernel) (show npar 28 = some 1 from by decide +kernel) (Or.inl ⟨rfl, (show ∀ g ∈ mdG 28, 2 ≤ g from by decide +kernel), (show 2 ≤ mdL 28 from by decide +kernel)⟩) (srs_r (show 5 ∈ SALL from by decide +kernel) rfl (SRs.i srs_n)) cwm_248 ⟨Nat.le_of_ble_eq_true rfl, Nat.le_of_ble_eq_true rfl⟩ ⟨Nat.le_of_ble_eq_true rfl, Nat.le_of_ble_eq_true rfl⟩ (X_exec ((s_hasBarge q hq h).mpr ⟨rfl, rfl⟩)) dX11_barge_8 (Nat.le_of_ble_eq_true rfl) (rest := []) rfl hS (fun q9 h => h) (fun H1 locs1 hP1 hz hk hS => ?_)
  have hP := hP1
  clear hP1 hk hz
  generalize H1 = H at hP hS ⊢
  generalize locs1 = locs at hS ⊢
  refine W.eq (g2 := F0 m 11 ls [.int (Int32.ofInt (bi (0 ≤ q ∧ q < M 5 2)))]) rfl ?_
  have t9 : ∀ (H : Heap) (locs : List Loc), ¬ ((0 ≤ q ∧ q < M 5 2) ∧ 0 ≤ w ∧ w ≤ 5) → va_P D classes (wld T ad M SALL) H → va_S A s.heap H locs → W p l e (headSpec (.code yX11_barge cX11_barge 3 (some .int) :: gtb) ({ frames := 6, cells := 1, slots := 6, locals := 240 } : Room)).room s m #[.ref (ad 0), .int (Int32.ofInt q), .int (Int32.ofInt w)] below meth c H locs 0 0 (vx_MQ below (va_Qi (fun (r : Int32) (_ : Unit) => ((0 ≤ q ∧ q < M 5 2) ∧ 0 ≤ w ∧ w ≤ 5) ∧ r = Int32.ofInt (if w < 4 then M 8 (q * 4 + w) else if w = 4 then (if M 8 (4 * q) < M 8 (4 * q + 1) then M 8 (4 * q) else 2 * (M 5 0 - 1) - M 8 (4 * q)) else (if M 8 (4 * q) < M 8 (4 * q + 1) then M 8 (4 * q + 1) else 2 * (M 5 0 - 1) - M 8 (4 * q + 1)))) (fun _ t => va_P D classes (wld T ad M SALL) t.heap) A) (vx_X (fun _ : Unit => ¬ ((0 ≤ q ∧ q < M 5 2) ∧ 0 ≤ w ∧ w ≤ 5)) (fun E _ t => E = NSE ∧ va_P D classes (wld T ad M SALL) t.heap) A) #[.ref (ad 0), .int (Int32.ofInt q), .int (Int32.ofInt w)] s 1 6 A) (F0 m 23 ls []) := fun H locs hng hP hS => by
    exact x_throw hx hb hl9 hown hts hE hE.2.2.2.2.2.1 hS (hl.1.trans hml.symm) dX11_barge_23 dX11_barge_26 dX11_barge_27 dX11_barge_29 dX11_barge_32 hout ⟨by decide, by decide, by decide, by decide⟩ hlocks (fun t ha hz hk => ⟨(), hng, ⟨rfl, hP.kept fun k q hq => hk q.1 (hP k q hq).lt⟩, ⟨Nat.le_trans hS.1 hz, fun q h1 h2 => by rw [hk q (Nat.lt_of_lt_of_le h1 hS.1)]; exact hS.2.1 q h1 h2⟩⟩)
  by_cases hq9 : 0 ≤ q ∧ q < M 5 2
  · rw [show bi (0 ≤ q ∧ q < M 5 2) = 1 from if_pos hq9]
    refine lv_if_eq hx hb dX11_barge_11 (tgt := 23) (by decide) (fun h9 => absurd h9 (by decide)) (fun _ => ?_)
    have ew : w32 w = w := w32_of hw.1 hw.2
    refine lv_iload_n hx hb dX11_barge_14 rfl (lv_at hl 2 rfl) ?_
    refine lv_if_lt hx hb dX11_barge_15 (tgt := 23) (by decide) (fun h9 => t9 H locs (fun hg => by have := ltz.mp h9; omega) hP hS) (fun h9 => ?_)
    refine lv_iload_n hx hb dX11_barge_18 rfl (lv_at hl 2 rfl) ?_
    refine lv_iconst (v := Int32.ofInt 5) hx hb dX11_barge_19 (by decide) ?_
    refine lv_icmp_le hx hb dX11_barge_20 (tgt := 33) (by decide) (fun h8 => ?_) (fun h8 => t9 H locs (fun hg => h8 (le32.mpr (by rw [ew]; show w ≤ 5; exact hg.2.2))) hP hS)
    have hw0 : 0 ≤ w := by have h7 : ¬ w32 w < 0 := fun h7 => h9 (ltz.mpr h7); omega
    have hw5 : w ≤ 5 := by have h7 : w32 w ≤ w32 5 := le32.mp h8; have e7 : w32 5 = 5 := rfl; omega
    have hg : (0 ≤ q ∧ q < M 5 2) ∧ 0 ≤ w ∧ w ≤ 5 := ⟨hq9, hw0, hw5⟩
    have hb2 := h.2.2.1.2
    refine lv_iload_n hx hb dX11_barge_33 rfl (lv_at hl 2 rfl) ?_
    refine lv_iconst (v := Int32.ofInt 4) hx hb dX11_barge_34 (by decide) ?_
    refine lv_icmp_ge hx hb dX11_barge_35 (tgt := 51) (by decide) (fun h8 => ?_) (fun h8 => ?_)
    · have hw4 : 4 ≤ w := by have h7 : w32 4 ≤ w32 w := le32.mp h8; have e7 : w32 4 = 4 := rfl; omega
      refine lv_iload_n hx hb dX11_barge_51 rfl (lv_at hl 2 rfl) ?_
      refine lv_iconst (v := Int32.ofInt 4) hx hb dX11_barge_52 (by decide) ?_
      refine lv_icmp_ne hx hb dX11_barge_53 (tgt := 70) (by decide) (fun h8 => ?_) (fun h8 => ?_)
      · have hne : ¬ w = 4 := fun h7 => h8 (by rw [h7])
        have ev : (if w < 4 then M 8 (q * 4 + w) else if w = 4 then (if M 8 (4 * q) < M 8 (4 * q + 1) then M 8 (4 * q) else 2 * (M 5 0 - 1) - M 8 (4 * q)) else (if M 8 (4 * q) < M 8 (4 * q + 1) then M 8 (4 * q + 1) else 2 * (M 5 0 - 1) - M 8 (4 * q + 1))) = (if M 8 (4 * q) < M 8 (4 * q + 1) then M 8 (4 * q + 1) else 2 * (M 5 0 - 1) - M 8 (4 * q + 1)) := by rw [if_neg (by omega), if_neg hne]
        refine lv_aload_n hx hb dX11_barge_70 rfl (lv_at hl 0 rfl) ?_
        refine va_get (D := D) (ci := 11) (v := .ref (ad 4)) (C := cR 11) (T := cT 11) (N := cN 11) hx hb hts (iw_all 11 (by decide)) hown hK hP 0 i0 rfl 1 (by decide) (hts _ cwm_190) (fun _ h9 => h9) rfl dX11_barge_71 ?_
        refine va_get (D := D) (ci := 7) (v := .ref (ad 5)) (C := cR 7) (T := cT 7) (N := cN 7) hx hb hts (iw_all 7 (by decide)) hown hK hP 46 i4 rfl 0 (by decide) (hts _ cwm_198) (fun _ h9 => h9) rfl dX11_barge_74 ?_
        refine lv_iload_n hx hb dX11_barge_77 rfl (lv_at hl 1 rfl) ?_
        refine ct_callV (A1 := A) (ad := ad) (S := SALL) (M := M) (d := 2) (z := 41) (n := 0) (a := 5) (as' := [aI q]) ⟨hx, hb, hown, hts, hK, hl.1.trans hml.symm⟩ hAd SALL_clo hP (by decide) (by decide +kernel) (by decide +kernel) (show npar 41 = some 1 from by decide +kernel) (Or.inl ⟨rfl, (show ∀ g ∈ mdG 41, 2 ≤ g from by decide +kernel), (show 2 ≤ mdL 41 from by decide +kernel)⟩) (srs_r (show 5 ∈ SALL from by decide +kernel) rfl (SRs.i srs_n)) cwm_249 ⟨Nat.le_of_ble_eq_true rfl, Nat.le_of_ble_eq_true rfl⟩ ⟨Nat.le_of_ble_eq_true rfl, Nat.le_of_ble_eq_true rfl⟩ (X_exec ((s_offStop q hq9 h).mpr ⟨rfl, rfl⟩)) dX11_barge_78 (Nat.le_of_ble_eq_true rfl) (rest := []) rfl hS (fun q9 h => h) (fun H1 locs1 hP1 hz hk hS => ?_)
        have hP := hP1
        clear hP1 hk hz
        generalize H1 = H at hP hS ⊢
        generalize locs1 = locs at hS ⊢
        refine W.eq (g2 := F0 m 81 ls [.int (Int32.ofInt (if w < 4 then M 8 (q * 4 + w) else if w = 4 then (if M 8 (4 * q) < M 8 (4 * q + 1) then M 8 (4 * q) else 2 * (M 5 0 - 1) - M 8 (4 * q)) else (if M 8 (4 * q) < M 8 (4 * q + 1) then M 8 (4 * q + 1) else 2 * (M 5 0 - 1) - M 8 (4 * q + 1))))]) (by rw [ev]; rfl) ?_
        refine W.widen (k := 1) (n := 6) (by decide) (by decide) ?_
        exact vx_ret (W.iret hx hb hr (fun t ht hW => ⟨⟨_, (), rfl, ⟨hg, rfl⟩, by show va_P D classes _ t.heap; rw [ht]; exact hP⟩, hS.F ht⟩) hS.2.2 dX11_barge_81)
      · have heq : w = 4 := by have h7 : w32 w = w32 4 := eq32.mp h8; have e7 : w32 4 = 4 := rfl; omega
        have ev : (if w < 4 then M 8 (q * 4 + w) else if w = 4 then (if M 8 (4 * q) < M 8 (4 * q + 1) then M 8 (4 * q) else 2 * (M 5 0 - 1) - M 8 (4 * q)) else (if M 8 (4 * q) < M 8 (4 * q + 1) then M 8 (4 * q + 1) else 2 * (M 5 0 - 1) - M 8 (4 * q + 1))) = (if M 8 (4 * q) < M 8 (4 * q + 1) then M 8 (4 * q) else 2 * (M 5 0 - 1) - M 8 (4 * q)) := by rw [if_neg (by omega), if_pos heq]
        refine lv_aload_n hx hb dX11_barge_56 rfl (lv_at hl 0 rfl) ?_
        refine va_get (D := D) (ci := 11) (v := .ref (ad 4)) (C := cR 11) (T := cT 11) (N := cN 11) hx hb hts (iw_all 11 (by decide)) hown hK hP 0 i0 rfl 1 (by decide) (hts _ cwm_190) (fun _ h9 => h9) rfl dX11_barge_57 ?_
        refine va_get (D := D) (ci := 7) (v := .ref (ad 5)) (C := cR 7) (T := cT 7) (N := cN 7) hx hb hts (iw_all 7 (by decide)) hown hK hP 46 i4 rfl 0 (by decide) (hts _ cwm_198) (fun _ h9 => h9) rfl dX11_barge_60 ?_
        refine lv_iload_n hx hb dX11_barge_63 rfl (lv_at hl 1 rfl) ?_
        refine ct_callV (A1 := A) (ad := ad) (S := SALL) (M := M) (d := 2) (z := 40) (n := 0) (a := 5) (as' := [aI q]) ⟨hx, hb, hown, hts, hK, hl.1.trans hml.symm⟩ hAd SALL_clo hP (by decide) (by decide +kernel) (by decide +kernel) (show npar 40 = some 1 from by decide +kernel) (Or.inl ⟨rfl, (show ∀ g ∈ mdG 40, 2 ≤ g from by decide +kernel), (show 2 ≤ mdL 40 from by decide +kernel)⟩) (srs_r (show 5 ∈ SALL from by decide +kernel) rfl (SRs.i srs_n)) cwm_250 ⟨Nat.le_of_ble_eq_true rfl, Nat.le_of_ble_eq_true rfl⟩ ⟨Nat.le_of_ble_eq_true rfl, Nat.le_of_ble_eq_true rfl⟩ (X_exec ((s_onStop q hq9 h).mpr ⟨rfl, rfl⟩)) dX11_barge_64 (Nat.le_of_ble_eq_true rfl) (rest := []) rfl hS (fun q9 h => h) (fun H1 locs1 hP1 hz hk hS => ?_)
        have hP := hP1
        clear hP1 hk hz
        generalize H1 = H at hP hS ⊢
        generalize locs1 = locs at hS ⊢
        refine W.eq (g2 := F0 m 67 ls [.int (Int32.ofInt (if w < 4 then M 8 (q * 4 + w) else if w = 4 then (if M 8 (4 * q) < M 8 (4 * q + 1) then M 8 (4 * q) else 2 * (M 5 0 - 1) - M 8 (4 * q)) else (if M 8 (4 * q) < M 8 (4 * q + 1) then M 8 (4 * q + 1) else 2 * (M 5 0 - 1) - M 8 (4 * q + 1))))]) (by rw [ev]; rfl) ?_
        refine lv_goto hx hb dX11_barge_67 (tgt := 81) (by decide) ?_
        refine W.widen (k := 1) (n := 6) (by decide) (by decide) ?_
        exact vx_ret (W.iret hx hb hr (fun t ht hW => ⟨⟨_, (), rfl, ⟨hg, rfl⟩, by show va_P D classes _ t.heap; rw [ht]; exact hP⟩, hS.F ht⟩) hS.2.2 dX11_barge_81)
    · have hlt4 : w < 4 := by have h7 : ¬ w32 4 ≤ w32 w := fun h7 => h8 (le32.mpr h7); have e7 : w32 4 = 4 := rfl; omega
      have ev : (if w < 4 then M 8 (q * 4 + w) else if w = 4 then (if M 8 (4 * q) < M 8 (4 * q + 1) then M 8 (4 * q) else 2 * (M 5 0 - 1) - M 8 (4 * q)) else (if M 8 (4 * q) < M 8 (4 * q + 1) then M 8 (4 * q + 1) else 2 * (M 5 0 - 1) - M 8 (4 * q + 1))) = M 8 (q * 4 + w) := by rw [if_pos hlt4]
      refine lv_aload_n hx hb dX11_barge_38 rfl (lv_at hl 0 rfl) ?_
      refine va_get (D := D) (ci := 11) (v := .ref (ad 4)) (C := cR 11) (T := cT 11) (N := cN 11) hx hb hts (iw_all 11 (by decide)) hown hK hP 0 i0 rfl 1 (by decide) (hts _ cwm_190) (fun _ h9 => h9) rfl dX11_barge_39 ?_
      refine va_get (D := D) (ci := 7) (v := .ref (ad 5)) (C := cR 7) (T := cT 7) (N := cN 7) hx hb hts (iw_all 7 (by decide)) hown hK hP 46 i4 rfl 0 (by decide) (hts _ cwm_198) (fun _ h9 => h9) rfl dX11_barge_42 ?_
      refine lv_iload_n hx hb dX11_barge_45 rfl (lv_at hl 1 rfl) ?_
      refine lv_iload_n hx hb dX11_barge_46 rfl (lv_at hl 2 rfl) ?_
      have hb9 : 0 ≤ q * 4 + w ∧ q * 4 + w < 36 := by omega
      refine ct_callV (A1 := A) (ad := ad) (S := SALL) (M := M) (d := 0) (z := 31) (n := 0) (a := 5) (as' := [aI q, aI w]) ⟨hx, hb, hown, hts, hK, hl.1.trans hml.symm⟩ hAd SALL_clo hP (by decide) (by decide +kernel) (by decide +kernel) (show npar 31 = some 2 from by decide +kernel) (Or.inl ⟨rfl, (show ∀ g ∈ mdG 31, 3 ≤ g from by decide +kernel), (show 3 ≤ mdL 31 from by decide +kernel)⟩) (srs_r (show 5 ∈ SALL from by decide +kernel) rfl (SRs.i (SRs.i srs_n))) cwm_251 ⟨Nat.le_of_ble_eq_true rfl, Nat.le_of_ble_eq_true rfl⟩ ⟨Nat.le_of_ble_eq_true rfl, Nat.le_of_ble_eq_true rfl⟩ (X_exec ((s_bargePart q w hb9.1 hb9.2).mpr ⟨rfl, rfl⟩)) dX11_barge_47 (Nat.le_of_ble_eq_true rfl) (rest := []) rfl hS (fun q9 h => h) (fun H1 locs1 hP1 hz hk hS => ?_)
      have hP := hP1
      clear hP1 hk hz
      generalize H1 = H at hP hS ⊢
      generalize locs1 = locs at hS ⊢
      refine W.eq (g2 := F0 m 50 ls [.int (Int32.ofInt (if w < 4 then M 8 (q * 4 + w) else if w = 4 then (if M 8 (4 * q) < M 8 (4 * q + 1) then M 8 (4 * q) else 2 * (M 5 0 - 1) - M 8 (4 * q)) else (if M 8 (4 * q) < M 8 (4 * q + 1) then M 8 (4 * q + 1) else 2 * (M 5 0 - 1) - M 8 (4 * q + 1))))]) (by rw [ev]; rfl) ?_
      refine W.widen (k := 1) (n := 6) (by decide) (by decide) ?_
      exact vx_ret (W.iret hx hb hr (fun t ht hW => ⟨⟨_, (), rfl, ⟨hg, rfl⟩, by show va_P D classes _ t.heap; rw [ht]; exact hP⟩, hS.F ht⟩) hS.2.2 dX11_barge_50)
  · rw [show bi (0 ≤ q ∧ q < M 5 2) = 0 from if_neg hq9]
    refine lv_if_eq hx hb dX11_barge_11 (tgt := 23) (by decide) (fun _ => t9 H locs (fun hg => hq9 hg.1) hP hS) (fun h9 => absurd rfl h9)
theorem dX11_act_0 : decode cX11_act 0 = .ok (.iload_n 1, 1) := by decide +kernel
theorem dX11_act_1 : decode cX11_act 1 = .ok (.ifCond .lt 23, 3) := by decide +kernel
theorem dX11_act_4 : decode cX11_act 4 = .ok (.iload_n 1, 1) := by decide +kernel
theorem dX11_act_5 : decode cX11_act 5 = .ok (.aload_n 0, 1) := by decide +kernel
theorem dX11_act_6 : decode cX11_act 6 = .ok (.getfield 19, 3) := by decide +kernel
theorem dX11_act_9 : decode cX11_act 9 = .ok (.getfield 254, 3) := by decide +kernel
theorem dX11_act_12 : decode cX11_act 12 = .ok (.if_icmp .ge 12, 3) := by decide +kernel
theorem dX11_act_15 : decode cX11_act 15 = .ok (.iload_n 2, 1) := by decide +kernel
theorem dX11_act_16 : decode cX11_act 16 = .ok (.ifCond .lt 8, 3) := by decide +kernel
theorem dX11_act_19 : decode cX11_act 19 = .ok (.iload_n 2, 1) := by decide +kernel
theorem dX11_act_20 : decode cX11_act 20 = .ok (.iconst 4, 1) := by decide +kernel
theorem dX11_act_21 : decode cX11_act 21 = .ok (.if_icmp .lt 13, 3) := by decide +kernel
theorem dX11_act_24 : decode cX11_act 24 = .ok (.new 138, 3) := by decide +kernel
theorem dX11_act_27 : decode cX11_act 27 = .ok (.dup, 1) := by decide +kernel
theorem dX11_act_28 : decode cX11_act 28 = .ok (.ldc 255, 2) := by decide +kernel
theorem dX11_act_30 : decode cX11_act 30 = .ok (.invokespecial 142, 3) := by decide +kernel
theorem dX11_act_33 : decode cX11_act 33 = .ok (.athrow, 1) := by decide +kernel
theorem dX11_act_34 : decode cX11_act 34 = .ok (.aload_n 0, 1) := by decide +kernel
theorem dX11_act_35 : decode cX11_act 35 = .ok (.getfield 19, 3) := by decide +kernel
theorem dX11_act_38 : decode cX11_act 38 = .ok (.iload_n 1, 1) := by decide +kernel
theorem dX11_act_39 : decode cX11_act 39 = .ok (.iload_n 2, 1) := by decide +kernel
theorem dX11_act_40 : decode cX11_act 40 = .ok (.invokevirtual 257, 3) := by decide +kernel
theorem dX11_act_43 : decode cX11_act 43 = .ok (.ireturn, 1) := by decide +kernel
set_option maxHeartbeats 4000000 in
set_option maxRecDepth 100000 in
theorem c_X11_act (l : Launch) (hl9 : l.stackTraces = false) (D : va_G) (T : Nat → ClassId) (ad : Nat → Nat) (M : Mem) (t1 t2 t3 t4 : Nat) (A : Nat → Prop) (hAd : adD A ad SALL) (q w : Int) (hq : I32 q) (hw : I32 w) (h : 0 ≤ M 4 3 ∧ M 4 3 ≤ 60) : vx_Met l yX11_act (.code yX11_act cX11_act 3 (some .int) :: gtb) ({ frames := 6, cells := 1, slots := 6, locals := 240 } : Room) (va_Pc [.ref (ad 0), .int (Int32.ofInt q), .int (Int32.ofInt w)] (lawPre D T ad M t1 t2 t3 t4 A)) (va_Qi (fun (r : Int32) (_ : Unit) => ((0 ≤ q ∧ q < M 4 3) ∧ 0 ≤ w ∧ w < 4) ∧ r = Int32.ofInt (M 12 (q * 4 + w))) (fun _ t => va_P D classes (wld T ad M SALL) t.heap) A) (vx_X (fun _ : Unit => ¬ ((0 ≤ q ∧ q < M 4 3) ∧ 0 ≤ w ∧ w < 4)) (fun E _ t => E = NSE ∧ va_P D classes (wld T ad M SALL) t.heap) A) 1 6 A := by
  refine vx_ofW (cc := cX11_act) (maxL := 3) (ret := some .int) (by decide) rfl ?_
  intro p e s m args below meth c s₁ B hml hout hv
  obtain ⟨rfl, hP, hK, hE⟩ := hv
  have hx := B.exec
  have hb := B.bytes
  have hr := B.returns
  have hts0 := atoms_spec (ws := .code yX11_act cX11_act 3 (some .int) :: gtb) B.pre
  have hts : ∀ w ∈ gtb, w.before _ s = true := fun w hw => hts0 w (List.mem_cons_of_mem _ hw)
  have hown : s.vm.findClass RX11 = some m.cls := findClass_of_methodNamed B.named
  have hlocks := B.notSynchronized
  have hS : va_S A s.heap s.heap [] := va_S.rf
  have hl := lv_entry ([.ref (ad 0), .int (Int32.ofInt q), .int (Int32.ofInt w)]) (n := 3) (Nat.le_of_ble_eq_true rfl)
  rw [lg_entry_eq]
  generalize (lg_sl ([.ref (ad 0), .int (Int32.ofInt q), .int (Int32.ofInt w)]) ++ List.replicate (3 - (lg_sl ([.ref (ad 0), .int (Int32.ofInt q), .int (Int32.ofInt w)])).length) Slot.unset).toArray = ls at hl ⊢
  have hl : lv_has ls 3 [(0, .ref (ad 0)), (1, .int (Int32.ofInt q)), (2, .int (Int32.ofInt w))] := hl
  have i0 : (wld T ad M SALL)[0]? = some (ad 0, .inr (11, flds ad M 0 11)) := wld_a rfl
  have i4 : (wld T ad M SALL)[46]? = some (ad 4, .inr (7, flds ad M 4 7)) := wld_a rfl
  have t9 : ∀ (H : Heap) (locs : List Loc), ¬ ((0 ≤ q ∧ q < M 4 3) ∧ 0 ≤ w ∧ w < 4) → va_P D classes (wld T ad M SALL) H → va_S A s.heap H locs → W p l e (headSpec (.code yX11_act cX11_act 3 (some .int) :: gtb) ({ frames := 6, cells := 1, slots := 6, locals := 240 } : Room)).room s m #[.ref (ad 0), .int (Int32.ofInt q), .int (Int32.ofInt w)] below meth c H locs 0 0 (vx_MQ below (va_Qi (fun (r : Int32) (_ : Unit) => ((0 ≤ q ∧ q < M 4 3) ∧ 0 ≤ w ∧ w < 4) ∧ r = Int32.ofInt (M 12 (q * 4 + w))) (fun _ t => va_P D classes (wld T ad M SALL) t.heap) A) (vx_X (fun _ : Unit => ¬ ((0 ≤ q ∧ q < M 4 3) ∧ 0 ≤ w ∧ w < 4)) (fun E _ t => E = NSE ∧ va_P D classes (wld T ad M SALL) t.heap) A) #[.ref (ad 0), .int (Int32.ofInt q), .int (Int32.ofInt w)] s 1 6 A) (F0 m 24 ls []) := fun H locs hng hP hS => by
    exact x_throw hx hb hl9 hown hts hE hE.2.2.2.2.2.2 hS (hl.1.trans hml.symm) dX11_act_24 dX11_act_27 dX11_act_28 dX11_act_30 dX11_act_33 hout ⟨by decide, by decide, by decide, by decide⟩ hlocks (fun t ha hz hk => ⟨(), hng, ⟨rfl, hP.kept fun k q hq => hk q.1 (hP k q hq).lt⟩, ⟨Nat.le_trans hS.1 hz, fun q h1 h2 => by rw [hk q (Nat.lt_of_lt_of_le h1 hS.1)]; exact hS.2.1 q h1 h2⟩⟩)
  have eq9 : w32 q = q := w32_of hq.1 hq.2
  have ew : w32 w = w := w32_of hw.1 hw.2
  have ea : w32 (M 4 3) = M 4 3 := w32_of (by omega) (by omega)
  refine lv_iload_n hx hb dX11_act_0 rfl (lv_at hl 1 rfl) ?_
  refine lv_if_lt hx hb dX11_act_1 (tgt := 24) (by decide) (fun h9 => t9 _ _ (fun hg => by have := ltz.mp h9; omega) hP hS) (fun h9 => ?_)
  refine lv_iload_n hx hb dX11_act_4 rfl (lv_at hl 1 rfl) ?_
  refine lv_aload_n hx hb dX11_act_5 rfl (lv_at hl 0 rfl) ?_
  refine va_get (D := D) (ci := 11) (v := .ref (ad 4)) (C := cR 11) (T := cT 11) (N := cN 11) hx hb hts (iw_all 11 (by decide)) hown hK hP 0 i0 rfl 1 (by decide) (hts _ cwm_190) (fun _ h9 => h9) rfl dX11_act_6 ?_
  refine va_get (D := D) (ci := 7) (v := .int (Int32.ofInt (M 4 3))) (C := cR 7) (T := cT 7) (N := cN 7) hx hb hts (iw_all 7 (by decide)) hown hK hP 46 i4 rfl 3 (by decide) (hts _ cwm_252) (fun _ h9 => h9) rfl dX11_act_9 ?_
  refine lv_icmp_ge hx hb dX11_act_12 (tgt := 24) (by decide) (fun h8 => t9 _ _ (fun hg => by have h7 := le32.mp h8; omega) hP hS) (fun h8 => ?_)
  refine lv_iload_n hx hb dX11_act_15 rfl (lv_at hl 2 rfl) ?_
  refine lv_if_lt hx hb dX11_act_16 (tgt := 24) (by decide) (fun h9 => t9 _ _ (fun hg => by have := ltz.mp h9; omega) hP hS) (fun h7 => ?_)
  refine lv_iload_n hx hb dX11_act_19 rfl (lv_at hl 2 rfl) ?_
  refine lv_iconst (v := Int32.ofInt 4) hx hb dX11_act_20 (by decide) ?_
  refine lv_icmp_lt hx hb dX11_act_21 (tgt := 34) (by decide) (fun h6 => ?_) (fun h6 => t9 _ _ (fun hg => h6 (lt32.mpr (by rw [ew]; show w < 4; exact hg.2.2))) hP hS)
  have hg : (0 ≤ q ∧ q < M 4 3) ∧ 0 ≤ w ∧ w < 4 := by
    have g1 : ¬ w32 q < 0 := fun h => h9 (ltz.mpr h)
    have g2 : ¬ w32 (M 4 3) ≤ w32 q := fun h => h8 (le32.mpr h)
    have g3 : ¬ w32 w < 0 := fun h => h7 (ltz.mpr h)
    have g4 : w32 w < w32 4 := lt32.mp h6
    have g5 : w32 4 = 4 := rfl
    omega
  refine lv_aload_n hx hb dX11_act_34 rfl (lv_at hl 0 rfl) ?_
  refine va_get (D := D) (ci := 11) (v := .ref (ad 4)) (C := cR 11) (T := cT 11) (N := cN 11) hx hb hts (iw_all 11 (by decide)) hown hK hP 0 i0 rfl 1 (by decide) (hts _ cwm_190) (fun _ h9 => h9) rfl dX11_act_35 ?_
  refine lv_iload_n hx hb dX11_act_38 rfl (lv_at hl 1 rfl) ?_
  refine lv_iload_n hx hb dX11_act_39 rfl (lv_at hl 2 rfl) ?_
  have hb9 : 0 ≤ q * 4 + w ∧ q * 4 + w < 240 := by omega
  refine ct_callV (A1 := A) (ad := ad) (S := SALL) (M := M) (d := 0) (z := 68) (n := 0) (a := 4) (as' := [aI q, aI w]) ⟨hx, hb, hown, hts, hK, hl.1.trans hml.symm⟩ hAd SALL_clo hP (by decide) (by decide +kernel) (by decide +kernel) (show npar 68 = some 2 from by decide +kernel) (Or.inl ⟨rfl, (show ∀ g ∈ mdG 68, 3 ≤ g from by decide +kernel), (show 3 ≤ mdL 68 from by decide +kernel)⟩) (srs_r (show 4 ∈ SALL from by decide +kernel) rfl (SRs.i (SRs.i srs_n))) cwm_253 ⟨Nat.le_of_ble_eq_true rfl, Nat.le_of_ble_eq_true rfl⟩ ⟨Nat.le_of_ble_eq_true rfl, Nat.le_of_ble_eq_true rfl⟩ (X_exec ((s_actPart q w hb9.1 hb9.2).mpr ⟨rfl, rfl⟩)) dX11_act_40 (Nat.le_of_ble_eq_true rfl) (rest := []) rfl hS (fun q9 h => h) (fun H1 locs1 hP1 hz hk hS => ?_)
  have hP := hP1
  clear hP1 hk hz
  generalize H1 = H at hP hS ⊢
  generalize locs1 = locs at hS ⊢
  refine W.eq (g2 := F0 m 43 ls [.int (Int32.ofInt (M 12 (q * 4 + w)))]) rfl ?_
  refine W.widen (k := 1) (n := 6) (by decide) (by decide) ?_
  exact vx_ret (W.iret hx hb hr (fun t ht hW => ⟨⟨_, (), rfl, ⟨hg, rfl⟩, by show va_P D classes _ t.heap; rw [ht]; exact hP⟩, hS.F ht⟩) hS.2.2 dX11_act_43)
