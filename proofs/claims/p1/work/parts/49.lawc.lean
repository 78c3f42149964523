/-! THE LAW'S CASES -/
def cwv : List (Nat × Cond) := [(720, .methodLink RL 28 yX11_feed), (1389, .methodLink RL 32 yX12_feed), (728, .methodLink RL 33 yX11_end), (1398, .methodLink RL 37 yX12_end), (732, .methodLink RL 38 yX11_river), (1620, .methodLink RL 42 yX12_river), (842, .methodLink RL 43 yX11_fault), (1701, .methodLink RL 46 yX12_fault), (1287, .codeWith yL_quay cL_quay 5 (some .int) [(0, 10, 13, 13)]), (1285, .methodLink RL 47 yL_quay), (1286, .static yL_quay), (100, .initialized "BargeRaftLaw"), (1705, .methodLink RL 52 yX12_quay), (1385, .methodLink RL 53 yX12_thrown), (1360, .codeWith yL_leg cL_leg 5 (some .int) [(0, 10, 13, 13)]), (1358, .methodLink RL 56 yL_leg), (1359, .static yL_leg), (1717, .methodLink RL 58 yX12_leg), (1368, .codeWith yL_barge cL_barge 5 (some .int) [(0, 10, 13, 13)]), (1366, .methodLink RL 59 yL_barge), (1367, .static yL_barge), (1725, .methodLink RL 61 yX12_barge), (846, .methodLink RL 62 yX11_lay), (1749, .methodLink RL 65 yX12_lay), (864, .methodLink RL 66 yX11_cell), (1761, .methodLink RL 70 yX12_cell), (872, .methodLink RL 71 yX11_knots), (1765, .methodLink RL 74 yX12_knots), (885, .methodLink RL 75 yX11_taking), (1781, .methodLink RL 78 yX12_taking), (912, .methodLink RL 79 yX11_takenBy), (1794, .methodLink RL 82 yX12_takenBy), (916, .methodLink RL 83 yX11_sound), (1798, .methodLink RL 86 yX12_sound), (938, .methodLink RL 87 yX11_fits), (1806, .methodLink RL 90 yX12_fits), (966, .methodLink RL 91 yX11_passes), (1814, .methodLink RL 94 yX12_passes), (981, .methodLink RL 95 yX11_passedBy), (1826, .methodLink RL 98 yX12_passedBy), (985, .methodLink RL 99 yX11_deep), (1830, .methodLink RL 102 yX12_deep), (990, .methodLink RL 103 yX11_water), (1834, .methodLink RL 106 yX12_water), (994, .methodLink RL 107 yX11_plan), (1838, .methodLink RL 110 yX12_plan), (1378, .codeWith yL_act cL_act 5 (some .int) [(0, 10, 13, 13)]), (1376, .methodLink RL 111 yL_act), (1377, .static yL_act), (1846, .methodLink RL 113 yX12_act_), (1011, .methodLink RL 114 yX11_judge), (1850, .methodLink RL 117 yX12_judge), (1112, .methodLink RL 118 yX11_judged), (1898, .methodLink RL 121 yX12_judged), (1120, .methodLink RL 122 yX11_judgedAt), (1902, .methodLink RL 125 yX12_judgedAt), (1124, .methodLink RL 126 yX11_first), (1906, .methodLink RL 129 yX12_first), (1168, .methodLink RL 130 yX11_best), (1918, .methodLink RL 133 yX12_best), (1249, .methodLink RL 134 yX11_hired), (1949, .methodLink RL 137 yX12_hired), (1254, .methodLink RL 138 yX11_hiredBy), (1953, .methodLink RL 141 yX12_hiredBy), (1258, .methodLink RL 142 yX11_vain), (1957, .methodLink RL 145 yX12_vain), (1263, .methodLink RL 146 yX11_without), (1961, .methodLink RL 149 yX12_without), (1267, .methodLink RL 150 yX11_image), (1965, .methodLink RL 153 yX12_image), (1276, .methodLink RL 154 yX11_restore), (1969, .methodLink RL 157 yX12_restore), (1280, .methodLink RL 158 yX11_count), (1973, .methodLink RL 161 yX12_count)]
theorem cwv_ok : cwv.all (fun q => atb q.1 q.2) = true := by decide +kernel
theorem cwv_at {k i : Nat} {w : Cond} (h : cwv[k]? = some (i, w)) : w ∈ gtb := atb_mem (i := i) (List.all_eq_true.mp cwv_ok _ (List.mem_of_getElem? h))
theorem cwm_272 : (.methodLink RL 28 yX11_feed : Cond) ∈ gtb := cwv_at (k := 0) rfl
theorem cwm_273 : (.methodLink RL 32 yX12_feed : Cond) ∈ gtb := cwv_at (k := 1) rfl
theorem cwm_274 : (.methodLink RL 33 yX11_end : Cond) ∈ gtb := cwv_at (k := 2) rfl
theorem cwm_275 : (.methodLink RL 37 yX12_end : Cond) ∈ gtb := cwv_at (k := 3) rfl
theorem cwm_276 : (.methodLink RL 38 yX11_river : Cond) ∈ gtb := cwv_at (k := 4) rfl
theorem cwm_277 : (.methodLink RL 42 yX12_river : Cond) ∈ gtb := cwv_at (k := 5) rfl
theorem cwm_278 : (.methodLink RL 43 yX11_fault : Cond) ∈ gtb := cwv_at (k := 6) rfl
theorem cwm_279 : (.methodLink RL 46 yX12_fault : Cond) ∈ gtb := cwv_at (k := 7) rfl
theorem cwm_280 : (.codeWith yL_quay cL_quay 5 (some .int) [(0, 10, 13, 13)] : Cond) ∈ gtb := cwv_at (k := 8) rfl
theorem cwm_281 : (.methodLink RL 47 yL_quay : Cond) ∈ gtb := cwv_at (k := 9) rfl
theorem cwm_282 : (.static yL_quay : Cond) ∈ gtb := cwv_at (k := 10) rfl
theorem cwm_283 : (.initialized "BargeRaftLaw" : Cond) ∈ gtb := cwv_at (k := 11) rfl
theorem cwm_284 : (.methodLink RL 52 yX12_quay : Cond) ∈ gtb := cwv_at (k := 12) rfl
theorem cwm_285 : (.methodLink RL 53 yX12_thrown : Cond) ∈ gtb := cwv_at (k := 13) rfl
theorem cwm_286 : (.codeWith yL_leg cL_leg 5 (some .int) [(0, 10, 13, 13)] : Cond) ∈ gtb := cwv_at (k := 14) rfl
theorem cwm_287 : (.methodLink RL 56 yL_leg : Cond) ∈ gtb := cwv_at (k := 15) rfl
theorem cwm_288 : (.static yL_leg : Cond) ∈ gtb := cwv_at (k := 16) rfl
theorem cwm_289 : (.methodLink RL 58 yX12_leg : Cond) ∈ gtb := cwv_at (k := 17) rfl
theorem cwm_290 : (.codeWith yL_barge cL_barge 5 (some .int) [(0, 10, 13, 13)] : Cond) ∈ gtb := cwv_at (k := 18) rfl
theorem cwm_291 : (.methodLink RL 59 yL_barge : Cond) ∈ gtb := cwv_at (k := 19) rfl
theorem cwm_292 : (.static yL_barge : Cond) ∈ gtb := cwv_at (k := 20) rfl
theorem cwm_293 : (.methodLink RL 61 yX12_barge : Cond) ∈ gtb := cwv_at (k := 21) rfl
theorem cwm_294 : (.methodLink RL 62 yX11_lay : Cond) ∈ gtb := cwv_at (k := 22) rfl
theorem cwm_295 : (.methodLink RL 65 yX12_lay : Cond) ∈ gtb := cwv_at (k := 23) rfl
theorem cwm_296 : (.methodLink RL 66 yX11_cell : Cond) ∈ gtb := cwv_at (k := 24) rfl
theorem cwm_297 : (.methodLink RL 70 yX12_cell : Cond) ∈ gtb := cwv_at (k := 25) rfl
theorem cwm_298 : (.methodLink RL 71 yX11_knots : Cond) ∈ gtb := cwv_at (k := 26) rfl
theorem cwm_299 : (.methodLink RL 74 yX12_knots : Cond) ∈ gtb := cwv_at (k := 27) rfl
theorem cwm_300 : (.methodLink RL 75 yX11_taking : Cond) ∈ gtb := cwv_at (k := 28) rfl
theorem cwm_301 : (.methodLink RL 78 yX12_taking : Cond) ∈ gtb := cwv_at (k := 29) rfl
theorem cwm_302 : (.methodLink RL 79 yX11_takenBy : Cond) ∈ gtb := cwv_at (k := 30) rfl
theorem cwm_303 : (.methodLink RL 82 yX12_takenBy : Cond) ∈ gtb := cwv_at (k := 31) rfl
theorem cwm_304 : (.methodLink RL 83 yX11_sound : Cond) ∈ gtb := cwv_at (k := 32) rfl
theorem cwm_305 : (.methodLink RL 86 yX12_sound : Cond) ∈ gtb := cwv_at (k := 33) rfl
theorem cwm_306 : (.methodLink RL 87 yX11_fits : Cond) ∈ gtb := cwv_at (k := 34) rfl
theorem cwm_307 : (.methodLink RL 90 yX12_fits : Cond) ∈ gtb := cwv_at (k := 35) rfl
theorem cwm_308 : (.methodLink RL 91 yX11_passes : Cond) ∈ gtb := cwv_at (k := 36) rfl
theorem cwm_309 : (.methodLink RL 94 yX12_passes : Cond) ∈ gtb := cwv_at (k := 37) rfl
theorem cwm_310 : (.methodLink RL 95 yX11_passedBy : Cond) ∈ gtb := cwv_at (k := 38) rfl
theorem cwm_311 : (.methodLink RL 98 yX12_passedBy : Cond) ∈ gtb := cwv_at (k := 39) rfl
theorem cwm_312 : (.methodLink RL 99 yX11_deep : Cond) ∈ gtb := cwv_at (k := 40) rfl
theorem cwm_313 : (.methodLink RL 102 yX12_deep : Cond) ∈ gtb := cwv_at (k := 41) rfl
theorem cwm_314 : (.methodLink RL 103 yX11_water : Cond) ∈ gtb := cwv_at (k := 42) rfl
theorem cwm_315 : (.methodLink RL 106 yX12_water : Cond) ∈ gtb := cwv_at (k := 43) rfl
theorem cwm_316 : (.methodLink RL 107 yX11_plan : Cond) ∈ gtb := cwv_at (k := 44) rfl
theorem cwm_317 : (.methodLink RL 110 yX12_plan : Cond) ∈ gtb := cwv_at (k := 45) rfl
theorem cwm_318 : (.codeWith yL_act cL_act 5 (some .int) [(0, 10, 13, 13)] : Cond) ∈ gtb := cwv_at (k := 46) rfl
theorem cwm_319 : (.methodLink RL 111 yL_act : Cond) ∈ gtb := cwv_at (k := 47) rfl
theorem cwm_320 : (.static yL_act : Cond) ∈ gtb := cwv_at (k := 48) rfl
theorem cwm_321 : (.methodLink RL 113 yX12_act_ : Cond) ∈ gtb := cwv_at (k := 49) rfl
theorem cwm_322 : (.methodLink RL 114 yX11_judge : Cond) ∈ gtb := cwv_at (k := 50) rfl
theorem cwm_323 : (.methodLink RL 117 yX12_judge : Cond) ∈ gtb := cwv_at (k := 51) rfl
theorem cwm_324 : (.methodLink RL 118 yX11_judged : Cond) ∈ gtb := cwv_at (k := 52) rfl
theorem cwm_325 : (.methodLink RL 121 yX12_judged : Cond) ∈ gtb := cwv_at (k := 53) rfl
theorem cwm_326 : (.methodLink RL 122 yX11_judgedAt : Cond) ∈ gtb := cwv_at (k := 54) rfl
theorem cwm_327 : (.methodLink RL 125 yX12_judgedAt : Cond) ∈ gtb := cwv_at (k := 55) rfl
theorem cwm_328 : (.methodLink RL 126 yX11_first : Cond) ∈ gtb := cwv_at (k := 56) rfl
theorem cwm_329 : (.methodLink RL 129 yX12_first : Cond) ∈ gtb := cwv_at (k := 57) rfl
theorem cwm_330 : (.methodLink RL 130 yX11_best : Cond) ∈ gtb := cwv_at (k := 58) rfl
theorem cwm_331 : (.methodLink RL 133 yX12_best : Cond) ∈ gtb := cwv_at (k := 59) rfl
theorem cwm_332 : (.methodLink RL 134 yX11_hired : Cond) ∈ gtb := cwv_at (k := 60) rfl
theorem cwm_333 : (.methodLink RL 137 yX12_hired : Cond) ∈ gtb := cwv_at (k := 61) rfl
theorem cwm_334 : (.methodLink RL 138 yX11_hiredBy : Cond) ∈ gtb := cwv_at (k := 62) rfl
theorem cwm_335 : (.methodLink RL 141 yX12_hiredBy : Cond) ∈ gtb := cwv_at (k := 63) rfl
theorem cwm_336 : (.methodLink RL 142 yX11_vain : Cond) ∈ gtb := cwv_at (k := 64) rfl
theorem cwm_337 : (.methodLink RL 145 yX12_vain : Cond) ∈ gtb := cwv_at (k := 65) rfl
theorem cwm_338 : (.methodLink RL 146 yX11_without : Cond) ∈ gtb := cwv_at (k := 66) rfl
theorem cwm_339 : (.methodLink RL 149 yX12_without : Cond) ∈ gtb := cwv_at (k := 67) rfl
theorem cwm_340 : (.methodLink RL 150 yX11_image : Cond) ∈ gtb := cwv_at (k := 68) rfl
theorem cwm_341 : (.methodLink RL 153 yX12_image : Cond) ∈ gtb := cwv_at (k := 69) rfl
theorem cwm_342 : (.methodLink RL 154 yX11_restore : Cond) ∈ gtb := cwv_at (k := 70) rfl
theorem cwm_343 : (.methodLink RL 157 yX12_restore : Cond) ∈ gtb := cwv_at (k := 71) rfl
theorem cwm_344 : (.methodLink RL 158 yX11_count : Cond) ∈ gtb := cwv_at (k := 72) rfl
theorem cwm_345 : (.methodLink RL 161 yX12_count : Cond) ∈ gtb := cwv_at (k := 73) rfl
/-! THE CLAIM OUT OF ONE WALK OF THE LAW'S BODY. Your part is whole_start (and what it stands on); all else here is the same for every law, but numbers. -/
def R_law : String := "BargeRaftLaw"
def lw_P (b : Addr) (xs : List Int32) (args : Array Value) (s : State) : Prop := args = #[.ref b] ∧ s.IntsAt b xs ∧ xs.length ≤ 6 ∧ (Jvm.Cond.and given_1 narrow_1).before args s = true
def lw_Q (_ : Array Value) (s : State) (o : Outcome) (t : State) : Prop := o = .returned (some (.int 1)) ∧ Framed s o t [] 600002 7302232
def lw_Z (below : List Frame) (a : Array Value) (s : State) : State → Prop := fun t => ∃ o, t.status = .running ∧ Ended t below o ∧ lw_Q a s o t
/-- the law's own end, with 1 on the stack, nothing written that was there before, its room as the claim has it -/
theorem lw_ret {p : Program} {l : Launch} {e : Env} {s : State} {m : MethodId} {below : List Frame} {meth : Method} {c : Code} {b : Nat} (hx : p.tables.exec = Jvm.exec) (hb : c.code = code) (hr : meth.sig.returnType = ret) (hlocks : meth.locks = false) {pc : Nat} {H : Heap} {ls : Array Slot} (hdg : decode code pc = .ok (.ireturn, 1)) : W p l e room_1 s m #[Value.ref b] below meth c H [] 600002 7302232 (lw_Z below #[Value.ref b] s) (F0 m pc ls [.int 1]) := by
  intro T hT X
  obtain ⟨fs, hret, hrun, hended, hW, hframe⟩ := X.leave (v := some (.int 1)) (hlocks := hlocks) (fun h => by rw [hr] at h; cases h)
  have hmeth' : T.vm.method? m = some meth := X.method'
  refine ⟨T.setFrames fs, ?_, .returned (some (.int 1)), hrun, hended, rfl, ⟨_, rfl⟩, hW, hframe⟩
  jvm_step X.here [X.here.top, hx, hb, hdg, hmeth', hr, ret, narrow_b1]
  (try refine ⟨rfl, ?_⟩); (try refine ⟨rfl, ?_⟩)
  first | (intro acts; rw [hret _ acts rfl rfl rfl]) | rw [hret _ _ rfl rfl rfl]
  exact Steps.refl _
/-- what holds at the law's entry: the machine, the code, the tables' words (any of lw_tbl by 'hts w (by decide +kernel)'), the script of L ints xs at the cell b, what the Statement gives of the start (any of its parts by flat_of_before) -/
def lw_At (p : Program) (s : State) (m : MethodId) (meth : Method) (c : Code) (b L : Nat) (xs : Nat → Int32) : Prop :=
  p.tables.exec = Jvm.exec ∧ c.code = code ∧ meth.sig.returnType = ret ∧ c.maxLocals = 7 ∧ s.vm.findClass R_law = some m.cls ∧ (∀ w ∈ lw_tbl, w.before #[Value.ref b] s = true) ∧ va_X b L xs s s.heap ∧ b < s.heap.size ∧ meth.locks = false ∧ (Jvm.Cond.and given_1 narrow_1).before #[Value.ref b] s = true
def eqr (r r2 : List AV) : Prop := ∃ v w : Int, r = [aI v] ∧ r2 = [aI w] ∧ w32 v = w32 w
/-- one call of the class, one of the reference: the same answer, and J holds -/
def Step2 (z z2 : Nat) (as : List AV) (M : Mem) (J : Mem → Prop) : Prop := XC 15 z (aR 21 0 0 :: as) M (fun r M1 => XC 15 z2 (aR 22 0 67 :: as) M1 (fun r2 M2 => eqr r r2 ∧ J M2))
/-- a call that may throw -/
def StepT (z2 : Nat) (good : Prop) (val : Int) (as : List AV) (M : Mem) (J : Mem → Prop) : Prop := XC 15 z2 (aR 22 0 67 :: as) M (fun r M1 => XC 15 128 [aR 22 0 67] M1 (fun r2 M2 => ∃ v : Int, r = [aI v] ∧ ((good ∧ r2 = [aI 0] ∧ w32 v = w32 val) ∨ (¬ good ∧ r2 = [aI 1])) ∧ J M2))
theorem Step2.ex {z z2 : Nat} {as : List AV} {M : Mem} {J : Mem → Prop} (h : Step2 z z2 as M J) : ∃ (v w : Int) (M1 M2 : Mem), w32 v = w32 w ∧ J M2 ∧ (∃ n, exec n 15 z (blk z 0) (ini z (aR 21 0 0 :: as)) [] M = some ([aI v], M1)) ∧ (∃ n, exec n 15 z2 (blk z2 0) (ini z2 (aR 22 0 67 :: as)) [] M1 = some ([aI w], M2)) := by
  obtain ⟨n1, ⟨r1, M1⟩, h1, n2, ⟨r2, M2⟩, h2, ⟨v, w, e1, e2, e3⟩, hJ⟩ := h
  have e1 : r1 = [aI v] := e1
  have e2 : r2 = [aI w] := e2
  subst e1
  subst e2
  exact ⟨v, w, M1, M2, e3, hJ, ⟨n1, h1⟩, ⟨n2, h2⟩⟩
theorem StepT.ex {z2 : Nat} {good : Prop} {val : Int} {as : List AV} {M : Mem} {J : Mem → Prop} (h : StepT z2 good val as M J) : ∃ (v g : Int) (M1 M2 : Mem), ((good ∧ g = 0 ∧ w32 v = w32 val) ∨ (¬ good ∧ g = 1)) ∧ J M2 ∧ (∃ n, exec n 15 z2 (blk z2 0) (ini z2 (aR 22 0 67 :: as)) [] M = some ([aI v], M1)) ∧ (∃ n, exec n 15 128 (blk 128 0) (ini 128 [aR 22 0 67]) [] M1 = some ([aI g], M2)) := by
  obtain ⟨n1, ⟨r1, M1⟩, h1, n2, ⟨r2, M2⟩, h2, v, e1, e3, hJ⟩ := h
  have e1 : r1 = [aI v] := e1
  subst e1
  rcases e3 with ⟨hg, e2, e4⟩ | ⟨hg, e2⟩
  · have e2 : r2 = [aI 0] := e2
    subst e2
    exact ⟨v, 0, M1, M2, Or.inl ⟨hg, rfl, e4⟩, hJ, ⟨n1, h1⟩, ⟨n2, h2⟩⟩
  · have e2 : r2 = [aI 1] := e2
    subst e2
    exact ⟨v, 1, M1, M2, Or.inr ⟨hg, rfl⟩, hJ, ⟨n1, h1⟩, ⟨n2, h2⟩⟩
/-- the script's ints -/
def arx (xs : Nat → Int32) (k j : Nat) : Int := (xs (6 * k + j)).toInt
theorem lg_cmp_self (x : Int64) : lg_cmp x x = 0 := by
  unfold lg_cmp
  rw [if_neg (show ¬ x > x from Int64.lt_irrefl), if_pos rfl]
theorem arx_I {xs : Nat → Int32} {k j : Nat} : I32 (arx xs k j) := by
  have h1 := Int32.le_toInt (xs (6 * k + j))
  have h2 := Int32.toInt_lt (xs (6 * k + j))
  exact ⟨by unfold arx; omega, by unfold arx; omega⟩
theorem arx_o {xs : Nat → Int32} {k j : Nat} : Int32.ofInt (arx xs k j) = xs (6 * k + j) := by unfold arx; exact Int32.ofInt_toInt _
def LwC (l : Launch) (p : Program) (s : State) (m : MethodId) (c : Code) (b L : Nat) (xs : Nat → Int32) (D : va_G) (T : Nat → ClassId) (ad : Nat → Nat) (o t1 t2 t3 t4 : Nat) : Prop :=
  p.tables.exec = Jvm.exec ∧ c.code = cL_law ∧ c.maxLocals = 7 ∧ s.vm.findClass RL = some m.cls ∧ (∀ w ∈ gtb, w.before #[Value.ref b] s = true) ∧ va_K D classes (tysL T) s ∧ va_X b L xs s s.heap ∧ b < s.heap.size ∧ adD (fun q : Nat => s.heap.size ≤ q ∧ q ≠ o) ad SALL ∧ s.heap.size ≤ o ∧ exS t1 t2 t3 t4 (fun q : Nat => s.heap.size ≤ q) s s.heap ∧ L ≤ 3072 ∧ l.stackTraces = false
def LwS (s : State) (b : Nat) (D : va_G) (T : Nat → ClassId) (ad : Nat → Nat) (o k : Nat) (M : Mem) (H : Heap) (locs : List Loc) (ls : Array Slot) : Prop :=
  lv_has ls 7 [(4, .int (Int32.ofInt (6 * (k : Int)))), (3, .ref o), (2, .ref (ad 67)), (1, .ref (ad 0)), (0, .ref b)] ∧ va_P D classes (wld T ad M SALL) H ∧ (∃ f, va_P D classes (outW T o f) H) ∧ va_S (fun q : Nat => s.heap.size ≤ q) s.heap H locs
theorem good_S {own : String} {idx : Nat} {y : MethodName} {w : Cond} (h1 : Cond.methodLink own idx y ∈ gtb) (h2 : Cond.static y ∈ gtb) (h3 : Cond.initialized y.cls ∈ gtb) (h4 : w ∈ gtb) : GoodIn gtb (va_wsS own idx y (w :: gtb)) := by
  intro x hx
  have hg : x ∈ gtb := by
    unfold va_wsS at hx
    simp only [List.cons_append, List.nil_append, List.mem_cons] at hx
    rcases hx with rfl | rfl | rfl | rfl | h9
    · exact h1
    · exact h2
    · exact h3
    · exact h4
    · exact h9
  exact ⟨hg, gtb_good hg⟩
theorem law_blind {D : va_G} {T : Nat → ClassId} {ad : Nat → Nat} {M : Mem} {t1 t2 t3 t4 o : Nat} {A : Nat → Prop} {as : List Value} : FrameBlind (va_Pc as (fun U => lawPre D T ad M t1 t2 t3 t4 A U ∧ ∃ f, va_P D classes (outW T o f) U.heap)) :=
  fun a U g mk h => ⟨h.1, ⟨h.2.1.1, va_K.moved (u := U) (U := U.calling g mk a) (Vm.Alike.refl U.vm) h.2.1.2.1, exS.same (s := U) (U := U.calling g mk a) rfl (Vm.Alike.refl U.vm) h.2.1.2.2⟩, h.2.2⟩
section LA
variable {p : Program} {l : Launch} {e : Env} {s : State} {m : MethodId} {below : List Frame} {meth : Method} {c : Code} {b L : Nat} {xs : Nat → Int32} {D : va_G} {T : Nat → ClassId} {ad : Nat → Nat} {o t1 t2 t3 t4 k : Nat} {M : Mem} {H : Heap} {locs : List Loc} {ls : Array Slot} {cells slots pc : Nat} {Q : State → Prop} {J : Mem → Prop} {st : List Value}
theorem law_arg {j : Nat} (hj : j ≤ 5) (C : LwC l p s m c b L xs D T ad o t1 t2 t3 t4) (hk : 6 * k + 6 ≤ L) (hS : va_S (fun q : Nat => s.heap.size ≤ q) s.heap H locs) (h0 : ls[0]? = some (.val (.ref b))) (h4 : ls[4]? = some (.val (.int (Int32.ofInt (6 * (k : Int)))))) (d0 : decode cL_law pc = .ok (.aload_n 0, 1)) (d1 : decode cL_law (pc + 1) = .ok (.iload 4, 2)) (d2 : decode cL_law (pc + 3) = .ok (.iconst (j : Int), 1)) (d3 : decode cL_law (pc + 4) = .ok (.iadd, 1)) (d4 : decode cL_law (pc + 5) = .ok (.iaload, 1))
    (kk : W p l e room_1 s m #[Value.ref b] below meth c H locs cells slots Q (F0 m (pc + 6) ls (.int (Int32.ofInt (arx xs k j)) :: st))) : W p l e room_1 s m #[Value.ref b] below meth c H locs cells slots Q (F0 m pc ls st) := by
  obtain ⟨hx, hb, hml, hown, hts, hK, hX, hbl, hAd, hAo, hE, hL, hst⟩ := C
  have hin : (6 * (k : Int) + (j : Int)) = ((6 * k + j : Nat) : Int) := by omega
  refine lv_aload_n hx hb d0 rfl h0 ?_
  refine lv_iload hx hb d1 h4 ?_
  refine lv_iconst (v := Int32.ofInt (j : Int)) hx hb d2 rfl ?_
  refine lv_iadd hx hb d3 ?_
  rw [← Int32.ofInt_add, hin]
  refine va_sld hx hb hX hbl (Nat.not_le.mpr hbl) hS (vin (by omega) (by omega) (by omega)) d4 ?_
  rw [tnc (by omega) (by omega), Int.toNat_natCast, ← arx_o (xs := xs) (k := k) (j := j)]
  exact kk
set_option maxHeartbeats 4000000 in
set_option maxRecDepth 100000 in
theorem lc_0 (C : LwC l p s m c b L xs D T ad o t1 t2 t3 t4) (hk : 6 * k + 6 ≤ L) (hst2 : Step2 96 130 [aI (arx xs k 1), aI (arx xs k 2), aI (arx xs k 3), aI (arx xs k 4), aI (arx xs k 5)] M J) (hR0 : cells + 1 ≤ room_1.cells ∧ slots + 6 ≤ room_1.slots) (S : LwS s b D T ad o k M H locs ls) (nxt : ∀ (M : Mem) (H : Heap) (locs : List Loc) (ls : Array Slot), J M → LwS s b D T ad o k M H locs ls → W p l e room_1 s m #[Value.ref b] below meth c H locs (cells + 1) (slots + 6) Q (F0 m 1144 ls [])) : W p l e room_1 s m #[Value.ref b] below meth c H locs cells slots Q (F0 m 184 ls []) := by
  obtain ⟨hx, hb, hml, hown, hts, hK, hX, hbl, hAd, hAo, hE, hL, hst⟩ := id C
  obtain ⟨hl, hP, ⟨f, hO⟩, hS⟩ := S
  obtain ⟨v, w, M1, M2, hvw, hJ, hx1, hx2⟩ := hst2.ex
  refine W.widen (k := cells + 1) (n := slots + 6) (Nat.le_succ _) (Nat.le_add_right _ _) ?_
  have hR := hR0
  refine lv_aload_n hx hb dL_law_184 rfl (lv_at hl 3 rfl) ?_
  refine law_arg (j := 1) (by decide) C hk hS (lv_at hl 4 rfl) (lv_at hl 0 rfl) dL_law_185 dL_law_186 dL_law_188 dL_law_189 dL_law_190 ?_
  refine law_arg (j := 2) (by decide) C hk hS (lv_at hl 4 rfl) (lv_at hl 0 rfl) dL_law_191 dL_law_192 dL_law_194 dL_law_195 dL_law_196 ?_
  refine law_arg (j := 3) (by decide) C hk hS (lv_at hl 4 rfl) (lv_at hl 0 rfl) dL_law_197 dL_law_198 dL_law_200 dL_law_201 dL_law_202 ?_
  refine law_arg (j := 4) (by decide) C hk hS (lv_at hl 4 rfl) (lv_at hl 0 rfl) dL_law_203 dL_law_204 dL_law_206 dL_law_207 dL_law_208 ?_
  refine law_arg (j := 5) (by decide) C hk hS (lv_at hl 4 rfl) (lv_at hl 0 rfl) dL_law_209 dL_law_210 dL_law_212 dL_law_213 dL_law_214 ?_
  refine ct_callV (A := (fun q : Nat => s.heap.size ≤ q)) (A1 := (fun q : Nat => s.heap.size ≤ q ∧ q ≠ o)) (ad := ad) (S := SALL) (M := M) (M' := M1) (r := [aI v]) (d := 15) (z := 96) (n := 0) (a := 0) (as' := [aI (arx xs k 1), aI (arx xs k 2), aI (arx xs k 3), aI (arx xs k 4), aI (arx xs k 5)]) ⟨hx, hb, hown, hts, hK, hl.1.trans hml.symm⟩ hAd SALL_clo hP (by decide) (by decide +kernel) (by decide +kernel) (show npar 96 = some 5 from by decide +kernel) (Or.inl ⟨rfl, (show ∀ g ∈ mdG 96, 6 ≤ g from by decide +kernel), (show 6 ≤ mdL 96 from by decide +kernel)⟩) (srs_r (show 0 ∈ SALL from by decide +kernel) rfl (SRs.i (SRs.i (SRs.i (SRs.i (SRs.i srs_n)))))) cwm_272 ⟨Nat.le_of_ble_eq_true rfl, Nat.le_of_ble_eq_true rfl⟩ ⟨hR.1, hR.2⟩ hx1 dL_law_215 (Nat.le_of_ble_eq_true rfl) (rest := []) rfl hS (fun q9 h9 => h9.1) (fun H1 locs1 hP1 hz hk1 hS1 => ?_)
  have hO := outW_kept hO (hk1 o (outW_lt hO) (fun h9 => h9.2 rfl))
  have hP := hP1
  have hS := hS1
  clear hP1 hS1 hk1 hz
  generalize H1 = H at hP hO hS ⊢
  generalize locs1 = locs at hS ⊢
  refine W.eq (g2 := F0 m 218 ls [.int (Int32.ofInt v)]) rfl ?_
  refine lv_aload_n hx hb dL_law_218 rfl (lv_at hl 2 rfl) ?_
  refine law_arg (j := 1) (by decide) C hk hS (lv_at hl 4 rfl) (lv_at hl 0 rfl) dL_law_219 dL_law_220 dL_law_222 dL_law_223 dL_law_224 ?_
  refine law_arg (j := 2) (by decide) C hk hS (lv_at hl 4 rfl) (lv_at hl 0 rfl) dL_law_225 dL_law_226 dL_law_228 dL_law_229 dL_law_230 ?_
  refine law_arg (j := 3) (by decide) C hk hS (lv_at hl 4 rfl) (lv_at hl 0 rfl) dL_law_231 dL_law_232 dL_law_234 dL_law_235 dL_law_236 ?_
  refine law_arg (j := 4) (by decide) C hk hS (lv_at hl 4 rfl) (lv_at hl 0 rfl) dL_law_237 dL_law_238 dL_law_240 dL_law_241 dL_law_242 ?_
  refine law_arg (j := 5) (by decide) C hk hS (lv_at hl 4 rfl) (lv_at hl 0 rfl) dL_law_243 dL_law_244 dL_law_246 dL_law_247 dL_law_248 ?_
  refine ct_callV (A := (fun q : Nat => s.heap.size ≤ q)) (A1 := (fun q : Nat => s.heap.size ≤ q ∧ q ≠ o)) (ad := ad) (S := SALL) (M := M1) (M' := M2) (r := [aI w]) (d := 15) (z := 130) (n := 0) (a := 67) (as' := [aI (arx xs k 1), aI (arx xs k 2), aI (arx xs k 3), aI (arx xs k 4), aI (arx xs k 5)]) ⟨hx, hb, hown, hts, hK, hl.1.trans hml.symm⟩ hAd SALL_clo hP (by decide) (by decide +kernel) (by decide +kernel) (show npar 130 = some 5 from by decide +kernel) (Or.inl ⟨rfl, (show ∀ g ∈ mdG 130, 6 ≤ g from by decide +kernel), (show 6 ≤ mdL 130 from by decide +kernel)⟩) (srs_r (show 67 ∈ SALL from by decide +kernel) rfl (SRs.i (SRs.i (SRs.i (SRs.i (SRs.i srs_n)))))) cwm_273 ⟨Nat.le_of_ble_eq_true rfl, Nat.le_of_ble_eq_true rfl⟩ ⟨hR.1, hR.2⟩ hx2 dL_law_249 (Nat.le_of_ble_eq_true rfl) (rest := [.int (Int32.ofInt v)]) rfl hS (fun q9 h9 => h9.1) (fun H1 locs1 hP1 hz hk1 hS1 => ?_)
  have hO := outW_kept hO (hk1 o (outW_lt hO) (fun h9 => h9.2 rfl))
  have hP := hP1
  have hS := hS1
  clear hP1 hS1 hk1 hz
  generalize H1 = H at hP hO hS ⊢
  generalize locs1 = locs at hS ⊢
  refine W.eq (g2 := F0 m 252 ls [.int (Int32.ofInt w), .int (Int32.ofInt v)]) rfl ?_
  refine lv_icmp_eq hx hb dL_law_252 (tgt := 1144) (by decide) (fun _ => nxt M2 H locs ls hJ ⟨hl, hP, ⟨f, hO⟩, hS⟩) (fun h9 => absurd (eq32.mpr hvw) h9)
set_option maxHeartbeats 4000000 in
set_option maxRecDepth 100000 in
theorem lc_1 (C : LwC l p s m c b L xs D T ad o t1 t2 t3 t4) (hk : 6 * k + 6 ≤ L) (hst2 : Step2 97 132 [aI (arx xs k 1)] M J) (hR0 : cells + 1 ≤ room_1.cells ∧ slots + 6 ≤ room_1.slots) (S : LwS s b D T ad o k M H locs ls) (nxt : ∀ (M : Mem) (H : Heap) (locs : List Loc) (ls : Array Slot), J M → LwS s b D T ad o k M H locs ls → W p l e room_1 s m #[Value.ref b] below meth c H locs (cells + 1) (slots + 6) Q (F0 m 1144 ls [])) : W p l e room_1 s m #[Value.ref b] below meth c H locs cells slots Q (F0 m 257 ls []) := by
  obtain ⟨hx, hb, hml, hown, hts, hK, hX, hbl, hAd, hAo, hE, hL, hst⟩ := id C
  obtain ⟨hl, hP, ⟨f, hO⟩, hS⟩ := S
  obtain ⟨v, w, M1, M2, hvw, hJ, hx1, hx2⟩ := hst2.ex
  refine W.widen (k := cells + 1) (n := slots + 6) (Nat.le_succ _) (Nat.le_add_right _ _) ?_
  have hR := hR0
  refine lv_aload_n hx hb dL_law_257 rfl (lv_at hl 3 rfl) ?_
  refine law_arg (j := 1) (by decide) C hk hS (lv_at hl 4 rfl) (lv_at hl 0 rfl) dL_law_258 dL_law_259 dL_law_261 dL_law_262 dL_law_263 ?_
  refine ct_callV (A := (fun q : Nat => s.heap.size ≤ q)) (A1 := (fun q : Nat => s.heap.size ≤ q ∧ q ≠ o)) (ad := ad) (S := SALL) (M := M) (M' := M1) (r := [aI v]) (d := 15) (z := 97) (n := 0) (a := 0) (as' := [aI (arx xs k 1)]) ⟨hx, hb, hown, hts, hK, hl.1.trans hml.symm⟩ hAd SALL_clo hP (by decide) (by decide +kernel) (by decide +kernel) (show npar 97 = some 1 from by decide +kernel) (Or.inl ⟨rfl, (show ∀ g ∈ mdG 97, 2 ≤ g from by decide +kernel), (show 2 ≤ mdL 97 from by decide +kernel)⟩) (srs_r (show 0 ∈ SALL from by decide +kernel) rfl (SRs.i srs_n)) cwm_274 ⟨Nat.le_of_ble_eq_true rfl, Nat.le_of_ble_eq_true rfl⟩ ⟨hR.1, hR.2⟩ hx1 dL_law_264 (Nat.le_of_ble_eq_true rfl) (rest := []) rfl hS (fun q9 h9 => h9.1) (fun H1 locs1 hP1 hz hk1 hS1 => ?_)
  have hO := outW_kept hO (hk1 o (outW_lt hO) (fun h9 => h9.2 rfl))
  have hP := hP1
  have hS := hS1
  clear hP1 hS1 hk1 hz
  generalize H1 = H at hP hO hS ⊢
  generalize locs1 = locs at hS ⊢
  refine W.eq (g2 := F0 m 267 ls [.int (Int32.ofInt v)]) rfl ?_
  refine lv_aload_n hx hb dL_law_267 rfl (lv_at hl 2 rfl) ?_
  refine law_arg (j := 1) (by decide) C hk hS (lv_at hl 4 rfl) (lv_at hl 0 rfl) dL_law_268 dL_law_269 dL_law_271 dL_law_272 dL_law_273 ?_
  refine ct_callV (A := (fun q : Nat => s.heap.size ≤ q)) (A1 := (fun q : Nat => s.heap.size ≤ q ∧ q ≠ o)) (ad := ad) (S := SALL) (M := M1) (M' := M2) (r := [aI w]) (d := 15) (z := 132) (n := 0) (a := 67) (as' := [aI (arx xs k 1)]) ⟨hx, hb, hown, hts, hK, hl.1.trans hml.symm⟩ hAd SALL_clo hP (by decide) (by decide +kernel) (by decide +kernel) (show npar 132 = some 1 from by decide +kernel) (Or.inl ⟨rfl, (show ∀ g ∈ mdG 132, 2 ≤ g from by decide +kernel), (show 2 ≤ mdL 132 from by decide +kernel)⟩) (srs_r (show 67 ∈ SALL from by decide +kernel) rfl (SRs.i srs_n)) cwm_275 ⟨Nat.le_of_ble_eq_true rfl, Nat.le_of_ble_eq_true rfl⟩ ⟨hR.1, hR.2⟩ hx2 dL_law_274 (Nat.le_of_ble_eq_true rfl) (rest := [.int (Int32.ofInt v)]) rfl hS (fun q9 h9 => h9.1) (fun H1 locs1 hP1 hz hk1 hS1 => ?_)
  have hO := outW_kept hO (hk1 o (outW_lt hO) (fun h9 => h9.2 rfl))
  have hP := hP1
  have hS := hS1
  clear hP1 hS1 hk1 hz
  generalize H1 = H at hP hO hS ⊢
  generalize locs1 = locs at hS ⊢
  refine W.eq (g2 := F0 m 277 ls [.int (Int32.ofInt w), .int (Int32.ofInt v)]) rfl ?_
  refine lv_icmp_eq hx hb dL_law_277 (tgt := 1144) (by decide) (fun _ => nxt M2 H locs ls hJ ⟨hl, hP, ⟨f, hO⟩, hS⟩) (fun h9 => absurd (eq32.mpr hvw) h9)
set_option maxHeartbeats 4000000 in
set_option maxRecDepth 100000 in
theorem lc_2 (C : LwC l p s m c b L xs D T ad o t1 t2 t3 t4) (hk : 6 * k + 6 ≤ L) (hst2 : Step2 98 155 [] M J) (hR0 : cells + 1 ≤ room_1.cells ∧ slots + 6 ≤ room_1.slots) (S : LwS s b D T ad o k M H locs ls) (nxt : ∀ (M : Mem) (H : Heap) (locs : List Loc) (ls : Array Slot), J M → LwS s b D T ad o k M H locs ls → W p l e room_1 s m #[Value.ref b] below meth c H locs (cells + 1) (slots + 6) Q (F0 m 1144 ls [])) : W p l e room_1 s m #[Value.ref b] below meth c H locs cells slots Q (F0 m 282 ls []) := by
  obtain ⟨hx, hb, hml, hown, hts, hK, hX, hbl, hAd, hAo, hE, hL, hst⟩ := id C
  obtain ⟨hl, hP, ⟨f, hO⟩, hS⟩ := S
  obtain ⟨v, w, M1, M2, hvw, hJ, hx1, hx2⟩ := hst2.ex
  refine W.widen (k := cells + 1) (n := slots + 6) (Nat.le_succ _) (Nat.le_add_right _ _) ?_
  have hR := hR0
  refine lv_aload_n hx hb dL_law_282 rfl (lv_at hl 3 rfl) ?_
  refine ct_callV (A := (fun q : Nat => s.heap.size ≤ q)) (A1 := (fun q : Nat => s.heap.size ≤ q ∧ q ≠ o)) (ad := ad) (S := SALL) (M := M) (M' := M1) (r := [aI v]) (d := 15) (z := 98) (n := 0) (a := 0) (as' := []) ⟨hx, hb, hown, hts, hK, hl.1.trans hml.symm⟩ hAd SALL_clo hP (by decide) (by decide +kernel) (by decide +kernel) (show npar 98 = some 0 from by decide +kernel) (Or.inl ⟨rfl, (show ∀ g ∈ mdG 98, 1 ≤ g from by decide +kernel), (show 1 ≤ mdL 98 from by decide +kernel)⟩) (srs_r (show 0 ∈ SALL from by decide +kernel) rfl srs_n) cwm_276 ⟨Nat.le_of_ble_eq_true rfl, Nat.le_of_ble_eq_true rfl⟩ ⟨hR.1, hR.2⟩ hx1 dL_law_283 (Nat.le_of_ble_eq_true rfl) (rest := []) rfl hS (fun q9 h9 => h9.1) (fun H1 locs1 hP1 hz hk1 hS1 => ?_)
  have hO := outW_kept hO (hk1 o (outW_lt hO) (fun h9 => h9.2 rfl))
  have hP := hP1
  have hS := hS1
  clear hP1 hS1 hk1 hz
  generalize H1 = H at hP hO hS ⊢
  generalize locs1 = locs at hS ⊢
  refine W.eq (g2 := F0 m 286 ls [.int (Int32.ofInt v)]) rfl ?_
  refine lv_aload_n hx hb dL_law_286 rfl (lv_at hl 2 rfl) ?_
  refine ct_callV (A := (fun q : Nat => s.heap.size ≤ q)) (A1 := (fun q : Nat => s.heap.size ≤ q ∧ q ≠ o)) (ad := ad) (S := SALL) (M := M1) (M' := M2) (r := [aI w]) (d := 15) (z := 155) (n := 0) (a := 67) (as' := []) ⟨hx, hb, hown, hts, hK, hl.1.trans hml.symm⟩ hAd SALL_clo hP (by decide) (by decide +kernel) (by decide +kernel) (show npar 155 = some 0 from by decide +kernel) (Or.inl ⟨rfl, (show ∀ g ∈ mdG 155, 1 ≤ g from by decide +kernel), (show 1 ≤ mdL 155 from by decide +kernel)⟩) (srs_r (show 67 ∈ SALL from by decide +kernel) rfl srs_n) cwm_277 ⟨Nat.le_of_ble_eq_true rfl, Nat.le_of_ble_eq_true rfl⟩ ⟨hR.1, hR.2⟩ hx2 dL_law_287 (Nat.le_of_ble_eq_true rfl) (rest := [.int (Int32.ofInt v)]) rfl hS (fun q9 h9 => h9.1) (fun H1 locs1 hP1 hz hk1 hS1 => ?_)
  have hO := outW_kept hO (hk1 o (outW_lt hO) (fun h9 => h9.2 rfl))
  have hP := hP1
  have hS := hS1
  clear hP1 hS1 hk1 hz
  generalize H1 = H at hP hO hS ⊢
  generalize locs1 = locs at hS ⊢
  refine W.eq (g2 := F0 m 290 ls [.int (Int32.ofInt w), .int (Int32.ofInt v)]) rfl ?_
  refine lv_icmp_eq hx hb dL_law_290 (tgt := 1144) (by decide) (fun _ => nxt M2 H locs ls hJ ⟨hl, hP, ⟨f, hO⟩, hS⟩) (fun h9 => absurd (eq32.mpr hvw) h9)
set_option maxHeartbeats 4000000 in
set_option maxRecDepth 100000 in
theorem lc_3 (C : LwC l p s m c b L xs D T ad o t1 t2 t3 t4) (hk : 6 * k + 6 ≤ L) (hst2 : Step2 99 156 [] M J) (hR0 : cells + 1 ≤ room_1.cells ∧ slots + 6 ≤ room_1.slots) (S : LwS s b D T ad o k M H locs ls) (nxt : ∀ (M : Mem) (H : Heap) (locs : List Loc) (ls : Array Slot), J M → LwS s b D T ad o k M H locs ls → W p l e room_1 s m #[Value.ref b] below meth c H locs (cells + 1) (slots + 6) Q (F0 m 1144 ls [])) : W p l e room_1 s m #[Value.ref b] below meth c H locs cells slots Q (F0 m 295 ls []) := by
  obtain ⟨hx, hb, hml, hown, hts, hK, hX, hbl, hAd, hAo, hE, hL, hst⟩ := id C
  obtain ⟨hl, hP, ⟨f, hO⟩, hS⟩ := S
  obtain ⟨v, w, M1, M2, hvw, hJ, hx1, hx2⟩ := hst2.ex
  refine W.widen (k := cells + 1) (n := slots + 6) (Nat.le_succ _) (Nat.le_add_right _ _) ?_
  have hR := hR0
  refine lv_aload_n hx hb dL_law_295 rfl (lv_at hl 3 rfl) ?_
  refine ct_callV (A := (fun q : Nat => s.heap.size ≤ q)) (A1 := (fun q : Nat => s.heap.size ≤ q ∧ q ≠ o)) (ad := ad) (S := SALL) (M := M) (M' := M1) (r := [aI v]) (d := 15) (z := 99) (n := 0) (a := 0) (as' := []) ⟨hx, hb, hown, hts, hK, hl.1.trans hml.symm⟩ hAd SALL_clo hP (by decide) (by decide +kernel) (by decide +kernel) (show npar 99 = some 0 from by decide +kernel) (Or.inl ⟨rfl, (show ∀ g ∈ mdG 99, 1 ≤ g from by decide +kernel), (show 1 ≤ mdL 99 from by decide +kernel)⟩) (srs_r (show 0 ∈ SALL from by decide +kernel) rfl srs_n) cwm_278 ⟨Nat.le_of_ble_eq_true rfl, Nat.le_of_ble_eq_true rfl⟩ ⟨hR.1, hR.2⟩ hx1 dL_law_296 (Nat.le_of_ble_eq_true rfl) (rest := []) rfl hS (fun q9 h9 => h9.1) (fun H1 locs1 hP1 hz hk1 hS1 => ?_)
  have hO := outW_kept hO (hk1 o (outW_lt hO) (fun h9 => h9.2 rfl))
  have hP := hP1
  have hS := hS1
  clear hP1 hS1 hk1 hz
  generalize H1 = H at hP hO hS ⊢
  generalize locs1 = locs at hS ⊢
  refine W.eq (g2 := F0 m 299 ls [.int (Int32.ofInt v)]) rfl ?_
  refine lv_aload_n hx hb dL_law_299 rfl (lv_at hl 2 rfl) ?_
  refine ct_callV (A := (fun q : Nat => s.heap.size ≤ q)) (A1 := (fun q : Nat => s.heap.size ≤ q ∧ q ≠ o)) (ad := ad) (S := SALL) (M := M1) (M' := M2) (r := [aI w]) (d := 15) (z := 156) (n := 0) (a := 67) (as' := []) ⟨hx, hb, hown, hts, hK, hl.1.trans hml.symm⟩ hAd SALL_clo hP (by decide) (by decide +kernel) (by decide +kernel) (show npar 156 = some 0 from by decide +kernel) (Or.inl ⟨rfl, (show ∀ g ∈ mdG 156, 1 ≤ g from by decide +kernel), (show 1 ≤ mdL 156 from by decide +kernel)⟩) (srs_r (show 67 ∈ SALL from by decide +kernel) rfl srs_n) cwm_279 ⟨Nat.le_of_ble_eq_true rfl, Nat.le_of_ble_eq_true rfl⟩ ⟨hR.1, hR.2⟩ hx2 dL_law_300 (Nat.le_of_ble_eq_true rfl) (rest := [.int (Int32.ofInt v)]) rfl hS (fun q9 h9 => h9.1) (fun H1 locs1 hP1 hz hk1 hS1 => ?_)
  have hO := outW_kept hO (hk1 o (outW_lt hO) (fun h9 => h9.2 rfl))
  have hP := hP1
  have hS := hS1
  clear hP1 hS1 hk1 hz
  generalize H1 = H at hP hO hS ⊢
  generalize locs1 = locs at hS ⊢
  refine W.eq (g2 := F0 m 303 ls [.int (Int32.ofInt w), .int (Int32.ofInt v)]) rfl ?_
  refine lv_icmp_eq hx hb dL_law_303 (tgt := 1144) (by decide) (fun _ => nxt M2 H locs ls hJ ⟨hl, hP, ⟨f, hO⟩, hS⟩) (fun h9 => absurd (eq32.mpr hvw) h9)
set_option maxHeartbeats 4000000 in
set_option maxRecDepth 100000 in
theorem lc_4 (C : LwC l p s m c b L xs D T ad o t1 t2 t3 t4) (hk : 6 * k + 6 ≤ L) (h : RI M) (hst2 : StepT 164 ((0 ≤ (arx xs k 1) ∧ (arx xs k 1) < M 5 0) ∧ 0 ≤ (arx xs k 2) ∧ (arx xs k 2) < 3) (M 6 ((arx xs k 1) * 3 + (arx xs k 2))) [aI (arx xs k 1), aI (arx xs k 2)] M J) (hR0 : cells + 1 ≤ room_1.cells ∧ slots + 6 ≤ room_1.slots) (S : LwS s b D T ad o k M H locs ls) (nxt : ∀ (M : Mem) (H : Heap) (locs : List Loc) (ls : Array Slot), J M → LwS s b D T ad o k M H locs ls → W p l e room_1 s m #[Value.ref b] below meth c H locs (cells + 1) (slots + 6) Q (F0 m 1144 ls [])) : W p l e room_1 s m #[Value.ref b] below meth c H locs cells slots Q (F0 m 308 ls []) := by
  obtain ⟨hx, hb, hml, hown, hts, hK, hX, hbl, hAd, hAo, hE, hL, hst⟩ := id C
  obtain ⟨hl, hP, ⟨f, hO⟩, hS⟩ := S
  have hst9 : l.stackTraces = false := hst
  obtain ⟨v, g, M1, M2, hvg, hJ, hx1, hx2⟩ := hst2.ex
  refine lv_aload_n hx hb dL_law_308 rfl (lv_at hl 3 rfl) ?_
  refine law_arg (j := 1) (by decide) C hk hS (lv_at hl 4 rfl) (lv_at hl 0 rfl) dL_law_309 dL_law_310 dL_law_312 dL_law_313 dL_law_314 ?_
  refine law_arg (j := 2) (by decide) C hk hS (lv_at hl 4 rfl) (lv_at hl 0 rfl) dL_law_315 dL_law_316 dL_law_318 dL_law_319 dL_law_320 ?_
  refine lv_aload_n hx hb dL_law_321 rfl (lv_at hl 1 rfl) ?_
  refine vx_calli (A0 := (fun q : Nat => s.heap.size ≤ q)) (vx_runSX (R := room_1) (As := [.ref (ad 0), .int (Int32.ofInt (arx xs k 1)), .int (Int32.ofInt (arx xs k 2)), .ref o]) (rest := []) ⟨hx, hb, hml, hown, hts⟩ (c_L_quay l hst9 D T ad M t1 t2 t3 t4 (fun q : Nat => s.heap.size ≤ q) o hAd hAo (arx xs k 1) (arx xs k 2) arx_I arx_I h) (vx_cwSW 4 hts (good_S cwm_281 cwm_282 cwm_283 cwm_280) rfl rfl rfl (by decide +kernel) ⟨Nat.le_of_ble_eq_true rfl, Nat.le_of_ble_eq_true rfl⟩) ⟨law_blind, fun U hU hW => ⟨rfl, ⟨by rw [hU]; exact hP, va_K.moved hW.alike hK, by rw [hU]; exact (hE.kept hS.2.1).warm hW⟩, f, by rw [hU]; exact hO⟩⟩ rfl rfl hl.1 rfl (Nat.le_of_ble_eq_true rfl) dL_law_322 hR0) hS (fun q9 _ h9 => h9) (fun q9 h9 => h9) (fun q9 _ h9 => h9) (fun E ce q9 u t H1 locs1 ht hvm hp hB hz hk1 hS1 hcell hcv hcl => hp.elim) (fun r u t H1 locs1 ht hvm hp hB hz hk1 hS1 => ?_)
  obtain ⟨rfl, hu⟩ := hp
  obtain ⟨hP1, hO1⟩ := hB
  rw [ht] at hP1 hO1
  have hP := hP1
  have hO := hO1
  have hS := hS1
  clear hP1 hO1 hS1 hk1 hz ht
  generalize H1 = H at hP hO hS ⊢
  generalize locs1 = locs at hS ⊢
  have hR := hR0
  refine W.eq (g2 := F0 m 325 ls [.int (Int32.ofInt (bi (¬ ((0 ≤ (arx xs k 1) ∧ (arx xs k 1) < M 5 0) ∧ 0 ≤ (arx xs k 2) ∧ (arx xs k 2) < 3))))]) rfl ?_
  refine lv_istore (lv' := (5, .int (Int32.ofInt (bi (¬ ((0 ≤ (arx xs k 1) ∧ (arx xs k 1) < M 5 0) ∧ 0 ≤ (arx xs k 2) ∧ (arx xs k 2) < 3))))) :: [(4, .int (Int32.ofInt (6 * (k : Int)))), (3, .ref o), (2, .ref (ad 67)), (1, .ref (ad 0)), (0, .ref b)]) hx hb dL_law_325 hl (by decide) rfl (fun ls hl => ?_)
  refine lv_aload_n hx hb dL_law_327 rfl (lv_at hl 3 rfl) ?_
  refine law_arg (j := 1) (by decide) C hk hS (lv_at hl 5 rfl) (lv_at hl 1 rfl) dL_law_328 dL_law_329 dL_law_331 dL_law_332 dL_law_333 ?_
  refine law_arg (j := 2) (by decide) C hk hS (lv_at hl 5 rfl) (lv_at hl 1 rfl) dL_law_334 dL_law_335 dL_law_337 dL_law_338 dL_law_339 ?_
  refine ct_callV (A := (fun q : Nat => s.heap.size ≤ q)) (A1 := (fun q : Nat => s.heap.size ≤ q ∧ q ≠ o)) (ad := ad) (S := SALL) (M := M) (M' := M1) (r := [aI v]) (d := 15) (z := 164) (n := 0) (a := 67) (as' := [aI (arx xs k 1), aI (arx xs k 2)]) ⟨hx, hb, hown, hts, hK, hl.1.trans hml.symm⟩ hAd SALL_clo hP (by decide) (by decide +kernel) (by decide +kernel) (show npar 164 = some 2 from by decide +kernel) (Or.inl ⟨rfl, (show ∀ g ∈ mdG 164, 3 ≤ g from by decide +kernel), (show 3 ≤ mdL 164 from by decide +kernel)⟩) (srs_r (show 67 ∈ SALL from by decide +kernel) rfl (SRs.i (SRs.i srs_n))) cwm_284 ⟨Nat.le_of_ble_eq_true rfl, Nat.le_of_ble_eq_true rfl⟩ ⟨hR.1, hR.2⟩ hx1 dL_law_340 (Nat.le_of_ble_eq_true rfl) (rest := []) rfl hS (fun q9 h9 => h9.1) (fun H1 locs1 hP1 hz hk1 hS1 => ?_)
  have hO := outW_kept hO (hk1 o (outW_lt hO) (fun h9 => h9.2 rfl))
  have hP := hP1
  have hS := hS1
  clear hP1 hS1 hk1 hz
  generalize H1 = H at hP hO hS ⊢
  generalize locs1 = locs at hS ⊢
  refine W.eq (g2 := F0 m 343 ls [.int (Int32.ofInt v)]) rfl ?_
  refine lv_istore (lv' := (6, .int (Int32.ofInt v)) :: (5, .int (Int32.ofInt (bi (¬ ((0 ≤ (arx xs k 1) ∧ (arx xs k 1) < M 5 0) ∧ 0 ≤ (arx xs k 2) ∧ (arx xs k 2) < 3))))) :: [(4, .int (Int32.ofInt (6 * (k : Int)))), (3, .ref o), (2, .ref (ad 67)), (1, .ref (ad 0)), (0, .ref b)]) hx hb dL_law_343 hl (by decide) rfl (fun ls hl => ?_)
  refine lv_aload_n hx hb dL_law_345 rfl (lv_at hl 4 rfl) ?_
  refine ct_callV (A := (fun q : Nat => s.heap.size ≤ q)) (A1 := (fun q : Nat => s.heap.size ≤ q ∧ q ≠ o)) (ad := ad) (S := SALL) (M := M1) (M' := M2) (r := [aI g]) (d := 15) (z := 128) (n := 0) (a := 67) (as' := []) ⟨hx, hb, hown, hts, hK, hl.1.trans hml.symm⟩ hAd SALL_clo hP (by decide) (by decide +kernel) (by decide +kernel) (show npar 128 = some 0 from by decide +kernel) (Or.inl ⟨rfl, (show ∀ g ∈ mdG 128, 1 ≤ g from by decide +kernel), (show 1 ≤ mdL 128 from by decide +kernel)⟩) (srs_r (show 67 ∈ SALL from by decide +kernel) rfl srs_n) cwm_285 ⟨Nat.le_of_ble_eq_true rfl, Nat.le_of_ble_eq_true rfl⟩ ⟨hR.1, hR.2⟩ hx2 dL_law_346 (Nat.le_of_ble_eq_true rfl) (rest := []) rfl hS (fun q9 h9 => h9.1) (fun H1 locs1 hP1 hz hk1 hS1 => ?_)
  have hO := outW_kept hO (hk1 o (outW_lt hO) (fun h9 => h9.2 rfl))
  have hP := hP1
  have hS := hS1
  clear hP1 hS1 hk1 hz
  generalize H1 = H at hP hO hS ⊢
  generalize locs1 = locs at hS ⊢
  refine W.eq (g2 := F0 m 349 ls [.int (Int32.ofInt g)]) rfl ?_
  refine lv_iload hx hb dL_law_349 (lv_at hl 1 rfl) ?_
  have fin : LwS s b D T ad o k M2 H locs ls := ⟨lv_sub hl [2, 3, 4, 5, 6] rfl, hP, ⟨u, hO⟩, hS⟩
  rcases hvg with ⟨hg, rfl, hvv⟩ | ⟨hg, rfl⟩
  · rw [show bi (¬ ((0 ≤ (arx xs k 1) ∧ (arx xs k 1) < M 5 0) ∧ 0 ≤ (arx xs k 2) ∧ (arx xs k 2) < 3)) = 0 from if_neg (fun h9 => h9 hg)] at hl ⊢
    refine lv_icmp_eq hx hb dL_law_351 (tgt := 356) (by decide) (fun _ => ?_) (fun h9 => absurd rfl h9)
    refine lv_iload hx hb dL_law_356 (lv_at hl 1 rfl) ?_
    refine lv_if_ne hx hb dL_law_358 (tgt := 373) (by decide) (fun h9 => absurd (by decide) h9) (fun _ => ?_)
    refine lv_aload_n hx hb dL_law_361 rfl (lv_at hl 3 rfl) ?_
    refine lv_iconst (v := Int32.ofInt 0) hx hb dL_law_362 (by decide) ?_
    refine va_lald hx hb hK hO 0 1 (f := u) (n := 1) (cA := T 1) rfl rfl (vin (by decide) (by decide) (by decide)) dL_law_363 ?_
    refine lv_iload hx hb dL_law_364 (lv_at hl 0 rfl) ?_
    refine lv_i2l (v := (Int32.ofInt v).toInt64) hx hb dL_law_366 rfl ?_
    refine W.lcmp hx hb dL_law_367 ?_
    have eu : u (Int32.ofInt 0).toNatClampNeg = (Int32.ofInt v).toInt64 := by rw [eq32.mpr hvv]; exact hu hg
    rw [eu, lg_cmp_self]
    refine lv_if_eq hx hb dL_law_368 (tgt := 373) (by decide) (fun _ => ?_) (fun h9 => absurd rfl h9)
    refine lv_goto hx hb dL_law_373 (tgt := 1144) (by decide) ?_
    exact nxt M2 H locs ls hJ fin
  · rw [show bi (¬ ((0 ≤ (arx xs k 1) ∧ (arx xs k 1) < M 5 0) ∧ 0 ≤ (arx xs k 2) ∧ (arx xs k 2) < 3)) = 1 from if_pos hg] at hl ⊢
    refine lv_icmp_eq hx hb dL_law_351 (tgt := 356) (by decide) (fun _ => ?_) (fun h9 => absurd rfl h9)
    refine lv_iload hx hb dL_law_356 (lv_at hl 1 rfl) ?_
    refine lv_if_ne hx hb dL_law_358 (tgt := 373) (by decide) (fun _ => ?_) (fun h9 => absurd h9 (by decide))
    refine lv_goto hx hb dL_law_373 (tgt := 1144) (by decide) ?_
    exact nxt M2 H locs ls hJ fin
set_option maxHeartbeats 4000000 in
set_option maxRecDepth 100000 in
theorem lc_5 (C : LwC l p s m c b L xs D T ad o t1 t2 t3 t4) (hk : 6 * k + 6 ≤ L) (h : RI M) (hst2 : StepT 165 ((0 ≤ (arx xs k 1) ∧ (arx xs k 1) < M 5 1) ∧ 0 ≤ (arx xs k 2) ∧ (arx xs k 2) < 7) (M 7 ((arx xs k 1) * 7 + (arx xs k 2))) [aI (arx xs k 1), aI (arx xs k 2)] M J) (hR0 : cells + 1 ≤ room_1.cells ∧ slots + 6 ≤ room_1.slots) (S : LwS s b D T ad o k M H locs ls) (nxt : ∀ (M : Mem) (H : Heap) (locs : List Loc) (ls : Array Slot), J M → LwS s b D T ad o k M H locs ls → W p l e room_1 s m #[Value.ref b] below meth c H locs (cells + 1) (slots + 6) Q (F0 m 1144 ls [])) : W p l e room_1 s m #[Value.ref b] below meth c H locs cells slots Q (F0 m 376 ls []) := by
  obtain ⟨hx, hb, hml, hown, hts, hK, hX, hbl, hAd, hAo, hE, hL, hst⟩ := id C
  obtain ⟨hl, hP, ⟨f, hO⟩, hS⟩ := S
  have hst9 : l.stackTraces = false := hst
  obtain ⟨v, g, M1, M2, hvg, hJ, hx1, hx2⟩ := hst2.ex
  refine lv_aload_n hx hb dL_law_376 rfl (lv_at hl 3 rfl) ?_
  refine law_arg (j := 1) (by decide) C hk hS (lv_at hl 4 rfl) (lv_at hl 0 rfl) dL_law_377 dL_law_378 dL_law_380 dL_law_381 dL_law_382 ?_
  refine law_arg (j := 2) (by decide) C hk hS (lv_at hl 4 rfl) (lv_at hl 0 rfl) dL_law_383 dL_law_384 dL_law_386 dL_law_387 dL_law_388 ?_
  refine lv_aload_n hx hb dL_law_389 rfl (lv_at hl 1 rfl) ?_
  refine vx_calli (A0 := (fun q : Nat => s.heap.size ≤ q)) (vx_runSX (R := room_1) (As := [.ref (ad 0), .int (Int32.ofInt (arx xs k 1)), .int (Int32.ofInt (arx xs k 2)), .ref o]) (rest := []) ⟨hx, hb, hml, hown, hts⟩ (c_L_leg l hst9 D T ad M t1 t2 t3 t4 (fun q : Nat => s.heap.size ≤ q) o hAd hAo (arx xs k 1) (arx xs k 2) arx_I arx_I h) (vx_cwSW 4 hts (good_S cwm_287 cwm_288 cwm_283 cwm_286) rfl rfl rfl (by decide +kernel) ⟨Nat.le_of_ble_eq_true rfl, Nat.le_of_ble_eq_true rfl⟩) ⟨law_blind, fun U hU hW => ⟨rfl, ⟨by rw [hU]; exact hP, va_K.moved hW.alike hK, by rw [hU]; exact (hE.kept hS.2.1).warm hW⟩, f, by rw [hU]; exact hO⟩⟩ rfl rfl hl.1 rfl (Nat.le_of_ble_eq_true rfl) dL_law_390 hR0) hS (fun q9 _ h9 => h9) (fun q9 h9 => h9) (fun q9 _ h9 => h9) (fun E ce q9 u t H1 locs1 ht hvm hp hB hz hk1 hS1 hcell hcv hcl => hp.elim) (fun r u t H1 locs1 ht hvm hp hB hz hk1 hS1 => ?_)
  obtain ⟨rfl, hu⟩ := hp
  obtain ⟨hP1, hO1⟩ := hB
  rw [ht] at hP1 hO1
  have hP := hP1
  have hO := hO1
  have hS := hS1
  clear hP1 hO1 hS1 hk1 hz ht
  generalize H1 = H at hP hO hS ⊢
  generalize locs1 = locs at hS ⊢
  have hR := hR0
  refine W.eq (g2 := F0 m 393 ls [.int (Int32.ofInt (bi (¬ ((0 ≤ (arx xs k 1) ∧ (arx xs k 1) < M 5 1) ∧ 0 ≤ (arx xs k 2) ∧ (arx xs k 2) < 7))))]) rfl ?_
  refine lv_istore (lv' := (5, .int (Int32.ofInt (bi (¬ ((0 ≤ (arx xs k 1) ∧ (arx xs k 1) < M 5 1) ∧ 0 ≤ (arx xs k 2) ∧ (arx xs k 2) < 7))))) :: [(4, .int (Int32.ofInt (6 * (k : Int)))), (3, .ref o), (2, .ref (ad 67)), (1, .ref (ad 0)), (0, .ref b)]) hx hb dL_law_393 hl (by decide) rfl (fun ls hl => ?_)
  refine lv_aload_n hx hb dL_law_395 rfl (lv_at hl 3 rfl) ?_
  refine law_arg (j := 1) (by decide) C hk hS (lv_at hl 5 rfl) (lv_at hl 1 rfl) dL_law_396 dL_law_397 dL_law_399 dL_law_400 dL_law_401 ?_
  refine law_arg (j := 2) (by decide) C hk hS (lv_at hl 5 rfl) (lv_at hl 1 rfl) dL_law_402 dL_law_403 dL_law_405 dL_law_406 dL_law_407 ?_
  refine ct_callV (A := (fun q : Nat => s.heap.size ≤ q)) (A1 := (fun q : Nat => s.heap.size ≤ q ∧ q ≠ o)) (ad := ad) (S := SALL) (M := M) (M' := M1) (r := [aI v]) (d := 15) (z := 165) (n := 0) (a := 67) (as' := [aI (arx xs k 1), aI (arx xs k 2)]) ⟨hx, hb, hown, hts, hK, hl.1.trans hml.symm⟩ hAd SALL_clo hP (by decide) (by decide +kernel) (by decide +kernel) (show npar 165 = some 2 from by decide +kernel) (Or.inl ⟨rfl, (show ∀ g ∈ mdG 165, 3 ≤ g from by decide +kernel), (show 3 ≤ mdL 165 from by decide +kernel)⟩) (srs_r (show 67 ∈ SALL from by decide +kernel) rfl (SRs.i (SRs.i srs_n))) cwm_289 ⟨Nat.le_of_ble_eq_true rfl, Nat.le_of_ble_eq_true rfl⟩ ⟨hR.1, hR.2⟩ hx1 dL_law_408 (Nat.le_of_ble_eq_true rfl) (rest := []) rfl hS (fun q9 h9 => h9.1) (fun H1 locs1 hP1 hz hk1 hS1 => ?_)
  have hO := outW_kept hO (hk1 o (outW_lt hO) (fun h9 => h9.2 rfl))
  have hP := hP1
  have hS := hS1
  clear hP1 hS1 hk1 hz
  generalize H1 = H at hP hO hS ⊢
  generalize locs1 = locs at hS ⊢
  refine W.eq (g2 := F0 m 411 ls [.int (Int32.ofInt v)]) rfl ?_
  refine lv_istore (lv' := (6, .int (Int32.ofInt v)) :: (5, .int (Int32.ofInt (bi (¬ ((0 ≤ (arx xs k 1) ∧ (arx xs k 1) < M 5 1) ∧ 0 ≤ (arx xs k 2) ∧ (arx xs k 2) < 7))))) :: [(4, .int (Int32.ofInt (6 * (k : Int)))), (3, .ref o), (2, .ref (ad 67)), (1, .ref (ad 0)), (0, .ref b)]) hx hb dL_law_411 hl (by decide) rfl (fun ls hl => ?_)
  refine lv_aload_n hx hb dL_law_413 rfl (lv_at hl 4 rfl) ?_
  refine ct_callV (A := (fun q : Nat => s.heap.size ≤ q)) (A1 := (fun q : Nat => s.heap.size ≤ q ∧ q ≠ o)) (ad := ad) (S := SALL) (M := M1) (M' := M2) (r := [aI g]) (d := 15) (z := 128) (n := 0) (a := 67) (as' := []) ⟨hx, hb, hown, hts, hK, hl.1.trans hml.symm⟩ hAd SALL_clo hP (by decide) (by decide +kernel) (by decide +kernel) (show npar 128 = some 0 from by decide +kernel) (Or.inl ⟨rfl, (show ∀ g ∈ mdG 128, 1 ≤ g from by decide +kernel), (show 1 ≤ mdL 128 from by decide +kernel)⟩) (srs_r (show 67 ∈ SALL from by decide +kernel) rfl srs_n) cwm_285 ⟨Nat.le_of_ble_eq_true rfl, Nat.le_of_ble_eq_true rfl⟩ ⟨hR.1, hR.2⟩ hx2 dL_law_414 (Nat.le_of_ble_eq_true rfl) (rest := []) rfl hS (fun q9 h9 => h9.1) (fun H1 locs1 hP1 hz hk1 hS1 => ?_)
  have hO := outW_kept hO (hk1 o (outW_lt hO) (fun h9 => h9.2 rfl))
  have hP := hP1
  have hS := hS1
  clear hP1 hS1 hk1 hz
  generalize H1 = H at hP hO hS ⊢
  generalize locs1 = locs at hS ⊢
  refine W.eq (g2 := F0 m 417 ls [.int (Int32.ofInt g)]) rfl ?_
  refine lv_iload hx hb dL_law_417 (lv_at hl 1 rfl) ?_
  have fin : LwS s b D T ad o k M2 H locs ls := ⟨lv_sub hl [2, 3, 4, 5, 6] rfl, hP, ⟨u, hO⟩, hS⟩
  rcases hvg with ⟨hg, rfl, hvv⟩ | ⟨hg, rfl⟩
  · rw [show bi (¬ ((0 ≤ (arx xs k 1) ∧ (arx xs k 1) < M 5 1) ∧ 0 ≤ (arx xs k 2) ∧ (arx xs k 2) < 7)) = 0 from if_neg (fun h9 => h9 hg)] at hl ⊢
    refine lv_icmp_eq hx hb dL_law_419 (tgt := 424) (by decide) (fun _ => ?_) (fun h9 => absurd rfl h9)
    refine lv_iload hx hb dL_law_424 (lv_at hl 1 rfl) ?_
    refine lv_if_ne hx hb dL_law_426 (tgt := 441) (by decide) (fun h9 => absurd (by decide) h9) (fun _ => ?_)
    refine lv_aload_n hx hb dL_law_429 rfl (lv_at hl 3 rfl) ?_
    refine lv_iconst (v := Int32.ofInt 0) hx hb dL_law_430 (by decide) ?_
    refine va_lald hx hb hK hO 0 1 (f := u) (n := 1) (cA := T 1) rfl rfl (vin (by decide) (by decide) (by decide)) dL_law_431 ?_
    refine lv_iload hx hb dL_law_432 (lv_at hl 0 rfl) ?_
    refine lv_i2l (v := (Int32.ofInt v).toInt64) hx hb dL_law_434 rfl ?_
    refine W.lcmp hx hb dL_law_435 ?_
    have eu : u (Int32.ofInt 0).toNatClampNeg = (Int32.ofInt v).toInt64 := by rw [eq32.mpr hvv]; exact hu hg
    rw [eu, lg_cmp_self]
    refine lv_if_eq hx hb dL_law_436 (tgt := 441) (by decide) (fun _ => ?_) (fun h9 => absurd rfl h9)
    refine lv_goto hx hb dL_law_441 (tgt := 1144) (by decide) ?_
    exact nxt M2 H locs ls hJ fin
  · rw [show bi (¬ ((0 ≤ (arx xs k 1) ∧ (arx xs k 1) < M 5 1) ∧ 0 ≤ (arx xs k 2) ∧ (arx xs k 2) < 7)) = 1 from if_pos hg] at hl ⊢
    refine lv_icmp_eq hx hb dL_law_419 (tgt := 424) (by decide) (fun _ => ?_) (fun h9 => absurd rfl h9)
    refine lv_iload hx hb dL_law_424 (lv_at hl 1 rfl) ?_
    refine lv_if_ne hx hb dL_law_426 (tgt := 441) (by decide) (fun _ => ?_) (fun h9 => absurd h9 (by decide))
    refine lv_goto hx hb dL_law_441 (tgt := 1144) (by decide) ?_
    exact nxt M2 H locs ls hJ fin
set_option maxHeartbeats 4000000 in
set_option maxRecDepth 100000 in
theorem lc_6 (C : LwC l p s m c b L xs D T ad o t1 t2 t3 t4) (hk : 6 * k + 6 ≤ L) (h : RI M) (hst2 : StepT 166 ((0 ≤ (arx xs k 1) ∧ (arx xs k 1) < M 5 2) ∧ 0 ≤ (arx xs k 2) ∧ (arx xs k 2) ≤ 5) (if (arx xs k 2) < 4 then M 8 ((arx xs k 1) * 4 + (arx xs k 2)) else if (arx xs k 2) = 4 then (if M 8 (4 * (arx xs k 1)) < M 8 (4 * (arx xs k 1) + 1) then M 8 (4 * (arx xs k 1)) else 2 * (M 5 0 - 1) - M 8 (4 * (arx xs k 1))) else (if M 8 (4 * (arx xs k 1)) < M 8 (4 * (arx xs k 1) + 1) then M 8 (4 * (arx xs k 1) + 1) else 2 * (M 5 0 - 1) - M 8 (4 * (arx xs k 1) + 1))) [aI (arx xs k 1), aI (arx xs k 2)] M J) (hR0 : cells + 1 ≤ room_1.cells ∧ slots + 6 ≤ room_1.slots) (S : LwS s b D T ad o k M H locs ls) (nxt : ∀ (M : Mem) (H : Heap) (locs : List Loc) (ls : Array Slot), J M → LwS s b D T ad o k M H locs ls → W p l e room_1 s m #[Value.ref b] below meth c H locs (cells + 1) (slots + 6) Q (F0 m 1144 ls [])) : W p l e room_1 s m #[Value.ref b] below meth c H locs cells slots Q (F0 m 444 ls []) := by
  obtain ⟨hx, hb, hml, hown, hts, hK, hX, hbl, hAd, hAo, hE, hL, hst⟩ := id C
  obtain ⟨hl, hP, ⟨f, hO⟩, hS⟩ := S
  have hst9 : l.stackTraces = false := hst
  obtain ⟨v, g, M1, M2, hvg, hJ, hx1, hx2⟩ := hst2.ex
  refine lv_aload_n hx hb dL_law_444 rfl (lv_at hl 3 rfl) ?_
  refine law_arg (j := 1) (by decide) C hk hS (lv_at hl 4 rfl) (lv_at hl 0 rfl) dL_law_445 dL_law_446 dL_law_448 dL_law_449 dL_law_450 ?_
  refine law_arg (j := 2) (by decide) C hk hS (lv_at hl 4 rfl) (lv_at hl 0 rfl) dL_law_451 dL_law_452 dL_law_454 dL_law_455 dL_law_456 ?_
  refine lv_aload_n hx hb dL_law_457 rfl (lv_at hl 1 rfl) ?_
  refine vx_calli (A0 := (fun q : Nat => s.heap.size ≤ q)) (vx_runSX (R := room_1) (As := [.ref (ad 0), .int (Int32.ofInt (arx xs k 1)), .int (Int32.ofInt (arx xs k 2)), .ref o]) (rest := []) ⟨hx, hb, hml, hown, hts⟩ (c_L_barge l hst9 D T ad M t1 t2 t3 t4 (fun q : Nat => s.heap.size ≤ q) o hAd hAo (arx xs k 1) (arx xs k 2) arx_I arx_I h) (vx_cwSW 4 hts (good_S cwm_291 cwm_292 cwm_283 cwm_290) rfl rfl rfl (by decide +kernel) ⟨Nat.le_of_ble_eq_true rfl, Nat.le_of_ble_eq_true rfl⟩) ⟨law_blind, fun U hU hW => ⟨rfl, ⟨by rw [hU]; exact hP, va_K.moved hW.alike hK, by rw [hU]; exact (hE.kept hS.2.1).warm hW⟩, f, by rw [hU]; exact hO⟩⟩ rfl rfl hl.1 rfl (Nat.le_of_ble_eq_true rfl) dL_law_458 hR0) hS (fun q9 _ h9 => h9) (fun q9 h9 => h9) (fun q9 _ h9 => h9) (fun E ce q9 u t H1 locs1 ht hvm hp hB hz hk1 hS1 hcell hcv hcl => hp.elim) (fun r u t H1 locs1 ht hvm hp hB hz hk1 hS1 => ?_)
  obtain ⟨rfl, hu⟩ := hp
  obtain ⟨hP1, hO1⟩ := hB
  rw [ht] at hP1 hO1
  have hP := hP1
  have hO := hO1
  have hS := hS1
  clear hP1 hO1 hS1 hk1 hz ht
  generalize H1 = H at hP hO hS ⊢
  generalize locs1 = locs at hS ⊢
  have hR := hR0
  refine W.eq (g2 := F0 m 461 ls [.int (Int32.ofInt (bi (¬ ((0 ≤ (arx xs k 1) ∧ (arx xs k 1) < M 5 2) ∧ 0 ≤ (arx xs k 2) ∧ (arx xs k 2) ≤ 5))))]) rfl ?_
  refine lv_istore (lv' := (5, .int (Int32.ofInt (bi (¬ ((0 ≤ (arx xs k 1) ∧ (arx xs k 1) < M 5 2) ∧ 0 ≤ (arx xs k 2) ∧ (arx xs k 2) ≤ 5))))) :: [(4, .int (Int32.ofInt (6 * (k : Int)))), (3, .ref o), (2, .ref (ad 67)), (1, .ref (ad 0)), (0, .ref b)]) hx hb dL_law_461 hl (by decide) rfl (fun ls hl => ?_)
  refine lv_aload_n hx hb dL_law_463 rfl (lv_at hl 3 rfl) ?_
  refine law_arg (j := 1) (by decide) C hk hS (lv_at hl 5 rfl) (lv_at hl 1 rfl) dL_law_464 dL_law_465 dL_law_467 dL_law_468 dL_law_469 ?_
  refine law_arg (j := 2) (by decide) C hk hS (lv_at hl 5 rfl) (lv_at hl 1 rfl) dL_law_470 dL_law_471 dL_law_473 dL_law_474 dL_law_475 ?_
  refine ct_callV (A := (fun q : Nat => s.heap.size ≤ q)) (A1 := (fun q : Nat => s.heap.size ≤ q ∧ q ≠ o)) (ad := ad) (S := SALL) (M := M) (M' := M1) (r := [aI v]) (d := 15) (z := 166) (n := 0) (a := 67) (as' := [aI (arx xs k 1), aI (arx xs k 2)]) ⟨hx, hb, hown, hts, hK, hl.1.trans hml.symm⟩ hAd SALL_clo hP (by decide) (by decide +kernel) (by decide +kernel) (show npar 166 = some 2 from by decide +kernel) (Or.inl ⟨rfl, (show ∀ g ∈ mdG 166, 3 ≤ g from by decide +kernel), (show 3 ≤ mdL 166 from by decide +kernel)⟩) (srs_r (show 67 ∈ SALL from by decide +kernel) rfl (SRs.i (SRs.i srs_n))) cwm_293 ⟨Nat.le_of_ble_eq_true rfl, Nat.le_of_ble_eq_true rfl⟩ ⟨hR.1, hR.2⟩ hx1 dL_law_476 (Nat.le_of_ble_eq_true rfl) (rest := []) rfl hS (fun q9 h9 => h9.1) (fun H1 locs1 hP1 hz hk1 hS1 => ?_)
  have hO := outW_kept hO (hk1 o (outW_lt hO) (fun h9 => h9.2 rfl))
  have hP := hP1
  have hS := hS1
  clear hP1 hS1 hk1 hz
  generalize H1 = H at hP hO hS ⊢
  generalize locs1 = locs at hS ⊢
  refine W.eq (g2 := F0 m 479 ls [.int (Int32.ofInt v)]) rfl ?_
  refine lv_istore (lv' := (6, .int (Int32.ofInt v)) :: (5, .int (Int32.ofInt (bi (¬ ((0 ≤ (arx xs k 1) ∧ (arx xs k 1) < M 5 2) ∧ 0 ≤ (arx xs k 2) ∧ (arx xs k 2) ≤ 5))))) :: [(4, .int (Int32.ofInt (6 * (k : Int)))), (3, .ref o), (2, .ref (ad 67)), (1, .ref (ad 0)), (0, .ref b)]) hx hb dL_law_479 hl (by decide) rfl (fun ls hl => ?_)
  refine lv_aload_n hx hb dL_law_481 rfl (lv_at hl 4 rfl) ?_
  refine ct_callV (A := (fun q : Nat => s.heap.size ≤ q)) (A1 := (fun q : Nat => s.heap.size ≤ q ∧ q ≠ o)) (ad := ad) (S := SALL) (M := M1) (M' := M2) (r := [aI g]) (d := 15) (z := 128) (n := 0) (a := 67) (as' := []) ⟨hx, hb, hown, hts, hK, hl.1.trans hml.symm⟩ hAd SALL_clo hP (by decide) (by decide +kernel) (by decide +kernel) (show npar 128 = some 0 from by decide +kernel) (Or.inl ⟨rfl, (show ∀ g ∈ mdG 128, 1 ≤ g from by decide +kernel), (show 1 ≤ mdL 128 from by decide +kernel)⟩) (srs_r (show 67 ∈ SALL from by decide +kernel) rfl srs_n) cwm_285 ⟨Nat.le_of_ble_eq_true rfl, Nat.le_of_ble_eq_true rfl⟩ ⟨hR.1, hR.2⟩ hx2 dL_law_482 (Nat.le_of_ble_eq_true rfl) (rest := []) rfl hS (fun q9 h9 => h9.1) (fun H1 locs1 hP1 hz hk1 hS1 => ?_)
  have hO := outW_kept hO (hk1 o (outW_lt hO) (fun h9 => h9.2 rfl))
  have hP := hP1
  have hS := hS1
  clear hP1 hS1 hk1 hz
  generalize H1 = H at hP hO hS ⊢
  generalize locs1 = locs at hS ⊢
  refine W.eq (g2 := F0 m 485 ls [.int (Int32.ofInt g)]) rfl ?_
  refine lv_iload hx hb dL_law_485 (lv_at hl 1 rfl) ?_
  have fin : LwS s b D T ad o k M2 H locs ls := ⟨lv_sub hl [2, 3, 4, 5, 6] rfl, hP, ⟨u, hO⟩, hS⟩
  rcases hvg with ⟨hg, rfl, hvv⟩ | ⟨hg, rfl⟩
  · rw [show bi (¬ ((0 ≤ (arx xs k 1) ∧ (arx xs k 1) < M 5 2) ∧ 0 ≤ (arx xs k 2) ∧ (arx xs k 2) ≤ 5)) = 0 from if_neg (fun h9 => h9 hg)] at hl ⊢
    refine lv_icmp_eq hx hb dL_law_487 (tgt := 492) (by decide) (fun _ => ?_) (fun h9 => absurd rfl h9)
    refine lv_iload hx hb dL_law_492 (lv_at hl 1 rfl) ?_
    refine lv_if_ne hx hb dL_law_494 (tgt := 509) (by decide) (fun h9 => absurd (by decide) h9) (fun _ => ?_)
    refine lv_aload_n hx hb dL_law_497 rfl (lv_at hl 3 rfl) ?_
    refine lv_iconst (v := Int32.ofInt 0) hx hb dL_law_498 (by decide) ?_
    refine va_lald hx hb hK hO 0 1 (f := u) (n := 1) (cA := T 1) rfl rfl (vin (by decide) (by decide) (by decide)) dL_law_499 ?_
    refine lv_iload hx hb dL_law_500 (lv_at hl 0 rfl) ?_
    refine lv_i2l (v := (Int32.ofInt v).toInt64) hx hb dL_law_502 rfl ?_
    refine W.lcmp hx hb dL_law_503 ?_
    have eu : u (Int32.ofInt 0).toNatClampNeg = (Int32.ofInt v).toInt64 := by rw [eq32.mpr hvv]; exact hu hg
    rw [eu, lg_cmp_self]
    refine lv_if_eq hx hb dL_law_504 (tgt := 509) (by decide) (fun _ => ?_) (fun h9 => absurd rfl h9)
    refine lv_goto hx hb dL_law_509 (tgt := 1144) (by decide) ?_
    exact nxt M2 H locs ls hJ fin
  · rw [show bi (¬ ((0 ≤ (arx xs k 1) ∧ (arx xs k 1) < M 5 2) ∧ 0 ≤ (arx xs k 2) ∧ (arx xs k 2) ≤ 5)) = 1 from if_pos hg] at hl ⊢
    refine lv_icmp_eq hx hb dL_law_487 (tgt := 492) (by decide) (fun _ => ?_) (fun h9 => absurd rfl h9)
    refine lv_iload hx hb dL_law_492 (lv_at hl 1 rfl) ?_
    refine lv_if_ne hx hb dL_law_494 (tgt := 509) (by decide) (fun _ => ?_) (fun h9 => absurd h9 (by decide))
    refine lv_goto hx hb dL_law_509 (tgt := 1144) (by decide) ?_
    exact nxt M2 H locs ls hJ fin
set_option maxHeartbeats 4000000 in
set_option maxRecDepth 100000 in
theorem lc_7 (C : LwC l p s m c b L xs D T ad o t1 t2 t3 t4) (hk : 6 * k + 6 ≤ L) (hst2 : Step2 100 169 [] M J) (hR0 : cells + 1 ≤ room_1.cells ∧ slots + 6 ≤ room_1.slots) (S : LwS s b D T ad o k M H locs ls) (nxt : ∀ (M : Mem) (H : Heap) (locs : List Loc) (ls : Array Slot), J M → LwS s b D T ad o k M H locs ls → W p l e room_1 s m #[Value.ref b] below meth c H locs (cells + 1) (slots + 6) Q (F0 m 1144 ls [])) : W p l e room_1 s m #[Value.ref b] below meth c H locs cells slots Q (F0 m 512 ls []) := by
  obtain ⟨hx, hb, hml, hown, hts, hK, hX, hbl, hAd, hAo, hE, hL, hst⟩ := id C
  obtain ⟨hl, hP, ⟨f, hO⟩, hS⟩ := S
  obtain ⟨v, w, M1, M2, hvw, hJ, hx1, hx2⟩ := hst2.ex
  refine W.widen (k := cells + 1) (n := slots + 6) (Nat.le_succ _) (Nat.le_add_right _ _) ?_
  have hR := hR0
  refine lv_aload_n hx hb dL_law_512 rfl (lv_at hl 3 rfl) ?_
  refine ct_callV (A := (fun q : Nat => s.heap.size ≤ q)) (A1 := (fun q : Nat => s.heap.size ≤ q ∧ q ≠ o)) (ad := ad) (S := SALL) (M := M) (M' := M1) (r := [aI v]) (d := 15) (z := 100) (n := 0) (a := 0) (as' := []) ⟨hx, hb, hown, hts, hK, hl.1.trans hml.symm⟩ hAd SALL_clo hP (by decide) (by decide +kernel) (by decide +kernel) (show npar 100 = some 0 from by decide +kernel) (Or.inl ⟨rfl, (show ∀ g ∈ mdG 100, 1 ≤ g from by decide +kernel), (show 1 ≤ mdL 100 from by decide +kernel)⟩) (srs_r (show 0 ∈ SALL from by decide +kernel) rfl srs_n) cwm_294 ⟨Nat.le_of_ble_eq_true rfl, Nat.le_of_ble_eq_true rfl⟩ ⟨hR.1, hR.2⟩ hx1 dL_law_513 (Nat.le_of_ble_eq_true rfl) (rest := []) rfl hS (fun q9 h9 => h9.1) (fun H1 locs1 hP1 hz hk1 hS1 => ?_)
  have hO := outW_kept hO (hk1 o (outW_lt hO) (fun h9 => h9.2 rfl))
  have hP := hP1
  have hS := hS1
  clear hP1 hS1 hk1 hz
  generalize H1 = H at hP hO hS ⊢
  generalize locs1 = locs at hS ⊢
  refine W.eq (g2 := F0 m 516 ls [.int (Int32.ofInt v)]) rfl ?_
  refine lv_aload_n hx hb dL_law_516 rfl (lv_at hl 2 rfl) ?_
  refine ct_callV (A := (fun q : Nat => s.heap.size ≤ q)) (A1 := (fun q : Nat => s.heap.size ≤ q ∧ q ≠ o)) (ad := ad) (S := SALL) (M := M1) (M' := M2) (r := [aI w]) (d := 15) (z := 169) (n := 0) (a := 67) (as' := []) ⟨hx, hb, hown, hts, hK, hl.1.trans hml.symm⟩ hAd SALL_clo hP (by decide) (by decide +kernel) (by decide +kernel) (show npar 169 = some 0 from by decide +kernel) (Or.inl ⟨rfl, (show ∀ g ∈ mdG 169, 1 ≤ g from by decide +kernel), (show 1 ≤ mdL 169 from by decide +kernel)⟩) (srs_r (show 67 ∈ SALL from by decide +kernel) rfl srs_n) cwm_295 ⟨Nat.le_of_ble_eq_true rfl, Nat.le_of_ble_eq_true rfl⟩ ⟨hR.1, hR.2⟩ hx2 dL_law_517 (Nat.le_of_ble_eq_true rfl) (rest := [.int (Int32.ofInt v)]) rfl hS (fun q9 h9 => h9.1) (fun H1 locs1 hP1 hz hk1 hS1 => ?_)
  have hO := outW_kept hO (hk1 o (outW_lt hO) (fun h9 => h9.2 rfl))
  have hP := hP1
  have hS := hS1
  clear hP1 hS1 hk1 hz
  generalize H1 = H at hP hO hS ⊢
  generalize locs1 = locs at hS ⊢
  refine W.eq (g2 := F0 m 520 ls [.int (Int32.ofInt w), .int (Int32.ofInt v)]) rfl ?_
  refine lv_icmp_eq hx hb dL_law_520 (tgt := 1144) (by decide) (fun _ => nxt M2 H locs ls hJ ⟨hl, hP, ⟨f, hO⟩, hS⟩) (fun h9 => absurd (eq32.mpr hvw) h9)
set_option maxHeartbeats 4000000 in
set_option maxRecDepth 100000 in
theorem lc_8 (C : LwC l p s m c b L xs D T ad o t1 t2 t3 t4) (hk : 6 * k + 6 ≤ L) (hst2 : Step2 102 170 [aI (arx xs k 1)] M J) (hR0 : cells + 1 ≤ room_1.cells ∧ slots + 6 ≤ room_1.slots) (S : LwS s b D T ad o k M H locs ls) (nxt : ∀ (M : Mem) (H : Heap) (locs : List Loc) (ls : Array Slot), J M → LwS s b D T ad o k M H locs ls → W p l e room_1 s m #[Value.ref b] below meth c H locs (cells + 1) (slots + 6) Q (F0 m 1144 ls [])) : W p l e room_1 s m #[Value.ref b] below meth c H locs cells slots Q (F0 m 525 ls []) := by
  obtain ⟨hx, hb, hml, hown, hts, hK, hX, hbl, hAd, hAo, hE, hL, hst⟩ := id C
  obtain ⟨hl, hP, ⟨f, hO⟩, hS⟩ := S
  obtain ⟨v, w, M1, M2, hvw, hJ, hx1, hx2⟩ := hst2.ex
  refine W.widen (k := cells + 1) (n := slots + 6) (Nat.le_succ _) (Nat.le_add_right _ _) ?_
  have hR := hR0
  refine lv_aload_n hx hb dL_law_525 rfl (lv_at hl 3 rfl) ?_
  refine law_arg (j := 1) (by decide) C hk hS (lv_at hl 4 rfl) (lv_at hl 0 rfl) dL_law_526 dL_law_527 dL_law_529 dL_law_530 dL_law_531 ?_
  refine ct_callV (A := (fun q : Nat => s.heap.size ≤ q)) (A1 := (fun q : Nat => s.heap.size ≤ q ∧ q ≠ o)) (ad := ad) (S := SALL) (M := M) (M' := M1) (r := [aI v]) (d := 15) (z := 102) (n := 0) (a := 0) (as' := [aI (arx xs k 1)]) ⟨hx, hb, hown, hts, hK, hl.1.trans hml.symm⟩ hAd SALL_clo hP (by decide) (by decide +kernel) (by decide +kernel) (show npar 102 = some 1 from by decide +kernel) (Or.inl ⟨rfl, (show ∀ g ∈ mdG 102, 2 ≤ g from by decide +kernel), (show 2 ≤ mdL 102 from by decide +kernel)⟩) (srs_r (show 0 ∈ SALL from by decide +kernel) rfl (SRs.i srs_n)) cwm_296 ⟨Nat.le_of_ble_eq_true rfl, Nat.le_of_ble_eq_true rfl⟩ ⟨hR.1, hR.2⟩ hx1 dL_law_532 (Nat.le_of_ble_eq_true rfl) (rest := []) rfl hS (fun q9 h9 => h9.1) (fun H1 locs1 hP1 hz hk1 hS1 => ?_)
  have hO := outW_kept hO (hk1 o (outW_lt hO) (fun h9 => h9.2 rfl))
  have hP := hP1
  have hS := hS1
  clear hP1 hS1 hk1 hz
  generalize H1 = H at hP hO hS ⊢
  generalize locs1 = locs at hS ⊢
  refine W.eq (g2 := F0 m 535 ls [.int (Int32.ofInt v)]) rfl ?_
  refine lv_aload_n hx hb dL_law_535 rfl (lv_at hl 2 rfl) ?_
  refine law_arg (j := 1) (by decide) C hk hS (lv_at hl 4 rfl) (lv_at hl 0 rfl) dL_law_536 dL_law_537 dL_law_539 dL_law_540 dL_law_541 ?_
  refine ct_callV (A := (fun q : Nat => s.heap.size ≤ q)) (A1 := (fun q : Nat => s.heap.size ≤ q ∧ q ≠ o)) (ad := ad) (S := SALL) (M := M1) (M' := M2) (r := [aI w]) (d := 15) (z := 170) (n := 0) (a := 67) (as' := [aI (arx xs k 1)]) ⟨hx, hb, hown, hts, hK, hl.1.trans hml.symm⟩ hAd SALL_clo hP (by decide) (by decide +kernel) (by decide +kernel) (show npar 170 = some 1 from by decide +kernel) (Or.inl ⟨rfl, (show ∀ g ∈ mdG 170, 2 ≤ g from by decide +kernel), (show 2 ≤ mdL 170 from by decide +kernel)⟩) (srs_r (show 67 ∈ SALL from by decide +kernel) rfl (SRs.i srs_n)) cwm_297 ⟨Nat.le_of_ble_eq_true rfl, Nat.le_of_ble_eq_true rfl⟩ ⟨hR.1, hR.2⟩ hx2 dL_law_542 (Nat.le_of_ble_eq_true rfl) (rest := [.int (Int32.ofInt v)]) rfl hS (fun q9 h9 => h9.1) (fun H1 locs1 hP1 hz hk1 hS1 => ?_)
  have hO := outW_kept hO (hk1 o (outW_lt hO) (fun h9 => h9.2 rfl))
  have hP := hP1
  have hS := hS1
  clear hP1 hS1 hk1 hz
  generalize H1 = H at hP hO hS ⊢
  generalize locs1 = locs at hS ⊢
  refine W.eq (g2 := F0 m 545 ls [.int (Int32.ofInt w), .int (Int32.ofInt v)]) rfl ?_
  refine lv_icmp_eq hx hb dL_law_545 (tgt := 1144) (by decide) (fun _ => nxt M2 H locs ls hJ ⟨hl, hP, ⟨f, hO⟩, hS⟩) (fun h9 => absurd (eq32.mpr hvw) h9)
set_option maxHeartbeats 4000000 in
set_option maxRecDepth 100000 in
theorem lc_9 (C : LwC l p s m c b L xs D T ad o t1 t2 t3 t4) (hk : 6 * k + 6 ≤ L) (hst2 : Step2 103 173 [] M J) (hR0 : cells + 1 ≤ room_1.cells ∧ slots + 6 ≤ room_1.slots) (S : LwS s b D T ad o k M H locs ls) (nxt : ∀ (M : Mem) (H : Heap) (locs : List Loc) (ls : Array Slot), J M → LwS s b D T ad o k M H locs ls → W p l e room_1 s m #[Value.ref b] below meth c H locs (cells + 1) (slots + 6) Q (F0 m 1144 ls [])) : W p l e room_1 s m #[Value.ref b] below meth c H locs cells slots Q (F0 m 550 ls []) := by
  obtain ⟨hx, hb, hml, hown, hts, hK, hX, hbl, hAd, hAo, hE, hL, hst⟩ := id C
  obtain ⟨hl, hP, ⟨f, hO⟩, hS⟩ := S
  obtain ⟨v, w, M1, M2, hvw, hJ, hx1, hx2⟩ := hst2.ex
  refine W.widen (k := cells + 1) (n := slots + 6) (Nat.le_succ _) (Nat.le_add_right _ _) ?_
  have hR := hR0
  refine lv_aload_n hx hb dL_law_550 rfl (lv_at hl 3 rfl) ?_
  refine ct_callV (A := (fun q : Nat => s.heap.size ≤ q)) (A1 := (fun q : Nat => s.heap.size ≤ q ∧ q ≠ o)) (ad := ad) (S := SALL) (M := M) (M' := M1) (r := [aI v]) (d := 15) (z := 103) (n := 0) (a := 0) (as' := []) ⟨hx, hb, hown, hts, hK, hl.1.trans hml.symm⟩ hAd SALL_clo hP (by decide) (by decide +kernel) (by decide +kernel) (show npar 103 = some 0 from by decide +kernel) (Or.inl ⟨rfl, (show ∀ g ∈ mdG 103, 1 ≤ g from by decide +kernel), (show 1 ≤ mdL 103 from by decide +kernel)⟩) (srs_r (show 0 ∈ SALL from by decide +kernel) rfl srs_n) cwm_298 ⟨Nat.le_of_ble_eq_true rfl, Nat.le_of_ble_eq_true rfl⟩ ⟨hR.1, hR.2⟩ hx1 dL_law_551 (Nat.le_of_ble_eq_true rfl) (rest := []) rfl hS (fun q9 h9 => h9.1) (fun H1 locs1 hP1 hz hk1 hS1 => ?_)
  have hO := outW_kept hO (hk1 o (outW_lt hO) (fun h9 => h9.2 rfl))
  have hP := hP1
  have hS := hS1
  clear hP1 hS1 hk1 hz
  generalize H1 = H at hP hO hS ⊢
  generalize locs1 = locs at hS ⊢
  refine W.eq (g2 := F0 m 554 ls [.int (Int32.ofInt v)]) rfl ?_
  refine lv_aload_n hx hb dL_law_554 rfl (lv_at hl 2 rfl) ?_
  refine ct_callV (A := (fun q : Nat => s.heap.size ≤ q)) (A1 := (fun q : Nat => s.heap.size ≤ q ∧ q ≠ o)) (ad := ad) (S := SALL) (M := M1) (M' := M2) (r := [aI w]) (d := 15) (z := 173) (n := 0) (a := 67) (as' := []) ⟨hx, hb, hown, hts, hK, hl.1.trans hml.symm⟩ hAd SALL_clo hP (by decide) (by decide +kernel) (by decide +kernel) (show npar 173 = some 0 from by decide +kernel) (Or.inl ⟨rfl, (show ∀ g ∈ mdG 173, 1 ≤ g from by decide +kernel), (show 1 ≤ mdL 173 from by decide +kernel)⟩) (srs_r (show 67 ∈ SALL from by decide +kernel) rfl srs_n) cwm_299 ⟨Nat.le_of_ble_eq_true rfl, Nat.le_of_ble_eq_true rfl⟩ ⟨hR.1, hR.2⟩ hx2 dL_law_555 (Nat.le_of_ble_eq_true rfl) (rest := [.int (Int32.ofInt v)]) rfl hS (fun q9 h9 => h9.1) (fun H1 locs1 hP1 hz hk1 hS1 => ?_)
  have hO := outW_kept hO (hk1 o (outW_lt hO) (fun h9 => h9.2 rfl))
  have hP := hP1
  have hS := hS1
  clear hP1 hS1 hk1 hz
  generalize H1 = H at hP hO hS ⊢
  generalize locs1 = locs at hS ⊢
  refine W.eq (g2 := F0 m 558 ls [.int (Int32.ofInt w), .int (Int32.ofInt v)]) rfl ?_
  refine lv_icmp_eq hx hb dL_law_558 (tgt := 1144) (by decide) (fun _ => nxt M2 H locs ls hJ ⟨hl, hP, ⟨f, hO⟩, hS⟩) (fun h9 => absurd (eq32.mpr hvw) h9)
set_option maxHeartbeats 4000000 in
set_option maxRecDepth 100000 in
theorem lc_10 (C : LwC l p s m c b L xs D T ad o t1 t2 t3 t4) (hk : 6 * k + 6 ≤ L) (hst2 : Step2 104 176 [aI (arx xs k 1), aI (arx xs k 2)] M J) (hR0 : cells + 1 ≤ room_1.cells ∧ slots + 6 ≤ room_1.slots) (S : LwS s b D T ad o k M H locs ls) (nxt : ∀ (M : Mem) (H : Heap) (locs : List Loc) (ls : Array Slot), J M → LwS s b D T ad o k M H locs ls → W p l e room_1 s m #[Value.ref b] below meth c H locs (cells + 1) (slots + 6) Q (F0 m 1144 ls [])) : W p l e room_1 s m #[Value.ref b] below meth c H locs cells slots Q (F0 m 563 ls []) := by
  obtain ⟨hx, hb, hml, hown, hts, hK, hX, hbl, hAd, hAo, hE, hL, hst⟩ := id C
  obtain ⟨hl, hP, ⟨f, hO⟩, hS⟩ := S
  obtain ⟨v, w, M1, M2, hvw, hJ, hx1, hx2⟩ := hst2.ex
  refine W.widen (k := cells + 1) (n := slots + 6) (Nat.le_succ _) (Nat.le_add_right _ _) ?_
  have hR := hR0
  refine lv_aload_n hx hb dL_law_563 rfl (lv_at hl 3 rfl) ?_
  refine law_arg (j := 1) (by decide) C hk hS (lv_at hl 4 rfl) (lv_at hl 0 rfl) dL_law_564 dL_law_565 dL_law_567 dL_law_568 dL_law_569 ?_
  refine law_arg (j := 2) (by decide) C hk hS (lv_at hl 4 rfl) (lv_at hl 0 rfl) dL_law_570 dL_law_571 dL_law_573 dL_law_574 dL_law_575 ?_
  refine ct_callV (A := (fun q : Nat => s.heap.size ≤ q)) (A1 := (fun q : Nat => s.heap.size ≤ q ∧ q ≠ o)) (ad := ad) (S := SALL) (M := M) (M' := M1) (r := [aI v]) (d := 15) (z := 104) (n := 0) (a := 0) (as' := [aI (arx xs k 1), aI (arx xs k 2)]) ⟨hx, hb, hown, hts, hK, hl.1.trans hml.symm⟩ hAd SALL_clo hP (by decide) (by decide +kernel) (by decide +kernel) (show npar 104 = some 2 from by decide +kernel) (Or.inl ⟨rfl, (show ∀ g ∈ mdG 104, 3 ≤ g from by decide +kernel), (show 3 ≤ mdL 104 from by decide +kernel)⟩) (srs_r (show 0 ∈ SALL from by decide +kernel) rfl (SRs.i (SRs.i srs_n))) cwm_300 ⟨Nat.le_of_ble_eq_true rfl, Nat.le_of_ble_eq_true rfl⟩ ⟨hR.1, hR.2⟩ hx1 dL_law_576 (Nat.le_of_ble_eq_true rfl) (rest := []) rfl hS (fun q9 h9 => h9.1) (fun H1 locs1 hP1 hz hk1 hS1 => ?_)
  have hO := outW_kept hO (hk1 o (outW_lt hO) (fun h9 => h9.2 rfl))
  have hP := hP1
  have hS := hS1
  clear hP1 hS1 hk1 hz
  generalize H1 = H at hP hO hS ⊢
  generalize locs1 = locs at hS ⊢
  refine W.eq (g2 := F0 m 579 ls [.int (Int32.ofInt v)]) rfl ?_
  refine lv_aload_n hx hb dL_law_579 rfl (lv_at hl 2 rfl) ?_
  refine law_arg (j := 1) (by decide) C hk hS (lv_at hl 4 rfl) (lv_at hl 0 rfl) dL_law_580 dL_law_581 dL_law_583 dL_law_584 dL_law_585 ?_
  refine law_arg (j := 2) (by decide) C hk hS (lv_at hl 4 rfl) (lv_at hl 0 rfl) dL_law_586 dL_law_587 dL_law_589 dL_law_590 dL_law_591 ?_
  refine ct_callV (A := (fun q : Nat => s.heap.size ≤ q)) (A1 := (fun q : Nat => s.heap.size ≤ q ∧ q ≠ o)) (ad := ad) (S := SALL) (M := M1) (M' := M2) (r := [aI w]) (d := 15) (z := 176) (n := 0) (a := 67) (as' := [aI (arx xs k 1), aI (arx xs k 2)]) ⟨hx, hb, hown, hts, hK, hl.1.trans hml.symm⟩ hAd SALL_clo hP (by decide) (by decide +kernel) (by decide +kernel) (show npar 176 = some 2 from by decide +kernel) (Or.inl ⟨rfl, (show ∀ g ∈ mdG 176, 3 ≤ g from by decide +kernel), (show 3 ≤ mdL 176 from by decide +kernel)⟩) (srs_r (show 67 ∈ SALL from by decide +kernel) rfl (SRs.i (SRs.i srs_n))) cwm_301 ⟨Nat.le_of_ble_eq_true rfl, Nat.le_of_ble_eq_true rfl⟩ ⟨hR.1, hR.2⟩ hx2 dL_law_592 (Nat.le_of_ble_eq_true rfl) (rest := [.int (Int32.ofInt v)]) rfl hS (fun q9 h9 => h9.1) (fun H1 locs1 hP1 hz hk1 hS1 => ?_)
  have hO := outW_kept hO (hk1 o (outW_lt hO) (fun h9 => h9.2 rfl))
  have hP := hP1
  have hS := hS1
  clear hP1 hS1 hk1 hz
  generalize H1 = H at hP hO hS ⊢
  generalize locs1 = locs at hS ⊢
  refine W.eq (g2 := F0 m 595 ls [.int (Int32.ofInt w), .int (Int32.ofInt v)]) rfl ?_
  refine lv_icmp_eq hx hb dL_law_595 (tgt := 1144) (by decide) (fun _ => nxt M2 H locs ls hJ ⟨hl, hP, ⟨f, hO⟩, hS⟩) (fun h9 => absurd (eq32.mpr hvw) h9)
set_option maxHeartbeats 4000000 in
set_option maxRecDepth 100000 in
theorem lc_11 (C : LwC l p s m c b L xs D T ad o t1 t2 t3 t4) (hk : 6 * k + 6 ≤ L) (hst2 : Step2 105 177 [aI (arx xs k 1)] M J) (hR0 : cells + 1 ≤ room_1.cells ∧ slots + 6 ≤ room_1.slots) (S : LwS s b D T ad o k M H locs ls) (nxt : ∀ (M : Mem) (H : Heap) (locs : List Loc) (ls : Array Slot), J M → LwS s b D T ad o k M H locs ls → W p l e room_1 s m #[Value.ref b] below meth c H locs (cells + 1) (slots + 6) Q (F0 m 1144 ls [])) : W p l e room_1 s m #[Value.ref b] below meth c H locs cells slots Q (F0 m 600 ls []) := by
  obtain ⟨hx, hb, hml, hown, hts, hK, hX, hbl, hAd, hAo, hE, hL, hst⟩ := id C
  obtain ⟨hl, hP, ⟨f, hO⟩, hS⟩ := S
  obtain ⟨v, w, M1, M2, hvw, hJ, hx1, hx2⟩ := hst2.ex
  refine W.widen (k := cells + 1) (n := slots + 6) (Nat.le_succ _) (Nat.le_add_right _ _) ?_
  have hR := hR0
  refine lv_aload_n hx hb dL_law_600 rfl (lv_at hl 3 rfl) ?_
  refine law_arg (j := 1) (by decide) C hk hS (lv_at hl 4 rfl) (lv_at hl 0 rfl) dL_law_601 dL_law_602 dL_law_604 dL_law_605 dL_law_606 ?_
  refine ct_callV (A := (fun q : Nat => s.heap.size ≤ q)) (A1 := (fun q : Nat => s.heap.size ≤ q ∧ q ≠ o)) (ad := ad) (S := SALL) (M := M) (M' := M1) (r := [aI v]) (d := 15) (z := 105) (n := 0) (a := 0) (as' := [aI (arx xs k 1)]) ⟨hx, hb, hown, hts, hK, hl.1.trans hml.symm⟩ hAd SALL_clo hP (by decide) (by decide +kernel) (by decide +kernel) (show npar 105 = some 1 from by decide +kernel) (Or.inl ⟨rfl, (show ∀ g ∈ mdG 105, 2 ≤ g from by decide +kernel), (show 2 ≤ mdL 105 from by decide +kernel)⟩) (srs_r (show 0 ∈ SALL from by decide +kernel) rfl (SRs.i srs_n)) cwm_302 ⟨Nat.le_of_ble_eq_true rfl, Nat.le_of_ble_eq_true rfl⟩ ⟨hR.1, hR.2⟩ hx1 dL_law_607 (Nat.le_of_ble_eq_true rfl) (rest := []) rfl hS (fun q9 h9 => h9.1) (fun H1 locs1 hP1 hz hk1 hS1 => ?_)
  have hO := outW_kept hO (hk1 o (outW_lt hO) (fun h9 => h9.2 rfl))
  have hP := hP1
  have hS := hS1
  clear hP1 hS1 hk1 hz
  generalize H1 = H at hP hO hS ⊢
  generalize locs1 = locs at hS ⊢
  refine W.eq (g2 := F0 m 610 ls [.int (Int32.ofInt v)]) rfl ?_
  refine lv_aload_n hx hb dL_law_610 rfl (lv_at hl 2 rfl) ?_
  refine law_arg (j := 1) (by decide) C hk hS (lv_at hl 4 rfl) (lv_at hl 0 rfl) dL_law_611 dL_law_612 dL_law_614 dL_law_615 dL_law_616 ?_
  refine ct_callV (A := (fun q : Nat => s.heap.size ≤ q)) (A1 := (fun q : Nat => s.heap.size ≤ q ∧ q ≠ o)) (ad := ad) (S := SALL) (M := M1) (M' := M2) (r := [aI w]) (d := 15) (z := 177) (n := 0) (a := 67) (as' := [aI (arx xs k 1)]) ⟨hx, hb, hown, hts, hK, hl.1.trans hml.symm⟩ hAd SALL_clo hP (by decide) (by decide +kernel) (by decide +kernel) (show npar 177 = some 1 from by decide +kernel) (Or.inl ⟨rfl, (show ∀ g ∈ mdG 177, 2 ≤ g from by decide +kernel), (show 2 ≤ mdL 177 from by decide +kernel)⟩) (srs_r (show 67 ∈ SALL from by decide +kernel) rfl (SRs.i srs_n)) cwm_303 ⟨Nat.le_of_ble_eq_true rfl, Nat.le_of_ble_eq_true rfl⟩ ⟨hR.1, hR.2⟩ hx2 dL_law_617 (Nat.le_of_ble_eq_true rfl) (rest := [.int (Int32.ofInt v)]) rfl hS (fun q9 h9 => h9.1) (fun H1 locs1 hP1 hz hk1 hS1 => ?_)
  have hO := outW_kept hO (hk1 o (outW_lt hO) (fun h9 => h9.2 rfl))
  have hP := hP1
  have hS := hS1
  clear hP1 hS1 hk1 hz
  generalize H1 = H at hP hO hS ⊢
  generalize locs1 = locs at hS ⊢
  refine W.eq (g2 := F0 m 620 ls [.int (Int32.ofInt w), .int (Int32.ofInt v)]) rfl ?_
  refine lv_icmp_eq hx hb dL_law_620 (tgt := 1144) (by decide) (fun _ => nxt M2 H locs ls hJ ⟨hl, hP, ⟨f, hO⟩, hS⟩) (fun h9 => absurd (eq32.mpr hvw) h9)
set_option maxHeartbeats 4000000 in
set_option maxRecDepth 100000 in
theorem lc_12 (C : LwC l p s m c b L xs D T ad o t1 t2 t3 t4) (hk : 6 * k + 6 ≤ L) (hst2 : Step2 106 183 [] M J) (hR0 : cells + 1 ≤ room_1.cells ∧ slots + 6 ≤ room_1.slots) (S : LwS s b D T ad o k M H locs ls) (nxt : ∀ (M : Mem) (H : Heap) (locs : List Loc) (ls : Array Slot), J M → LwS s b D T ad o k M H locs ls → W p l e room_1 s m #[Value.ref b] below meth c H locs (cells + 1) (slots + 6) Q (F0 m 1144 ls [])) : W p l e room_1 s m #[Value.ref b] below meth c H locs cells slots Q (F0 m 625 ls []) := by
  obtain ⟨hx, hb, hml, hown, hts, hK, hX, hbl, hAd, hAo, hE, hL, hst⟩ := id C
  obtain ⟨hl, hP, ⟨f, hO⟩, hS⟩ := S
  obtain ⟨v, w, M1, M2, hvw, hJ, hx1, hx2⟩ := hst2.ex
  refine W.widen (k := cells + 1) (n := slots + 6) (Nat.le_succ _) (Nat.le_add_right _ _) ?_
  have hR := hR0
  refine lv_aload_n hx hb dL_law_625 rfl (lv_at hl 3 rfl) ?_
  refine ct_callV (A := (fun q : Nat => s.heap.size ≤ q)) (A1 := (fun q : Nat => s.heap.size ≤ q ∧ q ≠ o)) (ad := ad) (S := SALL) (M := M) (M' := M1) (r := [aI v]) (d := 15) (z := 106) (n := 0) (a := 0) (as' := []) ⟨hx, hb, hown, hts, hK, hl.1.trans hml.symm⟩ hAd SALL_clo hP (by decide) (by decide +kernel) (by decide +kernel) (show npar 106 = some 0 from by decide +kernel) (Or.inl ⟨rfl, (show ∀ g ∈ mdG 106, 1 ≤ g from by decide +kernel), (show 1 ≤ mdL 106 from by decide +kernel)⟩) (srs_r (show 0 ∈ SALL from by decide +kernel) rfl srs_n) cwm_304 ⟨Nat.le_of_ble_eq_true rfl, Nat.le_of_ble_eq_true rfl⟩ ⟨hR.1, hR.2⟩ hx1 dL_law_626 (Nat.le_of_ble_eq_true rfl) (rest := []) rfl hS (fun q9 h9 => h9.1) (fun H1 locs1 hP1 hz hk1 hS1 => ?_)
  have hO := outW_kept hO (hk1 o (outW_lt hO) (fun h9 => h9.2 rfl))
  have hP := hP1
  have hS := hS1
  clear hP1 hS1 hk1 hz
  generalize H1 = H at hP hO hS ⊢
  generalize locs1 = locs at hS ⊢
  refine W.eq (g2 := F0 m 629 ls [.int (Int32.ofInt v)]) rfl ?_
  refine lv_aload_n hx hb dL_law_629 rfl (lv_at hl 2 rfl) ?_
  refine ct_callV (A := (fun q : Nat => s.heap.size ≤ q)) (A1 := (fun q : Nat => s.heap.size ≤ q ∧ q ≠ o)) (ad := ad) (S := SALL) (M := M1) (M' := M2) (r := [aI w]) (d := 15) (z := 183) (n := 0) (a := 67) (as' := []) ⟨hx, hb, hown, hts, hK, hl.1.trans hml.symm⟩ hAd SALL_clo hP (by decide) (by decide +kernel) (by decide +kernel) (show npar 183 = some 0 from by decide +kernel) (Or.inl ⟨rfl, (show ∀ g ∈ mdG 183, 1 ≤ g from by decide +kernel), (show 1 ≤ mdL 183 from by decide +kernel)⟩) (srs_r (show 67 ∈ SALL from by decide +kernel) rfl srs_n) cwm_305 ⟨Nat.le_of_ble_eq_true rfl, Nat.le_of_ble_eq_true rfl⟩ ⟨hR.1, hR.2⟩ hx2 dL_law_630 (Nat.le_of_ble_eq_true rfl) (rest := [.int (Int32.ofInt v)]) rfl hS (fun q9 h9 => h9.1) (fun H1 locs1 hP1 hz hk1 hS1 => ?_)
  have hO := outW_kept hO (hk1 o (outW_lt hO) (fun h9 => h9.2 rfl))
  have hP := hP1
  have hS := hS1
  clear hP1 hS1 hk1 hz
  generalize H1 = H at hP hO hS ⊢
  generalize locs1 = locs at hS ⊢
  refine W.eq (g2 := F0 m 633 ls [.int (Int32.ofInt w), .int (Int32.ofInt v)]) rfl ?_
  refine lv_icmp_eq hx hb dL_law_633 (tgt := 1144) (by decide) (fun _ => nxt M2 H locs ls hJ ⟨hl, hP, ⟨f, hO⟩, hS⟩) (fun h9 => absurd (eq32.mpr hvw) h9)
set_option maxHeartbeats 4000000 in
set_option maxRecDepth 100000 in
theorem lc_13 (C : LwC l p s m c b L xs D T ad o t1 t2 t3 t4) (hk : 6 * k + 6 ≤ L) (hst2 : Step2 107 184 [aI (arx xs k 1)] M J) (hR0 : cells + 1 ≤ room_1.cells ∧ slots + 6 ≤ room_1.slots) (S : LwS s b D T ad o k M H locs ls) (nxt : ∀ (M : Mem) (H : Heap) (locs : List Loc) (ls : Array Slot), J M → LwS s b D T ad o k M H locs ls → W p l e room_1 s m #[Value.ref b] below meth c H locs (cells + 1) (slots + 6) Q (F0 m 1144 ls [])) : W p l e room_1 s m #[Value.ref b] below meth c H locs cells slots Q (F0 m 638 ls []) := by
  obtain ⟨hx, hb, hml, hown, hts, hK, hX, hbl, hAd, hAo, hE, hL, hst⟩ := id C
  obtain ⟨hl, hP, ⟨f, hO⟩, hS⟩ := S
  obtain ⟨v, w, M1, M2, hvw, hJ, hx1, hx2⟩ := hst2.ex
  refine W.widen (k := cells + 1) (n := slots + 6) (Nat.le_succ _) (Nat.le_add_right _ _) ?_
  have hR := hR0
  refine lv_aload_n hx hb dL_law_638 rfl (lv_at hl 3 rfl) ?_
  refine law_arg (j := 1) (by decide) C hk hS (lv_at hl 4 rfl) (lv_at hl 0 rfl) dL_law_639 dL_law_640 dL_law_642 dL_law_643 dL_law_644 ?_
  refine ct_callV (A := (fun q : Nat => s.heap.size ≤ q)) (A1 := (fun q : Nat => s.heap.size ≤ q ∧ q ≠ o)) (ad := ad) (S := SALL) (M := M) (M' := M1) (r := [aI v]) (d := 15) (z := 107) (n := 0) (a := 0) (as' := [aI (arx xs k 1)]) ⟨hx, hb, hown, hts, hK, hl.1.trans hml.symm⟩ hAd SALL_clo hP (by decide) (by decide +kernel) (by decide +kernel) (show npar 107 = some 1 from by decide +kernel) (Or.inl ⟨rfl, (show ∀ g ∈ mdG 107, 2 ≤ g from by decide +kernel), (show 2 ≤ mdL 107 from by decide +kernel)⟩) (srs_r (show 0 ∈ SALL from by decide +kernel) rfl (SRs.i srs_n)) cwm_306 ⟨Nat.le_of_ble_eq_true rfl, Nat.le_of_ble_eq_true rfl⟩ ⟨hR.1, hR.2⟩ hx1 dL_law_645 (Nat.le_of_ble_eq_true rfl) (rest := []) rfl hS (fun q9 h9 => h9.1) (fun H1 locs1 hP1 hz hk1 hS1 => ?_)
  have hO := outW_kept hO (hk1 o (outW_lt hO) (fun h9 => h9.2 rfl))
  have hP := hP1
  have hS := hS1
  clear hP1 hS1 hk1 hz
  generalize H1 = H at hP hO hS ⊢
  generalize locs1 = locs at hS ⊢
  refine W.eq (g2 := F0 m 648 ls [.int (Int32.ofInt v)]) rfl ?_
  refine lv_aload_n hx hb dL_law_648 rfl (lv_at hl 2 rfl) ?_
  refine law_arg (j := 1) (by decide) C hk hS (lv_at hl 4 rfl) (lv_at hl 0 rfl) dL_law_649 dL_law_650 dL_law_652 dL_law_653 dL_law_654 ?_
  refine ct_callV (A := (fun q : Nat => s.heap.size ≤ q)) (A1 := (fun q : Nat => s.heap.size ≤ q ∧ q ≠ o)) (ad := ad) (S := SALL) (M := M1) (M' := M2) (r := [aI w]) (d := 15) (z := 184) (n := 0) (a := 67) (as' := [aI (arx xs k 1)]) ⟨hx, hb, hown, hts, hK, hl.1.trans hml.symm⟩ hAd SALL_clo hP (by decide) (by decide +kernel) (by decide +kernel) (show npar 184 = some 1 from by decide +kernel) (Or.inl ⟨rfl, (show ∀ g ∈ mdG 184, 2 ≤ g from by decide +kernel), (show 2 ≤ mdL 184 from by decide +kernel)⟩) (srs_r (show 67 ∈ SALL from by decide +kernel) rfl (SRs.i srs_n)) cwm_307 ⟨Nat.le_of_ble_eq_true rfl, Nat.le_of_ble_eq_true rfl⟩ ⟨hR.1, hR.2⟩ hx2 dL_law_655 (Nat.le_of_ble_eq_true rfl) (rest := [.int (Int32.ofInt v)]) rfl hS (fun q9 h9 => h9.1) (fun H1 locs1 hP1 hz hk1 hS1 => ?_)
  have hO := outW_kept hO (hk1 o (outW_lt hO) (fun h9 => h9.2 rfl))
  have hP := hP1
  have hS := hS1
  clear hP1 hS1 hk1 hz
  generalize H1 = H at hP hO hS ⊢
  generalize locs1 = locs at hS ⊢
  refine W.eq (g2 := F0 m 658 ls [.int (Int32.ofInt w), .int (Int32.ofInt v)]) rfl ?_
  refine lv_icmp_eq hx hb dL_law_658 (tgt := 1144) (by decide) (fun _ => nxt M2 H locs ls hJ ⟨hl, hP, ⟨f, hO⟩, hS⟩) (fun h9 => absurd (eq32.mpr hvw) h9)
set_option maxHeartbeats 4000000 in
set_option maxRecDepth 100000 in
theorem lc_14 (C : LwC l p s m c b L xs D T ad o t1 t2 t3 t4) (hk : 6 * k + 6 ≤ L) (hst2 : Step2 108 185 [aI (arx xs k 1)] M J) (hR0 : cells + 1 ≤ room_1.cells ∧ slots + 6 ≤ room_1.slots) (S : LwS s b D T ad o k M H locs ls) (nxt : ∀ (M : Mem) (H : Heap) (locs : List Loc) (ls : Array Slot), J M → LwS s b D T ad o k M H locs ls → W p l e room_1 s m #[Value.ref b] below meth c H locs (cells + 1) (slots + 6) Q (F0 m 1144 ls [])) : W p l e room_1 s m #[Value.ref b] below meth c H locs cells slots Q (F0 m 663 ls []) := by
  obtain ⟨hx, hb, hml, hown, hts, hK, hX, hbl, hAd, hAo, hE, hL, hst⟩ := id C
  obtain ⟨hl, hP, ⟨f, hO⟩, hS⟩ := S
  obtain ⟨v, w, M1, M2, hvw, hJ, hx1, hx2⟩ := hst2.ex
  refine W.widen (k := cells + 1) (n := slots + 6) (Nat.le_succ _) (Nat.le_add_right _ _) ?_
  have hR := hR0
  refine lv_aload_n hx hb dL_law_663 rfl (lv_at hl 3 rfl) ?_
  refine law_arg (j := 1) (by decide) C hk hS (lv_at hl 4 rfl) (lv_at hl 0 rfl) dL_law_664 dL_law_665 dL_law_667 dL_law_668 dL_law_669 ?_
  refine ct_callV (A := (fun q : Nat => s.heap.size ≤ q)) (A1 := (fun q : Nat => s.heap.size ≤ q ∧ q ≠ o)) (ad := ad) (S := SALL) (M := M) (M' := M1) (r := [aI v]) (d := 15) (z := 108) (n := 0) (a := 0) (as' := [aI (arx xs k 1)]) ⟨hx, hb, hown, hts, hK, hl.1.trans hml.symm⟩ hAd SALL_clo hP (by decide) (by decide +kernel) (by decide +kernel) (show npar 108 = some 1 from by decide +kernel) (Or.inl ⟨rfl, (show ∀ g ∈ mdG 108, 2 ≤ g from by decide +kernel), (show 2 ≤ mdL 108 from by decide +kernel)⟩) (srs_r (show 0 ∈ SALL from by decide +kernel) rfl (SRs.i srs_n)) cwm_308 ⟨Nat.le_of_ble_eq_true rfl, Nat.le_of_ble_eq_true rfl⟩ ⟨hR.1, hR.2⟩ hx1 dL_law_670 (Nat.le_of_ble_eq_true rfl) (rest := []) rfl hS (fun q9 h9 => h9.1) (fun H1 locs1 hP1 hz hk1 hS1 => ?_)
  have hO := outW_kept hO (hk1 o (outW_lt hO) (fun h9 => h9.2 rfl))
  have hP := hP1
  have hS := hS1
  clear hP1 hS1 hk1 hz
  generalize H1 = H at hP hO hS ⊢
  generalize locs1 = locs at hS ⊢
  refine W.eq (g2 := F0 m 673 ls [.int (Int32.ofInt v)]) rfl ?_
  refine lv_aload_n hx hb dL_law_673 rfl (lv_at hl 2 rfl) ?_
  refine law_arg (j := 1) (by decide) C hk hS (lv_at hl 4 rfl) (lv_at hl 0 rfl) dL_law_674 dL_law_675 dL_law_677 dL_law_678 dL_law_679 ?_
  refine ct_callV (A := (fun q : Nat => s.heap.size ≤ q)) (A1 := (fun q : Nat => s.heap.size ≤ q ∧ q ≠ o)) (ad := ad) (S := SALL) (M := M1) (M' := M2) (r := [aI w]) (d := 15) (z := 185) (n := 0) (a := 67) (as' := [aI (arx xs k 1)]) ⟨hx, hb, hown, hts, hK, hl.1.trans hml.symm⟩ hAd SALL_clo hP (by decide) (by decide +kernel) (by decide +kernel) (show npar 185 = some 1 from by decide +kernel) (Or.inl ⟨rfl, (show ∀ g ∈ mdG 185, 2 ≤ g from by decide +kernel), (show 2 ≤ mdL 185 from by decide +kernel)⟩) (srs_r (show 67 ∈ SALL from by decide +kernel) rfl (SRs.i srs_n)) cwm_309 ⟨Nat.le_of_ble_eq_true rfl, Nat.le_of_ble_eq_true rfl⟩ ⟨hR.1, hR.2⟩ hx2 dL_law_680 (Nat.le_of_ble_eq_true rfl) (rest := [.int (Int32.ofInt v)]) rfl hS (fun q9 h9 => h9.1) (fun H1 locs1 hP1 hz hk1 hS1 => ?_)
  have hO := outW_kept hO (hk1 o (outW_lt hO) (fun h9 => h9.2 rfl))
  have hP := hP1
  have hS := hS1
  clear hP1 hS1 hk1 hz
  generalize H1 = H at hP hO hS ⊢
  generalize locs1 = locs at hS ⊢
  refine W.eq (g2 := F0 m 683 ls [.int (Int32.ofInt w), .int (Int32.ofInt v)]) rfl ?_
  refine lv_icmp_eq hx hb dL_law_683 (tgt := 1144) (by decide) (fun _ => nxt M2 H locs ls hJ ⟨hl, hP, ⟨f, hO⟩, hS⟩) (fun h9 => absurd (eq32.mpr hvw) h9)
set_option maxHeartbeats 4000000 in
set_option maxRecDepth 100000 in
theorem lc_15 (C : LwC l p s m c b L xs D T ad o t1 t2 t3 t4) (hk : 6 * k + 6 ≤ L) (hst2 : Step2 109 186 [] M J) (hR0 : cells + 1 ≤ room_1.cells ∧ slots + 6 ≤ room_1.slots) (S : LwS s b D T ad o k M H locs ls) (nxt : ∀ (M : Mem) (H : Heap) (locs : List Loc) (ls : Array Slot), J M → LwS s b D T ad o k M H locs ls → W p l e room_1 s m #[Value.ref b] below meth c H locs (cells + 1) (slots + 6) Q (F0 m 1144 ls [])) : W p l e room_1 s m #[Value.ref b] below meth c H locs cells slots Q (F0 m 688 ls []) := by
  obtain ⟨hx, hb, hml, hown, hts, hK, hX, hbl, hAd, hAo, hE, hL, hst⟩ := id C
  obtain ⟨hl, hP, ⟨f, hO⟩, hS⟩ := S
  obtain ⟨v, w, M1, M2, hvw, hJ, hx1, hx2⟩ := hst2.ex
  refine W.widen (k := cells + 1) (n := slots + 6) (Nat.le_succ _) (Nat.le_add_right _ _) ?_
  have hR := hR0
  refine lv_aload_n hx hb dL_law_688 rfl (lv_at hl 3 rfl) ?_
  refine ct_callV (A := (fun q : Nat => s.heap.size ≤ q)) (A1 := (fun q : Nat => s.heap.size ≤ q ∧ q ≠ o)) (ad := ad) (S := SALL) (M := M) (M' := M1) (r := [aI v]) (d := 15) (z := 109) (n := 0) (a := 0) (as' := []) ⟨hx, hb, hown, hts, hK, hl.1.trans hml.symm⟩ hAd SALL_clo hP (by decide) (by decide +kernel) (by decide +kernel) (show npar 109 = some 0 from by decide +kernel) (Or.inl ⟨rfl, (show ∀ g ∈ mdG 109, 1 ≤ g from by decide +kernel), (show 1 ≤ mdL 109 from by decide +kernel)⟩) (srs_r (show 0 ∈ SALL from by decide +kernel) rfl srs_n) cwm_310 ⟨Nat.le_of_ble_eq_true rfl, Nat.le_of_ble_eq_true rfl⟩ ⟨hR.1, hR.2⟩ hx1 dL_law_689 (Nat.le_of_ble_eq_true rfl) (rest := []) rfl hS (fun q9 h9 => h9.1) (fun H1 locs1 hP1 hz hk1 hS1 => ?_)
  have hO := outW_kept hO (hk1 o (outW_lt hO) (fun h9 => h9.2 rfl))
  have hP := hP1
  have hS := hS1
  clear hP1 hS1 hk1 hz
  generalize H1 = H at hP hO hS ⊢
  generalize locs1 = locs at hS ⊢
  refine W.eq (g2 := F0 m 692 ls [.int (Int32.ofInt v)]) rfl ?_
  refine lv_aload_n hx hb dL_law_692 rfl (lv_at hl 2 rfl) ?_
  refine ct_callV (A := (fun q : Nat => s.heap.size ≤ q)) (A1 := (fun q : Nat => s.heap.size ≤ q ∧ q ≠ o)) (ad := ad) (S := SALL) (M := M1) (M' := M2) (r := [aI w]) (d := 15) (z := 186) (n := 0) (a := 67) (as' := []) ⟨hx, hb, hown, hts, hK, hl.1.trans hml.symm⟩ hAd SALL_clo hP (by decide) (by decide +kernel) (by decide +kernel) (show npar 186 = some 0 from by decide +kernel) (Or.inl ⟨rfl, (show ∀ g ∈ mdG 186, 1 ≤ g from by decide +kernel), (show 1 ≤ mdL 186 from by decide +kernel)⟩) (srs_r (show 67 ∈ SALL from by decide +kernel) rfl srs_n) cwm_311 ⟨Nat.le_of_ble_eq_true rfl, Nat.le_of_ble_eq_true rfl⟩ ⟨hR.1, hR.2⟩ hx2 dL_law_693 (Nat.le_of_ble_eq_true rfl) (rest := [.int (Int32.ofInt v)]) rfl hS (fun q9 h9 => h9.1) (fun H1 locs1 hP1 hz hk1 hS1 => ?_)
  have hO := outW_kept hO (hk1 o (outW_lt hO) (fun h9 => h9.2 rfl))
  have hP := hP1
  have hS := hS1
  clear hP1 hS1 hk1 hz
  generalize H1 = H at hP hO hS ⊢
  generalize locs1 = locs at hS ⊢
  refine W.eq (g2 := F0 m 696 ls [.int (Int32.ofInt w), .int (Int32.ofInt v)]) rfl ?_
  refine lv_icmp_eq hx hb dL_law_696 (tgt := 1144) (by decide) (fun _ => nxt M2 H locs ls hJ ⟨hl, hP, ⟨f, hO⟩, hS⟩) (fun h9 => absurd (eq32.mpr hvw) h9)
set_option maxHeartbeats 4000000 in
set_option maxRecDepth 100000 in
theorem lc_16 (C : LwC l p s m c b L xs D T ad o t1 t2 t3 t4) (hk : 6 * k + 6 ≤ L) (hst2 : Step2 110 187 [aI (arx xs k 1), aI (arx xs k 2)] M J) (hR0 : cells + 1 ≤ room_1.cells ∧ slots + 6 ≤ room_1.slots) (S : LwS s b D T ad o k M H locs ls) (nxt : ∀ (M : Mem) (H : Heap) (locs : List Loc) (ls : Array Slot), J M → LwS s b D T ad o k M H locs ls → W p l e room_1 s m #[Value.ref b] below meth c H locs (cells + 1) (slots + 6) Q (F0 m 1144 ls [])) : W p l e room_1 s m #[Value.ref b] below meth c H locs cells slots Q (F0 m 701 ls []) := by
  obtain ⟨hx, hb, hml, hown, hts, hK, hX, hbl, hAd, hAo, hE, hL, hst⟩ := id C
  obtain ⟨hl, hP, ⟨f, hO⟩, hS⟩ := S
  obtain ⟨v, w, M1, M2, hvw, hJ, hx1, hx2⟩ := hst2.ex
  refine W.widen (k := cells + 1) (n := slots + 6) (Nat.le_succ _) (Nat.le_add_right _ _) ?_
  have hR := hR0
  refine lv_aload_n hx hb dL_law_701 rfl (lv_at hl 3 rfl) ?_
  refine law_arg (j := 1) (by decide) C hk hS (lv_at hl 4 rfl) (lv_at hl 0 rfl) dL_law_702 dL_law_703 dL_law_705 dL_law_706 dL_law_707 ?_
  refine law_arg (j := 2) (by decide) C hk hS (lv_at hl 4 rfl) (lv_at hl 0 rfl) dL_law_708 dL_law_709 dL_law_711 dL_law_712 dL_law_713 ?_
  refine ct_callV (A := (fun q : Nat => s.heap.size ≤ q)) (A1 := (fun q : Nat => s.heap.size ≤ q ∧ q ≠ o)) (ad := ad) (S := SALL) (M := M) (M' := M1) (r := [aI v]) (d := 15) (z := 110) (n := 0) (a := 0) (as' := [aI (arx xs k 1), aI (arx xs k 2)]) ⟨hx, hb, hown, hts, hK, hl.1.trans hml.symm⟩ hAd SALL_clo hP (by decide) (by decide +kernel) (by decide +kernel) (show npar 110 = some 2 from by decide +kernel) (Or.inl ⟨rfl, (show ∀ g ∈ mdG 110, 3 ≤ g from by decide +kernel), (show 3 ≤ mdL 110 from by decide +kernel)⟩) (srs_r (show 0 ∈ SALL from by decide +kernel) rfl (SRs.i (SRs.i srs_n))) cwm_312 ⟨Nat.le_of_ble_eq_true rfl, Nat.le_of_ble_eq_true rfl⟩ ⟨hR.1, hR.2⟩ hx1 dL_law_714 (Nat.le_of_ble_eq_true rfl) (rest := []) rfl hS (fun q9 h9 => h9.1) (fun H1 locs1 hP1 hz hk1 hS1 => ?_)
  have hO := outW_kept hO (hk1 o (outW_lt hO) (fun h9 => h9.2 rfl))
  have hP := hP1
  have hS := hS1
  clear hP1 hS1 hk1 hz
  generalize H1 = H at hP hO hS ⊢
  generalize locs1 = locs at hS ⊢
  refine W.eq (g2 := F0 m 717 ls [.int (Int32.ofInt v)]) rfl ?_
  refine lv_aload_n hx hb dL_law_717 rfl (lv_at hl 2 rfl) ?_
  refine law_arg (j := 1) (by decide) C hk hS (lv_at hl 4 rfl) (lv_at hl 0 rfl) dL_law_718 dL_law_719 dL_law_721 dL_law_722 dL_law_723 ?_
  refine law_arg (j := 2) (by decide) C hk hS (lv_at hl 4 rfl) (lv_at hl 0 rfl) dL_law_724 dL_law_725 dL_law_727 dL_law_728 dL_law_729 ?_
  refine ct_callV (A := (fun q : Nat => s.heap.size ≤ q)) (A1 := (fun q : Nat => s.heap.size ≤ q ∧ q ≠ o)) (ad := ad) (S := SALL) (M := M1) (M' := M2) (r := [aI w]) (d := 15) (z := 187) (n := 0) (a := 67) (as' := [aI (arx xs k 1), aI (arx xs k 2)]) ⟨hx, hb, hown, hts, hK, hl.1.trans hml.symm⟩ hAd SALL_clo hP (by decide) (by decide +kernel) (by decide +kernel) (show npar 187 = some 2 from by decide +kernel) (Or.inl ⟨rfl, (show ∀ g ∈ mdG 187, 3 ≤ g from by decide +kernel), (show 3 ≤ mdL 187 from by decide +kernel)⟩) (srs_r (show 67 ∈ SALL from by decide +kernel) rfl (SRs.i (SRs.i srs_n))) cwm_313 ⟨Nat.le_of_ble_eq_true rfl, Nat.le_of_ble_eq_true rfl⟩ ⟨hR.1, hR.2⟩ hx2 dL_law_730 (Nat.le_of_ble_eq_true rfl) (rest := [.int (Int32.ofInt v)]) rfl hS (fun q9 h9 => h9.1) (fun H1 locs1 hP1 hz hk1 hS1 => ?_)
  have hO := outW_kept hO (hk1 o (outW_lt hO) (fun h9 => h9.2 rfl))
  have hP := hP1
  have hS := hS1
  clear hP1 hS1 hk1 hz
  generalize H1 = H at hP hO hS ⊢
  generalize locs1 = locs at hS ⊢
  refine W.eq (g2 := F0 m 733 ls [.int (Int32.ofInt w), .int (Int32.ofInt v)]) rfl ?_
  refine lv_icmp_eq hx hb dL_law_733 (tgt := 1144) (by decide) (fun _ => nxt M2 H locs ls hJ ⟨hl, hP, ⟨f, hO⟩, hS⟩) (fun h9 => absurd (eq32.mpr hvw) h9)
set_option maxHeartbeats 4000000 in
set_option maxRecDepth 100000 in
theorem lc_17 (C : LwC l p s m c b L xs D T ad o t1 t2 t3 t4) (hk : 6 * k + 6 ≤ L) (hst2 : Step2 111 188 [aI (arx xs k 1)] M J) (hR0 : cells + 1 ≤ room_1.cells ∧ slots + 6 ≤ room_1.slots) (S : LwS s b D T ad o k M H locs ls) (nxt : ∀ (M : Mem) (H : Heap) (locs : List Loc) (ls : Array Slot), J M → LwS s b D T ad o k M H locs ls → W p l e room_1 s m #[Value.ref b] below meth c H locs (cells + 1) (slots + 6) Q (F0 m 1144 ls [])) : W p l e room_1 s m #[Value.ref b] below meth c H locs cells slots Q (F0 m 738 ls []) := by
  obtain ⟨hx, hb, hml, hown, hts, hK, hX, hbl, hAd, hAo, hE, hL, hst⟩ := id C
  obtain ⟨hl, hP, ⟨f, hO⟩, hS⟩ := S
  obtain ⟨v, w, M1, M2, hvw, hJ, hx1, hx2⟩ := hst2.ex
  refine W.widen (k := cells + 1) (n := slots + 6) (Nat.le_succ _) (Nat.le_add_right _ _) ?_
  have hR := hR0
  refine lv_aload_n hx hb dL_law_738 rfl (lv_at hl 3 rfl) ?_
  refine law_arg (j := 1) (by decide) C hk hS (lv_at hl 4 rfl) (lv_at hl 0 rfl) dL_law_739 dL_law_740 dL_law_742 dL_law_743 dL_law_744 ?_
  refine ct_callV (A := (fun q : Nat => s.heap.size ≤ q)) (A1 := (fun q : Nat => s.heap.size ≤ q ∧ q ≠ o)) (ad := ad) (S := SALL) (M := M) (M' := M1) (r := [aI v]) (d := 15) (z := 111) (n := 0) (a := 0) (as' := [aI (arx xs k 1)]) ⟨hx, hb, hown, hts, hK, hl.1.trans hml.symm⟩ hAd SALL_clo hP (by decide) (by decide +kernel) (by decide +kernel) (show npar 111 = some 1 from by decide +kernel) (Or.inl ⟨rfl, (show ∀ g ∈ mdG 111, 2 ≤ g from by decide +kernel), (show 2 ≤ mdL 111 from by decide +kernel)⟩) (srs_r (show 0 ∈ SALL from by decide +kernel) rfl (SRs.i srs_n)) cwm_314 ⟨Nat.le_of_ble_eq_true rfl, Nat.le_of_ble_eq_true rfl⟩ ⟨hR.1, hR.2⟩ hx1 dL_law_745 (Nat.le_of_ble_eq_true rfl) (rest := []) rfl hS (fun q9 h9 => h9.1) (fun H1 locs1 hP1 hz hk1 hS1 => ?_)
  have hO := outW_kept hO (hk1 o (outW_lt hO) (fun h9 => h9.2 rfl))
  have hP := hP1
  have hS := hS1
  clear hP1 hS1 hk1 hz
  generalize H1 = H at hP hO hS ⊢
  generalize locs1 = locs at hS ⊢
  refine W.eq (g2 := F0 m 748 ls [.int (Int32.ofInt v)]) rfl ?_
  refine lv_aload_n hx hb dL_law_748 rfl (lv_at hl 2 rfl) ?_
  refine law_arg (j := 1) (by decide) C hk hS (lv_at hl 4 rfl) (lv_at hl 0 rfl) dL_law_749 dL_law_750 dL_law_752 dL_law_753 dL_law_754 ?_
  refine ct_callV (A := (fun q : Nat => s.heap.size ≤ q)) (A1 := (fun q : Nat => s.heap.size ≤ q ∧ q ≠ o)) (ad := ad) (S := SALL) (M := M1) (M' := M2) (r := [aI w]) (d := 15) (z := 188) (n := 0) (a := 67) (as' := [aI (arx xs k 1)]) ⟨hx, hb, hown, hts, hK, hl.1.trans hml.symm⟩ hAd SALL_clo hP (by decide) (by decide +kernel) (by decide +kernel) (show npar 188 = some 1 from by decide +kernel) (Or.inl ⟨rfl, (show ∀ g ∈ mdG 188, 2 ≤ g from by decide +kernel), (show 2 ≤ mdL 188 from by decide +kernel)⟩) (srs_r (show 67 ∈ SALL from by decide +kernel) rfl (SRs.i srs_n)) cwm_315 ⟨Nat.le_of_ble_eq_true rfl, Nat.le_of_ble_eq_true rfl⟩ ⟨hR.1, hR.2⟩ hx2 dL_law_755 (Nat.le_of_ble_eq_true rfl) (rest := [.int (Int32.ofInt v)]) rfl hS (fun q9 h9 => h9.1) (fun H1 locs1 hP1 hz hk1 hS1 => ?_)
  have hO := outW_kept hO (hk1 o (outW_lt hO) (fun h9 => h9.2 rfl))
  have hP := hP1
  have hS := hS1
  clear hP1 hS1 hk1 hz
  generalize H1 = H at hP hO hS ⊢
  generalize locs1 = locs at hS ⊢
  refine W.eq (g2 := F0 m 758 ls [.int (Int32.ofInt w), .int (Int32.ofInt v)]) rfl ?_
  refine lv_icmp_eq hx hb dL_law_758 (tgt := 1144) (by decide) (fun _ => nxt M2 H locs ls hJ ⟨hl, hP, ⟨f, hO⟩, hS⟩) (fun h9 => absurd (eq32.mpr hvw) h9)
set_option maxHeartbeats 4000000 in
set_option maxRecDepth 100000 in
theorem lc_18 (C : LwC l p s m c b L xs D T ad o t1 t2 t3 t4) (hk : 6 * k + 6 ≤ L) (hst2 : Step2 112 190 [] M J) (hR0 : cells + 1 ≤ room_1.cells ∧ slots + 6 ≤ room_1.slots) (S : LwS s b D T ad o k M H locs ls) (nxt : ∀ (M : Mem) (H : Heap) (locs : List Loc) (ls : Array Slot), J M → LwS s b D T ad o k M H locs ls → W p l e room_1 s m #[Value.ref b] below meth c H locs (cells + 1) (slots + 6) Q (F0 m 1144 ls [])) : W p l e room_1 s m #[Value.ref b] below meth c H locs cells slots Q (F0 m 763 ls []) := by
  obtain ⟨hx, hb, hml, hown, hts, hK, hX, hbl, hAd, hAo, hE, hL, hst⟩ := id C
  obtain ⟨hl, hP, ⟨f, hO⟩, hS⟩ := S
  obtain ⟨v, w, M1, M2, hvw, hJ, hx1, hx2⟩ := hst2.ex
  refine W.widen (k := cells + 1) (n := slots + 6) (Nat.le_succ _) (Nat.le_add_right _ _) ?_
  have hR := hR0
  refine lv_aload_n hx hb dL_law_763 rfl (lv_at hl 3 rfl) ?_
  refine ct_callV (A := (fun q : Nat => s.heap.size ≤ q)) (A1 := (fun q : Nat => s.heap.size ≤ q ∧ q ≠ o)) (ad := ad) (S := SALL) (M := M) (M' := M1) (r := [aI v]) (d := 15) (z := 112) (n := 0) (a := 0) (as' := []) ⟨hx, hb, hown, hts, hK, hl.1.trans hml.symm⟩ hAd SALL_clo hP (by decide) (by decide +kernel) (by decide +kernel) (show npar 112 = some 0 from by decide +kernel) (Or.inl ⟨rfl, (show ∀ g ∈ mdG 112, 1 ≤ g from by decide +kernel), (show 1 ≤ mdL 112 from by decide +kernel)⟩) (srs_r (show 0 ∈ SALL from by decide +kernel) rfl srs_n) cwm_316 ⟨Nat.le_of_ble_eq_true rfl, Nat.le_of_ble_eq_true rfl⟩ ⟨hR.1, hR.2⟩ hx1 dL_law_764 (Nat.le_of_ble_eq_true rfl) (rest := []) rfl hS (fun q9 h9 => h9.1) (fun H1 locs1 hP1 hz hk1 hS1 => ?_)
  have hO := outW_kept hO (hk1 o (outW_lt hO) (fun h9 => h9.2 rfl))
  have hP := hP1
  have hS := hS1
  clear hP1 hS1 hk1 hz
  generalize H1 = H at hP hO hS ⊢
  generalize locs1 = locs at hS ⊢
  refine W.eq (g2 := F0 m 767 ls [.int (Int32.ofInt v)]) rfl ?_
  refine lv_aload_n hx hb dL_law_767 rfl (lv_at hl 2 rfl) ?_
  refine ct_callV (A := (fun q : Nat => s.heap.size ≤ q)) (A1 := (fun q : Nat => s.heap.size ≤ q ∧ q ≠ o)) (ad := ad) (S := SALL) (M := M1) (M' := M2) (r := [aI w]) (d := 15) (z := 190) (n := 0) (a := 67) (as' := []) ⟨hx, hb, hown, hts, hK, hl.1.trans hml.symm⟩ hAd SALL_clo hP (by decide) (by decide +kernel) (by decide +kernel) (show npar 190 = some 0 from by decide +kernel) (Or.inl ⟨rfl, (show ∀ g ∈ mdG 190, 1 ≤ g from by decide +kernel), (show 1 ≤ mdL 190 from by decide +kernel)⟩) (srs_r (show 67 ∈ SALL from by decide +kernel) rfl srs_n) cwm_317 ⟨Nat.le_of_ble_eq_true rfl, Nat.le_of_ble_eq_true rfl⟩ ⟨hR.1, hR.2⟩ hx2 dL_law_768 (Nat.le_of_ble_eq_true rfl) (rest := [.int (Int32.ofInt v)]) rfl hS (fun q9 h9 => h9.1) (fun H1 locs1 hP1 hz hk1 hS1 => ?_)
  have hO := outW_kept hO (hk1 o (outW_lt hO) (fun h9 => h9.2 rfl))
  have hP := hP1
  have hS := hS1
  clear hP1 hS1 hk1 hz
  generalize H1 = H at hP hO hS ⊢
  generalize locs1 = locs at hS ⊢
  refine W.eq (g2 := F0 m 771 ls [.int (Int32.ofInt w), .int (Int32.ofInt v)]) rfl ?_
  refine lv_icmp_eq hx hb dL_law_771 (tgt := 1144) (by decide) (fun _ => nxt M2 H locs ls hJ ⟨hl, hP, ⟨f, hO⟩, hS⟩) (fun h9 => absurd (eq32.mpr hvw) h9)
set_option maxHeartbeats 4000000 in
set_option maxRecDepth 100000 in
theorem lc_19 (C : LwC l p s m c b L xs D T ad o t1 t2 t3 t4) (hk : 6 * k + 6 ≤ L) (h : 0 ≤ M 4 3 ∧ M 4 3 ≤ 60) (hst2 : StepT 191 ((0 ≤ (arx xs k 1) ∧ (arx xs k 1) < M 4 3) ∧ 0 ≤ (arx xs k 2) ∧ (arx xs k 2) < 4) (M 12 ((arx xs k 1) * 4 + (arx xs k 2))) [aI (arx xs k 1), aI (arx xs k 2)] M J) (hR0 : cells + 1 ≤ room_1.cells ∧ slots + 6 ≤ room_1.slots) (S : LwS s b D T ad o k M H locs ls) (nxt : ∀ (M : Mem) (H : Heap) (locs : List Loc) (ls : Array Slot), J M → LwS s b D T ad o k M H locs ls → W p l e room_1 s m #[Value.ref b] below meth c H locs (cells + 1) (slots + 6) Q (F0 m 1144 ls [])) : W p l e room_1 s m #[Value.ref b] below meth c H locs cells slots Q (F0 m 776 ls []) := by
  obtain ⟨hx, hb, hml, hown, hts, hK, hX, hbl, hAd, hAo, hE, hL, hst⟩ := id C
  obtain ⟨hl, hP, ⟨f, hO⟩, hS⟩ := S
  have hst9 : l.stackTraces = false := hst
  obtain ⟨v, g, M1, M2, hvg, hJ, hx1, hx2⟩ := hst2.ex
  refine lv_aload_n hx hb dL_law_776 rfl (lv_at hl 3 rfl) ?_
  refine law_arg (j := 1) (by decide) C hk hS (lv_at hl 4 rfl) (lv_at hl 0 rfl) dL_law_777 dL_law_778 dL_law_780 dL_law_781 dL_law_782 ?_
  refine law_arg (j := 2) (by decide) C hk hS (lv_at hl 4 rfl) (lv_at hl 0 rfl) dL_law_783 dL_law_784 dL_law_786 dL_law_787 dL_law_788 ?_
  refine lv_aload_n hx hb dL_law_789 rfl (lv_at hl 1 rfl) ?_
  refine vx_calli (A0 := (fun q : Nat => s.heap.size ≤ q)) (vx_runSX (R := room_1) (As := [.ref (ad 0), .int (Int32.ofInt (arx xs k 1)), .int (Int32.ofInt (arx xs k 2)), .ref o]) (rest := []) ⟨hx, hb, hml, hown, hts⟩ (c_L_act l hst9 D T ad M t1 t2 t3 t4 (fun q : Nat => s.heap.size ≤ q) o hAd hAo (arx xs k 1) (arx xs k 2) arx_I arx_I h) (vx_cwSW 4 hts (good_S cwm_319 cwm_320 cwm_283 cwm_318) rfl rfl rfl (by decide +kernel) ⟨Nat.le_of_ble_eq_true rfl, Nat.le_of_ble_eq_true rfl⟩) ⟨law_blind, fun U hU hW => ⟨rfl, ⟨by rw [hU]; exact hP, va_K.moved hW.alike hK, by rw [hU]; exact (hE.kept hS.2.1).warm hW⟩, f, by rw [hU]; exact hO⟩⟩ rfl rfl hl.1 rfl (Nat.le_of_ble_eq_true rfl) dL_law_790 hR0) hS (fun q9 _ h9 => h9) (fun q9 h9 => h9) (fun q9 _ h9 => h9) (fun E ce q9 u t H1 locs1 ht hvm hp hB hz hk1 hS1 hcell hcv hcl => hp.elim) (fun r u t H1 locs1 ht hvm hp hB hz hk1 hS1 => ?_)
  obtain ⟨rfl, hu⟩ := hp
  obtain ⟨hP1, hO1⟩ := hB
  rw [ht] at hP1 hO1
  have hP := hP1
  have hO := hO1
  have hS := hS1
  clear hP1 hO1 hS1 hk1 hz ht
  generalize H1 = H at hP hO hS ⊢
  generalize locs1 = locs at hS ⊢
  have hR := hR0
  refine W.eq (g2 := F0 m 793 ls [.int (Int32.ofInt (bi (¬ ((0 ≤ (arx xs k 1) ∧ (arx xs k 1) < M 4 3) ∧ 0 ≤ (arx xs k 2) ∧ (arx xs k 2) < 4))))]) rfl ?_
  refine lv_istore (lv' := (5, .int (Int32.ofInt (bi (¬ ((0 ≤ (arx xs k 1) ∧ (arx xs k 1) < M 4 3) ∧ 0 ≤ (arx xs k 2) ∧ (arx xs k 2) < 4))))) :: [(4, .int (Int32.ofInt (6 * (k : Int)))), (3, .ref o), (2, .ref (ad 67)), (1, .ref (ad 0)), (0, .ref b)]) hx hb dL_law_793 hl (by decide) rfl (fun ls hl => ?_)
  refine lv_aload_n hx hb dL_law_795 rfl (lv_at hl 3 rfl) ?_
  refine law_arg (j := 1) (by decide) C hk hS (lv_at hl 5 rfl) (lv_at hl 1 rfl) dL_law_796 dL_law_797 dL_law_799 dL_law_800 dL_law_801 ?_
  refine law_arg (j := 2) (by decide) C hk hS (lv_at hl 5 rfl) (lv_at hl 1 rfl) dL_law_802 dL_law_803 dL_law_805 dL_law_806 dL_law_807 ?_
  refine ct_callV (A := (fun q : Nat => s.heap.size ≤ q)) (A1 := (fun q : Nat => s.heap.size ≤ q ∧ q ≠ o)) (ad := ad) (S := SALL) (M := M) (M' := M1) (r := [aI v]) (d := 15) (z := 191) (n := 0) (a := 67) (as' := [aI (arx xs k 1), aI (arx xs k 2)]) ⟨hx, hb, hown, hts, hK, hl.1.trans hml.symm⟩ hAd SALL_clo hP (by decide) (by decide +kernel) (by decide +kernel) (show npar 191 = some 2 from by decide +kernel) (Or.inl ⟨rfl, (show ∀ g ∈ mdG 191, 3 ≤ g from by decide +kernel), (show 3 ≤ mdL 191 from by decide +kernel)⟩) (srs_r (show 67 ∈ SALL from by decide +kernel) rfl (SRs.i (SRs.i srs_n))) cwm_321 ⟨Nat.le_of_ble_eq_true rfl, Nat.le_of_ble_eq_true rfl⟩ ⟨hR.1, hR.2⟩ hx1 dL_law_808 (Nat.le_of_ble_eq_true rfl) (rest := []) rfl hS (fun q9 h9 => h9.1) (fun H1 locs1 hP1 hz hk1 hS1 => ?_)
  have hO := outW_kept hO (hk1 o (outW_lt hO) (fun h9 => h9.2 rfl))
  have hP := hP1
  have hS := hS1
  clear hP1 hS1 hk1 hz
  generalize H1 = H at hP hO hS ⊢
  generalize locs1 = locs at hS ⊢
  refine W.eq (g2 := F0 m 811 ls [.int (Int32.ofInt v)]) rfl ?_
  refine lv_istore (lv' := (6, .int (Int32.ofInt v)) :: (5, .int (Int32.ofInt (bi (¬ ((0 ≤ (arx xs k 1) ∧ (arx xs k 1) < M 4 3) ∧ 0 ≤ (arx xs k 2) ∧ (arx xs k 2) < 4))))) :: [(4, .int (Int32.ofInt (6 * (k : Int)))), (3, .ref o), (2, .ref (ad 67)), (1, .ref (ad 0)), (0, .ref b)]) hx hb dL_law_811 hl (by decide) rfl (fun ls hl => ?_)
  refine lv_aload_n hx hb dL_law_813 rfl (lv_at hl 4 rfl) ?_
  refine ct_callV (A := (fun q : Nat => s.heap.size ≤ q)) (A1 := (fun q : Nat => s.heap.size ≤ q ∧ q ≠ o)) (ad := ad) (S := SALL) (M := M1) (M' := M2) (r := [aI g]) (d := 15) (z := 128) (n := 0) (a := 67) (as' := []) ⟨hx, hb, hown, hts, hK, hl.1.trans hml.symm⟩ hAd SALL_clo hP (by decide) (by decide +kernel) (by decide +kernel) (show npar 128 = some 0 from by decide +kernel) (Or.inl ⟨rfl, (show ∀ g ∈ mdG 128, 1 ≤ g from by decide +kernel), (show 1 ≤ mdL 128 from by decide +kernel)⟩) (srs_r (show 67 ∈ SALL from by decide +kernel) rfl srs_n) cwm_285 ⟨Nat.le_of_ble_eq_true rfl, Nat.le_of_ble_eq_true rfl⟩ ⟨hR.1, hR.2⟩ hx2 dL_law_814 (Nat.le_of_ble_eq_true rfl) (rest := []) rfl hS (fun q9 h9 => h9.1) (fun H1 locs1 hP1 hz hk1 hS1 => ?_)
  have hO := outW_kept hO (hk1 o (outW_lt hO) (fun h9 => h9.2 rfl))
  have hP := hP1
  have hS := hS1
  clear hP1 hS1 hk1 hz
  generalize H1 = H at hP hO hS ⊢
  generalize locs1 = locs at hS ⊢
  refine W.eq (g2 := F0 m 817 ls [.int (Int32.ofInt g)]) rfl ?_
  refine lv_iload hx hb dL_law_817 (lv_at hl 1 rfl) ?_
  have fin : LwS s b D T ad o k M2 H locs ls := ⟨lv_sub hl [2, 3, 4, 5, 6] rfl, hP, ⟨u, hO⟩, hS⟩
  rcases hvg with ⟨hg, rfl, hvv⟩ | ⟨hg, rfl⟩
  · rw [show bi (¬ ((0 ≤ (arx xs k 1) ∧ (arx xs k 1) < M 4 3) ∧ 0 ≤ (arx xs k 2) ∧ (arx xs k 2) < 4)) = 0 from if_neg (fun h9 => h9 hg)] at hl ⊢
    refine lv_icmp_eq hx hb dL_law_819 (tgt := 824) (by decide) (fun _ => ?_) (fun h9 => absurd rfl h9)
    refine lv_iload hx hb dL_law_824 (lv_at hl 1 rfl) ?_
    refine lv_if_ne hx hb dL_law_826 (tgt := 841) (by decide) (fun h9 => absurd (by decide) h9) (fun _ => ?_)
    refine lv_aload_n hx hb dL_law_829 rfl (lv_at hl 3 rfl) ?_
    refine lv_iconst (v := Int32.ofInt 0) hx hb dL_law_830 (by decide) ?_
    refine va_lald hx hb hK hO 0 1 (f := u) (n := 1) (cA := T 1) rfl rfl (vin (by decide) (by decide) (by decide)) dL_law_831 ?_
    refine lv_iload hx hb dL_law_832 (lv_at hl 0 rfl) ?_
    refine lv_i2l (v := (Int32.ofInt v).toInt64) hx hb dL_law_834 rfl ?_
    refine W.lcmp hx hb dL_law_835 ?_
    have eu : u (Int32.ofInt 0).toNatClampNeg = (Int32.ofInt v).toInt64 := by rw [eq32.mpr hvv]; exact hu hg
    rw [eu, lg_cmp_self]
    refine lv_if_eq hx hb dL_law_836 (tgt := 841) (by decide) (fun _ => ?_) (fun h9 => absurd rfl h9)
    refine lv_goto hx hb dL_law_841 (tgt := 1144) (by decide) ?_
    exact nxt M2 H locs ls hJ fin
  · rw [show bi (¬ ((0 ≤ (arx xs k 1) ∧ (arx xs k 1) < M 4 3) ∧ 0 ≤ (arx xs k 2) ∧ (arx xs k 2) < 4)) = 1 from if_pos hg] at hl ⊢
    refine lv_icmp_eq hx hb dL_law_819 (tgt := 824) (by decide) (fun _ => ?_) (fun h9 => absurd rfl h9)
    refine lv_iload hx hb dL_law_824 (lv_at hl 1 rfl) ?_
    refine lv_if_ne hx hb dL_law_826 (tgt := 841) (by decide) (fun _ => ?_) (fun h9 => absurd h9 (by decide))
    refine lv_goto hx hb dL_law_841 (tgt := 1144) (by decide) ?_
    exact nxt M2 H locs ls hJ fin
set_option maxHeartbeats 4000000 in
set_option maxRecDepth 100000 in
theorem lc_20 (C : LwC l p s m c b L xs D T ad o t1 t2 t3 t4) (hk : 6 * k + 6 ≤ L) (hst2 : Step2 113 202 [aI (arx xs k 1)] M J) (hR0 : cells + 1 ≤ room_1.cells ∧ slots + 6 ≤ room_1.slots) (S : LwS s b D T ad o k M H locs ls) (nxt : ∀ (M : Mem) (H : Heap) (locs : List Loc) (ls : Array Slot), J M → LwS s b D T ad o k M H locs ls → W p l e room_1 s m #[Value.ref b] below meth c H locs (cells + 1) (slots + 6) Q (F0 m 1144 ls [])) : W p l e room_1 s m #[Value.ref b] below meth c H locs cells slots Q (F0 m 844 ls []) := by
  obtain ⟨hx, hb, hml, hown, hts, hK, hX, hbl, hAd, hAo, hE, hL, hst⟩ := id C
  obtain ⟨hl, hP, ⟨f, hO⟩, hS⟩ := S
  obtain ⟨v, w, M1, M2, hvw, hJ, hx1, hx2⟩ := hst2.ex
  refine W.widen (k := cells + 1) (n := slots + 6) (Nat.le_succ _) (Nat.le_add_right _ _) ?_
  have hR := hR0
  refine lv_aload_n hx hb dL_law_844 rfl (lv_at hl 3 rfl) ?_
  refine law_arg (j := 1) (by decide) C hk hS (lv_at hl 4 rfl) (lv_at hl 0 rfl) dL_law_845 dL_law_846 dL_law_848 dL_law_849 dL_law_850 ?_
  refine ct_callV (A := (fun q : Nat => s.heap.size ≤ q)) (A1 := (fun q : Nat => s.heap.size ≤ q ∧ q ≠ o)) (ad := ad) (S := SALL) (M := M) (M' := M1) (r := [aI v]) (d := 15) (z := 113) (n := 0) (a := 0) (as' := [aI (arx xs k 1)]) ⟨hx, hb, hown, hts, hK, hl.1.trans hml.symm⟩ hAd SALL_clo hP (by decide) (by decide +kernel) (by decide +kernel) (show npar 113 = some 1 from by decide +kernel) (Or.inl ⟨rfl, (show ∀ g ∈ mdG 113, 2 ≤ g from by decide +kernel), (show 2 ≤ mdL 113 from by decide +kernel)⟩) (srs_r (show 0 ∈ SALL from by decide +kernel) rfl (SRs.i srs_n)) cwm_322 ⟨Nat.le_of_ble_eq_true rfl, Nat.le_of_ble_eq_true rfl⟩ ⟨hR.1, hR.2⟩ hx1 dL_law_851 (Nat.le_of_ble_eq_true rfl) (rest := []) rfl hS (fun q9 h9 => h9.1) (fun H1 locs1 hP1 hz hk1 hS1 => ?_)
  have hO := outW_kept hO (hk1 o (outW_lt hO) (fun h9 => h9.2 rfl))
  have hP := hP1
  have hS := hS1
  clear hP1 hS1 hk1 hz
  generalize H1 = H at hP hO hS ⊢
  generalize locs1 = locs at hS ⊢
  refine W.eq (g2 := F0 m 854 ls [.int (Int32.ofInt v)]) rfl ?_
  refine lv_aload_n hx hb dL_law_854 rfl (lv_at hl 2 rfl) ?_
  refine law_arg (j := 1) (by decide) C hk hS (lv_at hl 4 rfl) (lv_at hl 0 rfl) dL_law_855 dL_law_856 dL_law_858 dL_law_859 dL_law_860 ?_
  refine ct_callV (A := (fun q : Nat => s.heap.size ≤ q)) (A1 := (fun q : Nat => s.heap.size ≤ q ∧ q ≠ o)) (ad := ad) (S := SALL) (M := M1) (M' := M2) (r := [aI w]) (d := 15) (z := 202) (n := 0) (a := 67) (as' := [aI (arx xs k 1)]) ⟨hx, hb, hown, hts, hK, hl.1.trans hml.symm⟩ hAd SALL_clo hP (by decide) (by decide +kernel) (by decide +kernel) (show npar 202 = some 1 from by decide +kernel) (Or.inl ⟨rfl, (show ∀ g ∈ mdG 202, 2 ≤ g from by decide +kernel), (show 2 ≤ mdL 202 from by decide +kernel)⟩) (srs_r (show 67 ∈ SALL from by decide +kernel) rfl (SRs.i srs_n)) cwm_323 ⟨Nat.le_of_ble_eq_true rfl, Nat.le_of_ble_eq_true rfl⟩ ⟨hR.1, hR.2⟩ hx2 dL_law_861 (Nat.le_of_ble_eq_true rfl) (rest := [.int (Int32.ofInt v)]) rfl hS (fun q9 h9 => h9.1) (fun H1 locs1 hP1 hz hk1 hS1 => ?_)
  have hO := outW_kept hO (hk1 o (outW_lt hO) (fun h9 => h9.2 rfl))
  have hP := hP1
  have hS := hS1
  clear hP1 hS1 hk1 hz
  generalize H1 = H at hP hO hS ⊢
  generalize locs1 = locs at hS ⊢
  refine W.eq (g2 := F0 m 864 ls [.int (Int32.ofInt w), .int (Int32.ofInt v)]) rfl ?_
  refine lv_icmp_eq hx hb dL_law_864 (tgt := 1144) (by decide) (fun _ => nxt M2 H locs ls hJ ⟨hl, hP, ⟨f, hO⟩, hS⟩) (fun h9 => absurd (eq32.mpr hvw) h9)
set_option maxHeartbeats 4000000 in
set_option maxRecDepth 100000 in
theorem lc_21 (C : LwC l p s m c b L xs D T ad o t1 t2 t3 t4) (hk : 6 * k + 6 ≤ L) (hst2 : Step2 114 203 [aI (arx xs k 1)] M J) (hR0 : cells + 1 ≤ room_1.cells ∧ slots + 6 ≤ room_1.slots) (S : LwS s b D T ad o k M H locs ls) (nxt : ∀ (M : Mem) (H : Heap) (locs : List Loc) (ls : Array Slot), J M → LwS s b D T ad o k M H locs ls → W p l e room_1 s m #[Value.ref b] below meth c H locs (cells + 1) (slots + 6) Q (F0 m 1144 ls [])) : W p l e room_1 s m #[Value.ref b] below meth c H locs cells slots Q (F0 m 869 ls []) := by
  obtain ⟨hx, hb, hml, hown, hts, hK, hX, hbl, hAd, hAo, hE, hL, hst⟩ := id C
  obtain ⟨hl, hP, ⟨f, hO⟩, hS⟩ := S
  obtain ⟨v, w, M1, M2, hvw, hJ, hx1, hx2⟩ := hst2.ex
  refine W.widen (k := cells + 1) (n := slots + 6) (Nat.le_succ _) (Nat.le_add_right _ _) ?_
  have hR := hR0
  refine lv_aload_n hx hb dL_law_869 rfl (lv_at hl 3 rfl) ?_
  refine law_arg (j := 1) (by decide) C hk hS (lv_at hl 4 rfl) (lv_at hl 0 rfl) dL_law_870 dL_law_871 dL_law_873 dL_law_874 dL_law_875 ?_
  refine ct_callV (A := (fun q : Nat => s.heap.size ≤ q)) (A1 := (fun q : Nat => s.heap.size ≤ q ∧ q ≠ o)) (ad := ad) (S := SALL) (M := M) (M' := M1) (r := [aI v]) (d := 15) (z := 114) (n := 0) (a := 0) (as' := [aI (arx xs k 1)]) ⟨hx, hb, hown, hts, hK, hl.1.trans hml.symm⟩ hAd SALL_clo hP (by decide) (by decide +kernel) (by decide +kernel) (show npar 114 = some 1 from by decide +kernel) (Or.inl ⟨rfl, (show ∀ g ∈ mdG 114, 2 ≤ g from by decide +kernel), (show 2 ≤ mdL 114 from by decide +kernel)⟩) (srs_r (show 0 ∈ SALL from by decide +kernel) rfl (SRs.i srs_n)) cwm_324 ⟨Nat.le_of_ble_eq_true rfl, Nat.le_of_ble_eq_true rfl⟩ ⟨hR.1, hR.2⟩ hx1 dL_law_876 (Nat.le_of_ble_eq_true rfl) (rest := []) rfl hS (fun q9 h9 => h9.1) (fun H1 locs1 hP1 hz hk1 hS1 => ?_)
  have hO := outW_kept hO (hk1 o (outW_lt hO) (fun h9 => h9.2 rfl))
  have hP := hP1
  have hS := hS1
  clear hP1 hS1 hk1 hz
  generalize H1 = H at hP hO hS ⊢
  generalize locs1 = locs at hS ⊢
  refine W.eq (g2 := F0 m 879 ls [.int (Int32.ofInt v)]) rfl ?_
  refine lv_aload_n hx hb dL_law_879 rfl (lv_at hl 2 rfl) ?_
  refine law_arg (j := 1) (by decide) C hk hS (lv_at hl 4 rfl) (lv_at hl 0 rfl) dL_law_880 dL_law_881 dL_law_883 dL_law_884 dL_law_885 ?_
  refine ct_callV (A := (fun q : Nat => s.heap.size ≤ q)) (A1 := (fun q : Nat => s.heap.size ≤ q ∧ q ≠ o)) (ad := ad) (S := SALL) (M := M1) (M' := M2) (r := [aI w]) (d := 15) (z := 203) (n := 0) (a := 67) (as' := [aI (arx xs k 1)]) ⟨hx, hb, hown, hts, hK, hl.1.trans hml.symm⟩ hAd SALL_clo hP (by decide) (by decide +kernel) (by decide +kernel) (show npar 203 = some 1 from by decide +kernel) (Or.inl ⟨rfl, (show ∀ g ∈ mdG 203, 2 ≤ g from by decide +kernel), (show 2 ≤ mdL 203 from by decide +kernel)⟩) (srs_r (show 67 ∈ SALL from by decide +kernel) rfl (SRs.i srs_n)) cwm_325 ⟨Nat.le_of_ble_eq_true rfl, Nat.le_of_ble_eq_true rfl⟩ ⟨hR.1, hR.2⟩ hx2 dL_law_886 (Nat.le_of_ble_eq_true rfl) (rest := [.int (Int32.ofInt v)]) rfl hS (fun q9 h9 => h9.1) (fun H1 locs1 hP1 hz hk1 hS1 => ?_)
  have hO := outW_kept hO (hk1 o (outW_lt hO) (fun h9 => h9.2 rfl))
  have hP := hP1
  have hS := hS1
  clear hP1 hS1 hk1 hz
  generalize H1 = H at hP hO hS ⊢
  generalize locs1 = locs at hS ⊢
  refine W.eq (g2 := F0 m 889 ls [.int (Int32.ofInt w), .int (Int32.ofInt v)]) rfl ?_
  refine lv_icmp_eq hx hb dL_law_889 (tgt := 1144) (by decide) (fun _ => nxt M2 H locs ls hJ ⟨hl, hP, ⟨f, hO⟩, hS⟩) (fun h9 => absurd (eq32.mpr hvw) h9)
set_option maxHeartbeats 4000000 in
set_option maxRecDepth 100000 in
theorem lc_22 (C : LwC l p s m c b L xs D T ad o t1 t2 t3 t4) (hk : 6 * k + 6 ≤ L) (hst2 : Step2 115 204 [aI (arx xs k 1)] M J) (hR0 : cells + 1 ≤ room_1.cells ∧ slots + 6 ≤ room_1.slots) (S : LwS s b D T ad o k M H locs ls) (nxt : ∀ (M : Mem) (H : Heap) (locs : List Loc) (ls : Array Slot), J M → LwS s b D T ad o k M H locs ls → W p l e room_1 s m #[Value.ref b] below meth c H locs (cells + 1) (slots + 6) Q (F0 m 1144 ls [])) : W p l e room_1 s m #[Value.ref b] below meth c H locs cells slots Q (F0 m 894 ls []) := by
  obtain ⟨hx, hb, hml, hown, hts, hK, hX, hbl, hAd, hAo, hE, hL, hst⟩ := id C
  obtain ⟨hl, hP, ⟨f, hO⟩, hS⟩ := S
  obtain ⟨v, w, M1, M2, hvw, hJ, hx1, hx2⟩ := hst2.ex
  refine W.widen (k := cells + 1) (n := slots + 6) (Nat.le_succ _) (Nat.le_add_right _ _) ?_
  have hR := hR0
  refine lv_aload_n hx hb dL_law_894 rfl (lv_at hl 3 rfl) ?_
  refine law_arg (j := 1) (by decide) C hk hS (lv_at hl 4 rfl) (lv_at hl 0 rfl) dL_law_895 dL_law_896 dL_law_898 dL_law_899 dL_law_900 ?_
  refine ct_callV (A := (fun q : Nat => s.heap.size ≤ q)) (A1 := (fun q : Nat => s.heap.size ≤ q ∧ q ≠ o)) (ad := ad) (S := SALL) (M := M) (M' := M1) (r := [aI v]) (d := 15) (z := 115) (n := 0) (a := 0) (as' := [aI (arx xs k 1)]) ⟨hx, hb, hown, hts, hK, hl.1.trans hml.symm⟩ hAd SALL_clo hP (by decide) (by decide +kernel) (by decide +kernel) (show npar 115 = some 1 from by decide +kernel) (Or.inl ⟨rfl, (show ∀ g ∈ mdG 115, 2 ≤ g from by decide +kernel), (show 2 ≤ mdL 115 from by decide +kernel)⟩) (srs_r (show 0 ∈ SALL from by decide +kernel) rfl (SRs.i srs_n)) cwm_326 ⟨Nat.le_of_ble_eq_true rfl, Nat.le_of_ble_eq_true rfl⟩ ⟨hR.1, hR.2⟩ hx1 dL_law_901 (Nat.le_of_ble_eq_true rfl) (rest := []) rfl hS (fun q9 h9 => h9.1) (fun H1 locs1 hP1 hz hk1 hS1 => ?_)
  have hO := outW_kept hO (hk1 o (outW_lt hO) (fun h9 => h9.2 rfl))
  have hP := hP1
  have hS := hS1
  clear hP1 hS1 hk1 hz
  generalize H1 = H at hP hO hS ⊢
  generalize locs1 = locs at hS ⊢
  refine W.eq (g2 := F0 m 904 ls [.int (Int32.ofInt v)]) rfl ?_
  refine lv_aload_n hx hb dL_law_904 rfl (lv_at hl 2 rfl) ?_
  refine law_arg (j := 1) (by decide) C hk hS (lv_at hl 4 rfl) (lv_at hl 0 rfl) dL_law_905 dL_law_906 dL_law_908 dL_law_909 dL_law_910 ?_
  refine ct_callV (A := (fun q : Nat => s.heap.size ≤ q)) (A1 := (fun q : Nat => s.heap.size ≤ q ∧ q ≠ o)) (ad := ad) (S := SALL) (M := M1) (M' := M2) (r := [aI w]) (d := 15) (z := 204) (n := 0) (a := 67) (as' := [aI (arx xs k 1)]) ⟨hx, hb, hown, hts, hK, hl.1.trans hml.symm⟩ hAd SALL_clo hP (by decide) (by decide +kernel) (by decide +kernel) (show npar 204 = some 1 from by decide +kernel) (Or.inl ⟨rfl, (show ∀ g ∈ mdG 204, 2 ≤ g from by decide +kernel), (show 2 ≤ mdL 204 from by decide +kernel)⟩) (srs_r (show 67 ∈ SALL from by decide +kernel) rfl (SRs.i srs_n)) cwm_327 ⟨Nat.le_of_ble_eq_true rfl, Nat.le_of_ble_eq_true rfl⟩ ⟨hR.1, hR.2⟩ hx2 dL_law_911 (Nat.le_of_ble_eq_true rfl) (rest := [.int (Int32.ofInt v)]) rfl hS (fun q9 h9 => h9.1) (fun H1 locs1 hP1 hz hk1 hS1 => ?_)
  have hO := outW_kept hO (hk1 o (outW_lt hO) (fun h9 => h9.2 rfl))
  have hP := hP1
  have hS := hS1
  clear hP1 hS1 hk1 hz
  generalize H1 = H at hP hO hS ⊢
  generalize locs1 = locs at hS ⊢
  refine W.eq (g2 := F0 m 914 ls [.int (Int32.ofInt w), .int (Int32.ofInt v)]) rfl ?_
  refine lv_icmp_eq hx hb dL_law_914 (tgt := 1144) (by decide) (fun _ => nxt M2 H locs ls hJ ⟨hl, hP, ⟨f, hO⟩, hS⟩) (fun h9 => absurd (eq32.mpr hvw) h9)
set_option maxHeartbeats 4000000 in
set_option maxRecDepth 100000 in
theorem lc_23 (C : LwC l p s m c b L xs D T ad o t1 t2 t3 t4) (hk : 6 * k + 6 ≤ L) (hst2 : Step2 116 207 [] M J) (hR0 : cells + 1 ≤ room_1.cells ∧ slots + 6 ≤ room_1.slots) (S : LwS s b D T ad o k M H locs ls) (nxt : ∀ (M : Mem) (H : Heap) (locs : List Loc) (ls : Array Slot), J M → LwS s b D T ad o k M H locs ls → W p l e room_1 s m #[Value.ref b] below meth c H locs (cells + 1) (slots + 6) Q (F0 m 1144 ls [])) : W p l e room_1 s m #[Value.ref b] below meth c H locs cells slots Q (F0 m 919 ls []) := by
  obtain ⟨hx, hb, hml, hown, hts, hK, hX, hbl, hAd, hAo, hE, hL, hst⟩ := id C
  obtain ⟨hl, hP, ⟨f, hO⟩, hS⟩ := S
  obtain ⟨v, w, M1, M2, hvw, hJ, hx1, hx2⟩ := hst2.ex
  refine W.widen (k := cells + 1) (n := slots + 6) (Nat.le_succ _) (Nat.le_add_right _ _) ?_
  have hR := hR0
  refine lv_aload_n hx hb dL_law_919 rfl (lv_at hl 3 rfl) ?_
  refine ct_callV (A := (fun q : Nat => s.heap.size ≤ q)) (A1 := (fun q : Nat => s.heap.size ≤ q ∧ q ≠ o)) (ad := ad) (S := SALL) (M := M) (M' := M1) (r := [aI v]) (d := 15) (z := 116) (n := 0) (a := 0) (as' := []) ⟨hx, hb, hown, hts, hK, hl.1.trans hml.symm⟩ hAd SALL_clo hP (by decide) (by decide +kernel) (by decide +kernel) (show npar 116 = some 0 from by decide +kernel) (Or.inl ⟨rfl, (show ∀ g ∈ mdG 116, 1 ≤ g from by decide +kernel), (show 1 ≤ mdL 116 from by decide +kernel)⟩) (srs_r (show 0 ∈ SALL from by decide +kernel) rfl srs_n) cwm_328 ⟨Nat.le_of_ble_eq_true rfl, Nat.le_of_ble_eq_true rfl⟩ ⟨hR.1, hR.2⟩ hx1 dL_law_920 (Nat.le_of_ble_eq_true rfl) (rest := []) rfl hS (fun q9 h9 => h9.1) (fun H1 locs1 hP1 hz hk1 hS1 => ?_)
  have hO := outW_kept hO (hk1 o (outW_lt hO) (fun h9 => h9.2 rfl))
  have hP := hP1
  have hS := hS1
  clear hP1 hS1 hk1 hz
  generalize H1 = H at hP hO hS ⊢
  generalize locs1 = locs at hS ⊢
  refine W.eq (g2 := F0 m 923 ls [.int (Int32.ofInt v)]) rfl ?_
  refine lv_aload_n hx hb dL_law_923 rfl (lv_at hl 2 rfl) ?_
  refine ct_callV (A := (fun q : Nat => s.heap.size ≤ q)) (A1 := (fun q : Nat => s.heap.size ≤ q ∧ q ≠ o)) (ad := ad) (S := SALL) (M := M1) (M' := M2) (r := [aI w]) (d := 15) (z := 207) (n := 0) (a := 67) (as' := []) ⟨hx, hb, hown, hts, hK, hl.1.trans hml.symm⟩ hAd SALL_clo hP (by decide) (by decide +kernel) (by decide +kernel) (show npar 207 = some 0 from by decide +kernel) (Or.inl ⟨rfl, (show ∀ g ∈ mdG 207, 1 ≤ g from by decide +kernel), (show 1 ≤ mdL 207 from by decide +kernel)⟩) (srs_r (show 67 ∈ SALL from by decide +kernel) rfl srs_n) cwm_329 ⟨Nat.le_of_ble_eq_true rfl, Nat.le_of_ble_eq_true rfl⟩ ⟨hR.1, hR.2⟩ hx2 dL_law_924 (Nat.le_of_ble_eq_true rfl) (rest := [.int (Int32.ofInt v)]) rfl hS (fun q9 h9 => h9.1) (fun H1 locs1 hP1 hz hk1 hS1 => ?_)
  have hO := outW_kept hO (hk1 o (outW_lt hO) (fun h9 => h9.2 rfl))
  have hP := hP1
  have hS := hS1
  clear hP1 hS1 hk1 hz
  generalize H1 = H at hP hO hS ⊢
  generalize locs1 = locs at hS ⊢
  refine W.eq (g2 := F0 m 927 ls [.int (Int32.ofInt w), .int (Int32.ofInt v)]) rfl ?_
  refine lv_icmp_eq hx hb dL_law_927 (tgt := 1144) (by decide) (fun _ => nxt M2 H locs ls hJ ⟨hl, hP, ⟨f, hO⟩, hS⟩) (fun h9 => absurd (eq32.mpr hvw) h9)
set_option maxHeartbeats 4000000 in
set_option maxRecDepth 100000 in
theorem lc_24 (C : LwC l p s m c b L xs D T ad o t1 t2 t3 t4) (hk : 6 * k + 6 ≤ L) (hst2 : Step2 118 215 [aI (arx xs k 1)] M J) (hR0 : cells + 1 ≤ room_1.cells ∧ slots + 6 ≤ room_1.slots) (S : LwS s b D T ad o k M H locs ls) (nxt : ∀ (M : Mem) (H : Heap) (locs : List Loc) (ls : Array Slot), J M → LwS s b D T ad o k M H locs ls → W p l e room_1 s m #[Value.ref b] below meth c H locs (cells + 1) (slots + 6) Q (F0 m 1144 ls [])) : W p l e room_1 s m #[Value.ref b] below meth c H locs cells slots Q (F0 m 932 ls []) := by
  obtain ⟨hx, hb, hml, hown, hts, hK, hX, hbl, hAd, hAo, hE, hL, hst⟩ := id C
  obtain ⟨hl, hP, ⟨f, hO⟩, hS⟩ := S
  obtain ⟨v, w, M1, M2, hvw, hJ, hx1, hx2⟩ := hst2.ex
  refine W.widen (k := cells + 1) (n := slots + 6) (Nat.le_succ _) (Nat.le_add_right _ _) ?_
  have hR := hR0
  refine lv_aload_n hx hb dL_law_932 rfl (lv_at hl 3 rfl) ?_
  refine law_arg (j := 1) (by decide) C hk hS (lv_at hl 4 rfl) (lv_at hl 0 rfl) dL_law_933 dL_law_934 dL_law_936 dL_law_937 dL_law_938 ?_
  refine ct_callV (A := (fun q : Nat => s.heap.size ≤ q)) (A1 := (fun q : Nat => s.heap.size ≤ q ∧ q ≠ o)) (ad := ad) (S := SALL) (M := M) (M' := M1) (r := [aI v]) (d := 15) (z := 118) (n := 0) (a := 0) (as' := [aI (arx xs k 1)]) ⟨hx, hb, hown, hts, hK, hl.1.trans hml.symm⟩ hAd SALL_clo hP (by decide) (by decide +kernel) (by decide +kernel) (show npar 118 = some 1 from by decide +kernel) (Or.inl ⟨rfl, (show ∀ g ∈ mdG 118, 2 ≤ g from by decide +kernel), (show 2 ≤ mdL 118 from by decide +kernel)⟩) (srs_r (show 0 ∈ SALL from by decide +kernel) rfl (SRs.i srs_n)) cwm_330 ⟨Nat.le_of_ble_eq_true rfl, Nat.le_of_ble_eq_true rfl⟩ ⟨hR.1, hR.2⟩ hx1 dL_law_939 (Nat.le_of_ble_eq_true rfl) (rest := []) rfl hS (fun q9 h9 => h9.1) (fun H1 locs1 hP1 hz hk1 hS1 => ?_)
  have hO := outW_kept hO (hk1 o (outW_lt hO) (fun h9 => h9.2 rfl))
  have hP := hP1
  have hS := hS1
  clear hP1 hS1 hk1 hz
  generalize H1 = H at hP hO hS ⊢
  generalize locs1 = locs at hS ⊢
  refine W.eq (g2 := F0 m 942 ls [.int (Int32.ofInt v)]) rfl ?_
  refine lv_aload_n hx hb dL_law_942 rfl (lv_at hl 2 rfl) ?_
  refine law_arg (j := 1) (by decide) C hk hS (lv_at hl 4 rfl) (lv_at hl 0 rfl) dL_law_943 dL_law_944 dL_law_946 dL_law_947 dL_law_948 ?_
  refine ct_callV (A := (fun q : Nat => s.heap.size ≤ q)) (A1 := (fun q : Nat => s.heap.size ≤ q ∧ q ≠ o)) (ad := ad) (S := SALL) (M := M1) (M' := M2) (r := [aI w]) (d := 15) (z := 215) (n := 0) (a := 67) (as' := [aI (arx xs k 1)]) ⟨hx, hb, hown, hts, hK, hl.1.trans hml.symm⟩ hAd SALL_clo hP (by decide) (by decide +kernel) (by decide +kernel) (show npar 215 = some 1 from by decide +kernel) (Or.inl ⟨rfl, (show ∀ g ∈ mdG 215, 2 ≤ g from by decide +kernel), (show 2 ≤ mdL 215 from by decide +kernel)⟩) (srs_r (show 67 ∈ SALL from by decide +kernel) rfl (SRs.i srs_n)) cwm_331 ⟨Nat.le_of_ble_eq_true rfl, Nat.le_of_ble_eq_true rfl⟩ ⟨hR.1, hR.2⟩ hx2 dL_law_949 (Nat.le_of_ble_eq_true rfl) (rest := [.int (Int32.ofInt v)]) rfl hS (fun q9 h9 => h9.1) (fun H1 locs1 hP1 hz hk1 hS1 => ?_)
  have hO := outW_kept hO (hk1 o (outW_lt hO) (fun h9 => h9.2 rfl))
  have hP := hP1
  have hS := hS1
  clear hP1 hS1 hk1 hz
  generalize H1 = H at hP hO hS ⊢
  generalize locs1 = locs at hS ⊢
  refine W.eq (g2 := F0 m 952 ls [.int (Int32.ofInt w), .int (Int32.ofInt v)]) rfl ?_
  refine lv_icmp_eq hx hb dL_law_952 (tgt := 1144) (by decide) (fun _ => nxt M2 H locs ls hJ ⟨hl, hP, ⟨f, hO⟩, hS⟩) (fun h9 => absurd (eq32.mpr hvw) h9)
set_option maxHeartbeats 4000000 in
set_option maxRecDepth 100000 in
theorem lc_25 (C : LwC l p s m c b L xs D T ad o t1 t2 t3 t4) (hk : 6 * k + 6 ≤ L) (hst2 : Step2 119 216 [aI (arx xs k 1)] M J) (hR0 : cells + 1 ≤ room_1.cells ∧ slots + 6 ≤ room_1.slots) (S : LwS s b D T ad o k M H locs ls) (nxt : ∀ (M : Mem) (H : Heap) (locs : List Loc) (ls : Array Slot), J M → LwS s b D T ad o k M H locs ls → W p l e room_1 s m #[Value.ref b] below meth c H locs (cells + 1) (slots + 6) Q (F0 m 1144 ls [])) : W p l e room_1 s m #[Value.ref b] below meth c H locs cells slots Q (F0 m 957 ls []) := by
  obtain ⟨hx, hb, hml, hown, hts, hK, hX, hbl, hAd, hAo, hE, hL, hst⟩ := id C
  obtain ⟨hl, hP, ⟨f, hO⟩, hS⟩ := S
  obtain ⟨v, w, M1, M2, hvw, hJ, hx1, hx2⟩ := hst2.ex
  refine W.widen (k := cells + 1) (n := slots + 6) (Nat.le_succ _) (Nat.le_add_right _ _) ?_
  have hR := hR0
  refine lv_aload_n hx hb dL_law_957 rfl (lv_at hl 3 rfl) ?_
  refine law_arg (j := 1) (by decide) C hk hS (lv_at hl 4 rfl) (lv_at hl 0 rfl) dL_law_958 dL_law_959 dL_law_961 dL_law_962 dL_law_963 ?_
  refine ct_callV (A := (fun q : Nat => s.heap.size ≤ q)) (A1 := (fun q : Nat => s.heap.size ≤ q ∧ q ≠ o)) (ad := ad) (S := SALL) (M := M) (M' := M1) (r := [aI v]) (d := 15) (z := 119) (n := 0) (a := 0) (as' := [aI (arx xs k 1)]) ⟨hx, hb, hown, hts, hK, hl.1.trans hml.symm⟩ hAd SALL_clo hP (by decide) (by decide +kernel) (by decide +kernel) (show npar 119 = some 1 from by decide +kernel) (Or.inl ⟨rfl, (show ∀ g ∈ mdG 119, 2 ≤ g from by decide +kernel), (show 2 ≤ mdL 119 from by decide +kernel)⟩) (srs_r (show 0 ∈ SALL from by decide +kernel) rfl (SRs.i srs_n)) cwm_332 ⟨Nat.le_of_ble_eq_true rfl, Nat.le_of_ble_eq_true rfl⟩ ⟨hR.1, hR.2⟩ hx1 dL_law_964 (Nat.le_of_ble_eq_true rfl) (rest := []) rfl hS (fun q9 h9 => h9.1) (fun H1 locs1 hP1 hz hk1 hS1 => ?_)
  have hO := outW_kept hO (hk1 o (outW_lt hO) (fun h9 => h9.2 rfl))
  have hP := hP1
  have hS := hS1
  clear hP1 hS1 hk1 hz
  generalize H1 = H at hP hO hS ⊢
  generalize locs1 = locs at hS ⊢
  refine W.eq (g2 := F0 m 967 ls [.int (Int32.ofInt v)]) rfl ?_
  refine lv_aload_n hx hb dL_law_967 rfl (lv_at hl 2 rfl) ?_
  refine law_arg (j := 1) (by decide) C hk hS (lv_at hl 4 rfl) (lv_at hl 0 rfl) dL_law_968 dL_law_969 dL_law_971 dL_law_972 dL_law_973 ?_
  refine ct_callV (A := (fun q : Nat => s.heap.size ≤ q)) (A1 := (fun q : Nat => s.heap.size ≤ q ∧ q ≠ o)) (ad := ad) (S := SALL) (M := M1) (M' := M2) (r := [aI w]) (d := 15) (z := 216) (n := 0) (a := 67) (as' := [aI (arx xs k 1)]) ⟨hx, hb, hown, hts, hK, hl.1.trans hml.symm⟩ hAd SALL_clo hP (by decide) (by decide +kernel) (by decide +kernel) (show npar 216 = some 1 from by decide +kernel) (Or.inl ⟨rfl, (show ∀ g ∈ mdG 216, 2 ≤ g from by decide +kernel), (show 2 ≤ mdL 216 from by decide +kernel)⟩) (srs_r (show 67 ∈ SALL from by decide +kernel) rfl (SRs.i srs_n)) cwm_333 ⟨Nat.le_of_ble_eq_true rfl, Nat.le_of_ble_eq_true rfl⟩ ⟨hR.1, hR.2⟩ hx2 dL_law_974 (Nat.le_of_ble_eq_true rfl) (rest := [.int (Int32.ofInt v)]) rfl hS (fun q9 h9 => h9.1) (fun H1 locs1 hP1 hz hk1 hS1 => ?_)
  have hO := outW_kept hO (hk1 o (outW_lt hO) (fun h9 => h9.2 rfl))
  have hP := hP1
  have hS := hS1
  clear hP1 hS1 hk1 hz
  generalize H1 = H at hP hO hS ⊢
  generalize locs1 = locs at hS ⊢
  refine W.eq (g2 := F0 m 977 ls [.int (Int32.ofInt w), .int (Int32.ofInt v)]) rfl ?_
  refine lv_icmp_eq hx hb dL_law_977 (tgt := 1144) (by decide) (fun _ => nxt M2 H locs ls hJ ⟨hl, hP, ⟨f, hO⟩, hS⟩) (fun h9 => absurd (eq32.mpr hvw) h9)
set_option maxHeartbeats 4000000 in
set_option maxRecDepth 100000 in
theorem lc_26 (C : LwC l p s m c b L xs D T ad o t1 t2 t3 t4) (hk : 6 * k + 6 ≤ L) (hst2 : Step2 120 217 [] M J) (hR0 : cells + 1 ≤ room_1.cells ∧ slots + 6 ≤ room_1.slots) (S : LwS s b D T ad o k M H locs ls) (nxt : ∀ (M : Mem) (H : Heap) (locs : List Loc) (ls : Array Slot), J M → LwS s b D T ad o k M H locs ls → W p l e room_1 s m #[Value.ref b] below meth c H locs (cells + 1) (slots + 6) Q (F0 m 1144 ls [])) : W p l e room_1 s m #[Value.ref b] below meth c H locs cells slots Q (F0 m 982 ls []) := by
  obtain ⟨hx, hb, hml, hown, hts, hK, hX, hbl, hAd, hAo, hE, hL, hst⟩ := id C
  obtain ⟨hl, hP, ⟨f, hO⟩, hS⟩ := S
  obtain ⟨v, w, M1, M2, hvw, hJ, hx1, hx2⟩ := hst2.ex
  refine W.widen (k := cells + 1) (n := slots + 6) (Nat.le_succ _) (Nat.le_add_right _ _) ?_
  have hR := hR0
  refine lv_aload_n hx hb dL_law_982 rfl (lv_at hl 3 rfl) ?_
  refine ct_callV (A := (fun q : Nat => s.heap.size ≤ q)) (A1 := (fun q : Nat => s.heap.size ≤ q ∧ q ≠ o)) (ad := ad) (S := SALL) (M := M) (M' := M1) (r := [aI v]) (d := 15) (z := 120) (n := 0) (a := 0) (as' := []) ⟨hx, hb, hown, hts, hK, hl.1.trans hml.symm⟩ hAd SALL_clo hP (by decide) (by decide +kernel) (by decide +kernel) (show npar 120 = some 0 from by decide +kernel) (Or.inl ⟨rfl, (show ∀ g ∈ mdG 120, 1 ≤ g from by decide +kernel), (show 1 ≤ mdL 120 from by decide +kernel)⟩) (srs_r (show 0 ∈ SALL from by decide +kernel) rfl srs_n) cwm_334 ⟨Nat.le_of_ble_eq_true rfl, Nat.le_of_ble_eq_true rfl⟩ ⟨hR.1, hR.2⟩ hx1 dL_law_983 (Nat.le_of_ble_eq_true rfl) (rest := []) rfl hS (fun q9 h9 => h9.1) (fun H1 locs1 hP1 hz hk1 hS1 => ?_)
  have hO := outW_kept hO (hk1 o (outW_lt hO) (fun h9 => h9.2 rfl))
  have hP := hP1
  have hS := hS1
  clear hP1 hS1 hk1 hz
  generalize H1 = H at hP hO hS ⊢
  generalize locs1 = locs at hS ⊢
  refine W.eq (g2 := F0 m 986 ls [.int (Int32.ofInt v)]) rfl ?_
  refine lv_aload_n hx hb dL_law_986 rfl (lv_at hl 2 rfl) ?_
  refine ct_callV (A := (fun q : Nat => s.heap.size ≤ q)) (A1 := (fun q : Nat => s.heap.size ≤ q ∧ q ≠ o)) (ad := ad) (S := SALL) (M := M1) (M' := M2) (r := [aI w]) (d := 15) (z := 217) (n := 0) (a := 67) (as' := []) ⟨hx, hb, hown, hts, hK, hl.1.trans hml.symm⟩ hAd SALL_clo hP (by decide) (by decide +kernel) (by decide +kernel) (show npar 217 = some 0 from by decide +kernel) (Or.inl ⟨rfl, (show ∀ g ∈ mdG 217, 1 ≤ g from by decide +kernel), (show 1 ≤ mdL 217 from by decide +kernel)⟩) (srs_r (show 67 ∈ SALL from by decide +kernel) rfl srs_n) cwm_335 ⟨Nat.le_of_ble_eq_true rfl, Nat.le_of_ble_eq_true rfl⟩ ⟨hR.1, hR.2⟩ hx2 dL_law_987 (Nat.le_of_ble_eq_true rfl) (rest := [.int (Int32.ofInt v)]) rfl hS (fun q9 h9 => h9.1) (fun H1 locs1 hP1 hz hk1 hS1 => ?_)
  have hO := outW_kept hO (hk1 o (outW_lt hO) (fun h9 => h9.2 rfl))
  have hP := hP1
  have hS := hS1
  clear hP1 hS1 hk1 hz
  generalize H1 = H at hP hO hS ⊢
  generalize locs1 = locs at hS ⊢
  refine W.eq (g2 := F0 m 990 ls [.int (Int32.ofInt w), .int (Int32.ofInt v)]) rfl ?_
  refine lv_icmp_eq hx hb dL_law_990 (tgt := 1144) (by decide) (fun _ => nxt M2 H locs ls hJ ⟨hl, hP, ⟨f, hO⟩, hS⟩) (fun h9 => absurd (eq32.mpr hvw) h9)
set_option maxHeartbeats 4000000 in
set_option maxRecDepth 100000 in
theorem lc_27 (C : LwC l p s m c b L xs D T ad o t1 t2 t3 t4) (hk : 6 * k + 6 ≤ L) (hst2 : Step2 121 218 [aI (arx xs k 1), aI (arx xs k 2)] M J) (hR0 : cells + 1 ≤ room_1.cells ∧ slots + 6 ≤ room_1.slots) (S : LwS s b D T ad o k M H locs ls) (nxt : ∀ (M : Mem) (H : Heap) (locs : List Loc) (ls : Array Slot), J M → LwS s b D T ad o k M H locs ls → W p l e room_1 s m #[Value.ref b] below meth c H locs (cells + 1) (slots + 6) Q (F0 m 1144 ls [])) : W p l e room_1 s m #[Value.ref b] below meth c H locs cells slots Q (F0 m 995 ls []) := by
  obtain ⟨hx, hb, hml, hown, hts, hK, hX, hbl, hAd, hAo, hE, hL, hst⟩ := id C
  obtain ⟨hl, hP, ⟨f, hO⟩, hS⟩ := S
  obtain ⟨v, w, M1, M2, hvw, hJ, hx1, hx2⟩ := hst2.ex
  refine W.widen (k := cells + 1) (n := slots + 6) (Nat.le_succ _) (Nat.le_add_right _ _) ?_
  have hR := hR0
  refine lv_aload_n hx hb dL_law_995 rfl (lv_at hl 3 rfl) ?_
  refine law_arg (j := 1) (by decide) C hk hS (lv_at hl 4 rfl) (lv_at hl 0 rfl) dL_law_996 dL_law_997 dL_law_999 dL_law_1000 dL_law_1001 ?_
  refine law_arg (j := 2) (by decide) C hk hS (lv_at hl 4 rfl) (lv_at hl 0 rfl) dL_law_1002 dL_law_1003 dL_law_1005 dL_law_1006 dL_law_1007 ?_
  refine ct_callV (A := (fun q : Nat => s.heap.size ≤ q)) (A1 := (fun q : Nat => s.heap.size ≤ q ∧ q ≠ o)) (ad := ad) (S := SALL) (M := M) (M' := M1) (r := [aI v]) (d := 15) (z := 121) (n := 0) (a := 0) (as' := [aI (arx xs k 1), aI (arx xs k 2)]) ⟨hx, hb, hown, hts, hK, hl.1.trans hml.symm⟩ hAd SALL_clo hP (by decide) (by decide +kernel) (by decide +kernel) (show npar 121 = some 2 from by decide +kernel) (Or.inl ⟨rfl, (show ∀ g ∈ mdG 121, 3 ≤ g from by decide +kernel), (show 3 ≤ mdL 121 from by decide +kernel)⟩) (srs_r (show 0 ∈ SALL from by decide +kernel) rfl (SRs.i (SRs.i srs_n))) cwm_336 ⟨Nat.le_of_ble_eq_true rfl, Nat.le_of_ble_eq_true rfl⟩ ⟨hR.1, hR.2⟩ hx1 dL_law_1008 (Nat.le_of_ble_eq_true rfl) (rest := []) rfl hS (fun q9 h9 => h9.1) (fun H1 locs1 hP1 hz hk1 hS1 => ?_)
  have hO := outW_kept hO (hk1 o (outW_lt hO) (fun h9 => h9.2 rfl))
  have hP := hP1
  have hS := hS1
  clear hP1 hS1 hk1 hz
  generalize H1 = H at hP hO hS ⊢
  generalize locs1 = locs at hS ⊢
  refine W.eq (g2 := F0 m 1011 ls [.int (Int32.ofInt v)]) rfl ?_
  refine lv_aload_n hx hb dL_law_1011 rfl (lv_at hl 2 rfl) ?_
  refine law_arg (j := 1) (by decide) C hk hS (lv_at hl 4 rfl) (lv_at hl 0 rfl) dL_law_1012 dL_law_1013 dL_law_1015 dL_law_1016 dL_law_1017 ?_
  refine law_arg (j := 2) (by decide) C hk hS (lv_at hl 4 rfl) (lv_at hl 0 rfl) dL_law_1018 dL_law_1019 dL_law_1021 dL_law_1022 dL_law_1023 ?_
  refine ct_callV (A := (fun q : Nat => s.heap.size ≤ q)) (A1 := (fun q : Nat => s.heap.size ≤ q ∧ q ≠ o)) (ad := ad) (S := SALL) (M := M1) (M' := M2) (r := [aI w]) (d := 15) (z := 218) (n := 0) (a := 67) (as' := [aI (arx xs k 1), aI (arx xs k 2)]) ⟨hx, hb, hown, hts, hK, hl.1.trans hml.symm⟩ hAd SALL_clo hP (by decide) (by decide +kernel) (by decide +kernel) (show npar 218 = some 2 from by decide +kernel) (Or.inl ⟨rfl, (show ∀ g ∈ mdG 218, 3 ≤ g from by decide +kernel), (show 3 ≤ mdL 218 from by decide +kernel)⟩) (srs_r (show 67 ∈ SALL from by decide +kernel) rfl (SRs.i (SRs.i srs_n))) cwm_337 ⟨Nat.le_of_ble_eq_true rfl, Nat.le_of_ble_eq_true rfl⟩ ⟨hR.1, hR.2⟩ hx2 dL_law_1024 (Nat.le_of_ble_eq_true rfl) (rest := [.int (Int32.ofInt v)]) rfl hS (fun q9 h9 => h9.1) (fun H1 locs1 hP1 hz hk1 hS1 => ?_)
  have hO := outW_kept hO (hk1 o (outW_lt hO) (fun h9 => h9.2 rfl))
  have hP := hP1
  have hS := hS1
  clear hP1 hS1 hk1 hz
  generalize H1 = H at hP hO hS ⊢
  generalize locs1 = locs at hS ⊢
  refine W.eq (g2 := F0 m 1027 ls [.int (Int32.ofInt w), .int (Int32.ofInt v)]) rfl ?_
  refine lv_icmp_eq hx hb dL_law_1027 (tgt := 1144) (by decide) (fun _ => nxt M2 H locs ls hJ ⟨hl, hP, ⟨f, hO⟩, hS⟩) (fun h9 => absurd (eq32.mpr hvw) h9)
set_option maxHeartbeats 4000000 in
set_option maxRecDepth 100000 in
theorem lc_28 (C : LwC l p s m c b L xs D T ad o t1 t2 t3 t4) (hk : 6 * k + 6 ≤ L) (hst2 : Step2 122 219 [aI (arx xs k 1), aI (arx xs k 2)] M J) (hR0 : cells + 1 ≤ room_1.cells ∧ slots + 6 ≤ room_1.slots) (S : LwS s b D T ad o k M H locs ls) (nxt : ∀ (M : Mem) (H : Heap) (locs : List Loc) (ls : Array Slot), J M → LwS s b D T ad o k M H locs ls → W p l e room_1 s m #[Value.ref b] below meth c H locs (cells + 1) (slots + 6) Q (F0 m 1144 ls [])) : W p l e room_1 s m #[Value.ref b] below meth c H locs cells slots Q (F0 m 1032 ls []) := by
  obtain ⟨hx, hb, hml, hown, hts, hK, hX, hbl, hAd, hAo, hE, hL, hst⟩ := id C
  obtain ⟨hl, hP, ⟨f, hO⟩, hS⟩ := S
  obtain ⟨v, w, M1, M2, hvw, hJ, hx1, hx2⟩ := hst2.ex
  refine W.widen (k := cells + 1) (n := slots + 6) (Nat.le_succ _) (Nat.le_add_right _ _) ?_
  have hR := hR0
  refine lv_aload_n hx hb dL_law_1032 rfl (lv_at hl 3 rfl) ?_
  refine law_arg (j := 1) (by decide) C hk hS (lv_at hl 4 rfl) (lv_at hl 0 rfl) dL_law_1033 dL_law_1034 dL_law_1036 dL_law_1037 dL_law_1038 ?_
  refine law_arg (j := 2) (by decide) C hk hS (lv_at hl 4 rfl) (lv_at hl 0 rfl) dL_law_1039 dL_law_1040 dL_law_1042 dL_law_1043 dL_law_1044 ?_
  refine ct_callV (A := (fun q : Nat => s.heap.size ≤ q)) (A1 := (fun q : Nat => s.heap.size ≤ q ∧ q ≠ o)) (ad := ad) (S := SALL) (M := M) (M' := M1) (r := [aI v]) (d := 15) (z := 122) (n := 0) (a := 0) (as' := [aI (arx xs k 1), aI (arx xs k 2)]) ⟨hx, hb, hown, hts, hK, hl.1.trans hml.symm⟩ hAd SALL_clo hP (by decide) (by decide +kernel) (by decide +kernel) (show npar 122 = some 2 from by decide +kernel) (Or.inl ⟨rfl, (show ∀ g ∈ mdG 122, 3 ≤ g from by decide +kernel), (show 3 ≤ mdL 122 from by decide +kernel)⟩) (srs_r (show 0 ∈ SALL from by decide +kernel) rfl (SRs.i (SRs.i srs_n))) cwm_338 ⟨Nat.le_of_ble_eq_true rfl, Nat.le_of_ble_eq_true rfl⟩ ⟨hR.1, hR.2⟩ hx1 dL_law_1045 (Nat.le_of_ble_eq_true rfl) (rest := []) rfl hS (fun q9 h9 => h9.1) (fun H1 locs1 hP1 hz hk1 hS1 => ?_)
  have hO := outW_kept hO (hk1 o (outW_lt hO) (fun h9 => h9.2 rfl))
  have hP := hP1
  have hS := hS1
  clear hP1 hS1 hk1 hz
  generalize H1 = H at hP hO hS ⊢
  generalize locs1 = locs at hS ⊢
  refine W.eq (g2 := F0 m 1048 ls [.int (Int32.ofInt v)]) rfl ?_
  refine lv_aload_n hx hb dL_law_1048 rfl (lv_at hl 2 rfl) ?_
  refine law_arg (j := 1) (by decide) C hk hS (lv_at hl 4 rfl) (lv_at hl 0 rfl) dL_law_1049 dL_law_1050 dL_law_1052 dL_law_1053 dL_law_1054 ?_
  refine law_arg (j := 2) (by decide) C hk hS (lv_at hl 4 rfl) (lv_at hl 0 rfl) dL_law_1055 dL_law_1056 dL_law_1058 dL_law_1059 dL_law_1060 ?_
  refine ct_callV (A := (fun q : Nat => s.heap.size ≤ q)) (A1 := (fun q : Nat => s.heap.size ≤ q ∧ q ≠ o)) (ad := ad) (S := SALL) (M := M1) (M' := M2) (r := [aI w]) (d := 15) (z := 219) (n := 0) (a := 67) (as' := [aI (arx xs k 1), aI (arx xs k 2)]) ⟨hx, hb, hown, hts, hK, hl.1.trans hml.symm⟩ hAd SALL_clo hP (by decide) (by decide +kernel) (by decide +kernel) (show npar 219 = some 2 from by decide +kernel) (Or.inl ⟨rfl, (show ∀ g ∈ mdG 219, 3 ≤ g from by decide +kernel), (show 3 ≤ mdL 219 from by decide +kernel)⟩) (srs_r (show 67 ∈ SALL from by decide +kernel) rfl (SRs.i (SRs.i srs_n))) cwm_339 ⟨Nat.le_of_ble_eq_true rfl, Nat.le_of_ble_eq_true rfl⟩ ⟨hR.1, hR.2⟩ hx2 dL_law_1061 (Nat.le_of_ble_eq_true rfl) (rest := [.int (Int32.ofInt v)]) rfl hS (fun q9 h9 => h9.1) (fun H1 locs1 hP1 hz hk1 hS1 => ?_)
  have hO := outW_kept hO (hk1 o (outW_lt hO) (fun h9 => h9.2 rfl))
  have hP := hP1
  have hS := hS1
  clear hP1 hS1 hk1 hz
  generalize H1 = H at hP hO hS ⊢
  generalize locs1 = locs at hS ⊢
  refine W.eq (g2 := F0 m 1064 ls [.int (Int32.ofInt w), .int (Int32.ofInt v)]) rfl ?_
  refine lv_icmp_eq hx hb dL_law_1064 (tgt := 1144) (by decide) (fun _ => nxt M2 H locs ls hJ ⟨hl, hP, ⟨f, hO⟩, hS⟩) (fun h9 => absurd (eq32.mpr hvw) h9)
set_option maxHeartbeats 4000000 in
set_option maxRecDepth 100000 in
theorem lc_29 (C : LwC l p s m c b L xs D T ad o t1 t2 t3 t4) (hk : 6 * k + 6 ≤ L) (hst2 : Step2 125 220 [aI (arx xs k 1)] M J) (hR0 : cells + 1 ≤ room_1.cells ∧ slots + 6 ≤ room_1.slots) (S : LwS s b D T ad o k M H locs ls) (nxt : ∀ (M : Mem) (H : Heap) (locs : List Loc) (ls : Array Slot), J M → LwS s b D T ad o k M H locs ls → W p l e room_1 s m #[Value.ref b] below meth c H locs (cells + 1) (slots + 6) Q (F0 m 1144 ls [])) : W p l e room_1 s m #[Value.ref b] below meth c H locs cells slots Q (F0 m 1069 ls []) := by
  obtain ⟨hx, hb, hml, hown, hts, hK, hX, hbl, hAd, hAo, hE, hL, hst⟩ := id C
  obtain ⟨hl, hP, ⟨f, hO⟩, hS⟩ := S
  obtain ⟨v, w, M1, M2, hvw, hJ, hx1, hx2⟩ := hst2.ex
  refine W.widen (k := cells + 1) (n := slots + 6) (Nat.le_succ _) (Nat.le_add_right _ _) ?_
  have hR := hR0
  refine lv_aload_n hx hb dL_law_1069 rfl (lv_at hl 3 rfl) ?_
  refine law_arg (j := 1) (by decide) C hk hS (lv_at hl 4 rfl) (lv_at hl 0 rfl) dL_law_1070 dL_law_1071 dL_law_1073 dL_law_1074 dL_law_1075 ?_
  refine ct_callV (A := (fun q : Nat => s.heap.size ≤ q)) (A1 := (fun q : Nat => s.heap.size ≤ q ∧ q ≠ o)) (ad := ad) (S := SALL) (M := M) (M' := M1) (r := [aI v]) (d := 15) (z := 125) (n := 0) (a := 0) (as' := [aI (arx xs k 1)]) ⟨hx, hb, hown, hts, hK, hl.1.trans hml.symm⟩ hAd SALL_clo hP (by decide) (by decide +kernel) (by decide +kernel) (show npar 125 = some 1 from by decide +kernel) (Or.inl ⟨rfl, (show ∀ g ∈ mdG 125, 2 ≤ g from by decide +kernel), (show 2 ≤ mdL 125 from by decide +kernel)⟩) (srs_r (show 0 ∈ SALL from by decide +kernel) rfl (SRs.i srs_n)) cwm_340 ⟨Nat.le_of_ble_eq_true rfl, Nat.le_of_ble_eq_true rfl⟩ ⟨hR.1, hR.2⟩ hx1 dL_law_1076 (Nat.le_of_ble_eq_true rfl) (rest := []) rfl hS (fun q9 h9 => h9.1) (fun H1 locs1 hP1 hz hk1 hS1 => ?_)
  have hO := outW_kept hO (hk1 o (outW_lt hO) (fun h9 => h9.2 rfl))
  have hP := hP1
  have hS := hS1
  clear hP1 hS1 hk1 hz
  generalize H1 = H at hP hO hS ⊢
  generalize locs1 = locs at hS ⊢
  refine W.eq (g2 := F0 m 1079 ls [.int (Int32.ofInt v)]) rfl ?_
  refine lv_aload_n hx hb dL_law_1079 rfl (lv_at hl 2 rfl) ?_
  refine law_arg (j := 1) (by decide) C hk hS (lv_at hl 4 rfl) (lv_at hl 0 rfl) dL_law_1080 dL_law_1081 dL_law_1083 dL_law_1084 dL_law_1085 ?_
  refine ct_callV (A := (fun q : Nat => s.heap.size ≤ q)) (A1 := (fun q : Nat => s.heap.size ≤ q ∧ q ≠ o)) (ad := ad) (S := SALL) (M := M1) (M' := M2) (r := [aI w]) (d := 15) (z := 220) (n := 0) (a := 67) (as' := [aI (arx xs k 1)]) ⟨hx, hb, hown, hts, hK, hl.1.trans hml.symm⟩ hAd SALL_clo hP (by decide) (by decide +kernel) (by decide +kernel) (show npar 220 = some 1 from by decide +kernel) (Or.inl ⟨rfl, (show ∀ g ∈ mdG 220, 2 ≤ g from by decide +kernel), (show 2 ≤ mdL 220 from by decide +kernel)⟩) (srs_r (show 67 ∈ SALL from by decide +kernel) rfl (SRs.i srs_n)) cwm_341 ⟨Nat.le_of_ble_eq_true rfl, Nat.le_of_ble_eq_true rfl⟩ ⟨hR.1, hR.2⟩ hx2 dL_law_1086 (Nat.le_of_ble_eq_true rfl) (rest := [.int (Int32.ofInt v)]) rfl hS (fun q9 h9 => h9.1) (fun H1 locs1 hP1 hz hk1 hS1 => ?_)
  have hO := outW_kept hO (hk1 o (outW_lt hO) (fun h9 => h9.2 rfl))
  have hP := hP1
  have hS := hS1
  clear hP1 hS1 hk1 hz
  generalize H1 = H at hP hO hS ⊢
  generalize locs1 = locs at hS ⊢
  refine W.eq (g2 := F0 m 1089 ls [.int (Int32.ofInt w), .int (Int32.ofInt v)]) rfl ?_
  refine lv_icmp_eq hx hb dL_law_1089 (tgt := 1144) (by decide) (fun _ => nxt M2 H locs ls hJ ⟨hl, hP, ⟨f, hO⟩, hS⟩) (fun h9 => absurd (eq32.mpr hvw) h9)
set_option maxHeartbeats 4000000 in
set_option maxRecDepth 100000 in
theorem lc_30 (C : LwC l p s m c b L xs D T ad o t1 t2 t3 t4) (hk : 6 * k + 6 ≤ L) (hst2 : Step2 126 221 [aI (arx xs k 1)] M J) (hR0 : cells + 1 ≤ room_1.cells ∧ slots + 6 ≤ room_1.slots) (S : LwS s b D T ad o k M H locs ls) (nxt : ∀ (M : Mem) (H : Heap) (locs : List Loc) (ls : Array Slot), J M → LwS s b D T ad o k M H locs ls → W p l e room_1 s m #[Value.ref b] below meth c H locs (cells + 1) (slots + 6) Q (F0 m 1144 ls [])) : W p l e room_1 s m #[Value.ref b] below meth c H locs cells slots Q (F0 m 1094 ls []) := by
  obtain ⟨hx, hb, hml, hown, hts, hK, hX, hbl, hAd, hAo, hE, hL, hst⟩ := id C
  obtain ⟨hl, hP, ⟨f, hO⟩, hS⟩ := S
  obtain ⟨v, w, M1, M2, hvw, hJ, hx1, hx2⟩ := hst2.ex
  refine W.widen (k := cells + 1) (n := slots + 6) (Nat.le_succ _) (Nat.le_add_right _ _) ?_
  have hR := hR0
  refine lv_aload_n hx hb dL_law_1094 rfl (lv_at hl 3 rfl) ?_
  refine law_arg (j := 1) (by decide) C hk hS (lv_at hl 4 rfl) (lv_at hl 0 rfl) dL_law_1095 dL_law_1096 dL_law_1098 dL_law_1099 dL_law_1100 ?_
  refine ct_callV (A := (fun q : Nat => s.heap.size ≤ q)) (A1 := (fun q : Nat => s.heap.size ≤ q ∧ q ≠ o)) (ad := ad) (S := SALL) (M := M) (M' := M1) (r := [aI v]) (d := 15) (z := 126) (n := 0) (a := 0) (as' := [aI (arx xs k 1)]) ⟨hx, hb, hown, hts, hK, hl.1.trans hml.symm⟩ hAd SALL_clo hP (by decide) (by decide +kernel) (by decide +kernel) (show npar 126 = some 1 from by decide +kernel) (Or.inl ⟨rfl, (show ∀ g ∈ mdG 126, 2 ≤ g from by decide +kernel), (show 2 ≤ mdL 126 from by decide +kernel)⟩) (srs_r (show 0 ∈ SALL from by decide +kernel) rfl (SRs.i srs_n)) cwm_342 ⟨Nat.le_of_ble_eq_true rfl, Nat.le_of_ble_eq_true rfl⟩ ⟨hR.1, hR.2⟩ hx1 dL_law_1101 (Nat.le_of_ble_eq_true rfl) (rest := []) rfl hS (fun q9 h9 => h9.1) (fun H1 locs1 hP1 hz hk1 hS1 => ?_)
  have hO := outW_kept hO (hk1 o (outW_lt hO) (fun h9 => h9.2 rfl))
  have hP := hP1
  have hS := hS1
  clear hP1 hS1 hk1 hz
  generalize H1 = H at hP hO hS ⊢
  generalize locs1 = locs at hS ⊢
  refine W.eq (g2 := F0 m 1104 ls [.int (Int32.ofInt v)]) rfl ?_
  refine lv_aload_n hx hb dL_law_1104 rfl (lv_at hl 2 rfl) ?_
  refine law_arg (j := 1) (by decide) C hk hS (lv_at hl 4 rfl) (lv_at hl 0 rfl) dL_law_1105 dL_law_1106 dL_law_1108 dL_law_1109 dL_law_1110 ?_
  refine ct_callV (A := (fun q : Nat => s.heap.size ≤ q)) (A1 := (fun q : Nat => s.heap.size ≤ q ∧ q ≠ o)) (ad := ad) (S := SALL) (M := M1) (M' := M2) (r := [aI w]) (d := 15) (z := 221) (n := 0) (a := 67) (as' := [aI (arx xs k 1)]) ⟨hx, hb, hown, hts, hK, hl.1.trans hml.symm⟩ hAd SALL_clo hP (by decide) (by decide +kernel) (by decide +kernel) (show npar 221 = some 1 from by decide +kernel) (Or.inl ⟨rfl, (show ∀ g ∈ mdG 221, 2 ≤ g from by decide +kernel), (show 2 ≤ mdL 221 from by decide +kernel)⟩) (srs_r (show 67 ∈ SALL from by decide +kernel) rfl (SRs.i srs_n)) cwm_343 ⟨Nat.le_of_ble_eq_true rfl, Nat.le_of_ble_eq_true rfl⟩ ⟨hR.1, hR.2⟩ hx2 dL_law_1111 (Nat.le_of_ble_eq_true rfl) (rest := [.int (Int32.ofInt v)]) rfl hS (fun q9 h9 => h9.1) (fun H1 locs1 hP1 hz hk1 hS1 => ?_)
  have hO := outW_kept hO (hk1 o (outW_lt hO) (fun h9 => h9.2 rfl))
  have hP := hP1
  have hS := hS1
  clear hP1 hS1 hk1 hz
  generalize H1 = H at hP hO hS ⊢
  generalize locs1 = locs at hS ⊢
  refine W.eq (g2 := F0 m 1114 ls [.int (Int32.ofInt w), .int (Int32.ofInt v)]) rfl ?_
  refine lv_icmp_eq hx hb dL_law_1114 (tgt := 1144) (by decide) (fun _ => nxt M2 H locs ls hJ ⟨hl, hP, ⟨f, hO⟩, hS⟩) (fun h9 => absurd (eq32.mpr hvw) h9)
set_option maxHeartbeats 4000000 in
set_option maxRecDepth 100000 in
theorem lc_31 (C : LwC l p s m c b L xs D T ad o t1 t2 t3 t4) (hk : 6 * k + 6 ≤ L) (hst2 : Step2 127 222 [aI (arx xs k 1)] M J) (hR0 : cells + 1 ≤ room_1.cells ∧ slots + 6 ≤ room_1.slots) (S : LwS s b D T ad o k M H locs ls) (nxt : ∀ (M : Mem) (H : Heap) (locs : List Loc) (ls : Array Slot), J M → LwS s b D T ad o k M H locs ls → W p l e room_1 s m #[Value.ref b] below meth c H locs (cells + 1) (slots + 6) Q (F0 m 1144 ls [])) : W p l e room_1 s m #[Value.ref b] below meth c H locs cells slots Q (F0 m 1119 ls []) := by
  obtain ⟨hx, hb, hml, hown, hts, hK, hX, hbl, hAd, hAo, hE, hL, hst⟩ := id C
  obtain ⟨hl, hP, ⟨f, hO⟩, hS⟩ := S
  obtain ⟨v, w, M1, M2, hvw, hJ, hx1, hx2⟩ := hst2.ex
  refine W.widen (k := cells + 1) (n := slots + 6) (Nat.le_succ _) (Nat.le_add_right _ _) ?_
  have hR := hR0
  refine lv_aload_n hx hb dL_law_1119 rfl (lv_at hl 3 rfl) ?_
  refine law_arg (j := 1) (by decide) C hk hS (lv_at hl 4 rfl) (lv_at hl 0 rfl) dL_law_1120 dL_law_1121 dL_law_1123 dL_law_1124 dL_law_1125 ?_
  refine ct_callV (A := (fun q : Nat => s.heap.size ≤ q)) (A1 := (fun q : Nat => s.heap.size ≤ q ∧ q ≠ o)) (ad := ad) (S := SALL) (M := M) (M' := M1) (r := [aI v]) (d := 15) (z := 127) (n := 0) (a := 0) (as' := [aI (arx xs k 1)]) ⟨hx, hb, hown, hts, hK, hl.1.trans hml.symm⟩ hAd SALL_clo hP (by decide) (by decide +kernel) (by decide +kernel) (show npar 127 = some 1 from by decide +kernel) (Or.inl ⟨rfl, (show ∀ g ∈ mdG 127, 2 ≤ g from by decide +kernel), (show 2 ≤ mdL 127 from by decide +kernel)⟩) (srs_r (show 0 ∈ SALL from by decide +kernel) rfl (SRs.i srs_n)) cwm_344 ⟨Nat.le_of_ble_eq_true rfl, Nat.le_of_ble_eq_true rfl⟩ ⟨hR.1, hR.2⟩ hx1 dL_law_1126 (Nat.le_of_ble_eq_true rfl) (rest := []) rfl hS (fun q9 h9 => h9.1) (fun H1 locs1 hP1 hz hk1 hS1 => ?_)
  have hO := outW_kept hO (hk1 o (outW_lt hO) (fun h9 => h9.2 rfl))
  have hP := hP1
  have hS := hS1
  clear hP1 hS1 hk1 hz
  generalize H1 = H at hP hO hS ⊢
  generalize locs1 = locs at hS ⊢
  refine W.eq (g2 := F0 m 1129 ls [.int (Int32.ofInt v)]) rfl ?_
  refine lv_aload_n hx hb dL_law_1129 rfl (lv_at hl 2 rfl) ?_
  refine law_arg (j := 1) (by decide) C hk hS (lv_at hl 4 rfl) (lv_at hl 0 rfl) dL_law_1130 dL_law_1131 dL_law_1133 dL_law_1134 dL_law_1135 ?_
  refine ct_callV (A := (fun q : Nat => s.heap.size ≤ q)) (A1 := (fun q : Nat => s.heap.size ≤ q ∧ q ≠ o)) (ad := ad) (S := SALL) (M := M1) (M' := M2) (r := [aI w]) (d := 15) (z := 222) (n := 0) (a := 67) (as' := [aI (arx xs k 1)]) ⟨hx, hb, hown, hts, hK, hl.1.trans hml.symm⟩ hAd SALL_clo hP (by decide) (by decide +kernel) (by decide +kernel) (show npar 222 = some 1 from by decide +kernel) (Or.inl ⟨rfl, (show ∀ g ∈ mdG 222, 2 ≤ g from by decide +kernel), (show 2 ≤ mdL 222 from by decide +kernel)⟩) (srs_r (show 67 ∈ SALL from by decide +kernel) rfl (SRs.i srs_n)) cwm_345 ⟨Nat.le_of_ble_eq_true rfl, Nat.le_of_ble_eq_true rfl⟩ ⟨hR.1, hR.2⟩ hx2 dL_law_1136 (Nat.le_of_ble_eq_true rfl) (rest := [.int (Int32.ofInt v)]) rfl hS (fun q9 h9 => h9.1) (fun H1 locs1 hP1 hz hk1 hS1 => ?_)
  have hO := outW_kept hO (hk1 o (outW_lt hO) (fun h9 => h9.2 rfl))
  have hP := hP1
  have hS := hS1
  clear hP1 hS1 hk1 hz
  generalize H1 = H at hP hO hS ⊢
  generalize locs1 = locs at hS ⊢
  refine W.eq (g2 := F0 m 1139 ls [.int (Int32.ofInt w), .int (Int32.ofInt v)]) rfl ?_
  refine lv_icmp_eq hx hb dL_law_1139 (tgt := 1144) (by decide) (fun _ => nxt M2 H locs ls hJ ⟨hl, hP, ⟨f, hO⟩, hS⟩) (fun h9 => absurd (eq32.mpr hvw) h9)
end LA
