/-! THE LAW'S START -/
def cwt : List (Nat × Cond) := [(127, .instantiable RX11 12), (1396, .instantiable RX12 63)]
theorem cwt_ok : cwt.all (fun q => atb q.1 q.2) = true := by decide +kernel
theorem cwt_at {k i : Nat} {w : Cond} (h : cwt[k]? = some (i, w)) : w ∈ gtb := atb_mem (i := i) (List.all_eq_true.mp cwt_ok _ (List.mem_of_getElem? h))
theorem cwm_346 : (.instantiable RX11 12 : Cond) ∈ gtb := cwt_at (k := 0) rfl
theorem cwm_347 : (.instantiable RX12 63 : Cond) ∈ gtb := cwt_at (k := 1) rfl
theorem ins_all : ∀ k, k < 13 → Cond.instantiable (cR k) (cN k) ∈ gtb
  | 0, _ => cwm_193
  | 1, _ => cwm_220
  | 2, _ => cwm_71
  | 3, _ => cwm_26
  | 4, _ => cwm_210
  | 5, _ => cwm_234
  | 6, _ => cwm_227
  | 7, _ => cwm_185
  | 8, _ => cwm_56
  | 9, _ => cwm_178
  | 10, _ => cwm_203
  | 11, _ => cwm_346
  | 12, _ => cwm_347
  | k + 13, h => absurd h (by omega)
theorem arr_prim {args : Array Value} {s : State} {ty : FieldType} (h : (Cond.arrayClass ty).before args s = true) : ∃ cA, ArrOfT s cA ty ∧ s.vm.findClass ("[" ++ ty.toString) = some cA := by
  obtain ⟨c, k, comp, h1, h2, h3⟩ := Cond.arrayClass_spec h
  exact ⟨c, fun N z => ⟨(fun k h => by cases h), k, h2, comp, h3⟩, h1⟩
theorem arr_obj {args : Array Value} {s : State} {C : String} (h : (Cond.arrayOver (.object C)).before args s = true) : ∃ cA, ArrOfT s cA (.object C) ∧ va_RA s cA (.object C) := by
  obtain ⟨comp, c, k, h1, h2, h3, h4, h5⟩ := Cond.arrayOver_spec h
  exact ⟨c, fun N z => ⟨(fun k h => by cases h), k, h3, comp, h4⟩, k, comp, h3, h4, h1, h5⟩
theorem K_known {args : Array Value} {s : State} (hts : ∀ w ∈ gtb, w.before args s = true) (hAO : va_AO "BargeRaft$State" s) : ∃ (D : va_G) (T : Nat → ClassId), va_K D classes (tysL T) s := by
  have hKn : ∀ k, ∃ q : ClassId × (Nat → Nat), k < 13 → u_Kn s (cR k) (cT k) (cN k) q.1 q.2 := by
    intro k
    by_cases hk : k < 13
    · obtain ⟨c, i, h⟩ := u_known (C := cR k) (T := cT k) (N := cN k) (n := cN k) hts (iw_all k hk) (hts _ (ins_all k hk))
      exact ⟨(c, i), fun _ => h⟩
    · exact ⟨(0, fun _ => 0), fun h => absurd h hk⟩
  obtain ⟨c0, a0, b0⟩ := arr_prim (hts _ cwm_3)
  obtain ⟨c1, a1, b1⟩ := arr_prim (hts _ cwm_96)
  obtain ⟨c2, a2, b2⟩ := arr_prim (hts _ cwm_91)
  obtain ⟨c3, a3, b3⟩ := arr_prim (hts _ cwm_116)
  obtain ⟨c4, a4, b4⟩ := arr_obj (va_AO.use (A := args) hAO)
  refine ⟨(fun k => (Classical.choose (hKn k)).1, fun k => (Classical.choose (hKn k)).2), fun i => match i with | 0 => c0 | 1 => c1 | 2 => c2 | 3 => c3 | _ => c4, fun k q hq => ?_, fun k q hq => ?_⟩
  · have hk : k < 13 := (List.getElem?_eq_some_iff.mp hq).1
    rw [cls_at k hk] at hq
    cases hq
    exact Classical.choose_spec (hKn k) hk
  · match k, hq with
    | 0, hq => cases hq; exact ⟨a0, b0⟩
    | 1, hq => cases hq; exact ⟨a1, b1⟩
    | 2, hq => cases hq; exact ⟨a2, b2⟩
    | 3, hq => cases hq; exact ⟨a3, b3⟩
    | 4, hq => cases hq; exact ⟨a4, b4⟩
    | k + 5, hq => cases hq
theorem flds_cg {ad ad2 : Nat → Nat} {M M2 : Mem} {a k : Nat} (hM : M a = M2 a) (hr : ∀ j, j < cN k → isRf (cTy k j) = true → ad (rfs a j).2.2 = ad2 (rfs a j).2.2) : flds ad M a k = flds ad2 M2 a k := by
  unfold flds
  refine List.map_congr_left fun j hj => ?_
  have hj : j < cN k := List.mem_range.mp hj
  by_cases h : isRf (cTy k j) = true
  · rw [fval_rf h, fval_rf h, hr j hj h]
  · cases hty : cTy k j <;> first | (exfalso; rw [hty] at h; exact h rfl) | (simp only [fval, hM])
theorem rfs_x (a : Nat) (ha : a < 67) (j : Nat) : (rfs a j).2.2 < 67 := by
  have h : ∀ a, a < 67 → (rfsL.getD a []).all (fun r => decide (r.2.2 < 67)) = true := by decide +kernel
  have h1 := h a ha
  unfold rfs
  generalize rfsL.getD a [] = l at h1 ⊢
  rw [List.getD_eq_getElem?_getD]
  cases hl : l[j]? with
  | none => decide
  | some r => exact of_decide_eq_true (List.all_eq_true.mp h1 r (List.mem_of_getElem? hl))
theorem rfs_m : ∀ j, j < 63 → isRf (cTy 12 j) = true → 67 ≤ (rfs 67 j).2.2 := by decide +kernel
theorem shp_m : ∀ a, a ∈ S67 → a = 67 ∨ (shp a).1 < 4 := by decide +kernel
theorem S67_ge : ∀ a, a ∈ S67 → 67 ≤ a := by decide +kernel
theorem SB_lt : ∀ a, a ∈ SB → a < 67 := by decide +kernel
theorem went_x {T : Nat → ClassId} {ad ad2 : Nat → Nat} {M M2 : Mem} {a : Nat} (ha : a < 67) (hM : M a = M2 a) (hr : ∀ b, b < 67 → ad b = ad2 b) : went T ad M a = went T ad2 M2 a := by
  unfold went
  rw [flds_cg hM (fun j _ _ => hr _ (rfs_x a ha j)), hM, show (fun j => some (ad (rfs a j).2.2)) = (fun j => some (ad2 (rfs a j).2.2)) from funext fun j => by rw [hr _ (rfs_x a ha j)]]
theorem went_m {T : Nat → ClassId} {ad ad2 : Nat → Nat} {M M2 : Mem} {a : Nat} (ha : a ∈ S67) (hM : M a = M2 a) (hr : ∀ b, 67 ≤ b → ad b = ad2 b) : went T ad M a = went T ad2 M2 a := by
  rcases shp_m a ha with rfl | h
  · rw [went_obj (a := 67) (w := 22) (n := 0) rfl (by decide), went_obj (a := 67) (w := 22) (n := 0) rfl (by decide)]
    show Sum.inr (12, flds ad M 67 12) = Sum.inr (12, flds ad2 M2 67 12)
    rw [flds_cg (k := 12) hM (fun j hj h => hr _ (rfs_m j hj h))]
  · unfold went
    rw [hM]
    split
    · rfl
    · split
      · rfl
      · split
        · rfl
        · split
          · rfl
          · omega
/-- the memory in which both objects are new -/
def ML0 : Mem := fun a => if a < 67 then Mx0 a else MmC a
def adJ (ad1 ad2 : Nat → Nat) : Nat → Nat := fun a => if a < 67 then ad1 a else ad2 a
theorem wld_J (T : Nat → ClassId) (ad1 ad2 : Nat → Nat) : wld T (adJ ad1 ad2) ML0 SALL = wld T ad1 Mx0 SB ++ wld T ad2 MmC S67 := by
  have e1 : SB.map (fun a => (adJ ad1 ad2 a, went T (adJ ad1 ad2) ML0 a)) = SB.map (fun a => (ad1 a, went T ad1 Mx0 a)) := List.map_congr_left fun a ha => by
    have h := SB_lt a ha
    rw [went_x (ad := adJ ad1 ad2) (M := ML0) (ad2 := ad1) (M2 := Mx0) h (if_pos h) (fun b hb => if_pos hb), show adJ ad1 ad2 a = ad1 a from if_pos h]
  have e2 : S67.map (fun a => (adJ ad1 ad2 a, went T (adJ ad1 ad2) ML0 a)) = S67.map (fun a => (ad2 a, went T ad2 MmC a)) := List.map_congr_left fun a ha => by
    have h := S67_ge a ha
    rw [went_m (ad := adJ ad1 ad2) (M := ML0) (ad2 := ad2) (M2 := MmC) ha (if_neg (by omega)) (fun b hb => if_neg (by omega)), show adJ ad1 ad2 a = ad2 a from if_neg (by omega)]
  unfold wld SALL
  rw [List.map_append, e1, e2]
theorem D_left {A : Nat → Prop} {w1 w2 : va_W} (h : va_D A (w1 ++ w2)) : va_D A w1 := by
  have k9 : ∀ (k : Nat) (q : Nat × va_E), w1[k]? = some q → (w1 ++ w2)[k]? = some q := fun k q hk => by rw [List.getElem?_append_left (List.getElem?_eq_some_iff.mp hk).1]; exact hk
  exact ⟨fun i j p q hp hq => h.1 i j p q (k9 i p hp) (k9 j q hq), fun k q hq => h.2 k q (k9 k q hq)⟩
theorem adD_out {A : Nat → Prop} {T : Nat → ClassId} {ad : Nat → Nat} {M : Mem} {o : Nat} {f : Nat → Int64} (h : va_D A (wld T ad M SALL ++ outW T o f)) : adD (fun q => A q ∧ q ≠ o) ad SALL ∧ A o := by
  have h1 := adD_of (D_left h)
  have hl : (wld T ad M SALL).length = 92 := by unfold wld; rw [List.length_map]; rfl
  have ho : (wld T ad M SALL ++ outW T o f)[92]? = some (o, .inl (T 1, 1, .inr (.inl f))) := rfl
  refine ⟨⟨h1.1, fun a ha => ⟨h1.2 a ha, fun he => ?_⟩⟩, h.2 92 _ ho⟩
  obtain ⟨i, hi⟩ := List.getElem?_of_mem ha
  have hi2 : (wld T ad M SALL)[i]? = some (ad a, went T ad M a) := wld_a hi
  have hlt : i < 92 := by rw [← hl]; exact (List.getElem?_eq_some_iff.mp hi2).1
  have hi3 : (wld T ad M SALL ++ outW T o f)[i]? = some (ad a, went T ad M a) := by rw [List.getElem?_append_left (by rw [hl]; exact hlt)]; exact hi2
  have := h.1 i 92 _ _ hi3 ho he
  omega
theorem wb_get (j : Nat) : ([wordsB.map (fun n : Nat => Int32.ofInt (n : Int))].getD 0 []).getD j 0 = wbf j := by
  show (wordsB.map (fun n : Nat => Int32.ofInt (n : Int))).getD j 0 = wbf j
  unfold wbf wbI
  rw [List.getD_eq_getElem?_getD, List.getElem?_map, List.getD_eq_getElem?_getD]
  cases wordsB[j]? with
  | none => rfl
  | some n => rfl
def flG : List Cond := flatC (Jvm.Cond.and given_1 narrow_1)
theorem g_str : (Cond.exactly (.string "BargeRaft$Tape" 18) "java/lang/String") ∈ flG ∧ (Cond.eq (.field (.string "BargeRaft$Tape" 18) "java/lang/String" "coder" "B") (.int 0)) ∈ flG ∧ (Cond.arrayOf (.field (.string "BargeRaft$Tape" 18) "java/lang/String" "value" "[B") .byte) ∈ flG ∧ (Cond.eq (.length (.field (.string "BargeRaft$Tape" 18) "java/lang/String" "value" "[B")) (.int (Int32.ofNat 83))) ∈ flG := by decide +kernel
theorem g_chr : ∀ j, j < 83 → (Cond.eq (.elem (.field (.string "BargeRaft$Tape" 18) "java/lang/String" "value" "[B") (.int (Int32.ofNat j))) (.int (wbf j))) ∈ flG := by decide +kernel
theorem g_txt : (Cond.exactly (.string "BargeRaft" 140) "java/lang/String") ∈ flG ∧ (Cond.exactly (.string "BargeRaft" 152) "java/lang/String") ∈ flG ∧ (Cond.exactly (.string "BargeRaft" 160) "java/lang/String") ∈ flG ∧ (Cond.exactly (.string "BargeRaft" 255) "java/lang/String") ∈ flG := by decide +kernel
theorem g_sta : (Cond.eq (.static "java/lang/String" "COMPACT_STRINGS" "Z") (.int 1)) ∈ flG ∧ (Cond.isRef (.static "jdk/internal/util/Preconditions" "SIOOBE_FORMATTER" "Ljava/util/function/BiFunction;")) ∈ flG ∧ (Cond.isRef (.static Bundle.tN "UNASSIGNED_STACK" Bundle.steD)) ∈ flG ∧ (Cond.isRef (.static Bundle.tN "SUPPRESSED_SENTINEL" Bundle.listD)) ∈ flG := by decide +kernel
theorem t_ref : (Cond.stringRef RX9 18 wordsT) ∈ lw_tbl ∧ (Cond.stringRef RX11 140 TXA) ∈ lw_tbl ∧ (Cond.stringRef RX11 152 TXB) ∈ lw_tbl ∧ (Cond.stringRef RX11 160 TXC) ∈ lw_tbl ∧ (Cond.stringRef RX11 255 TXD) ∈ lw_tbl := by decide +kernel
theorem t_sta : (Cond.laysStatic "java/lang/String" "COMPACT_STRINGS" "Z") ∈ lw_tbl ∧ (Cond.initialized "java/lang/String") ∈ lw_tbl ∧ (Cond.laysStatic "jdk/internal/util/Preconditions" "SIOOBE_FORMATTER" "Ljava/util/function/BiFunction;") ∈ lw_tbl ∧ (Cond.initialized "jdk/internal/util/Preconditions") ∈ lw_tbl ∧ (Cond.laysStatic Bundle.tN "UNASSIGNED_STACK" Bundle.steD) ∈ lw_tbl ∧ (Cond.laysStatic Bundle.tN "SUPPRESSED_SENTINEL" Bundle.listD) ∈ lw_tbl ∧ (Cond.initialized Bundle.tN) ∈ lw_tbl ∧ (Cond.arrayOver (.object "BargeRaft$State")) ∈ lw_tbl := by decide +kernel
theorem t_nst : (Cond.methodLinkNest RX11 29 yX0_init "BargeRaft") ∈ lw_tbl ∧ (Cond.methodLinkNest RX5 11 yX2_init "BargeRaft") ∈ lw_tbl := by decide +kernel
theorem str_start {args : Array Value} {s : State} (hts0 : ∀ w ∈ lw_tbl, w.before args s = true) (hg : ∀ w ∈ flG, w.before args s = true) : ∃ qs vs : Nat, strU qs vs (fun q => s.heap.size ≤ q) s s.heap ∧ vk_R RX9 18 wordsT qs s := by
  have hA : ∀ a : Nat, a < s.heap.size → ¬ (s.heap.size ≤ a) := fun a h => by omega
  obtain ⟨adK, adV, ⟨h1, -⟩, h2⟩ := vk_Sof (args := args) (s := s) (N := 1) (tm := fun _ => .string "BargeRaft$Tape" 18) (len := [83]) (byt := [wordsB.map (fun n : Nat => Int32.ofInt (n : Int))]) (A := fun q => s.heap.size ≤ q) (fun i hi => (show ∀ i : Nat, i < 1 → [83].getD i 0 < 2 ^ 31 from by decide) i hi)
    (fun i _ => hg _ g_str.1) (fun i _ => hg _ g_str.2.1) (fun i _ => hg _ g_str.2.2.1) (fun i hi => match i, hi with | 0, _ => hg _ g_str.2.2.2)
    (fun i hi j hj => match i, hi with | 0, _ => by rw [wb_get]; exact hg _ (g_chr j hj)) (fun i j hi hj hij => absurd (by omega) hij) hA
  obtain ⟨a1, a2, a3, a4⟩ := h1 0 (by decide)
  refine ⟨adK 0, adV 0, ⟨a1, a2, a3, ?_, va_Zof (hts0 _ t_sta.1) (hts0 _ t_sta.2.1) (va_eqi (hg _ g_sta.1)) hA, va_Zqof (hts0 _ t_sta.2.2.1) (hts0 _ t_sta.2.2.2.1) (hg _ g_sta.2.1) hA⟩, vk_R.of (hts0 _ t_ref.1) (h2 0 (by decide))⟩
  obtain ⟨cell, b1, b2, b3, b4, b5, b6, b7⟩ := a4
  exact ⟨cell, b1, b2, b3, b4, b5, fun j hj => (b6 j hj).trans (congrArg (fun z => some (Value.int z)) (wb_get j)), b7⟩
theorem txt_start {args : Array Value} {s : State} {k : Nat} {tx : String} (h1 : (Cond.stringRef RX11 k tx).before args s = true) (h2 : (Cond.exactly (.string "BargeRaft" k) "java/lang/String").before args s = true) : ∃ a, vk_R RX11 k tx a s := by
  obtain ⟨a, c, cell, k9, q1, -⟩ := Cond.exactly_spec (args := args) (first := s) (o := none) (s := s) (idx := []) (t := .string "BargeRaft" k) (cls := "java/lang/String") h2
  exact ⟨a, vk_R.of h1 q1⟩
theorem exS_start {args : Array Value} {s : State} (hts0 : ∀ w ∈ lw_tbl, w.before args s = true) (hg : ∀ w ∈ flG, w.before args s = true) : ∃ t1 t2 t3 t4 : Nat, exS t1 t2 t3 t4 (fun q => s.heap.size ≤ q) s s.heap := by
  have hA : ∀ a : Nat, a < s.heap.size → ¬ (s.heap.size ≤ a) := fun a h => by omega
  obtain ⟨t1, h1⟩ := txt_start (hts0 _ t_ref.2.1) (hg _ g_txt.1)
  obtain ⟨t2, h2⟩ := txt_start (hts0 _ t_ref.2.2.1) (hg _ g_txt.2.1)
  obtain ⟨t3, h3⟩ := txt_start (hts0 _ t_ref.2.2.2.1) (hg _ g_txt.2.2.1)
  obtain ⟨t4, h4⟩ := txt_start (hts0 _ t_ref.2.2.2.2) (hg _ g_txt.2.2.2)
  refine ⟨t1, t2, t3, t4, ⟨va_Nw.of rfl (hts0 _ (exB_tbl _ List.mem_cons_self)), va_Nw.of rfl (hts0 _ (exB_tbl _ (List.mem_cons_of_mem _ List.mem_cons_self))), va_Nw.of rfl (hts0 _ (exB_tbl _ (List.mem_cons_of_mem _ (List.mem_cons_of_mem _ List.mem_cons_self)))), va_Nw.of rfl (hts0 _ (exB_tbl _ (List.mem_cons_of_mem _ (List.mem_cons_of_mem _ (List.mem_cons_of_mem _ List.mem_cons_self)))))⟩, vx_Zqof (hts0 _ t_sta.2.2.2.2.1) (hts0 _ t_sta.2.2.2.2.2.2.1) (hg _ g_sta.2.2.1) hA, vx_Zqof (hts0 _ t_sta.2.2.2.2.2.1) (hts0 _ t_sta.2.2.2.2.2.2.1) (hg _ g_sta.2.2.2) hA, h1, h2, h3, h4⟩
