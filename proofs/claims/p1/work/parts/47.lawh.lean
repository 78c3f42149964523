/-! THE LAW'S HELPERS THAT CATCH -/
def cwu : List (Nat × Cond) := [(1292, .code yX11_quay cX11_quay 3 (some .int)), (101, .initialized "BargeRaft"), (1289, .methodLink RL 7 yX11_quay), (1290, .instanceMethod yX11_quay), (1291, .selects RX11 yX11_quay yX11_quay), (1288, .classLink RL 13 "java/util/NoSuchElementException"), (1364, .code yX11_leg cX11_leg 3 (some .int)), (1361, .methodLink RL 15 yX11_leg), (1362, .instanceMethod yX11_leg), (1363, .selects RX11 yX11_leg yX11_leg), (1372, .code yX11_barge cX11_barge 3 (some .int)), (1369, .methodLink RL 18 yX11_barge), (1370, .instanceMethod yX11_barge), (1371, .selects RX11 yX11_barge yX11_barge), (1382, .code yX11_act cX11_act 3 (some .int)), (1379, .methodLink RL 21 yX11_act), (1380, .instanceMethod yX11_act), (1381, .selects RX11 yX11_act yX11_act)]
theorem cwu_ok : cwu.all (fun q => atb q.1 q.2) = true := by decide +kernel
theorem cwu_at {k i : Nat} {w : Cond} (h : cwu[k]? = some (i, w)) : w ∈ gtb := atb_mem (i := i) (List.all_eq_true.mp cwu_ok _ (List.mem_of_getElem? h))
theorem cwm_254 : (.code yX11_quay cX11_quay 3 (some .int) : Cond) ∈ gtb := cwu_at (k := 0) rfl
theorem cwm_255 : (.initialized "BargeRaft" : Cond) ∈ gtb := cwu_at (k := 1) rfl
theorem cwm_256 : (.methodLink RL 7 yX11_quay : Cond) ∈ gtb := cwu_at (k := 2) rfl
theorem cwm_257 : (.instanceMethod yX11_quay : Cond) ∈ gtb := cwu_at (k := 3) rfl
theorem cwm_258 : (.selects RX11 yX11_quay yX11_quay : Cond) ∈ gtb := cwu_at (k := 4) rfl
theorem cwm_259 : (.classLink RL 13 "java/util/NoSuchElementException" : Cond) ∈ gtb := cwu_at (k := 5) rfl
theorem cwm_260 : (.code yX11_leg cX11_leg 3 (some .int) : Cond) ∈ gtb := cwu_at (k := 6) rfl
theorem cwm_261 : (.methodLink RL 15 yX11_leg : Cond) ∈ gtb := cwu_at (k := 7) rfl
theorem cwm_262 : (.instanceMethod yX11_leg : Cond) ∈ gtb := cwu_at (k := 8) rfl
theorem cwm_263 : (.selects RX11 yX11_leg yX11_leg : Cond) ∈ gtb := cwu_at (k := 9) rfl
theorem cwm_264 : (.code yX11_barge cX11_barge 3 (some .int) : Cond) ∈ gtb := cwu_at (k := 10) rfl
theorem cwm_265 : (.methodLink RL 18 yX11_barge : Cond) ∈ gtb := cwu_at (k := 11) rfl
theorem cwm_266 : (.instanceMethod yX11_barge : Cond) ∈ gtb := cwu_at (k := 12) rfl
theorem cwm_267 : (.selects RX11 yX11_barge yX11_barge : Cond) ∈ gtb := cwu_at (k := 13) rfl
theorem cwm_268 : (.code yX11_act cX11_act 3 (some .int) : Cond) ∈ gtb := cwu_at (k := 14) rfl
theorem cwm_269 : (.methodLink RL 21 yX11_act : Cond) ∈ gtb := cwu_at (k := 15) rfl
theorem cwm_270 : (.instanceMethod yX11_act : Cond) ∈ gtb := cwu_at (k := 16) rfl
theorem cwm_271 : (.selects RX11 yX11_act yX11_act : Cond) ∈ gtb := cwu_at (k := 17) rfl
def outW (T : Nat → ClassId) (o : Nat) (f : Nat → Int64) : va_W := [(o, .inl (T 1, 1, .inr (.inl f)))]
theorem outW_kept {D : va_G} {T : Nat → ClassId} {o : Nat} {f : Nat → Int64} {H H1 : Heap} (hO : va_P D classes (outW T o f) H) (hk : H1[o]? = H[o]?) : va_P D classes (outW T o f) H1 := by
  refine hO.kept fun k q hq => ?_
  cases k with
  | zero => cases hq; exact hk
  | succ k => cases hq
theorem outW_lt {D : va_G} {T : Nat → ClassId} {o : Nat} {f : Nat → Int64} {H : Heap} (hO : va_P D classes (outW T o f) H) : o < H.size := (hO 0 _ rfl).lt
theorem P_left {D : va_G} {a b : va_W} {H : Heap} (h : va_P D classes (a ++ b) H) : va_P D classes a H := fun k q hk => h k q (by rw [List.getElem?_append_left (List.getElem?_eq_some_iff.mp hk).1]; exact hk)
theorem P_right {D : va_G} {a b : va_W} {H : Heap} (h : va_P D classes (a ++ b) H) : va_P D classes b H := fun k q hk => h (a.length + k) q (by rw [List.getElem?_append_right (Nat.le_add_right _ _), Nat.add_sub_cancel_left]; exact hk)
theorem D_out {A : Nat → Prop} {T : Nat → ClassId} {ad : Nat → Nat} {M : Mem} {o : Nat} {f : Nat → Int64} (hAd : adD (fun q => A q ∧ q ≠ o) ad SALL) (hAo : A o) : va_D A (wld T ad M SALL ++ outW T o f) := by
  refine va_D.app (hAd.D.weaken (fun k q _ h => h.1)) ⟨fun i j p q hp hq _ => ?_, fun k q hq => ?_⟩ (fun i j x y hx hy hxy => ?_)
  · cases i with
    | zero => cases j with
      | zero => rfl
      | succ j => cases hq
    | succ i => cases hp
  · cases k with
    | zero => cases hq; exact hAo
    | succ k => cases hq
  · cases j with
    | zero => cases hy; exact (hAd.D.2 i x hx).2 hxy
    | succ j => cases hy
theorem out_set {T : Nat → ClassId} {ad : Nat → Nat} {M : Mem} {o : Nat} {f g : Nat → Int64} : (wld T ad M SALL ++ outW T o f).set 92 (o, .inl (T 1, 1, .inr (.inl g))) = wld T ad M SALL ++ outW T o g := rfl
theorem dL_quay_0 : decode cL_quay 0 = .ok (.aload_n 3, 1) := by decide +kernel
theorem dL_quay_1 : decode cL_quay 1 = .ok (.iconst 0, 1) := by decide +kernel
theorem dL_quay_2 : decode cL_quay 2 = .ok (.aload_n 0, 1) := by decide +kernel
theorem dL_quay_3 : decode cL_quay 3 = .ok (.iload_n 1, 1) := by decide +kernel
theorem dL_quay_4 : decode cL_quay 4 = .ok (.iload_n 2, 1) := by decide +kernel
theorem dL_quay_5 : decode cL_quay 5 = .ok (.invokevirtual 7, 3) := by decide +kernel
theorem dL_quay_8 : decode cL_quay 8 = .ok (.i2l, 1) := by decide +kernel
theorem dL_quay_9 : decode cL_quay 9 = .ok (.lastore, 1) := by decide +kernel
theorem dL_quay_10 : decode cL_quay 10 = .ok (.goto 7, 3) := by decide +kernel
theorem dL_quay_13 : decode cL_quay 13 = .ok (.astore 4, 2) := by decide +kernel
theorem dL_quay_15 : decode cL_quay 15 = .ok (.iconst 1, 1) := by decide +kernel
theorem dL_quay_16 : decode cL_quay 16 = .ok (.ireturn, 1) := by decide +kernel
theorem dL_quay_17 : decode cL_quay 17 = .ok (.iconst 0, 1) := by decide +kernel
theorem dL_quay_18 : decode cL_quay 18 = .ok (.ireturn, 1) := by decide +kernel
set_option maxHeartbeats 4000000 in
set_option maxRecDepth 100000 in
theorem c_L_quay (l : Launch) (hl9 : l.stackTraces = false) (D : va_G) (T : Nat → ClassId) (ad : Nat → Nat) (M : Mem) (t1 t2 t3 t4 : Nat) (A : Nat → Prop) (o : Nat) (hAd : adD (fun q => A q ∧ q ≠ o) ad SALL) (hAo : A o) (q w : Int) (hq : I32 q) (hw : I32 w) (h : RI M) : vx_Met l yL_quay (.codeWith yL_quay cL_quay 5 (some .int) [(0, 10, 13, 13)] :: gtb) ({ frames := 7, cells := 1, slots := 6, locals := 262 } : Room) (va_Pc [.ref (ad 0), .int (Int32.ofInt q), .int (Int32.ofInt w), .ref o] (fun U => lawPre D T ad M t1 t2 t3 t4 A U ∧ ∃ f, va_P D classes (outW T o f) U.heap)) (va_Qi (fun (r : Int32) (u : Nat → Int64) => r = Int32.ofInt (bi (¬ ((0 ≤ q ∧ q < M 5 0) ∧ 0 ≤ w ∧ w < 3))) ∧ (((0 ≤ q ∧ q < M 5 0) ∧ 0 ≤ w ∧ w < 3) → u 0 = (Int32.ofInt (M 6 (q * 3 + w))).toInt64)) (fun u t => va_P D classes (wld T ad M SALL) t.heap ∧ va_P D classes (outW T o u) t.heap) A) (vx_X (fun _ : Unit => False) (fun _ _ _ => True) A) 1 6 A := by
  refine vx_ofWH (cc := cL_quay) (maxL := 5) (ret := some .int) (hh := [(0, 10, 13, 13)]) (by decide) rfl ?_
  intro p e s m args below meth c s₁ B hml hv
  obtain ⟨rfl, ⟨hP, hK, hE⟩, f, hO⟩ := hv
  have hx := B.exec
  have hb := B.bytes
  have hr := B.returns
  have hts0 := atoms_spec (ws := .codeWith yL_quay cL_quay 5 (some .int) [(0, 10, 13, 13)] :: gtb) B.pre
  have hts : ∀ w ∈ gtb, w.before _ s = true := fun w hw => hts0 w (List.mem_cons_of_mem _ hw)
  have htab : c.exceptionTable.toList = tableOf [(0, 10, 13, 13)] := vx_table (x := yL_quay) B (hts0 _ List.mem_cons_self)
  have hown : s.vm.findClass RL = some m.cls := findClass_of_methodNamed B.named
  have hlocks := B.notSynchronized
  have hS : va_S A s.heap s.heap [] := va_S.rf
  have hl := lv_entry ([.ref (ad 0), .int (Int32.ofInt q), .int (Int32.ofInt w), .ref o]) (n := 5) (Nat.le_of_ble_eq_true rfl)
  rw [lg_entry_eq]
  generalize (lg_sl ([.ref (ad 0), .int (Int32.ofInt q), .int (Int32.ofInt w), .ref o]) ++ List.replicate (5 - (lg_sl ([.ref (ad 0), .int (Int32.ofInt q), .int (Int32.ofInt w), .ref o])).length) Slot.unset).toArray = ls at hl ⊢
  have hl : lv_has ls 5 [(0, .ref (ad 0)), (1, .int (Int32.ofInt q)), (2, .int (Int32.ofInt w)), (3, .ref o)] := hl
  have i0 : (wld T ad M SALL)[0]? = some (ad 0, .inr (11, flds ad M 0 11)) := wld_a rfl
  refine lv_aload_n hx hb dL_quay_0 rfl (lv_at hl 3 rfl) ?_
  refine lv_iconst (v := Int32.ofInt 0) hx hb dL_quay_1 (by decide) ?_
  refine lv_aload_n hx hb dL_quay_2 rfl (lv_at hl 0 rfl) ?_
  refine lv_iload_n hx hb dL_quay_3 rfl (lv_at hl 1 rfl) ?_
  refine lv_iload_n hx hb dL_quay_4 rfl (lv_at hl 2 rfl) ?_
  have cb := callB_of (R := (headSpec (.codeWith yL_quay cL_quay 5 (some .int) [(0, 10, 13, 13)] :: gtb) ({ frames := 7, cells := 1, slots := 6, locals := 262 } : Room)).room) (own := RL) (index := 7) (mc := 1) (ms := 6) (y := yX11_quay) 2 hts (ctor_good cwm_254) (ws' := gtb) (rm := ({ frames := 6, cells := 1, slots := 6, locals := 240 } : Room)) rfl rfl rfl (hts _ cwm_255) (hts _ cwm_256) (by decide +kernel) ⟨Nat.le_of_ble_eq_true rfl, Nat.le_of_ble_eq_true rfl⟩
  refine vx_calli (vx_runV (As := [.int (Int32.ofInt q), .int (Int32.ofInt w)]) (b := ad 0) (C := RX11) (rest := [.int (Int32.ofInt 0), .ref o]) ⟨hx, hb, hml, hown, hts⟩ (c_X11_quay l hl9 D T ad M t1 t2 t3 t4 (fun q => A q ∧ q ≠ o) hAd q w hq hw h) ⟨cb, hts _ cwm_257, hts _ cwm_258⟩ ⟨lawPre_blind, va_recv hK hP (ci := 11) (q := (RX11, TX11, 12)) rfl i0, fun U hU hW => ⟨rfl, by rw [hU]; exact hP, va_K.moved hW.alike hK, by rw [hU]; exact (hE.warm hW).narrow (fun _ h9 => h9.1)⟩⟩ rfl rfl hl.1 rfl (Nat.le_of_ble_eq_true rfl) dL_quay_5 ⟨Nat.le_of_ble_eq_true rfl, Nat.le_of_ble_eq_true rfl⟩) hS (fun q9 _ h9 => h9.1) (fun q9 h9 => h9.1) (fun q9 _ h9 => h9.1) (fun E ce q9 u t H1 locs1 ht hvm hp hB hz hk hS hcell hcv hcl => ?_) (fun r u t H1 locs1 ht hvm hp hB hz hk hS => ?_)
  · obtain ⟨rfl, hP1⟩ := hB
    rw [ht] at hP1
    have hO1 := outW_kept hO (hk o (outW_lt hO) (fun h9 => h9.2 rfl))
    refine vx_catch (name := NSE) hown [] _ [] (htab.trans rfl) (fun z h9 => nomatch h9) rfl (by decide) (hts _ cwm_259) (va_Nw.use rfl hE.1.1) hcell hcv hcl ?_
    show W p l e _ s m _ below meth c H1 locs1 _ _ _ (F0 m 13 ls [.ref q9])
    refine lv_astore (lv' := [(4, .ref q9), (0, .ref (ad 0)), (1, .int (Int32.ofInt q)), (2, .int (Int32.ofInt w)), (3, .ref o)]) hx hb dL_quay_13 hl (by decide) rfl (fun ls hl => ?_)
    refine lv_iconst (v := Int32.ofInt 1) hx hb dL_quay_15 (by decide) ?_
    exact vx_ret (W.iret hx hb hr (fun t ht hW => ⟨⟨_, f, rfl, ⟨by rw [show bi (¬ ((0 ≤ q ∧ q < M 5 0) ∧ 0 ≤ w ∧ w < 3)) = 1 from if_pos hp], fun hg => absurd hg hp⟩, by rw [ht]; exact hP1, by rw [ht]; exact hO1⟩, hS.F ht⟩) hS.2.2 dL_quay_16)
  · obtain ⟨hg, rfl⟩ := hp
    have hP1 : va_P D classes (wld T ad M SALL) H1 := by rw [← ht]; exact hB
    have hO1 := outW_kept hO (hk o (outW_lt hO) (fun h9 => h9.2 rfl))
    refine lv_i2l (v := (Int32.ofInt (M 6 (q * 3 + w))).toInt64) hx hb dL_quay_8 rfl ?_
    refine va_last hx hb hK (va_P.app hP1 hO1) (D_out hAd hAo) hS 92 1 (f := f) (n := 1) (cA := T 1) rfl rfl (vin (by decide) (by decide) (by decide)) dL_quay_9 (fun H locs hPC hDC hS => ?_)
    rw [out_set] at hPC
    have hP2 := P_left hPC
    have hO2 := P_right hPC
    refine lv_goto hx hb dL_quay_10 (tgt := 17) (by decide) ?_
    refine lv_iconst (v := Int32.ofInt 0) hx hb dL_quay_17 (by decide) ?_
    exact vx_ret (W.iret hx hb hr (fun t ht hW => ⟨⟨_, _, rfl, ⟨by rw [show bi (¬ ((0 ≤ q ∧ q < M 5 0) ∧ 0 ≤ w ∧ w < 3)) = 0 from if_neg (fun h9 => h9 hg)], fun _ => rfl⟩, by rw [ht]; exact hP2, by rw [ht]; exact hO2⟩, hS.F ht⟩) hS.2.2 dL_quay_18)
theorem dL_leg_0 : decode cL_leg 0 = .ok (.aload_n 3, 1) := by decide +kernel
theorem dL_leg_1 : decode cL_leg 1 = .ok (.iconst 0, 1) := by decide +kernel
theorem dL_leg_2 : decode cL_leg 2 = .ok (.aload_n 0, 1) := by decide +kernel
theorem dL_leg_3 : decode cL_leg 3 = .ok (.iload_n 1, 1) := by decide +kernel
theorem dL_leg_4 : decode cL_leg 4 = .ok (.iload_n 2, 1) := by decide +kernel
theorem dL_leg_5 : decode cL_leg 5 = .ok (.invokevirtual 15, 3) := by decide +kernel
theorem dL_leg_8 : decode cL_leg 8 = .ok (.i2l, 1) := by decide +kernel
theorem dL_leg_9 : decode cL_leg 9 = .ok (.lastore, 1) := by decide +kernel
theorem dL_leg_10 : decode cL_leg 10 = .ok (.goto 7, 3) := by decide +kernel
theorem dL_leg_13 : decode cL_leg 13 = .ok (.astore 4, 2) := by decide +kernel
theorem dL_leg_15 : decode cL_leg 15 = .ok (.iconst 1, 1) := by decide +kernel
theorem dL_leg_16 : decode cL_leg 16 = .ok (.ireturn, 1) := by decide +kernel
theorem dL_leg_17 : decode cL_leg 17 = .ok (.iconst 0, 1) := by decide +kernel
theorem dL_leg_18 : decode cL_leg 18 = .ok (.ireturn, 1) := by decide +kernel
set_option maxHeartbeats 4000000 in
set_option maxRecDepth 100000 in
theorem c_L_leg (l : Launch) (hl9 : l.stackTraces = false) (D : va_G) (T : Nat → ClassId) (ad : Nat → Nat) (M : Mem) (t1 t2 t3 t4 : Nat) (A : Nat → Prop) (o : Nat) (hAd : adD (fun q => A q ∧ q ≠ o) ad SALL) (hAo : A o) (q w : Int) (hq : I32 q) (hw : I32 w) (h : RI M) : vx_Met l yL_leg (.codeWith yL_leg cL_leg 5 (some .int) [(0, 10, 13, 13)] :: gtb) ({ frames := 7, cells := 1, slots := 6, locals := 262 } : Room) (va_Pc [.ref (ad 0), .int (Int32.ofInt q), .int (Int32.ofInt w), .ref o] (fun U => lawPre D T ad M t1 t2 t3 t4 A U ∧ ∃ f, va_P D classes (outW T o f) U.heap)) (va_Qi (fun (r : Int32) (u : Nat → Int64) => r = Int32.ofInt (bi (¬ ((0 ≤ q ∧ q < M 5 1) ∧ 0 ≤ w ∧ w < 7))) ∧ (((0 ≤ q ∧ q < M 5 1) ∧ 0 ≤ w ∧ w < 7) → u 0 = (Int32.ofInt (M 7 (q * 7 + w))).toInt64)) (fun u t => va_P D classes (wld T ad M SALL) t.heap ∧ va_P D classes (outW T o u) t.heap) A) (vx_X (fun _ : Unit => False) (fun _ _ _ => True) A) 1 6 A := by
  refine vx_ofWH (cc := cL_leg) (maxL := 5) (ret := some .int) (hh := [(0, 10, 13, 13)]) (by decide) rfl ?_
  intro p e s m args below meth c s₁ B hml hv
  obtain ⟨rfl, ⟨hP, hK, hE⟩, f, hO⟩ := hv
  have hx := B.exec
  have hb := B.bytes
  have hr := B.returns
  have hts0 := atoms_spec (ws := .codeWith yL_leg cL_leg 5 (some .int) [(0, 10, 13, 13)] :: gtb) B.pre
  have hts : ∀ w ∈ gtb, w.before _ s = true := fun w hw => hts0 w (List.mem_cons_of_mem _ hw)
  have htab : c.exceptionTable.toList = tableOf [(0, 10, 13, 13)] := vx_table (x := yL_leg) B (hts0 _ List.mem_cons_self)
  have hown : s.vm.findClass RL = some m.cls := findClass_of_methodNamed B.named
  have hlocks := B.notSynchronized
  have hS : va_S A s.heap s.heap [] := va_S.rf
  have hl := lv_entry ([.ref (ad 0), .int (Int32.ofInt q), .int (Int32.ofInt w), .ref o]) (n := 5) (Nat.le_of_ble_eq_true rfl)
  rw [lg_entry_eq]
  generalize (lg_sl ([.ref (ad 0), .int (Int32.ofInt q), .int (Int32.ofInt w), .ref o]) ++ List.replicate (5 - (lg_sl ([.ref (ad 0), .int (Int32.ofInt q), .int (Int32.ofInt w), .ref o])).length) Slot.unset).toArray = ls at hl ⊢
  have hl : lv_has ls 5 [(0, .ref (ad 0)), (1, .int (Int32.ofInt q)), (2, .int (Int32.ofInt w)), (3, .ref o)] := hl
  have i0 : (wld T ad M SALL)[0]? = some (ad 0, .inr (11, flds ad M 0 11)) := wld_a rfl
  refine lv_aload_n hx hb dL_leg_0 rfl (lv_at hl 3 rfl) ?_
  refine lv_iconst (v := Int32.ofInt 0) hx hb dL_leg_1 (by decide) ?_
  refine lv_aload_n hx hb dL_leg_2 rfl (lv_at hl 0 rfl) ?_
  refine lv_iload_n hx hb dL_leg_3 rfl (lv_at hl 1 rfl) ?_
  refine lv_iload_n hx hb dL_leg_4 rfl (lv_at hl 2 rfl) ?_
  have cb := callB_of (R := (headSpec (.codeWith yL_leg cL_leg 5 (some .int) [(0, 10, 13, 13)] :: gtb) ({ frames := 7, cells := 1, slots := 6, locals := 262 } : Room)).room) (own := RL) (index := 15) (mc := 1) (ms := 6) (y := yX11_leg) 2 hts (ctor_good cwm_260) (ws' := gtb) (rm := ({ frames := 6, cells := 1, slots := 6, locals := 240 } : Room)) rfl rfl rfl (hts _ cwm_255) (hts _ cwm_261) (by decide +kernel) ⟨Nat.le_of_ble_eq_true rfl, Nat.le_of_ble_eq_true rfl⟩
  refine vx_calli (vx_runV (As := [.int (Int32.ofInt q), .int (Int32.ofInt w)]) (b := ad 0) (C := RX11) (rest := [.int (Int32.ofInt 0), .ref o]) ⟨hx, hb, hml, hown, hts⟩ (c_X11_leg l hl9 D T ad M t1 t2 t3 t4 (fun q => A q ∧ q ≠ o) hAd q w hq hw h) ⟨cb, hts _ cwm_262, hts _ cwm_263⟩ ⟨lawPre_blind, va_recv hK hP (ci := 11) (q := (RX11, TX11, 12)) rfl i0, fun U hU hW => ⟨rfl, by rw [hU]; exact hP, va_K.moved hW.alike hK, by rw [hU]; exact (hE.warm hW).narrow (fun _ h9 => h9.1)⟩⟩ rfl rfl hl.1 rfl (Nat.le_of_ble_eq_true rfl) dL_leg_5 ⟨Nat.le_of_ble_eq_true rfl, Nat.le_of_ble_eq_true rfl⟩) hS (fun q9 _ h9 => h9.1) (fun q9 h9 => h9.1) (fun q9 _ h9 => h9.1) (fun E ce q9 u t H1 locs1 ht hvm hp hB hz hk hS hcell hcv hcl => ?_) (fun r u t H1 locs1 ht hvm hp hB hz hk hS => ?_)
  · obtain ⟨rfl, hP1⟩ := hB
    rw [ht] at hP1
    have hO1 := outW_kept hO (hk o (outW_lt hO) (fun h9 => h9.2 rfl))
    refine vx_catch (name := NSE) hown [] _ [] (htab.trans rfl) (fun z h9 => nomatch h9) rfl (by decide) (hts _ cwm_259) (va_Nw.use rfl hE.1.1) hcell hcv hcl ?_
    show W p l e _ s m _ below meth c H1 locs1 _ _ _ (F0 m 13 ls [.ref q9])
    refine lv_astore (lv' := [(4, .ref q9), (0, .ref (ad 0)), (1, .int (Int32.ofInt q)), (2, .int (Int32.ofInt w)), (3, .ref o)]) hx hb dL_leg_13 hl (by decide) rfl (fun ls hl => ?_)
    refine lv_iconst (v := Int32.ofInt 1) hx hb dL_leg_15 (by decide) ?_
    exact vx_ret (W.iret hx hb hr (fun t ht hW => ⟨⟨_, f, rfl, ⟨by rw [show bi (¬ ((0 ≤ q ∧ q < M 5 1) ∧ 0 ≤ w ∧ w < 7)) = 1 from if_pos hp], fun hg => absurd hg hp⟩, by rw [ht]; exact hP1, by rw [ht]; exact hO1⟩, hS.F ht⟩) hS.2.2 dL_leg_16)
  · obtain ⟨hg, rfl⟩ := hp
    have hP1 : va_P D classes (wld T ad M SALL) H1 := by rw [← ht]; exact hB
    have hO1 := outW_kept hO (hk o (outW_lt hO) (fun h9 => h9.2 rfl))
    refine lv_i2l (v := (Int32.ofInt (M 7 (q * 7 + w))).toInt64) hx hb dL_leg_8 rfl ?_
    refine va_last hx hb hK (va_P.app hP1 hO1) (D_out hAd hAo) hS 92 1 (f := f) (n := 1) (cA := T 1) rfl rfl (vin (by decide) (by decide) (by decide)) dL_leg_9 (fun H locs hPC hDC hS => ?_)
    rw [out_set] at hPC
    have hP2 := P_left hPC
    have hO2 := P_right hPC
    refine lv_goto hx hb dL_leg_10 (tgt := 17) (by decide) ?_
    refine lv_iconst (v := Int32.ofInt 0) hx hb dL_leg_17 (by decide) ?_
    exact vx_ret (W.iret hx hb hr (fun t ht hW => ⟨⟨_, _, rfl, ⟨by rw [show bi (¬ ((0 ≤ q ∧ q < M 5 1) ∧ 0 ≤ w ∧ w < 7)) = 0 from if_neg (fun h9 => h9 hg)], fun _ => rfl⟩, by rw [ht]; exact hP2, by rw [ht]; exact hO2⟩, hS.F ht⟩) hS.2.2 dL_leg_18)
theorem dL_barge_0 : decode cL_barge 0 = .ok (.aload_n 3, 1) := by decide +kernel
theorem dL_barge_1 : decode cL_barge 1 = .ok (.iconst 0, 1) := by decide +kernel
theorem dL_barge_2 : decode cL_barge 2 = .ok (.aload_n 0, 1) := by decide +kernel
theorem dL_barge_3 : decode cL_barge 3 = .ok (.iload_n 1, 1) := by decide +kernel
theorem dL_barge_4 : decode cL_barge 4 = .ok (.iload_n 2, 1) := by decide +kernel
theorem dL_barge_5 : decode cL_barge 5 = .ok (.invokevirtual 18, 3) := by decide +kernel
theorem dL_barge_8 : decode cL_barge 8 = .ok (.i2l, 1) := by decide +kernel
theorem dL_barge_9 : decode cL_barge 9 = .ok (.lastore, 1) := by decide +kernel
theorem dL_barge_10 : decode cL_barge 10 = .ok (.goto 7, 3) := by decide +kernel
theorem dL_barge_13 : decode cL_barge 13 = .ok (.astore 4, 2) := by decide +kernel
theorem dL_barge_15 : decode cL_barge 15 = .ok (.iconst 1, 1) := by decide +kernel
theorem dL_barge_16 : decode cL_barge 16 = .ok (.ireturn, 1) := by decide +kernel
theorem dL_barge_17 : decode cL_barge 17 = .ok (.iconst 0, 1) := by decide +kernel
theorem dL_barge_18 : decode cL_barge 18 = .ok (.ireturn, 1) := by decide +kernel
set_option maxHeartbeats 4000000 in
set_option maxRecDepth 100000 in
theorem c_L_barge (l : Launch) (hl9 : l.stackTraces = false) (D : va_G) (T : Nat → ClassId) (ad : Nat → Nat) (M : Mem) (t1 t2 t3 t4 : Nat) (A : Nat → Prop) (o : Nat) (hAd : adD (fun q => A q ∧ q ≠ o) ad SALL) (hAo : A o) (q w : Int) (hq : I32 q) (hw : I32 w) (h : RI M) : vx_Met l yL_barge (.codeWith yL_barge cL_barge 5 (some .int) [(0, 10, 13, 13)] :: gtb) ({ frames := 7, cells := 1, slots := 6, locals := 262 } : Room) (va_Pc [.ref (ad 0), .int (Int32.ofInt q), .int (Int32.ofInt w), .ref o] (fun U => lawPre D T ad M t1 t2 t3 t4 A U ∧ ∃ f, va_P D classes (outW T o f) U.heap)) (va_Qi (fun (r : Int32) (u : Nat → Int64) => r = Int32.ofInt (bi (¬ ((0 ≤ q ∧ q < M 5 2) ∧ 0 ≤ w ∧ w ≤ 5))) ∧ (((0 ≤ q ∧ q < M 5 2) ∧ 0 ≤ w ∧ w ≤ 5) → u 0 = (Int32.ofInt (if w < 4 then M 8 (q * 4 + w) else if w = 4 then (if M 8 (4 * q) < M 8 (4 * q + 1) then M 8 (4 * q) else 2 * (M 5 0 - 1) - M 8 (4 * q)) else (if M 8 (4 * q) < M 8 (4 * q + 1) then M 8 (4 * q + 1) else 2 * (M 5 0 - 1) - M 8 (4 * q + 1)))).toInt64)) (fun u t => va_P D classes (wld T ad M SALL) t.heap ∧ va_P D classes (outW T o u) t.heap) A) (vx_X (fun _ : Unit => False) (fun _ _ _ => True) A) 1 6 A := by
  refine vx_ofWH (cc := cL_barge) (maxL := 5) (ret := some .int) (hh := [(0, 10, 13, 13)]) (by decide) rfl ?_
  intro p e s m args below meth c s₁ B hml hv
  obtain ⟨rfl, ⟨hP, hK, hE⟩, f, hO⟩ := hv
  have hx := B.exec
  have hb := B.bytes
  have hr := B.returns
  have hts0 := atoms_spec (ws := .codeWith yL_barge cL_barge 5 (some .int) [(0, 10, 13, 13)] :: gtb) B.pre
  have hts : ∀ w ∈ gtb, w.before _ s = true := fun w hw => hts0 w (List.mem_cons_of_mem _ hw)
  have htab : c.exceptionTable.toList = tableOf [(0, 10, 13, 13)] := vx_table (x := yL_barge) B (hts0 _ List.mem_cons_self)
  have hown : s.vm.findClass RL = some m.cls := findClass_of_methodNamed B.named
  have hlocks := B.notSynchronized
  have hS : va_S A s.heap s.heap [] := va_S.rf
  have hl := lv_entry ([.ref (ad 0), .int (Int32.ofInt q), .int (Int32.ofInt w), .ref o]) (n := 5) (Nat.le_of_ble_eq_true rfl)
  rw [lg_entry_eq]
  generalize (lg_sl ([.ref (ad 0), .int (Int32.ofInt q), .int (Int32.ofInt w), .ref o]) ++ List.replicate (5 - (lg_sl ([.ref (ad 0), .int (Int32.ofInt q), .int (Int32.ofInt w), .ref o])).length) Slot.unset).toArray = ls at hl ⊢
  have hl : lv_has ls 5 [(0, .ref (ad 0)), (1, .int (Int32.ofInt q)), (2, .int (Int32.ofInt w)), (3, .ref o)] := hl
  have i0 : (wld T ad M SALL)[0]? = some (ad 0, .inr (11, flds ad M 0 11)) := wld_a rfl
  refine lv_aload_n hx hb dL_barge_0 rfl (lv_at hl 3 rfl) ?_
  refine lv_iconst (v := Int32.ofInt 0) hx hb dL_barge_1 (by decide) ?_
  refine lv_aload_n hx hb dL_barge_2 rfl (lv_at hl 0 rfl) ?_
  refine lv_iload_n hx hb dL_barge_3 rfl (lv_at hl 1 rfl) ?_
  refine lv_iload_n hx hb dL_barge_4 rfl (lv_at hl 2 rfl) ?_
  have cb := callB_of (R := (headSpec (.codeWith yL_barge cL_barge 5 (some .int) [(0, 10, 13, 13)] :: gtb) ({ frames := 7, cells := 1, slots := 6, locals := 262 } : Room)).room) (own := RL) (index := 18) (mc := 1) (ms := 6) (y := yX11_barge) 2 hts (ctor_good cwm_264) (ws' := gtb) (rm := ({ frames := 6, cells := 1, slots := 6, locals := 240 } : Room)) rfl rfl rfl (hts _ cwm_255) (hts _ cwm_265) (by decide +kernel) ⟨Nat.le_of_ble_eq_true rfl, Nat.le_of_ble_eq_true rfl⟩
  refine vx_calli (vx_runV (As := [.int (Int32.ofInt q), .int (Int32.ofInt w)]) (b := ad 0) (C := RX11) (rest := [.int (Int32.ofInt 0), .ref o]) ⟨hx, hb, hml, hown, hts⟩ (c_X11_barge l hl9 D T ad M t1 t2 t3 t4 (fun q => A q ∧ q ≠ o) hAd q w hq hw h) ⟨cb, hts _ cwm_266, hts _ cwm_267⟩ ⟨lawPre_blind, va_recv hK hP (ci := 11) (q := (RX11, TX11, 12)) rfl i0, fun U hU hW => ⟨rfl, by rw [hU]; exact hP, va_K.moved hW.alike hK, by rw [hU]; exact (hE.warm hW).narrow (fun _ h9 => h9.1)⟩⟩ rfl rfl hl.1 rfl (Nat.le_of_ble_eq_true rfl) dL_barge_5 ⟨Nat.le_of_ble_eq_true rfl, Nat.le_of_ble_eq_true rfl⟩) hS (fun q9 _ h9 => h9.1) (fun q9 h9 => h9.1) (fun q9 _ h9 => h9.1) (fun E ce q9 u t H1 locs1 ht hvm hp hB hz hk hS hcell hcv hcl => ?_) (fun r u t H1 locs1 ht hvm hp hB hz hk hS => ?_)
  · obtain ⟨rfl, hP1⟩ := hB
    rw [ht] at hP1
    have hO1 := outW_kept hO (hk o (outW_lt hO) (fun h9 => h9.2 rfl))
    refine vx_catch (name := NSE) hown [] _ [] (htab.trans rfl) (fun z h9 => nomatch h9) rfl (by decide) (hts _ cwm_259) (va_Nw.use rfl hE.1.1) hcell hcv hcl ?_
    show W p l e _ s m _ below meth c H1 locs1 _ _ _ (F0 m 13 ls [.ref q9])
    refine lv_astore (lv' := [(4, .ref q9), (0, .ref (ad 0)), (1, .int (Int32.ofInt q)), (2, .int (Int32.ofInt w)), (3, .ref o)]) hx hb dL_barge_13 hl (by decide) rfl (fun ls hl => ?_)
    refine lv_iconst (v := Int32.ofInt 1) hx hb dL_barge_15 (by decide) ?_
    exact vx_ret (W.iret hx hb hr (fun t ht hW => ⟨⟨_, f, rfl, ⟨by rw [show bi (¬ ((0 ≤ q ∧ q < M 5 2) ∧ 0 ≤ w ∧ w ≤ 5)) = 1 from if_pos hp], fun hg => absurd hg hp⟩, by rw [ht]; exact hP1, by rw [ht]; exact hO1⟩, hS.F ht⟩) hS.2.2 dL_barge_16)
  · obtain ⟨hg, rfl⟩ := hp
    have hP1 : va_P D classes (wld T ad M SALL) H1 := by rw [← ht]; exact hB
    have hO1 := outW_kept hO (hk o (outW_lt hO) (fun h9 => h9.2 rfl))
    refine lv_i2l (v := (Int32.ofInt (if w < 4 then M 8 (q * 4 + w) else if w = 4 then (if M 8 (4 * q) < M 8 (4 * q + 1) then M 8 (4 * q) else 2 * (M 5 0 - 1) - M 8 (4 * q)) else (if M 8 (4 * q) < M 8 (4 * q + 1) then M 8 (4 * q + 1) else 2 * (M 5 0 - 1) - M 8 (4 * q + 1)))).toInt64) hx hb dL_barge_8 rfl ?_
    refine va_last hx hb hK (va_P.app hP1 hO1) (D_out hAd hAo) hS 92 1 (f := f) (n := 1) (cA := T 1) rfl rfl (vin (by decide) (by decide) (by decide)) dL_barge_9 (fun H locs hPC hDC hS => ?_)
    rw [out_set] at hPC
    have hP2 := P_left hPC
    have hO2 := P_right hPC
    refine lv_goto hx hb dL_barge_10 (tgt := 17) (by decide) ?_
    refine lv_iconst (v := Int32.ofInt 0) hx hb dL_barge_17 (by decide) ?_
    exact vx_ret (W.iret hx hb hr (fun t ht hW => ⟨⟨_, _, rfl, ⟨by rw [show bi (¬ ((0 ≤ q ∧ q < M 5 2) ∧ 0 ≤ w ∧ w ≤ 5)) = 0 from if_neg (fun h9 => h9 hg)], fun _ => rfl⟩, by rw [ht]; exact hP2, by rw [ht]; exact hO2⟩, hS.F ht⟩) hS.2.2 dL_barge_18)
theorem dL_act_0 : decode cL_act 0 = .ok (.aload_n 3, 1) := by decide +kernel
theorem dL_act_1 : decode cL_act 1 = .ok (.iconst 0, 1) := by decide +kernel
theorem dL_act_2 : decode cL_act 2 = .ok (.aload_n 0, 1) := by decide +kernel
theorem dL_act_3 : decode cL_act 3 = .ok (.iload_n 1, 1) := by decide +kernel
theorem dL_act_4 : decode cL_act 4 = .ok (.iload_n 2, 1) := by decide +kernel
theorem dL_act_5 : decode cL_act 5 = .ok (.invokevirtual 21, 3) := by decide +kernel
theorem dL_act_8 : decode cL_act 8 = .ok (.i2l, 1) := by decide +kernel
theorem dL_act_9 : decode cL_act 9 = .ok (.lastore, 1) := by decide +kernel
theorem dL_act_10 : decode cL_act 10 = .ok (.goto 7, 3) := by decide +kernel
theorem dL_act_13 : decode cL_act 13 = .ok (.astore 4, 2) := by decide +kernel
theorem dL_act_15 : decode cL_act 15 = .ok (.iconst 1, 1) := by decide +kernel
theorem dL_act_16 : decode cL_act 16 = .ok (.ireturn, 1) := by decide +kernel
theorem dL_act_17 : decode cL_act 17 = .ok (.iconst 0, 1) := by decide +kernel
theorem dL_act_18 : decode cL_act 18 = .ok (.ireturn, 1) := by decide +kernel
set_option maxHeartbeats 4000000 in
set_option maxRecDepth 100000 in
theorem c_L_act (l : Launch) (hl9 : l.stackTraces = false) (D : va_G) (T : Nat → ClassId) (ad : Nat → Nat) (M : Mem) (t1 t2 t3 t4 : Nat) (A : Nat → Prop) (o : Nat) (hAd : adD (fun q => A q ∧ q ≠ o) ad SALL) (hAo : A o) (q w : Int) (hq : I32 q) (hw : I32 w) (h : 0 ≤ M 4 3 ∧ M 4 3 ≤ 60) : vx_Met l yL_act (.codeWith yL_act cL_act 5 (some .int) [(0, 10, 13, 13)] :: gtb) ({ frames := 7, cells := 1, slots := 6, locals := 262 } : Room) (va_Pc [.ref (ad 0), .int (Int32.ofInt q), .int (Int32.ofInt w), .ref o] (fun U => lawPre D T ad M t1 t2 t3 t4 A U ∧ ∃ f, va_P D classes (outW T o f) U.heap)) (va_Qi (fun (r : Int32) (u : Nat → Int64) => r = Int32.ofInt (bi (¬ ((0 ≤ q ∧ q < M 4 3) ∧ 0 ≤ w ∧ w < 4))) ∧ (((0 ≤ q ∧ q < M 4 3) ∧ 0 ≤ w ∧ w < 4) → u 0 = (Int32.ofInt (M 12 (q * 4 + w))).toInt64)) (fun u t => va_P D classes (wld T ad M SALL) t.heap ∧ va_P D classes (outW T o u) t.heap) A) (vx_X (fun _ : Unit => False) (fun _ _ _ => True) A) 1 6 A := by
  refine vx_ofWH (cc := cL_act) (maxL := 5) (ret := some .int) (hh := [(0, 10, 13, 13)]) (by decide) rfl ?_
  intro p e s m args below meth c s₁ B hml hv
  obtain ⟨rfl, ⟨hP, hK, hE⟩, f, hO⟩ := hv
  have hx := B.exec
  have hb := B.bytes
  have hr := B.returns
  have hts0 := atoms_spec (ws := .codeWith yL_act cL_act 5 (some .int) [(0, 10, 13, 13)] :: gtb) B.pre
  have hts : ∀ w ∈ gtb, w.before _ s = true := fun w hw => hts0 w (List.mem_cons_of_mem _ hw)
  have htab : c.exceptionTable.toList = tableOf [(0, 10, 13, 13)] := vx_table (x := yL_act) B (hts0 _ List.mem_cons_self)
  have hown : s.vm.findClass RL = some m.cls := findClass_of_methodNamed B.named
  have hlocks := B.notSynchronized
  have hS : va_S A s.heap s.heap [] := va_S.rf
  have hl := lv_entry ([.ref (ad 0), .int (Int32.ofInt q), .int (Int32.ofInt w), .ref o]) (n := 5) (Nat.le_of_ble_eq_true rfl)
  rw [lg_entry_eq]
  generalize (lg_sl ([.ref (ad 0), .int (Int32.ofInt q), .int (Int32.ofInt w), .ref o]) ++ List.replicate (5 - (lg_sl ([.ref (ad 0), .int (Int32.ofInt q), .int (Int32.ofInt w), .ref o])).length) Slot.unset).toArray = ls at hl ⊢
  have hl : lv_has ls 5 [(0, .ref (ad 0)), (1, .int (Int32.ofInt q)), (2, .int (Int32.ofInt w)), (3, .ref o)] := hl
  have i0 : (wld T ad M SALL)[0]? = some (ad 0, .inr (11, flds ad M 0 11)) := wld_a rfl
  refine lv_aload_n hx hb dL_act_0 rfl (lv_at hl 3 rfl) ?_
  refine lv_iconst (v := Int32.ofInt 0) hx hb dL_act_1 (by decide) ?_
  refine lv_aload_n hx hb dL_act_2 rfl (lv_at hl 0 rfl) ?_
  refine lv_iload_n hx hb dL_act_3 rfl (lv_at hl 1 rfl) ?_
  refine lv_iload_n hx hb dL_act_4 rfl (lv_at hl 2 rfl) ?_
  have cb := callB_of (R := (headSpec (.codeWith yL_act cL_act 5 (some .int) [(0, 10, 13, 13)] :: gtb) ({ frames := 7, cells := 1, slots := 6, locals := 262 } : Room)).room) (own := RL) (index := 21) (mc := 1) (ms := 6) (y := yX11_act) 2 hts (ctor_good cwm_268) (ws' := gtb) (rm := ({ frames := 6, cells := 1, slots := 6, locals := 240 } : Room)) rfl rfl rfl (hts _ cwm_255) (hts _ cwm_269) (by decide +kernel) ⟨Nat.le_of_ble_eq_true rfl, Nat.le_of_ble_eq_true rfl⟩
  refine vx_calli (vx_runV (As := [.int (Int32.ofInt q), .int (Int32.ofInt w)]) (b := ad 0) (C := RX11) (rest := [.int (Int32.ofInt 0), .ref o]) ⟨hx, hb, hml, hown, hts⟩ (c_X11_act l hl9 D T ad M t1 t2 t3 t4 (fun q => A q ∧ q ≠ o) hAd q w hq hw h) ⟨cb, hts _ cwm_270, hts _ cwm_271⟩ ⟨lawPre_blind, va_recv hK hP (ci := 11) (q := (RX11, TX11, 12)) rfl i0, fun U hU hW => ⟨rfl, by rw [hU]; exact hP, va_K.moved hW.alike hK, by rw [hU]; exact (hE.warm hW).narrow (fun _ h9 => h9.1)⟩⟩ rfl rfl hl.1 rfl (Nat.le_of_ble_eq_true rfl) dL_act_5 ⟨Nat.le_of_ble_eq_true rfl, Nat.le_of_ble_eq_true rfl⟩) hS (fun q9 _ h9 => h9.1) (fun q9 h9 => h9.1) (fun q9 _ h9 => h9.1) (fun E ce q9 u t H1 locs1 ht hvm hp hB hz hk hS hcell hcv hcl => ?_) (fun r u t H1 locs1 ht hvm hp hB hz hk hS => ?_)
  · obtain ⟨rfl, hP1⟩ := hB
    rw [ht] at hP1
    have hO1 := outW_kept hO (hk o (outW_lt hO) (fun h9 => h9.2 rfl))
    refine vx_catch (name := NSE) hown [] _ [] (htab.trans rfl) (fun z h9 => nomatch h9) rfl (by decide) (hts _ cwm_259) (va_Nw.use rfl hE.1.1) hcell hcv hcl ?_
    show W p l e _ s m _ below meth c H1 locs1 _ _ _ (F0 m 13 ls [.ref q9])
    refine lv_astore (lv' := [(4, .ref q9), (0, .ref (ad 0)), (1, .int (Int32.ofInt q)), (2, .int (Int32.ofInt w)), (3, .ref o)]) hx hb dL_act_13 hl (by decide) rfl (fun ls hl => ?_)
    refine lv_iconst (v := Int32.ofInt 1) hx hb dL_act_15 (by decide) ?_
    exact vx_ret (W.iret hx hb hr (fun t ht hW => ⟨⟨_, f, rfl, ⟨by rw [show bi (¬ ((0 ≤ q ∧ q < M 4 3) ∧ 0 ≤ w ∧ w < 4)) = 1 from if_pos hp], fun hg => absurd hg hp⟩, by rw [ht]; exact hP1, by rw [ht]; exact hO1⟩, hS.F ht⟩) hS.2.2 dL_act_16)
  · obtain ⟨hg, rfl⟩ := hp
    have hP1 : va_P D classes (wld T ad M SALL) H1 := by rw [← ht]; exact hB
    have hO1 := outW_kept hO (hk o (outW_lt hO) (fun h9 => h9.2 rfl))
    refine lv_i2l (v := (Int32.ofInt (M 12 (q * 4 + w))).toInt64) hx hb dL_act_8 rfl ?_
    refine va_last hx hb hK (va_P.app hP1 hO1) (D_out hAd hAo) hS 92 1 (f := f) (n := 1) (cA := T 1) rfl rfl (vin (by decide) (by decide) (by decide)) dL_act_9 (fun H locs hPC hDC hS => ?_)
    rw [out_set] at hPC
    have hP2 := P_left hPC
    have hO2 := P_right hPC
    refine lv_goto hx hb dL_act_10 (tgt := 17) (by decide) ?_
    refine lv_iconst (v := Int32.ofInt 0) hx hb dL_act_17 (by decide) ?_
    exact vx_ret (W.iret hx hb hr (fun t ht hW => ⟨⟨_, _, rfl, ⟨by rw [show bi (¬ ((0 ≤ q ∧ q < M 4 3) ∧ 0 ≤ w ∧ w < 4)) = 0 from if_neg (fun h9 => h9 hg)], fun _ => rfl⟩, by rw [ht]; exact hP2, by rw [ht]; exact hO2⟩, hS.F ht⟩) hS.2.2 dL_act_18)
