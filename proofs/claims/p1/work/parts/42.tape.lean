/-! THE TABLE OF WORDS -/
def tpw : Nat → Nat
  | 0 => 0
  | k + 1 => if wordsB.getD k 0 = 32 then tpw k + 1 else tpw k
def tpc : Nat → Int
  | 0 => 0
  | k + 1 => if wordsB.getD k 0 = 32 then 0 else tpc k * 32 + (wbI k - 97 + 1)
def tpM : Nat → Mem
  | 0 => zM
  | k + 1 => if wordsB.getD k 0 = 32 then up (tpM k) 3 (tpw k : Int) (tpc k) else tpM k
theorem tp_all : ∀ k, k < 83 → tpw k < 17 := by decide +kernel
theorem tpM_o : ∀ (k b : Nat), b ≠ 3 → tpM k b = z0 := by
  intro k
  induction k with
  | zero => intro b _; rfl
  | succ k ih =>
    intro b hb
    unfold tpM
    split
    · funext j
      unfold up
      rw [if_neg (fun h => hb h.1), ih b hb]
    · exact ih b hb
def wcF : Int → Int := tpM 83 3
def tpW : Mem := fun a => if a = 3 then wcF else z0
theorem tpM_W : tpM 83 = tpW := by
  funext b
  unfold tpW
  by_cases h : b = 3
  · rw [if_pos h, h]; rfl
  · rw [if_neg h, tpM_o 83 b h]
theorem dX9_init_0 : decode cX9_init 0 = .ok (.aload_n 0, 1) := by decide +kernel
theorem dX9_init_1 : decode cX9_init 1 = .ok (.invokespecial 3, 3) := by decide +kernel
theorem dX9_init_4 : decode cX9_init 4 = .ok (.aload_n 0, 1) := by decide +kernel
theorem dX9_init_5 : decode cX9_init 5 = .ok (.sipush 940, 3) := by decide +kernel
theorem dX9_init_8 : decode cX9_init 8 = .ok (.newarray .int, 2) := by decide +kernel
theorem dX9_init_10 : decode cX9_init 10 = .ok (.putfield 9, 3) := by decide +kernel
theorem dX9_init_13 : decode cX9_init 13 = .ok (.aload_n 0, 1) := by decide +kernel
theorem dX9_init_14 : decode cX9_init 14 = .ok (.bipush 17, 2) := by decide +kernel
theorem dX9_init_16 : decode cX9_init 16 = .ok (.newarray .int, 2) := by decide +kernel
theorem dX9_init_18 : decode cX9_init 18 = .ok (.putfield 15, 3) := by decide +kernel
theorem dX9_init_21 : decode cX9_init 21 = .ok (.iconst 0, 1) := by decide +kernel
theorem dX9_init_22 : decode cX9_init 22 = .ok (.istore_n 1, 1) := by decide +kernel
theorem dX9_init_23 : decode cX9_init 23 = .ok (.iconst 0, 1) := by decide +kernel
theorem dX9_init_24 : decode cX9_init 24 = .ok (.istore_n 2, 1) := by decide +kernel
theorem dX9_init_25 : decode cX9_init 25 = .ok (.iconst 0, 1) := by decide +kernel
theorem dX9_init_26 : decode cX9_init 26 = .ok (.istore_n 3, 1) := by decide +kernel
theorem dX9_init_27 : decode cX9_init 27 = .ok (.iload_n 3, 1) := by decide +kernel
theorem dX9_init_28 : decode cX9_init 28 = .ok (.ldc 18, 2) := by decide +kernel
theorem dX9_init_30 : decode cX9_init 30 = .ok (.invokevirtual 20, 3) := by decide +kernel
theorem dX9_init_33 : decode cX9_init 33 = .ok (.if_icmp .ge 52, 3) := by decide +kernel
theorem dX9_init_36 : decode cX9_init 36 = .ok (.iload_n 1, 1) := by decide +kernel
theorem dX9_init_37 : decode cX9_init 37 = .ok (.bipush 17, 2) := by decide +kernel
theorem dX9_init_39 : decode cX9_init 39 = .ok (.if_icmp .ge 46, 3) := by decide +kernel
theorem dX9_init_42 : decode cX9_init 42 = .ok (.ldc 18, 2) := by decide +kernel
theorem dX9_init_44 : decode cX9_init 44 = .ok (.iload_n 3, 1) := by decide +kernel
theorem dX9_init_45 : decode cX9_init 45 = .ok (.invokevirtual 26, 3) := by decide +kernel
theorem dX9_init_48 : decode cX9_init 48 = .ok (.bipush 32, 2) := by decide +kernel
theorem dX9_init_50 : decode cX9_init 50 = .ok (.if_icmp .ne 18, 3) := by decide +kernel
theorem dX9_init_53 : decode cX9_init 53 = .ok (.aload_n 0, 1) := by decide +kernel
theorem dX9_init_54 : decode cX9_init 54 = .ok (.getfield 15, 3) := by decide +kernel
theorem dX9_init_57 : decode cX9_init 57 = .ok (.iload_n 1, 1) := by decide +kernel
theorem dX9_init_58 : decode cX9_init 58 = .ok (.iload_n 2, 1) := by decide +kernel
theorem dX9_init_59 : decode cX9_init 59 = .ok (.iastore, 1) := by decide +kernel
theorem dX9_init_60 : decode cX9_init 60 = .ok (.iinc 1 1, 3) := by decide +kernel
theorem dX9_init_63 : decode cX9_init 63 = .ok (.iconst 0, 1) := by decide +kernel
theorem dX9_init_64 : decode cX9_init 64 = .ok (.istore_n 2, 1) := by decide +kernel
theorem dX9_init_65 : decode cX9_init 65 = .ok (.goto 14, 3) := by decide +kernel
theorem dX9_init_68 : decode cX9_init 68 = .ok (.iload_n 2, 1) := by decide +kernel
theorem dX9_init_69 : decode cX9_init 69 = .ok (.ldc 18, 2) := by decide +kernel
theorem dX9_init_71 : decode cX9_init 71 = .ok (.iload_n 3, 1) := by decide +kernel
theorem dX9_init_72 : decode cX9_init 72 = .ok (.invokevirtual 26, 3) := by decide +kernel
theorem dX9_init_75 : decode cX9_init 75 = .ok (.invokestatic 30, 3) := by decide +kernel
theorem dX9_init_78 : decode cX9_init 78 = .ok (.istore_n 2, 1) := by decide +kernel
theorem dX9_init_79 : decode cX9_init 79 = .ok (.iinc 3 1, 3) := by decide +kernel
theorem dX9_init_82 : decode cX9_init 82 = .ok (.goto (-55), 3) := by decide +kernel
theorem dX9_init_85 : decode cX9_init 85 = .ok (.return_, 1) := by decide +kernel
theorem ex_letter (c b : Int) : ∃ n, exec n 0 72 (blk 72 0) (ini 72 [aI c, aI b]) [] zM = some ([aI (c * 32 + (b - 97 + 1))], zM) := X_exec (by
  simp (disch := first | exact nl_i _ | exact nl_r _ | exact Nat.le_of_ble_eq_true rfl | exact Or.inl rfl | exact Or.inr rfl | exact w8_lo _ | exact w8_hi _ | decide | omega) only [e_72, k_72_0, v_fall, v_il_0, v_al_0, v_is_0, v_as_0, v_inc_0, v_ll_0, v_ls_0, v_il_1, v_al_1, v_is_1, v_as_1, v_inc_1, v_ll_1, v_ls_1, v_il_2, v_al_2, v_is_2, v_as_2, v_inc_2, v_ll_2, v_ls_2, v_il_3, v_al_3, v_is_3, v_as_3, v_inc_3, v_ll_3, v_ls_3, v_il_4, v_al_4, v_is_4, v_as_4, v_inc_4, v_ll_4, v_ls_4, v_il_5, v_al_5, v_is_5, v_as_5, v_inc_5, v_ll_5, v_ls_5, v_il_6, v_al_6, v_is_6, v_as_6, v_inc_6, v_il_7, v_al_7, v_is_7, v_as_7, v_inc_7, v_il_8, v_al_8, v_is_8, v_as_8, v_inc_8, v_il_9, v_al_9, v_is_9, v_as_9, v_inc_9, v_il_10, v_al_10, v_is_10, v_as_10, v_inc_10, v_il_11, v_al_11, v_is_11, v_as_11, v_inc_11, v_il_12, v_al_12, v_is_12, v_as_12, v_inc_12, v_il_13, v_al_13, v_is_13, v_as_13, v_inc_13, v_c_8, v_c_9, v_c_10, v_c_11, v_c_12, v_c_13, v_c_14, v_b_15, v_b_16, v_b_17, v_b_21, v_b_22, v_b_23, v_b_24, v_b_25, v_b_26, v_b_18, v_b_19, v_b_20, v_b_27, v_b_28, v_b_29, v_b_30, v_b_31, v_dup_i, v_dup_r, v_dup2, v_pop, v_gi, v_gl, v_gr, v_pi, v_pl, v_pz, v_iald, v_lald, v_bald, v_zald, v_aald, v_iast, v_last, v_bast, v_zast, v_alen_0, v_alen_1, v_alen_2, v_alen_3, v_alen_4, v_j_45, v_j_46, v_j_47, v_j_48, v_j_49, v_j_50, v_j_51, v_j_52, v_j_53, v_j_54, v_j_55, v_j_56, v_goto, v_sw, v_ret_i, v_ret_z, v_ret, v_cpy, v_iv_1, v_iv_2, v_iv_3, v_iv_4, v_iv_5, v_iv_6, v_is2_1, v_is2_2, v_is2_3, v_ivJ, List.nil_append, List.cons_append, rf_0_0, rf_0_1, rf_0_2, rf_0_3, rf_0_4, rf_0_5, rf_0_6, rf_0_7, rf_0_8, rf_0_9, rf_1_0, rf_1_2, rf_4_0, rf_4_1, rf_4_2, rf_5_8, rf_5_9, rf_5_10, rf_5_11, rf_5_12, rf_13_0, rf_13_1, rf_14_0, rf_14_1, rf_14_2, rf_15_8, rf_15_9, rf_15_10, rf_15_11, rf_15_12, rf_23_0, rf_23_1, rf_23_2, rf_24_8, rf_24_9, rf_24_10, rf_24_11, rf_24_12, rf_32_6, rf_34_0, rf_34_1, rf_34_2, rf_34_3, rf_35_8, rf_35_9, rf_35_10, rf_35_11, rf_35_12, rf_43_0, rf_43_1, rf_43_2, rf_43_3, rf_45_0, rf_45_1, rf_46_0, rf_46_1, rf_46_2, rf_46_3, rf_46_4, rf_46_5, rf_47_0, rf_47_1, rf_49_0, rf_49_1, rf_49_2, rf_49_3, rf_49_4, rf_49_5, rf_53_0, rf_53_1, rf_53_2, rf_53_3, rf_53_4, rf_53_5, rf_53_6, rf_53_7, rf_53_9, rf_53_10, rf_53_11, rf_53_12, rf_53_13, rf_54_0, rf_54_1, rf_55_1, rf_55_2, rf_55_3, rf_67_1, rf_67_6, rf_67_7, rf_67_8, rf_67_9, rf_67_10, rf_67_22, rf_67_23, rf_67_28, rf_67_30, rf_67_32, rf_67_33, rf_67_38, rf_67_39, rf_67_48, rf_67_49, rf_67_51, rf_67_52, rf_67_53, rf_67_54, rf_67_55, rf_67_60, rf_67_61, rf_67_62]
  first | exact ⟨rfl, rfl⟩ | exact ⟨trivial, trivial⟩ | simp)
section TL
variable {p : Program} {l : Launch} {e : Env} {R : Room} {s : State} {m : MethodId} {args : Array Value} {below : List Frame} {meth : Method} {c : Code} {D : va_G} {T : Nat → ClassId} {A : Nat → Prop} {ad : Nat → Nat} {cells slots : Nat} {Q : State → Prop} {q v : Nat}
set_option maxHeartbeats 4000000 in
set_option maxRecDepth 100000 in
theorem tloop (hx : p.tables.exec = Jvm.exec) (hb : c.code = cX9_init) (hml : c.maxLocals = 4) (hown : s.vm.findClass RX9 = some m.cls) (hts : ∀ w ∈ gtb, w.before args s = true) (hK : va_K D classes (tysL T) s) (hD : adD A ad [1, 2, 3]) (hE : strU q v A s s.heap) (hR9 : vk_R RX9 18 wordsT q s) (hRm : 5 ≤ R.frames ∧ 120 ≤ R.locals ∧ cells + 0 ≤ R.cells ∧ slots + 0 ≤ R.slots)
    (kk : ∀ (ls : Array Slot) (H : Heap) (locs : List Loc), lv_has ls 4 [(3, .int (Int32.ofInt ((83 : Nat) : Int))), (2, .int (Int32.ofInt (tpc 83))), (1, .int (Int32.ofInt (tpw 83 : Int))), (0, .ref (ad 1))] → va_P D classes (wld T ad (tpM 83) [1, 2, 3]) H → va_S A s.heap H locs → W p l e R s m args below meth c H locs cells slots Q (F0 m 85 ls [])) :
    ∀ (n k : Nat), k + n = 83 → ∀ (ls : Array Slot) (H : Heap) (locs : List Loc), lv_has ls 4 [(3, .int (Int32.ofInt (k : Int))), (2, .int (Int32.ofInt (tpc k))), (1, .int (Int32.ofInt (tpw k : Int))), (0, .ref (ad 1))] → va_P D classes (wld T ad (tpM k) [1, 2, 3]) H → va_S A s.heap H locs → W p l e R s m args below meth c H locs cells slots Q (F0 m 27 ls []) := by
  intro n
  induction n with
  | zero =>
    intro k hk9 ls H locs hl hP hS
    have hk9 : k = 83 := by omega
    subst hk9
    refine lv_iload_n hx hb dX9_init_27 rfl (lv_at hl 0 rfl) ?_
    refine va_ldcS hx hb hown hR9 dX9_init_28 ?_
    have cb := callB_of (R := R) (own := RX9) (index := 20) (mc := 0) (ms := 0) (y := yJ0_length_8abf5) 0 hts (ctor_good cwm_167) (ws' := gtb) (rm := ({ frames := 2, cells := 0, slots := 0, locals := 32 } : Room)) rfl rfl rfl (hts _ cwm_144) (hts _ cwm_168) (by decide +kernel) ⟨Nat.le_trans (Nat.le_of_ble_eq_true rfl) hRm.1, Nat.le_trans (Nat.le_of_ble_eq_true rfl) hRm.2.1⟩
    refine va_calli (va_runV (As := []) (b := q) (rest := [.int (Int32.ofInt ((83 : Nat) : Int))]) (C := RJ0) ⟨hx, hb, hml, hown, hts⟩ (c_length l q v) ⟨cb, hts _ cwm_169, hts _ cwm_170⟩ ⟨str_blind, str_recv hE hS, fun U hU hW => ⟨rfl, by show strU q v no9 U U.heap; rw [hU]; exact ((hE.kept hS.2.1).moved hW.alike).narrow (fun _ h => h.elim)⟩⟩ rfl rfl hl.1 rfl (Nat.le_of_ble_eq_true rfl) dX9_init_30 ⟨hRm.2.2.1, hRm.2.2.2⟩) hS (fun q9 _ h => h.elim) (fun q9 h => h.elim) (fun r u t H1 locs1 ht hvm hr9 hB hz hk hS => ?_)
    subst hr9
    have hP := P_kept hP hk
    clear hk hz hB hvm ht t u cb
    generalize H1 = H at hP hS ⊢
    generalize locs1 = locs at hS ⊢
    refine lv_icmp_ge hx hb dX9_init_33 (tgt := 85) (by decide) (fun _ => kk ls H locs hl hP hS) (fun h => absurd (by decide) h)
  | succ n ih =>
    intro k hkn ls H locs hl hP hS
    have hk9 : k < 83 := by omega
    have ek : w32 (k : Int) = k := w32_of (by omega) (by omega)
    have hw9 := tp_all k hk9
    refine lv_iload_n hx hb dX9_init_27 rfl (lv_at hl 0 rfl) ?_
    refine va_ldcS hx hb hown hR9 dX9_init_28 ?_
    have cb := callB_of (R := R) (own := RX9) (index := 20) (mc := 0) (ms := 0) (y := yJ0_length_8abf5) 0 hts (ctor_good cwm_167) (ws' := gtb) (rm := ({ frames := 2, cells := 0, slots := 0, locals := 32 } : Room)) rfl rfl rfl (hts _ cwm_144) (hts _ cwm_168) (by decide +kernel) ⟨Nat.le_trans (Nat.le_of_ble_eq_true rfl) hRm.1, Nat.le_trans (Nat.le_of_ble_eq_true rfl) hRm.2.1⟩
    refine va_calli (va_runV (As := []) (b := q) (rest := [.int (Int32.ofInt (k : Int))]) (C := RJ0) ⟨hx, hb, hml, hown, hts⟩ (c_length l q v) ⟨cb, hts _ cwm_169, hts _ cwm_170⟩ ⟨str_blind, str_recv hE hS, fun U hU hW => ⟨rfl, by show strU q v no9 U U.heap; rw [hU]; exact ((hE.kept hS.2.1).moved hW.alike).narrow (fun _ h => h.elim)⟩⟩ rfl rfl hl.1 rfl (Nat.le_of_ble_eq_true rfl) dX9_init_30 ⟨hRm.2.2.1, hRm.2.2.2⟩) hS (fun q9 _ h => h.elim) (fun q9 h => h.elim) (fun r u t H1 locs1 ht hvm hr9 hB hz hk hS => ?_)
    subst hr9
    have hP := P_kept hP hk
    clear hk hz hB hvm ht t u cb
    generalize H1 = H at hP hS ⊢
    generalize locs1 = locs at hS ⊢
    refine lv_icmp_ge hx hb dX9_init_33 (tgt := 85) (by decide) (fun h => absurd (le32.mp h) (by rw [ek]; show ¬ (83 : Int) ≤ k; omega)) (fun _ => ?_)
    refine lv_iload_n hx hb dX9_init_36 rfl (lv_at hl 2 rfl) ?_
    refine lv_bipush (v := Int32.ofInt 17) hx hb dX9_init_37 (by decide) ?_
    refine lv_icmp_ge hx hb dX9_init_39 (tgt := 85) (by decide) (fun h => absurd (le32.mp h) (by rw [w32_of (x := (tpw k : Int)) (by omega) (by omega)]; show ¬ (17 : Int) ≤ tpw k; omega)) (fun _ => ?_)
    refine va_ldcS hx hb hown hR9 dX9_init_42 ?_
    refine lv_iload_n hx hb dX9_init_44 rfl (lv_at hl 0 rfl) ?_
    have cb := callB_of (R := R) (own := RX9) (index := 26) (mc := 0) (ms := 0) (y := yJ0_charAt_5068e) 1 hts (ctor_good cwm_171) (ws' := gtb) (rm := ({ frames := 4, cells := 0, slots := 0, locals := 76 } : Room)) rfl rfl rfl (hts _ cwm_144) (hts _ cwm_172) (by decide +kernel) ⟨Nat.le_trans (Nat.le_of_ble_eq_true rfl) hRm.1, Nat.le_trans (Nat.le_of_ble_eq_true rfl) hRm.2.1⟩
    refine va_calli (va_runV (As := [.int (Int32.ofInt (k : Int))]) (b := q) (rest := []) (C := RJ0) ⟨hx, hb, hml, hown, hts⟩ (c_charAt l q v k hk9) ⟨cb, hts _ cwm_173, hts _ cwm_174⟩ ⟨str_blind, str_recv hE hS, fun U hU hW => ⟨rfl, by show strU q v no9 U U.heap; rw [hU]; exact ((hE.kept hS.2.1).moved hW.alike).narrow (fun _ h => h.elim)⟩⟩ rfl rfl hl.1 rfl (Nat.le_of_ble_eq_true rfl) dX9_init_45 ⟨hRm.2.2.1, hRm.2.2.2⟩) hS (fun q9 _ h => h.elim) (fun q9 h => h.elim) (fun r u t H1 locs1 ht hvm hr9 hB hz hk hS => ?_)
    subst hr9
    have hP := P_kept hP hk
    clear hk hz hB hvm ht t u cb
    generalize H1 = H at hP hS ⊢
    generalize locs1 = locs at hS ⊢
    refine lv_bipush (v := 32) hx hb dX9_init_48 (by decide) ?_
    have h32 := wb_32 k hk9
    refine lv_icmp_ne hx hb dX9_init_50 (tgt := 68) (by decide) (fun hne => ?_) (fun heq => ?_)
    · have hn : ¬ wordsB.getD k 0 = 32 := fun h => hne (of_decide_eq_true (h32.trans (decide_eq_true h)))
      have e1 : tpw (k + 1) = tpw k := by rw [tpw, if_neg hn]
      have e2 : tpc (k + 1) = tpc k * 32 + (wbI k - 97 + 1) := by rw [tpc, if_neg hn]
      have e3 : tpM (k + 1) = tpM k := by rw [tpM, if_neg hn]
      refine lv_iload_n hx hb dX9_init_68 rfl (lv_at hl 1 rfl) ?_
      refine va_ldcS hx hb hown hR9 dX9_init_69 ?_
      refine lv_iload_n hx hb dX9_init_71 rfl (lv_at hl 0 rfl) ?_
      have cb := callB_of (R := R) (own := RX9) (index := 26) (mc := 0) (ms := 0) (y := yJ0_charAt_5068e) 1 hts (ctor_good cwm_171) (ws' := gtb) (rm := ({ frames := 4, cells := 0, slots := 0, locals := 76 } : Room)) rfl rfl rfl (hts _ cwm_144) (hts _ cwm_172) (by decide +kernel) ⟨Nat.le_trans (Nat.le_of_ble_eq_true rfl) hRm.1, Nat.le_trans (Nat.le_of_ble_eq_true rfl) hRm.2.1⟩
      refine va_calli (va_runV (As := [.int (Int32.ofInt (k : Int))]) (b := q) (rest := [.int (Int32.ofInt (tpc k))]) (C := RJ0) ⟨hx, hb, hml, hown, hts⟩ (c_charAt l q v k hk9) ⟨cb, hts _ cwm_173, hts _ cwm_174⟩ ⟨str_blind, str_recv hE hS, fun U hU hW => ⟨rfl, by show strU q v no9 U U.heap; rw [hU]; exact ((hE.kept hS.2.1).moved hW.alike).narrow (fun _ h => h.elim)⟩⟩ rfl rfl hl.1 rfl (Nat.le_of_ble_eq_true rfl) dX9_init_72 ⟨hRm.2.2.1, hRm.2.2.2⟩) hS (fun q9 _ h => h.elim) (fun q9 h => h.elim) (fun r u t H1 locs1 ht hvm hr9 hB hz hk hS => ?_)
      subst hr9
      have hP := P_kept hP hk
      clear hk hz hB hvm ht t u cb
      generalize H1 = H at hP hS ⊢
      generalize locs1 = locs at hS ⊢
      show W p l e R s m args below meth c H locs cells slots Q (F0 m 75 ls [.int (Int32.ofInt (wbI k)), .int (Int32.ofInt (tpc k))])
      refine ct_callS (A1 := no9) (ad := ad) (S := []) (d := 0) (z := 72) (as := [aI (tpc k), aI (wbI k)]) ⟨hx, hb, hown, hts, hK, hl.1.trans hml.symm⟩ ⟨fun i j a b h => (by cases h), fun a h => nomatch h⟩ rfl (M := zM) (fun i q9 h => (by cases h)) (by decide) (by decide +kernel) (show npar 72 = some 2 from by decide +kernel) (Or.inl ⟨rfl, (show ∀ g ∈ mdG 72, 2 ≤ g from by decide +kernel), (show 2 ≤ mdL 72 from by decide +kernel)⟩) (by intro v hv; simp only [List.mem_cons, List.not_mem_nil, or_false] at hv; rcases hv with rfl | rfl <;> exact ⟨trivial, rfl⟩) cwm_175 ⟨Nat.le_trans (Nat.le_of_ble_eq_true rfl) hRm.1, Nat.le_trans (Nat.le_of_ble_eq_true rfl) hRm.2.1⟩ ⟨hRm.2.2.1, hRm.2.2.2⟩ (ex_letter _ _) dX9_init_75 (Nat.le_of_ble_eq_true rfl) (rest := []) rfl hS (fun q9 h => h.elim) (fun H1 locs1 _ hz hk hS => ?_)
      have hP := P_kept hP hk
      clear hk hz
      generalize H1 = H at hP hS ⊢
      generalize locs1 = locs at hS ⊢
      refine W.eq (g2 := F0 m 78 ls [.int (Int32.ofInt (tpc k * 32 + (wbI k - 97 + 1)))]) rfl ?_
      rw [← e2]
      refine lv_istore_n (lv' := [(2, .int (Int32.ofInt (tpc (k + 1)))), (3, .int (Int32.ofInt (k : Int))), (1, .int (Int32.ofInt (tpw k : Int))), (0, .ref (ad 1))]) hx hb dX9_init_78 rfl hl (by decide) rfl (fun ls hl => ?_)
      refine lv_iinc (k := 1) (v := Int32.ofInt ((k + 1 : Nat) : Int)) (lv' := [(3, .int (Int32.ofInt ((k + 1 : Nat) : Int))), (2, .int (Int32.ofInt (tpc (k + 1)))), (1, .int (Int32.ofInt (tpw k : Int))), (0, .ref (ad 1))]) hx hb dX9_init_79 hl rfl (by rw [← Int32.ofInt_add]; rfl) (by decide) rfl (fun ls hl => ?_)
      refine lv_goto hx hb dX9_init_82 (tgt := 27) (by decide) ?_
      exact ih (k + 1) (by omega) ls H locs (by rw [e1]; exact hl) (by rw [e3]; exact hP) hS
    · have hn : wordsB.getD k 0 = 32 := of_decide_eq_true (h32.symm.trans (decide_eq_true (heq)))
      have e1 : tpw (k + 1) = tpw k + 1 := by rw [tpw, if_pos hn]
      have e2 : tpc (k + 1) = 0 := by rw [tpc, if_pos hn]
      have e3 : tpM (k + 1) = up (tpM k) 3 (tpw k : Int) (tpc k) := by rw [tpM, if_pos hn]
      have he : (wld T ad (tpM k) [1, 2, 3])[0]? = some (ad 1, .inr (9, flds ad (tpM k) 1 9)) := wld_a rfl
      have he3 : (wld T ad (tpM k) [1, 2, 3])[2]? = some (ad 3, .inl (T 0, 17, .inl (fun j => Int32.ofInt (tpM k 3 (j : Int))))) := wld_a rfl
      refine lv_aload_n hx hb dX9_init_53 rfl (lv_at hl 3 rfl) ?_
      refine va_get (D := D) (ci := 9) (v := .ref (ad 3)) (C := cR 9) (T := cT 9) (N := cN 9) hx hb hts (iw_all 9 (by decide)) hown hK hP 0 he rfl 2 (by decide) (hts _ cwm_166) (fun _ h9 => h9) rfl dX9_init_54 ?_
      refine lv_iload_n hx hb dX9_init_57 rfl (lv_at hl 2 rfl) ?_
      refine lv_iload_n hx hb dX9_init_58 rfl (lv_at hl 1 rfl) ?_
      refine va_iast hx hb hK hP hD.D hS 2 0 he3 rfl (vin (by omega) (by omega) (by decide)) dX9_init_59 (fun H locs hP _ hS => ?_)
      have hE9 : went T ad (up (tpM k) 3 (tpw k : Int) (tpc k)) 3 = .inl (T 0, 17, .inl (upd (fun j => Int32.ofInt (tpM k 3 (j : Int))) (tpw k) (Int32.ofInt (tpc k)))) := by
        rw [went_0 (n := 17) rfl, fun_up (by omega)]
        rfl
      have et : (Int32.ofInt (tpw k : Int)).toNatClampNeg = tpw k := (tnc (by omega) (by omega)).trans rfl
      rw [et, wld_set hD (a := 3) rfl hE9 (fun b hb => went_up hb), ← e3] at hP
      refine lv_iinc (k := 2) (v := Int32.ofInt ((tpw k + 1 : Nat) : Int)) (lv' := [(1, .int (Int32.ofInt ((tpw k + 1 : Nat) : Int))), (3, .int (Int32.ofInt (k : Int))), (2, .int (Int32.ofInt (tpc k))), (0, .ref (ad 1))]) hx hb dX9_init_60 hl rfl (by rw [← Int32.ofInt_add]; rfl) (by decide) rfl (fun ls hl => ?_)
      refine lv_iconst (v := Int32.ofInt 0) hx hb dX9_init_63 (by decide) ?_
      refine lv_istore_n (lv' := [(2, .int (Int32.ofInt 0)), (1, .int (Int32.ofInt ((tpw k + 1 : Nat) : Int))), (3, .int (Int32.ofInt (k : Int))), (0, .ref (ad 1))]) hx hb dX9_init_64 rfl hl (by decide) rfl (fun ls hl => ?_)
      refine lv_goto hx hb dX9_init_65 (tgt := 79) (by decide) ?_
      refine lv_iinc (k := 2) (v := Int32.ofInt ((k + 1 : Nat) : Int)) (lv' := [(3, .int (Int32.ofInt ((k + 1 : Nat) : Int))), (2, .int (Int32.ofInt 0)), (1, .int (Int32.ofInt ((tpw k + 1 : Nat) : Int))), (0, .ref (ad 1))]) hx hb dX9_init_79 hl rfl (by rw [← Int32.ofInt_add]; rfl) (by decide) rfl (fun ls hl => ?_)
      refine lv_goto hx hb dX9_init_82 (tgt := 27) (by decide) ?_
      exact ih (k + 1) (by omega) ls H locs (by rw [e1, e2]; exact hl) hP hS
end TL
set_option maxHeartbeats 4000000 in
set_option maxRecDepth 100000 in
theorem c_X9_init (l : Launch) (D : va_G) (T : Nat → ClassId) (h0 sz qs vs : Nat) : Met l yX9_init (.code yX9_init cX9_init 4 none :: gtb) ({ frames := 5, cells := 2, slots := 957, locals := 120 } : Room) (va_Pc [.ref h0] (fun U => U.heap.size = sz ∧ va_P D classes [(h0, .inr (9, [.null, .int (Int32.ofInt 0), .null, .int (Int32.ofInt 0), .int (Int32.ofInt 0), .int (Int32.ofInt 0), .int (Int32.ofInt 0), .int (Int32.ofInt 0), .int (Int32.ofInt 0), .int (Int32.ofInt 0), .int (Int32.ofInt 0)]))] U.heap ∧ va_K D classes (tysL T) U ∧ va_D (fun _ => True) [(h0, .inr (9, [.null, .int (Int32.ofInt 0), .null, .int (Int32.ofInt 0), .int (Int32.ofInt 0), .int (Int32.ofInt 0), .int (Int32.ofInt 0), .int (Int32.ofInt 0), .int (Int32.ofInt 0), .int (Int32.ofInt 0), .int (Int32.ofInt 0)]))] ∧ strU qs vs (va_A [(h0, .inr (9, [.null, .int (Int32.ofInt 0), .null, .int (Int32.ofInt 0), .int (Int32.ofInt 0), .int (Int32.ofInt 0), .int (Int32.ofInt 0), .int (Int32.ofInt 0), .int (Int32.ofInt 0), .int (Int32.ofInt 0), .int (Int32.ofInt 0)]))] sz) U U.heap ∧ vk_R RX9 18 wordsT qs U)) (va_Qv (fun _ : Unit => True) (fun _ t => ∃ q8 q16 : Nat, va_P D classes [(h0, .inr (9, [.ref q8, .int (Int32.ofInt 0), .ref q16, .int (Int32.ofInt 0), .int (Int32.ofInt 0), .int (Int32.ofInt 0), .int (Int32.ofInt 0), .int (Int32.ofInt 0), .int (Int32.ofInt 0), .int (Int32.ofInt 0), .int (Int32.ofInt 0)])), (q8, .inl (T 0, 940, .inl (fun j => Int32.ofInt (z0 (j : Int))))), (q16, .inl (T 0, 17, .inl (fun j => Int32.ofInt (wcF (j : Int)))))] t.heap ∧ va_D (va_A [(h0, .inr (9, [.null, .int (Int32.ofInt 0), .null, .int (Int32.ofInt 0), .int (Int32.ofInt 0), .int (Int32.ofInt 0), .int (Int32.ofInt 0), .int (Int32.ofInt 0), .int (Int32.ofInt 0), .int (Int32.ofInt 0), .int (Int32.ofInt 0)]))] sz) [(h0, .inr (9, [.ref q8, .int (Int32.ofInt 0), .ref q16, .int (Int32.ofInt 0), .int (Int32.ofInt 0), .int (Int32.ofInt 0), .int (Int32.ofInt 0), .int (Int32.ofInt 0), .int (Int32.ofInt 0), .int (Int32.ofInt 0), .int (Int32.ofInt 0)])), (q8, .inl (T 0, 940, .inl (fun j => Int32.ofInt (z0 (j : Int))))), (q16, .inl (T 0, 17, .inl (fun j => Int32.ofInt (wcF (j : Int)))))]) (va_A [(h0, .inr (9, [.null, .int (Int32.ofInt 0), .null, .int (Int32.ofInt 0), .int (Int32.ofInt 0), .int (Int32.ofInt 0), .int (Int32.ofInt 0), .int (Int32.ofInt 0), .int (Int32.ofInt 0), .int (Int32.ofInt 0), .int (Int32.ofInt 0)]))] sz)) 2 957 (va_A [(h0, .inr (9, [.null, .int (Int32.ofInt 0), .null, .int (Int32.ofInt 0), .int (Int32.ofInt 0), .int (Int32.ofInt 0), .int (Int32.ofInt 0), .int (Int32.ofInt 0), .int (Int32.ofInt 0), .int (Int32.ofInt 0), .int (Int32.ofInt 0)]))] sz) := by
  refine Met.ofW (cc := cX9_init) (maxL := 4) (ret := none) (by decide) rfl ?_
  intro p e s m args below meth c s₁ B hml hv
  obtain ⟨rfl, hsz, hP, hK, hD0, hE, hR9⟩ := hv
  have hx := B.exec
  have hb := B.bytes
  have hr := B.returns
  have hts0 := atoms_spec (ws := .code yX9_init cX9_init 4 none :: gtb) B.pre
  have hts : ∀ w ∈ gtb, w.before _ s = true := fun w hw => hts0 w (List.mem_cons_of_mem _ hw)
  have hown : s.vm.findClass RX9 = some m.cls := findClass_of_methodNamed B.named
  have hlocks := B.notSynchronized
  have hin : meth.name = "<init>" := (name_of_methodNamed B.named B.method).1
  subst hsz
  have hD := hD0.self (sz := s.heap.size)
  generalize hAe : va_A [(h0, .inr (9, [.null, .int (Int32.ofInt 0), .null, .int (Int32.ofInt 0), .int (Int32.ofInt 0), .int (Int32.ofInt 0), .int (Int32.ofInt 0), .int (Int32.ofInt 0), .int (Int32.ofInt 0), .int (Int32.ofInt 0), .int (Int32.ofInt 0)]))] s.heap.size = A at hD hE ⊢
  have hA : ∀ q : Nat, s.heap.size ≤ q → A q := fun q h => by rw [← hAe]; exact Or.inr h
  have hS : va_S A s.heap s.heap [] := va_S.rf
  have hP : va_P D classes [(h0, .inr (9, [.null, .int (Int32.ofInt 0), .null, .int (Int32.ofInt 0), .int (Int32.ofInt 0), .int (Int32.ofInt 0), .int (Int32.ofInt 0), .int (Int32.ofInt 0), .int (Int32.ofInt 0), .int (Int32.ofInt 0), .int (Int32.ofInt 0)]))] s.heap := hP
  have hl := lv_entry ([.ref h0]) (n := 4) (Nat.le_of_ble_eq_true rfl)
  rw [lg_entry_eq]
  generalize (lg_sl ([.ref h0]) ++ List.replicate (4 - (lg_sl ([.ref h0])).length) Slot.unset).toArray = ls at hl ⊢
  have hl : lv_has ls 4 [(0, .ref h0)] := hl
  refine lv_aload_n hx hb dX9_init_0 rfl (lv_at hl 0 rfl) ?_
  refine W.objInit hx hb hown (hts _ (cwm_164)) (hts _ (cwm_1)) (hts _ (cwm_2)) rfl (by rw [hml]; exact hl.1) rfl dX9_init_1 (Nat.le_of_ble_eq_true rfl) (Nat.le_of_ble_eq_true rfl) ?_
  refine W.eq (g2 := F0 m 4 ls []) rfl ?_
  refine lv_aload_n hx hb dX9_init_4 rfl (lv_at hl 0 rfl) ?_
  refine lv_sipush (v := Int32.ofInt 940) hx hb dX9_init_5 (by decide) ?_
  refine va_newa (atype := .int) (ty := .int) (n := Int32.ofInt 940) (N' := 940) (a0 := (940, .inl (fun j => Int32.ofInt (z0 (j : Int))))) hx hb (hts _ (cwm_3)) rfl hK hP hD hS hA (z0_0 940) (by decide) (by decide) (Nat.le_of_ble_eq_true rfl) (Nat.le_of_ble_eq_true rfl) (Nat.le_of_ble_eq_true rfl) dX9_init_8 (fun q8 cA H hK2 hP hD hS => ?_)
  have hcA := ka_0 hK hK2
  subst hcA
  clear hK2
  have hP : va_P D classes [(h0, .inr (9, [.null, .int (Int32.ofInt 0), .null, .int (Int32.ofInt 0), .int (Int32.ofInt 0), .int (Int32.ofInt 0), .int (Int32.ofInt 0), .int (Int32.ofInt 0), .int (Int32.ofInt 0), .int (Int32.ofInt 0), .int (Int32.ofInt 0)])), (q8, .inl (T 0, 940, .inl (fun j => Int32.ofInt (z0 (j : Int)))))] H := hP
  have hD : va_D A [(h0, .inr (9, [.null, .int (Int32.ofInt 0), .null, .int (Int32.ofInt 0), .int (Int32.ofInt 0), .int (Int32.ofInt 0), .int (Int32.ofInt 0), .int (Int32.ofInt 0), .int (Int32.ofInt 0), .int (Int32.ofInt 0), .int (Int32.ofInt 0)])), (q8, .inl (T 0, 940, .inl (fun j => Int32.ofInt (z0 (j : Int)))))] := hD
  refine W.widen (k := 1) (n := 940) (Nat.le_of_ble_eq_true rfl) (Nat.le_of_ble_eq_true rfl) ?_
  refine va_putF (D := D) (ci := 9) (v := .ref q8) (ty := cTy 9 0) (C := cR 9) (T := cT 9) (N := cN 9) hx hb hts (iw_all 9 (by decide)) (cTy 9) (ty_all 9 (by decide)) (nm_all 9 (by decide)) hown hK hP hD hS 0 rfl rfl 0 (by decide) (hts _ (cwm_165)) (fun _ h9 => h9) rfl hin rfl (ty_all 9 (by decide) 0 (by decide)) rfl rfl (by simp) dX9_init_10 (fun H locs hP hD hS => ?_)
  have hP : va_P D classes [(h0, .inr (9, [.ref q8, .int (Int32.ofInt 0), .null, .int (Int32.ofInt 0), .int (Int32.ofInt 0), .int (Int32.ofInt 0), .int (Int32.ofInt 0), .int (Int32.ofInt 0), .int (Int32.ofInt 0), .int (Int32.ofInt 0), .int (Int32.ofInt 0)])), (q8, .inl (T 0, 940, .inl (fun j => Int32.ofInt (z0 (j : Int)))))] H := hP
  have hD : va_D A [(h0, .inr (9, [.ref q8, .int (Int32.ofInt 0), .null, .int (Int32.ofInt 0), .int (Int32.ofInt 0), .int (Int32.ofInt 0), .int (Int32.ofInt 0), .int (Int32.ofInt 0), .int (Int32.ofInt 0), .int (Int32.ofInt 0), .int (Int32.ofInt 0)])), (q8, .inl (T 0, 940, .inl (fun j => Int32.ofInt (z0 (j : Int)))))] := hD
  refine lv_aload_n hx hb dX9_init_13 rfl (lv_at hl 0 rfl) ?_
  refine lv_bipush (v := Int32.ofInt 17) hx hb dX9_init_14 (by decide) ?_
  refine va_newa (atype := .int) (ty := .int) (n := Int32.ofInt 17) (N' := 17) (a0 := (17, .inl (fun j => Int32.ofInt (z0 (j : Int))))) hx hb (hts _ (cwm_3)) rfl hK hP hD hS hA (z0_0 17) (by decide) (by decide) (Nat.le_of_ble_eq_true rfl) (Nat.le_of_ble_eq_true rfl) (Nat.le_of_ble_eq_true rfl) dX9_init_16 (fun q16 cA H hK2 hP hD hS => ?_)
  have hcA := ka_0 hK hK2
  subst hcA
  clear hK2
  have hP : va_P D classes [(h0, .inr (9, [.ref q8, .int (Int32.ofInt 0), .null, .int (Int32.ofInt 0), .int (Int32.ofInt 0), .int (Int32.ofInt 0), .int (Int32.ofInt 0), .int (Int32.ofInt 0), .int (Int32.ofInt 0), .int (Int32.ofInt 0), .int (Int32.ofInt 0)])), (q8, .inl (T 0, 940, .inl (fun j => Int32.ofInt (z0 (j : Int))))), (q16, .inl (T 0, 17, .inl (fun j => Int32.ofInt (z0 (j : Int)))))] H := hP
  have hD : va_D A [(h0, .inr (9, [.ref q8, .int (Int32.ofInt 0), .null, .int (Int32.ofInt 0), .int (Int32.ofInt 0), .int (Int32.ofInt 0), .int (Int32.ofInt 0), .int (Int32.ofInt 0), .int (Int32.ofInt 0), .int (Int32.ofInt 0), .int (Int32.ofInt 0)])), (q8, .inl (T 0, 940, .inl (fun j => Int32.ofInt (z0 (j : Int))))), (q16, .inl (T 0, 17, .inl (fun j => Int32.ofInt (z0 (j : Int)))))] := hD
  refine W.widen (k := 2) (n := 957) (Nat.le_of_ble_eq_true rfl) (Nat.le_of_ble_eq_true rfl) ?_
  refine va_putF (D := D) (ci := 9) (v := .ref q16) (ty := cTy 9 2) (C := cR 9) (T := cT 9) (N := cN 9) hx hb hts (iw_all 9 (by decide)) (cTy 9) (ty_all 9 (by decide)) (nm_all 9 (by decide)) hown hK hP hD hS 0 rfl rfl 2 (by decide) (hts _ (cwm_166)) (fun _ h9 => h9) rfl hin rfl (ty_all 9 (by decide) 2 (by decide)) rfl rfl (by simp) dX9_init_18 (fun H locs hP hD hS => ?_)
  have hP : va_P D classes [(h0, .inr (9, [.ref q8, .int (Int32.ofInt 0), .ref q16, .int (Int32.ofInt 0), .int (Int32.ofInt 0), .int (Int32.ofInt 0), .int (Int32.ofInt 0), .int (Int32.ofInt 0), .int (Int32.ofInt 0), .int (Int32.ofInt 0), .int (Int32.ofInt 0)])), (q8, .inl (T 0, 940, .inl (fun j => Int32.ofInt (z0 (j : Int))))), (q16, .inl (T 0, 17, .inl (fun j => Int32.ofInt (z0 (j : Int)))))] H := hP
  have hD : va_D A [(h0, .inr (9, [.ref q8, .int (Int32.ofInt 0), .ref q16, .int (Int32.ofInt 0), .int (Int32.ofInt 0), .int (Int32.ofInt 0), .int (Int32.ofInt 0), .int (Int32.ofInt 0), .int (Int32.ofInt 0), .int (Int32.ofInt 0), .int (Int32.ofInt 0)])), (q8, .inl (T 0, 940, .inl (fun j => Int32.ofInt (z0 (j : Int))))), (q16, .inl (T 0, 17, .inl (fun j => Int32.ofInt (z0 (j : Int)))))] := hD
  refine lv_iconst (v := Int32.ofInt 0) hx hb dX9_init_21 (by decide) ?_
  refine lv_istore_n (lv' := [(1, .int (Int32.ofInt 0)), (0, .ref h0)]) hx hb dX9_init_22 rfl hl (by decide) rfl (fun ls hl => ?_)
  refine lv_iconst (v := Int32.ofInt 0) hx hb dX9_init_23 (by decide) ?_
  refine lv_istore_n (lv' := [(2, .int (Int32.ofInt 0)), (1, .int (Int32.ofInt 0)), (0, .ref h0)]) hx hb dX9_init_24 rfl hl (by decide) rfl (fun ls hl => ?_)
  refine lv_iconst (v := Int32.ofInt 0) hx hb dX9_init_25 (by decide) ?_
  refine lv_istore_n (lv' := [(3, .int (Int32.ofInt 0)), (2, .int (Int32.ofInt 0)), (1, .int (Int32.ofInt 0)), (0, .ref h0)]) hx hb dX9_init_26 rfl hl (by decide) rfl (fun ls hl => ?_)
  have hPc : va_P D classes (wld T (adl [(1, h0), (2, q8), (3, q16)]) (tpM 0) [1, 2, 3]) H := hP
  have hDc : va_D A (wld T (adl [(1, h0), (2, q8), (3, q16)]) (tpM 0) [1, 2, 3]) := hD
  have hAd := adD_of hDc
  refine tloop hx hb hml hown hts hK hAd hE hR9 ⟨Nat.le_of_ble_eq_true rfl, Nat.le_of_ble_eq_true rfl, Nat.le_of_ble_eq_true rfl, Nat.le_of_ble_eq_true rfl⟩ (fun ls H locs hl hP hS => ?_) 83 0 rfl ls H locs hl hPc hS
  rw [tpM_W] at hP
  have hP : va_P D classes [(h0, .inr (9, [.ref q8, .int (Int32.ofInt 0), .ref q16, .int (Int32.ofInt 0), .int (Int32.ofInt 0), .int (Int32.ofInt 0), .int (Int32.ofInt 0), .int (Int32.ofInt 0), .int (Int32.ofInt 0), .int (Int32.ofInt 0), .int (Int32.ofInt 0)])), (q8, .inl (T 0, 940, .inl (fun j => Int32.ofInt (z0 (j : Int))))), (q16, .inl (T 0, 17, .inl (fun j => Int32.ofInt (wcF (j : Int)))))] H := hP
  have hD1 : va_D A (wld T (adl [(1, h0), (2, q8), (3, q16)]) tpW [1, 2, 3]) := hAd.D
  exact W.vret hx hb hr (fun t ht hW => ⟨⟨(), rfl, trivial, q8, q16, by rw [ht]; exact hP, hD1⟩, hS.F ht⟩) hS.2.2 dX9_init_85
