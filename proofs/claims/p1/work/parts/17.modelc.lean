/-! THE REFERENCE'S CONSTRUCTOR: the contract -/
def dv (ad : Nat → Nat) (v : Option ((Int ⊕ Int) ⊕ Nat)) : Value := match v with
  | none => .null
  | some (Sum.inl (Sum.inl x)) => .int (Int32.ofInt x)
  | some (Sum.inl (Sum.inr x)) => .long (Int64.ofInt x)
  | some (Sum.inr a) => .ref (ad a)
def fcode (M : Mem) (a j : Nat) (ty : FieldType) : (Int ⊕ Int) ⊕ Nat := match ty with
  | .int => .inl (.inl (M a (j : Int)))
  | .boolean => .inl (.inl (M a (j : Int)))
  | .long => .inl (.inr (M a (j : Int)))
  | _ => .inr (rfs a j).2.2
theorem fval_code {ad : Nat → Nat} {M : Mem} {a j : Nat} (ty : FieldType) : fval ad M a j ty = dv ad (some (fcode M a j ty)) := by
  cases ty <;> rfl
theorem flds_code (ad : Nat → Nat) (M : Mem) (a k : Nat) : flds ad M a k = ((List.range (cN k)).map (fun j => some (fcode M a j (cTy k j)))).map (dv ad) := by
  unfold flds
  rw [List.map_map]
  exact List.map_congr_left fun j _ => fval_code _
def FScM : List (Option ((Int ⊕ Int) ⊕ Nat)) := (((((((((((((((((((((((((((([some (.inl (.inl 0)), none, some (.inl (.inl 0)), some (.inl (.inl 0)), some (.inl (.inl 0)), some (.inl (.inl 0)), none, none, none, none, none, some (.inl (.inl 0)), some (.inl (.inl 0)), some (.inl (.inl 0)), some (.inl (.inl 0)), some (.inl (.inl 0)), some (.inl (.inl 0)), some (.inl (.inr 0)), some (.inl (.inl 0)), some (.inl (.inl 0)), some (.inl (.inl 0)), some (.inl (.inl 0)), none, none, some (.inl (.inl 0)), some (.inl (.inl 0)), some (.inl (.inl 0)), some (.inl (.inl 0)), none, some (.inl (.inl 0)), none, some (.inl (.inl 0)), none, none, some (.inl (.inl 0)), some (.inl (.inl 0)), some (.inl (.inl 0)), some (.inl (.inl 0)), none, none, some (.inl (.inl 0)), some (.inl (.inl 0)), some (.inl (.inl 0)), some (.inl (.inl 0)), some (.inl (.inl 0)), some (.inl (.inl 0)), some (.inl (.inl 0)), some (.inl (.inl 0)), none, none, some (.inl (.inl 0)), none, none, none, none, none, some (.inl (.inl 0)), some (.inl (.inl 0)), some (.inl (.inl 0)), some (.inl (.inl 0)), none, none, none].set 1 (some (.inr 68))).set 6 (some (.inr 69))).set 7 (some (.inr 70))).set 8 (some (.inr 71))).set 9 (some (.inr 72))).set 10 (some (.inr 73))).set 21 (some (.inl (.inl (-1))))).set 22 (some (.inr 74))).set 23 (some (.inr 75))).set 28 (some (.inr 76))).set 30 (some (.inr 77))).set 31 (some (.inl (.inl (-1))))).set 32 (some (.inr 78))).set 33 (some (.inr 79))).set 38 (some (.inr 80))).set 39 (some (.inr 81))).set 40 (some (.inl (.inl (-1))))).set 48 (some (.inr 82))).set 49 (some (.inr 83))).set 51 (some (.inr 84))).set 52 (some (.inr 85))).set 53 (some (.inr 86))).set 54 (some (.inr 87))).set 55 (some (.inr 88))).set 59 (some (.inl (.inl (-1))))).set 60 (some (.inr 89))).set 61 (some (.inr 90))).set 62 (some (.inr 91)))
theorem FScM_ok : FScM = (List.range (cN 12)).map (fun j => some (fcode Mm0 67 j (cTy 12 j))) := by decide +kernel
theorem own12 : ∀ k, k < 63 → ((cT 12) k).1 = RX12 := by decide +kernel
theorem mW (T : Nat → ClassId) (ad : Nat → Nat) : wld T ad Mm0 S67 = (ad 67, .inr (12, flds ad Mm0 67 12)) :: [(ad 68, .inl (T 2, 940, .inl (fun j => Int32.ofInt (Mm0 68 (j : Int))))), (ad 69, .inl (T 0, 383, .inl (fun j => Int32.ofInt (Mm0 69 (j : Int))))), (ad 70, .inl (T 0, 117, .inl (fun j => Int32.ofInt (Mm0 70 (j : Int))))), (ad 71, .inl (T 0, 240, .inl (fun j => Int32.ofInt (Mm0 71 (j : Int))))), (ad 72, .inl (T 1, 34, .inr (.inl (fun j => Int64.ofInt (Mm0 72 (j : Int)))))), (ad 73, .inl (T 1, 17, .inr (.inl (fun j => Int64.ofInt (Mm0 73 (j : Int)))))), (ad 74, .inl (T 0, 24, .inl (fun j => Int32.ofInt (Mm0 74 (j : Int))))), (ad 75, .inl (T 0, 24, .inl (fun j => Int32.ofInt (Mm0 75 (j : Int))))), (ad 76, .inl (T 0, 4, .inl (fun j => Int32.ofInt (Mm0 76 (j : Int))))), (ad 77, .inl (T 0, 24, .inl (fun j => Int32.ofInt (Mm0 77 (j : Int))))), (ad 78, .inl (T 0, 7, .inl (fun j => Int32.ofInt (Mm0 78 (j : Int))))), (ad 79, .inl (T 0, 7, .inl (fun j => Int32.ofInt (Mm0 79 (j : Int))))), (ad 80, .inl (T 0, 6, .inl (fun j => Int32.ofInt (Mm0 80 (j : Int))))), (ad 81, .inl (T 0, 24, .inl (fun j => Int32.ofInt (Mm0 81 (j : Int))))), (ad 82, .inl (T 0, 6, .inl (fun j => Int32.ofInt (Mm0 82 (j : Int))))), (ad 83, .inl (T 0, 6, .inl (fun j => Int32.ofInt (Mm0 83 (j : Int))))), (ad 84, .inl (T 0, 4, .inl (fun j => Int32.ofInt (Mm0 84 (j : Int))))), (ad 85, .inl (T 0, 15625, .inl (fun j => Int32.ofInt (Mm0 85 (j : Int))))), (ad 86, .inl (T 0, 15625, .inl (fun j => Int32.ofInt (Mm0 86 (j : Int))))), (ad 87, .inl (T 0, 15625, .inl (fun j => Int32.ofInt (Mm0 87 (j : Int))))), (ad 88, .inl (T 3, 15625, .inl (fun j => Int32.ofInt (Mm0 88 (j : Int))))), (ad 89, .inl (T 0, 766, .inl (fun j => Int32.ofInt (Mm0 89 (j : Int))))), (ad 90, .inl (T 1, 34, .inr (.inl (fun j => Int64.ofInt (Mm0 90 (j : Int)))))), (ad 91, .inl (T 3, 2, .inl (fun j => Int32.ofInt (Mm0 91 (j : Int)))))] := by
  unfold wld S67
  simp only [List.map_cons, List.map_nil]
  rw [went_obj (a := 67) (w := 22) (n := 0) rfl (by decide), went_2 (a := 68) (n := 940) rfl, went_0 (a := 69) (n := 383) rfl, went_0 (a := 70) (n := 117) rfl, went_0 (a := 71) (n := 240) rfl, went_1 (a := 72) (n := 34) rfl, went_1 (a := 73) (n := 17) rfl, went_0 (a := 74) (n := 24) rfl, went_0 (a := 75) (n := 24) rfl, went_0 (a := 76) (n := 4) rfl, went_0 (a := 77) (n := 24) rfl, went_0 (a := 78) (n := 7) rfl, went_0 (a := 79) (n := 7) rfl, went_0 (a := 80) (n := 6) rfl, went_0 (a := 81) (n := 24) rfl, went_0 (a := 82) (n := 6) rfl, went_0 (a := 83) (n := 6) rfl, went_0 (a := 84) (n := 4) rfl, went_0 (a := 85) (n := 15625) rfl, went_0 (a := 86) (n := 15625) rfl, went_0 (a := 87) (n := 15625) rfl, went_3 (a := 88) (n := 15625) rfl, went_0 (a := 89) (n := 766) rfl, went_1 (a := 90) (n := 34) rfl, went_3 (a := 91) (n := 2) rfl]
theorem mm0_68 : Mm0 68 = z0 := rfl
theorem mm0_69 : Mm0 69 = z0 := rfl
theorem mm0_70 : Mm0 70 = z0 := rfl
theorem mm0_71 : Mm0 71 = z0 := rfl
theorem mm0_72 : Mm0 72 = z0 := rfl
theorem mm0_73 : Mm0 73 = z0 := rfl
theorem mm0_74 : Mm0 74 = z0 := rfl
theorem mm0_75 : Mm0 75 = z0 := rfl
theorem mm0_76 : Mm0 76 = z0 := rfl
theorem mm0_77 : Mm0 77 = z0 := rfl
theorem mm0_78 : Mm0 78 = z0 := rfl
theorem mm0_79 : Mm0 79 = z0 := rfl
theorem mm0_80 : Mm0 80 = z0 := rfl
theorem mm0_81 : Mm0 81 = z0 := rfl
theorem mm0_82 : Mm0 82 = z0 := rfl
theorem mm0_83 : Mm0 83 = z0 := rfl
theorem mm0_84 : Mm0 84 = z0 := rfl
theorem mm0_85 : Mm0 85 = z0 := rfl
theorem mm0_86 : Mm0 86 = z0 := rfl
theorem mm0_87 : Mm0 87 = z0 := rfl
theorem mm0_88 : Mm0 88 = z0 := rfl
theorem mm0_89 : Mm0 89 = z0 := rfl
theorem mm0_90 : Mm0 90 = z0 := rfl
theorem mm0_91 : Mm0 91 = z0 := rfl
section SG
variable {p : Program} {l : Launch} {e : Env} {R : Room} {s : State} {m : MethodId} {args : Array Value} {below : List Frame} {meth : Method} {c : Code} {D : va_G} {T : Nat → ClassId} {A : Nat → Prop} {ad : Nat → Nat} {H0 H : Heap} {locs : List Loc} {cells slots : Nat} {Q : State → Prop} {pc pc2 : Nat} {ls : Array Slot} {h0 : Nat} {fs : List Value} {arrs : va_W}
def CxM (p : Program) (s : State) (m : MethodId) (args : Array Value) (meth : Method) (c : Code) (D : va_G) (T : Nat → ClassId) (A : Nat → Prop) (H0 : Heap) (ls : Array Slot) (h0 : Nat) : Prop :=
  p.tables.exec = Jvm.exec ∧ c.code = cX12_init ∧ s.vm.findClass RX12 = some m.cls ∧ (∀ w ∈ gtb, w.before args s = true) ∧ va_K D classes (tysL T) s ∧ (∀ q : Nat, H0.size ≤ q → A q) ∧ meth.name = "<init>" ∧ ls[0]? = some (.val (.ref h0))
theorem seg_int {n x k : Nat} (C : CxM p s m args meth c D T A H0 ls h0) (hl : fs.length = 63) (hk : k < 63) (hty : cTy 12 k = .array .int) (hfin : ((cT 12) k).2.2.2 = true) (hfl : Cond.fieldLink RX12 x RX12 ((cT 12) k).2.1 ((cT 12) k).2.2.1 ∈ gtb) (hn : n < 20000) (hc : cells + 1 ≤ R.cells ∧ slots + n ≤ R.slots)
    (d0 : decode cX12_init pc = .ok (.aload_n 0, 1)) (hp : ∀ st : List Value, W p l e R s m args below meth c H locs cells slots Q (F0 m pc2 ls (.int (Int32.ofInt (n : Int)) :: st)) → W p l e R s m args below meth c H locs cells slots Q (F0 m (pc + 1) ls st)) (d2 : decode cX12_init pc2 = .ok (.newarray .int, 2)) (d3 : decode cX12_init (pc2 + 2) = .ok (.putfield x, 3))
    (hP : va_P D classes ((h0, .inr (12, fs)) :: arrs) H) (hD : va_D A ((h0, .inr (12, fs)) :: arrs)) (hS : va_S A H0 H locs)
    (kk : ∀ (q : Nat) (H : Heap) (locs : List Loc), va_P D classes ((h0, .inr (12, fs.set k (.ref q))) :: (arrs ++ [(q, .inl (T 0, (n, .inl (fun j => Int32.ofInt (z0 (j : Int))))))])) H → va_D A ((h0, .inr (12, fs.set k (.ref q))) :: (arrs ++ [(q, .inl (T 0, (n, .inl (fun j => Int32.ofInt (z0 (j : Int))))))])) → va_S A H0 H locs → W p l e R s m args below meth c H locs (cells + 1) (slots + n) Q (F0 m (pc2 + 2 + 3) ls [])) :
    W p l e R s m args below meth c H locs cells slots Q (F0 m pc ls []) := by
  obtain ⟨hx, hb, hown, hts, hK, hA, hin, hl0⟩ := C
  refine lv_aload_n hx hb d0 rfl hl0 (hp _ ?_)
  refine va_newa (atype := .int) (ty := .int) (n := Int32.ofInt (n : Int)) (N' := n) (a0 := (n, .inl (fun j => Int32.ofInt (z0 (j : Int))))) hx hb (hts _ (cwm_3)) rfl hK hP hD hS hA (z0_0 n) (by rw [ltz, w32_of (by omega) (by omega)]; omega) ((tnc (by omega) (by omega)).trans (Int.toNat_natCast n)) (by show n * 4 ≤ 536870912; omega) hc.1 hc.2 d2 (fun q cA H hK2 hP hD hS => ?_)
  have hcA := ka_0 hK hK2
  subst hcA
  have hpd := ty_all 12 (by decide) k hk
  rw [hty] at hpd
  refine va_putF (D := D) (ci := 12) (v := .ref q) (ty := .array .int) (C := cR 12) (T := cT 12) (N := cN 12) hx hb hts (iw_all 12 (by decide)) (cTy 12) (ty_all 12 (by decide)) (nm_all 12 (by decide)) hown hK hP hD hS 0 (fs := fs) rfl rfl k hk (hts _ hfl) (fun _ h9 => ?_) hfin hin ?_ hpd rfl rfl (by rw [hl]; exact hk) d3 (fun H locs hP hD hS => kk q H locs hP hD hS)
  · have e9 := own12 k hk
    rw [e9] at h9
    exact h9
  · exact own12 k hk
theorem seg_long {n x k : Nat} (C : CxM p s m args meth c D T A H0 ls h0) (hl : fs.length = 63) (hk : k < 63) (hty : cTy 12 k = .array .long) (hfin : ((cT 12) k).2.2.2 = true) (hfl : Cond.fieldLink RX12 x RX12 ((cT 12) k).2.1 ((cT 12) k).2.2.1 ∈ gtb) (hn : n < 20000) (hc : cells + 1 ≤ R.cells ∧ slots + n ≤ R.slots)
    (d0 : decode cX12_init pc = .ok (.aload_n 0, 1)) (hp : ∀ st : List Value, W p l e R s m args below meth c H locs cells slots Q (F0 m pc2 ls (.int (Int32.ofInt (n : Int)) :: st)) → W p l e R s m args below meth c H locs cells slots Q (F0 m (pc + 1) ls st)) (d2 : decode cX12_init pc2 = .ok (.newarray .long, 2)) (d3 : decode cX12_init (pc2 + 2) = .ok (.putfield x, 3))
    (hP : va_P D classes ((h0, .inr (12, fs)) :: arrs) H) (hD : va_D A ((h0, .inr (12, fs)) :: arrs)) (hS : va_S A H0 H locs)
    (kk : ∀ (q : Nat) (H : Heap) (locs : List Loc), va_P D classes ((h0, .inr (12, fs.set k (.ref q))) :: (arrs ++ [(q, .inl (T 1, (n, .inr (.inl (fun j => Int64.ofInt (z0 (j : Int)))))))])) H → va_D A ((h0, .inr (12, fs.set k (.ref q))) :: (arrs ++ [(q, .inl (T 1, (n, .inr (.inl (fun j => Int64.ofInt (z0 (j : Int)))))))])) → va_S A H0 H locs → W p l e R s m args below meth c H locs (cells + 1) (slots + n) Q (F0 m (pc2 + 2 + 3) ls [])) :
    W p l e R s m args below meth c H locs cells slots Q (F0 m pc ls []) := by
  obtain ⟨hx, hb, hown, hts, hK, hA, hin, hl0⟩ := C
  refine lv_aload_n hx hb d0 rfl hl0 (hp _ ?_)
  refine va_newa (atype := .long) (ty := .long) (n := Int32.ofInt (n : Int)) (N' := n) (a0 := (n, .inr (.inl (fun j => Int64.ofInt (z0 (j : Int)))))) hx hb (hts _ (cwm_96)) rfl hK hP hD hS hA (z0_1 n) (by rw [ltz, w32_of (by omega) (by omega)]; omega) ((tnc (by omega) (by omega)).trans (Int.toNat_natCast n)) (by show n * 8 ≤ 536870912; omega) hc.1 hc.2 d2 (fun q cA H hK2 hP hD hS => ?_)
  have hcA := ka_1 hK hK2
  subst hcA
  have hpd := ty_all 12 (by decide) k hk
  rw [hty] at hpd
  refine va_putF (D := D) (ci := 12) (v := .ref q) (ty := .array .long) (C := cR 12) (T := cT 12) (N := cN 12) hx hb hts (iw_all 12 (by decide)) (cTy 12) (ty_all 12 (by decide)) (nm_all 12 (by decide)) hown hK hP hD hS 0 (fs := fs) rfl rfl k hk (hts _ hfl) (fun _ h9 => ?_) hfin hin ?_ hpd rfl rfl (by rw [hl]; exact hk) d3 (fun H locs hP hD hS => kk q H locs hP hD hS)
  · have e9 := own12 k hk
    rw [e9] at h9
    exact h9
  · exact own12 k hk
theorem seg_byte {n x k : Nat} (C : CxM p s m args meth c D T A H0 ls h0) (hl : fs.length = 63) (hk : k < 63) (hty : cTy 12 k = .array .byte) (hfin : ((cT 12) k).2.2.2 = true) (hfl : Cond.fieldLink RX12 x RX12 ((cT 12) k).2.1 ((cT 12) k).2.2.1 ∈ gtb) (hn : n < 20000) (hc : cells + 1 ≤ R.cells ∧ slots + n ≤ R.slots)
    (d0 : decode cX12_init pc = .ok (.aload_n 0, 1)) (hp : ∀ st : List Value, W p l e R s m args below meth c H locs cells slots Q (F0 m pc2 ls (.int (Int32.ofInt (n : Int)) :: st)) → W p l e R s m args below meth c H locs cells slots Q (F0 m (pc + 1) ls st)) (d2 : decode cX12_init pc2 = .ok (.newarray .byte, 2)) (d3 : decode cX12_init (pc2 + 2) = .ok (.putfield x, 3))
    (hP : va_P D classes ((h0, .inr (12, fs)) :: arrs) H) (hD : va_D A ((h0, .inr (12, fs)) :: arrs)) (hS : va_S A H0 H locs)
    (kk : ∀ (q : Nat) (H : Heap) (locs : List Loc), va_P D classes ((h0, .inr (12, fs.set k (.ref q))) :: (arrs ++ [(q, .inl (T 2, (n, .inl (fun j => Int32.ofInt (z0 (j : Int))))))])) H → va_D A ((h0, .inr (12, fs.set k (.ref q))) :: (arrs ++ [(q, .inl (T 2, (n, .inl (fun j => Int32.ofInt (z0 (j : Int))))))])) → va_S A H0 H locs → W p l e R s m args below meth c H locs (cells + 1) (slots + n) Q (F0 m (pc2 + 2 + 3) ls [])) :
    W p l e R s m args below meth c H locs cells slots Q (F0 m pc ls []) := by
  obtain ⟨hx, hb, hown, hts, hK, hA, hin, hl0⟩ := C
  refine lv_aload_n hx hb d0 rfl hl0 (hp _ ?_)
  refine va_newa (atype := .byte) (ty := .byte) (n := Int32.ofInt (n : Int)) (N' := n) (a0 := (n, .inl (fun j => Int32.ofInt (z0 (j : Int))))) hx hb (hts _ (cwm_91)) rfl hK hP hD hS hA (z0_2 n) (by rw [ltz, w32_of (by omega) (by omega)]; omega) ((tnc (by omega) (by omega)).trans (Int.toNat_natCast n)) (by show n * 1 ≤ 536870912; omega) hc.1 hc.2 d2 (fun q cA H hK2 hP hD hS => ?_)
  have hcA := ka_2 hK hK2
  subst hcA
  have hpd := ty_all 12 (by decide) k hk
  rw [hty] at hpd
  refine va_putF (D := D) (ci := 12) (v := .ref q) (ty := .array .byte) (C := cR 12) (T := cT 12) (N := cN 12) hx hb hts (iw_all 12 (by decide)) (cTy 12) (ty_all 12 (by decide)) (nm_all 12 (by decide)) hown hK hP hD hS 0 (fs := fs) rfl rfl k hk (hts _ hfl) (fun _ h9 => ?_) hfin hin ?_ hpd rfl rfl (by rw [hl]; exact hk) d3 (fun H locs hP hD hS => kk q H locs hP hD hS)
  · have e9 := own12 k hk
    rw [e9] at h9
    exact h9
  · exact own12 k hk
theorem seg_boolean {n x k : Nat} (C : CxM p s m args meth c D T A H0 ls h0) (hl : fs.length = 63) (hk : k < 63) (hty : cTy 12 k = .array .boolean) (hfin : ((cT 12) k).2.2.2 = true) (hfl : Cond.fieldLink RX12 x RX12 ((cT 12) k).2.1 ((cT 12) k).2.2.1 ∈ gtb) (hn : n < 20000) (hc : cells + 1 ≤ R.cells ∧ slots + n ≤ R.slots)
    (d0 : decode cX12_init pc = .ok (.aload_n 0, 1)) (hp : ∀ st : List Value, W p l e R s m args below meth c H locs cells slots Q (F0 m pc2 ls (.int (Int32.ofInt (n : Int)) :: st)) → W p l e R s m args below meth c H locs cells slots Q (F0 m (pc + 1) ls st)) (d2 : decode cX12_init pc2 = .ok (.newarray .boolean, 2)) (d3 : decode cX12_init (pc2 + 2) = .ok (.putfield x, 3))
    (hP : va_P D classes ((h0, .inr (12, fs)) :: arrs) H) (hD : va_D A ((h0, .inr (12, fs)) :: arrs)) (hS : va_S A H0 H locs)
    (kk : ∀ (q : Nat) (H : Heap) (locs : List Loc), va_P D classes ((h0, .inr (12, fs.set k (.ref q))) :: (arrs ++ [(q, .inl (T 3, (n, .inl (fun j => Int32.ofInt (z0 (j : Int))))))])) H → va_D A ((h0, .inr (12, fs.set k (.ref q))) :: (arrs ++ [(q, .inl (T 3, (n, .inl (fun j => Int32.ofInt (z0 (j : Int))))))])) → va_S A H0 H locs → W p l e R s m args below meth c H locs (cells + 1) (slots + n) Q (F0 m (pc2 + 2 + 3) ls [])) :
    W p l e R s m args below meth c H locs cells slots Q (F0 m pc ls []) := by
  obtain ⟨hx, hb, hown, hts, hK, hA, hin, hl0⟩ := C
  refine lv_aload_n hx hb d0 rfl hl0 (hp _ ?_)
  refine va_newa (atype := .boolean) (ty := .boolean) (n := Int32.ofInt (n : Int)) (N' := n) (a0 := (n, .inl (fun j => Int32.ofInt (z0 (j : Int))))) hx hb (hts _ (cwm_116)) rfl hK hP hD hS hA (z0_3 n) (by rw [ltz, w32_of (by omega) (by omega)]; omega) ((tnc (by omega) (by omega)).trans (Int.toNat_natCast n)) (by show n * 1 ≤ 536870912; omega) hc.1 hc.2 d2 (fun q cA H hK2 hP hD hS => ?_)
  have hcA := ka_3 hK hK2
  subst hcA
  have hpd := ty_all 12 (by decide) k hk
  rw [hty] at hpd
  refine va_putF (D := D) (ci := 12) (v := .ref q) (ty := .array .boolean) (C := cR 12) (T := cT 12) (N := cN 12) hx hb hts (iw_all 12 (by decide)) (cTy 12) (ty_all 12 (by decide)) (nm_all 12 (by decide)) hown hK hP hD hS 0 (fs := fs) rfl rfl k hk (hts _ hfl) (fun _ h9 => ?_) hfin hin ?_ hpd rfl rfl (by rw [hl]; exact hk) d3 (fun H locs hP hD hS => kk q H locs hP hD hS)
  · have e9 := own12 k hk
    rw [e9] at h9
    exact h9
  · exact own12 k hk
theorem seg_put {v : Int} {x k : Nat} (C : CxM p s m args meth c D T A H0 ls h0) (hl : fs.length = 63) (hk : k < 63) (hty : cTy 12 k = .int) (hfin : ((cT 12) k).2.2.2 = false) (hfl : Cond.fieldLink RX12 x RX12 ((cT 12) k).2.1 ((cT 12) k).2.2.1 ∈ gtb)
    (d0 : decode cX12_init pc = .ok (.aload_n 0, 1)) (d1 : decode cX12_init (pc + 1) = .ok (.iconst v, 1)) (d3 : decode cX12_init (pc + 2) = .ok (.putfield x, 3))
    (hP : va_P D classes ((h0, .inr (12, fs)) :: arrs) H) (hD : va_D A ((h0, .inr (12, fs)) :: arrs)) (hS : va_S A H0 H locs)
    (kk : ∀ (H : Heap) (locs : List Loc), va_P D classes ((h0, .inr (12, fs.set k (.int (Int32.ofInt v)))) :: arrs) H → va_D A ((h0, .inr (12, fs.set k (.int (Int32.ofInt v)))) :: arrs) → va_S A H0 H locs → W p l e R s m args below meth c H locs cells slots Q (F0 m (pc + 2 + 3) ls [])) :
    W p l e R s m args below meth c H locs cells slots Q (F0 m pc ls []) := by
  obtain ⟨hx, hb, hown, hts, hK, hA, hin, hl0⟩ := C
  refine lv_aload_n hx hb d0 rfl hl0 ?_
  refine lv_iconst hx hb d1 rfl ?_
  have hpd := ty_all 12 (by decide) k hk
  rw [hty] at hpd
  refine va_put (D := D) (ci := 12) (v := .int (Int32.ofInt v)) (ty := .int) (C := cR 12) (T := cT 12) (N := cN 12) hx hb hts (iw_all 12 (by decide)) (cTy 12) (ty_all 12 (by decide)) (nm_all 12 (by decide)) hown hK hP hD hS 0 (fs := fs) rfl rfl k hk (hts _ hfl) (fun _ h9 => ?_) hfin hpd rfl rfl (by rw [hl]; exact hk) d3 (fun H locs hP hD hS => kk H locs hP hD hS)
  have e9 := own12 k hk
  rw [e9] at h9
  exact h9
theorem seg_ll {M : Mem} {i v : Int} {x : Nat} (C : CxM p s m args meth c D T A H0 ls (ad 67)) (hAd : adD A ad S67) (h0i : 0 ≤ i) (hi : i < 17) (hfl : Cond.constantLong RX12 x (Int64.ofInt v) ∈ gtb)
    (d0 : decode cX12_init pc = .ok (.aload_n 0, 1)) (d1 : decode cX12_init (pc + 1) = .ok (.getfield 47, 3)) (hp : ∀ st : List Value, W p l e R s m args below meth c H locs cells slots Q (F0 m pc2 ls (.int (Int32.ofInt i) :: st)) → W p l e R s m args below meth c H locs cells slots Q (F0 m (pc + 1 + 3) ls st)) (d2 : decode cX12_init pc2 = .ok (.ldc2_w x, 3)) (d3 : decode cX12_init (pc2 + 3) = .ok (.lastore, 1))
    (hP : va_P D classes (wld T ad M S67) H) (hS : va_S A H0 H locs)
    (kk : ∀ (H : Heap) (locs : List Loc), va_P D classes (wld T ad (up M 73 i v) S67) H → va_S A H0 H locs → W p l e R s m args below meth c H locs cells slots Q (F0 m (pc2 + 3 + 1) ls [])) :
    W p l e R s m args below meth c H locs cells slots Q (F0 m pc ls []) := by
  obtain ⟨hx, hb, hown, hts, hK, hA, hin, hl0⟩ := C
  have q67 : S67[0]? = some 67 := rfl
  have q73 : S67[6]? = some 73 := rfl
  have he : (wld T ad M S67)[0]? = some (ad 67, .inr (12, flds ad M 67 12)) := wld_a q67
  have he73 : (wld T ad M S67)[6]? = some (ad 73, .inl (T 1, 17, .inr (.inl (fun j => Int64.ofInt (M 73 (j : Int)))))) := wld_a q73
  refine lv_aload_n hx hb d0 rfl hl0 ?_
  refine va_get (D := D) (ci := 12) (v := .ref (ad 73)) (C := cR 12) (T := cT 12) (N := cN 12) hx hb hts (iw_all 12 (by decide)) hown hK hP 0 he rfl 10 (by decide) (hts _ (cwm_98)) (fun _ h9 => h9) rfl d1 (hp _ ?_)
  refine lv_ldc2 hx hb hown (hts _ hfl) d2 ?_
  have hE : went T ad (up M 73 i v) 73 = .inl (T 1, 17, .inr (.inl (vp_updL (fun j => Int64.ofInt (M 73 (j : Int))) i.toNat (Int64.ofInt v)))) := by rw [went_1 (n := 17) rfl, fun_upL h0i]
  exact va_last hx hb hK hP hAd.D hS 6 1 he73 rfl (vin h0i (by omega) (by decide)) d3 (fun H locs hP _ hS => kk H locs (by rw [tnc h0i (by omega), wld_set hAd q73 hE (fun b hb => went_up hb)] at hP; exact hP) hS)
end SG
set_option maxHeartbeats 4000000 in
set_option maxRecDepth 100000 in
theorem c_X12_init (l : Launch) (D : va_G) (T : Nat → ClassId) (h0 sz : Nat) : Met l yX12_init (.code yX12_init cX12_init 2 none :: gtb) ({ frames := 2, cells := 24, slots := 65169, locals := 120 } : Room) (va_Pc [.ref h0] (fun U => U.heap.size = sz ∧ va_P D classes [(h0, .inr (12, [.int (Int32.ofInt 0), .null, .int (Int32.ofInt 0), .int (Int32.ofInt 0), .int (Int32.ofInt 0), .int (Int32.ofInt 0), .null, .null, .null, .null, .null, .int (Int32.ofInt 0), .int (Int32.ofInt 0), .int (Int32.ofInt 0), .int (Int32.ofInt 0), .int (Int32.ofInt 0), .int (Int32.ofInt 0), .long (Int64.ofInt 0), .int (Int32.ofInt 0), .int (Int32.ofInt 0), .int (Int32.ofInt 0), .int (Int32.ofInt 0), .null, .null, .int (Int32.ofInt 0), .int (Int32.ofInt 0), .int (Int32.ofInt 0), .int (Int32.ofInt 0), .null, .int (Int32.ofInt 0), .null, .int (Int32.ofInt 0), .null, .null, .int (Int32.ofInt 0), .int (Int32.ofInt 0), .int (Int32.ofInt 0), .int (Int32.ofInt 0), .null, .null, .int (Int32.ofInt 0), .int (Int32.ofInt 0), .int (Int32.ofInt 0), .int (Int32.ofInt 0), .int (Int32.ofInt 0), .int (Int32.ofInt 0), .int (Int32.ofInt 0), .int (Int32.ofInt 0), .null, .null, .int (Int32.ofInt 0), .null, .null, .null, .null, .null, .int (Int32.ofInt 0), .int (Int32.ofInt 0), .int (Int32.ofInt 0), .int (Int32.ofInt 0), .null, .null, .null]))] U.heap ∧ va_K D classes (tysL T) U ∧ va_D (fun _ => True) [(h0, .inr (12, [.int (Int32.ofInt 0), .null, .int (Int32.ofInt 0), .int (Int32.ofInt 0), .int (Int32.ofInt 0), .int (Int32.ofInt 0), .null, .null, .null, .null, .null, .int (Int32.ofInt 0), .int (Int32.ofInt 0), .int (Int32.ofInt 0), .int (Int32.ofInt 0), .int (Int32.ofInt 0), .int (Int32.ofInt 0), .long (Int64.ofInt 0), .int (Int32.ofInt 0), .int (Int32.ofInt 0), .int (Int32.ofInt 0), .int (Int32.ofInt 0), .null, .null, .int (Int32.ofInt 0), .int (Int32.ofInt 0), .int (Int32.ofInt 0), .int (Int32.ofInt 0), .null, .int (Int32.ofInt 0), .null, .int (Int32.ofInt 0), .null, .null, .int (Int32.ofInt 0), .int (Int32.ofInt 0), .int (Int32.ofInt 0), .int (Int32.ofInt 0), .null, .null, .int (Int32.ofInt 0), .int (Int32.ofInt 0), .int (Int32.ofInt 0), .int (Int32.ofInt 0), .int (Int32.ofInt 0), .int (Int32.ofInt 0), .int (Int32.ofInt 0), .int (Int32.ofInt 0), .null, .null, .int (Int32.ofInt 0), .null, .null, .null, .null, .null, .int (Int32.ofInt 0), .int (Int32.ofInt 0), .int (Int32.ofInt 0), .int (Int32.ofInt 0), .null, .null, .null]))])) (va_Qv (fun _ : Unit => True) (fun _ t => ∃ ad : Nat → Nat, ad 67 = h0 ∧ va_P D classes (wld T ad MmC S67) t.heap ∧ va_D (va_A [(h0, .inr (12, [.int (Int32.ofInt 0), .null, .int (Int32.ofInt 0), .int (Int32.ofInt 0), .int (Int32.ofInt 0), .int (Int32.ofInt 0), .null, .null, .null, .null, .null, .int (Int32.ofInt 0), .int (Int32.ofInt 0), .int (Int32.ofInt 0), .int (Int32.ofInt 0), .int (Int32.ofInt 0), .int (Int32.ofInt 0), .long (Int64.ofInt 0), .int (Int32.ofInt 0), .int (Int32.ofInt 0), .int (Int32.ofInt 0), .int (Int32.ofInt 0), .null, .null, .int (Int32.ofInt 0), .int (Int32.ofInt 0), .int (Int32.ofInt 0), .int (Int32.ofInt 0), .null, .int (Int32.ofInt 0), .null, .int (Int32.ofInt 0), .null, .null, .int (Int32.ofInt 0), .int (Int32.ofInt 0), .int (Int32.ofInt 0), .int (Int32.ofInt 0), .null, .null, .int (Int32.ofInt 0), .int (Int32.ofInt 0), .int (Int32.ofInt 0), .int (Int32.ofInt 0), .int (Int32.ofInt 0), .int (Int32.ofInt 0), .int (Int32.ofInt 0), .int (Int32.ofInt 0), .null, .null, .int (Int32.ofInt 0), .null, .null, .null, .null, .null, .int (Int32.ofInt 0), .int (Int32.ofInt 0), .int (Int32.ofInt 0), .int (Int32.ofInt 0), .null, .null, .null]))] sz) (wld T ad MmC S67)) (va_A [(h0, .inr (12, [.int (Int32.ofInt 0), .null, .int (Int32.ofInt 0), .int (Int32.ofInt 0), .int (Int32.ofInt 0), .int (Int32.ofInt 0), .null, .null, .null, .null, .null, .int (Int32.ofInt 0), .int (Int32.ofInt 0), .int (Int32.ofInt 0), .int (Int32.ofInt 0), .int (Int32.ofInt 0), .int (Int32.ofInt 0), .long (Int64.ofInt 0), .int (Int32.ofInt 0), .int (Int32.ofInt 0), .int (Int32.ofInt 0), .int (Int32.ofInt 0), .null, .null, .int (Int32.ofInt 0), .int (Int32.ofInt 0), .int (Int32.ofInt 0), .int (Int32.ofInt 0), .null, .int (Int32.ofInt 0), .null, .int (Int32.ofInt 0), .null, .null, .int (Int32.ofInt 0), .int (Int32.ofInt 0), .int (Int32.ofInt 0), .int (Int32.ofInt 0), .null, .null, .int (Int32.ofInt 0), .int (Int32.ofInt 0), .int (Int32.ofInt 0), .int (Int32.ofInt 0), .int (Int32.ofInt 0), .int (Int32.ofInt 0), .int (Int32.ofInt 0), .int (Int32.ofInt 0), .null, .null, .int (Int32.ofInt 0), .null, .null, .null, .null, .null, .int (Int32.ofInt 0), .int (Int32.ofInt 0), .int (Int32.ofInt 0), .int (Int32.ofInt 0), .null, .null, .null]))] sz)) 24 65169 (va_A [(h0, .inr (12, [.int (Int32.ofInt 0), .null, .int (Int32.ofInt 0), .int (Int32.ofInt 0), .int (Int32.ofInt 0), .int (Int32.ofInt 0), .null, .null, .null, .null, .null, .int (Int32.ofInt 0), .int (Int32.ofInt 0), .int (Int32.ofInt 0), .int (Int32.ofInt 0), .int (Int32.ofInt 0), .int (Int32.ofInt 0), .long (Int64.ofInt 0), .int (Int32.ofInt 0), .int (Int32.ofInt 0), .int (Int32.ofInt 0), .int (Int32.ofInt 0), .null, .null, .int (Int32.ofInt 0), .int (Int32.ofInt 0), .int (Int32.ofInt 0), .int (Int32.ofInt 0), .null, .int (Int32.ofInt 0), .null, .int (Int32.ofInt 0), .null, .null, .int (Int32.ofInt 0), .int (Int32.ofInt 0), .int (Int32.ofInt 0), .int (Int32.ofInt 0), .null, .null, .int (Int32.ofInt 0), .int (Int32.ofInt 0), .int (Int32.ofInt 0), .int (Int32.ofInt 0), .int (Int32.ofInt 0), .int (Int32.ofInt 0), .int (Int32.ofInt 0), .int (Int32.ofInt 0), .null, .null, .int (Int32.ofInt 0), .null, .null, .null, .null, .null, .int (Int32.ofInt 0), .int (Int32.ofInt 0), .int (Int32.ofInt 0), .int (Int32.ofInt 0), .null, .null, .null]))] sz) := by
  refine Met.ofW (cc := cX12_init) (maxL := 2) (ret := none) (by decide) rfl ?_
  intro p e s m args below meth c s₁ B hml hv
  obtain ⟨rfl, hsz, hP, hK, hD0⟩ := hv
  have hx := B.exec
  have hb := B.bytes
  have hr := B.returns
  have hts0 := atoms_spec (ws := .code yX12_init cX12_init 2 none :: gtb) B.pre
  have hts : ∀ w ∈ gtb, w.before _ s = true := fun w hw => hts0 w (List.mem_cons_of_mem _ hw)
  have hown : s.vm.findClass RX12 = some m.cls := findClass_of_methodNamed B.named
  have hlocks := B.notSynchronized
  have hin : meth.name = "<init>" := (name_of_methodNamed B.named B.method).1
  subst hsz
  have hD := hD0.self (sz := s.heap.size)
  generalize hAe : va_A [(h0, .inr (12, [.int (Int32.ofInt 0), .null, .int (Int32.ofInt 0), .int (Int32.ofInt 0), .int (Int32.ofInt 0), .int (Int32.ofInt 0), .null, .null, .null, .null, .null, .int (Int32.ofInt 0), .int (Int32.ofInt 0), .int (Int32.ofInt 0), .int (Int32.ofInt 0), .int (Int32.ofInt 0), .int (Int32.ofInt 0), .long (Int64.ofInt 0), .int (Int32.ofInt 0), .int (Int32.ofInt 0), .int (Int32.ofInt 0), .int (Int32.ofInt 0), .null, .null, .int (Int32.ofInt 0), .int (Int32.ofInt 0), .int (Int32.ofInt 0), .int (Int32.ofInt 0), .null, .int (Int32.ofInt 0), .null, .int (Int32.ofInt 0), .null, .null, .int (Int32.ofInt 0), .int (Int32.ofInt 0), .int (Int32.ofInt 0), .int (Int32.ofInt 0), .null, .null, .int (Int32.ofInt 0), .int (Int32.ofInt 0), .int (Int32.ofInt 0), .int (Int32.ofInt 0), .int (Int32.ofInt 0), .int (Int32.ofInt 0), .int (Int32.ofInt 0), .int (Int32.ofInt 0), .null, .null, .int (Int32.ofInt 0), .null, .null, .null, .null, .null, .int (Int32.ofInt 0), .int (Int32.ofInt 0), .int (Int32.ofInt 0), .int (Int32.ofInt 0), .null, .null, .null]))] s.heap.size = A at hD ⊢
  have hA : ∀ q : Nat, s.heap.size ≤ q → A q := fun q h => by rw [← hAe]; exact Or.inr h
  have hS : va_S A s.heap s.heap [] := va_S.rf
  have hl := lv_entry ([.ref h0]) (n := 2) (Nat.le_of_ble_eq_true rfl)
  rw [lg_entry_eq]
  generalize (lg_sl ([.ref h0]) ++ List.replicate (2 - (lg_sl ([.ref h0])).length) Slot.unset).toArray = ls at hl ⊢
  have hl : lv_has ls 2 [(0, .ref h0)] := hl
  have C : CxM p s m _ meth c D T A s.heap ls h0 := ⟨hx, hb, hown, hts, hK, hA, hin, lv_at hl 0 rfl⟩
  refine lv_aload_n hx hb dX12_init_0 rfl (lv_at hl 0 rfl) ?_
  refine W.objInit hx hb hown (hts _ (cwm_90)) (hts _ (cwm_1)) (hts _ (cwm_2)) rfl (by rw [hml]; exact hl.1) rfl dX12_init_1 (Nat.le_of_ble_eq_true rfl) (Nat.le_of_ble_eq_true rfl) ?_
  refine W.eq (g2 := F0 m 4 ls []) rfl ?_
  refine seg_byte (n := 940) (k := 1) (pc2 := 8) C (by simp only [List.length_set]; rfl) (by decide) rfl rfl (cwm_92) (by decide) ⟨Nat.le_of_ble_eq_true rfl, Nat.le_of_ble_eq_true rfl⟩ dX12_init_4 (fun st k9 => lv_sipush hx hb dX12_init_5 (n_sip (by decide) (by decide)) k9) dX12_init_8 dX12_init_10 hP hD hS (fun q4 H locs hP hD hS => ?_)
  refine W.widen (k := 1) (n := 940) (Nat.le_of_ble_eq_true rfl) (Nat.le_of_ble_eq_true rfl) ?_
  refine seg_int (n := 383) (k := 6) (pc2 := 17) C (by simp only [List.length_set]; rfl) (by decide) rfl rfl (cwm_93) (by decide) ⟨Nat.le_of_ble_eq_true rfl, Nat.le_of_ble_eq_true rfl⟩ dX12_init_13 (fun st k9 => lv_sipush hx hb dX12_init_14 (n_sip (by decide) (by decide)) k9) dX12_init_17 dX12_init_19 hP hD hS (fun q13 H locs hP hD hS => ?_)
  refine W.widen (k := 2) (n := 1323) (Nat.le_of_ble_eq_true rfl) (Nat.le_of_ble_eq_true rfl) ?_
  refine seg_int (n := 117) (k := 7) (pc2 := 25) C (by simp only [List.length_set]; rfl) (by decide) rfl rfl (cwm_94) (by decide) ⟨Nat.le_of_ble_eq_true rfl, Nat.le_of_ble_eq_true rfl⟩ dX12_init_22 (fun st k9 => lv_bipush hx hb dX12_init_23 (n_bip (by decide) (by decide)) k9) dX12_init_25 dX12_init_27 hP hD hS (fun q22 H locs hP hD hS => ?_)
  refine W.widen (k := 3) (n := 1440) (Nat.le_of_ble_eq_true rfl) (Nat.le_of_ble_eq_true rfl) ?_
  refine seg_int (n := 240) (k := 8) (pc2 := 34) C (by simp only [List.length_set]; rfl) (by decide) rfl rfl (cwm_95) (by decide) ⟨Nat.le_of_ble_eq_true rfl, Nat.le_of_ble_eq_true rfl⟩ dX12_init_30 (fun st k9 => lv_sipush hx hb dX12_init_31 (n_sip (by decide) (by decide)) k9) dX12_init_34 dX12_init_36 hP hD hS (fun q30 H locs hP hD hS => ?_)
  refine W.widen (k := 4) (n := 1680) (Nat.le_of_ble_eq_true rfl) (Nat.le_of_ble_eq_true rfl) ?_
  refine seg_long (n := 34) (k := 9) (pc2 := 42) C (by simp only [List.length_set]; rfl) (by decide) rfl rfl (cwm_97) (by decide) ⟨Nat.le_of_ble_eq_true rfl, Nat.le_of_ble_eq_true rfl⟩ dX12_init_39 (fun st k9 => lv_bipush hx hb dX12_init_40 (n_bip (by decide) (by decide)) k9) dX12_init_42 dX12_init_44 hP hD hS (fun q39 H locs hP hD hS => ?_)
  refine W.widen (k := 5) (n := 1714) (Nat.le_of_ble_eq_true rfl) (Nat.le_of_ble_eq_true rfl) ?_
  refine seg_long (n := 17) (k := 10) (pc2 := 50) C (by simp only [List.length_set]; rfl) (by decide) rfl rfl (cwm_98) (by decide) ⟨Nat.le_of_ble_eq_true rfl, Nat.le_of_ble_eq_true rfl⟩ dX12_init_47 (fun st k9 => lv_bipush hx hb dX12_init_48 (n_bip (by decide) (by decide)) k9) dX12_init_50 dX12_init_52 hP hD hS (fun q47 H locs hP hD hS => ?_)
  refine W.widen (k := 6) (n := 1731) (Nat.le_of_ble_eq_true rfl) (Nat.le_of_ble_eq_true rfl) ?_
  refine seg_put (k := 21) C (by simp only [List.length_set]; rfl) (by decide) rfl rfl (cwm_99) dX12_init_55 dX12_init_56 dX12_init_57 hP hD hS (fun H locs hP hD hS => ?_)
  refine seg_int (n := 24) (k := 22) (pc2 := 63) C (by simp only [List.length_set]; rfl) (by decide) rfl rfl (cwm_100) (by decide) ⟨Nat.le_of_ble_eq_true rfl, Nat.le_of_ble_eq_true rfl⟩ dX12_init_60 (fun st k9 => lv_bipush hx hb dX12_init_61 (n_bip (by decide) (by decide)) k9) dX12_init_63 dX12_init_65 hP hD hS (fun q60 H locs hP hD hS => ?_)
  refine W.widen (k := 7) (n := 1755) (Nat.le_of_ble_eq_true rfl) (Nat.le_of_ble_eq_true rfl) ?_
  refine seg_int (n := 24) (k := 23) (pc2 := 71) C (by simp only [List.length_set]; rfl) (by decide) rfl rfl (cwm_101) (by decide) ⟨Nat.le_of_ble_eq_true rfl, Nat.le_of_ble_eq_true rfl⟩ dX12_init_68 (fun st k9 => lv_bipush hx hb dX12_init_69 (n_bip (by decide) (by decide)) k9) dX12_init_71 dX12_init_73 hP hD hS (fun q68 H locs hP hD hS => ?_)
  refine W.widen (k := 8) (n := 1779) (Nat.le_of_ble_eq_true rfl) (Nat.le_of_ble_eq_true rfl) ?_
  refine seg_int (n := 4) (k := 28) (pc2 := 78) C (by simp only [List.length_set]; rfl) (by decide) rfl rfl (cwm_102) (by decide) ⟨Nat.le_of_ble_eq_true rfl, Nat.le_of_ble_eq_true rfl⟩ dX12_init_76 (fun st k9 => lv_iconst hx hb dX12_init_77 rfl k9) dX12_init_78 dX12_init_80 hP hD hS (fun q76 H locs hP hD hS => ?_)
  refine W.widen (k := 9) (n := 1783) (Nat.le_of_ble_eq_true rfl) (Nat.le_of_ble_eq_true rfl) ?_
  refine seg_int (n := 24) (k := 30) (pc2 := 86) C (by simp only [List.length_set]; rfl) (by decide) rfl rfl (cwm_103) (by decide) ⟨Nat.le_of_ble_eq_true rfl, Nat.le_of_ble_eq_true rfl⟩ dX12_init_83 (fun st k9 => lv_bipush hx hb dX12_init_84 (n_bip (by decide) (by decide)) k9) dX12_init_86 dX12_init_88 hP hD hS (fun q83 H locs hP hD hS => ?_)
  refine W.widen (k := 10) (n := 1807) (Nat.le_of_ble_eq_true rfl) (Nat.le_of_ble_eq_true rfl) ?_
  refine seg_put (k := 31) C (by simp only [List.length_set]; rfl) (by decide) rfl rfl (cwm_104) dX12_init_91 dX12_init_92 dX12_init_93 hP hD hS (fun H locs hP hD hS => ?_)
  refine seg_int (n := 7) (k := 32) (pc2 := 99) C (by simp only [List.length_set]; rfl) (by decide) rfl rfl (cwm_105) (by decide) ⟨Nat.le_of_ble_eq_true rfl, Nat.le_of_ble_eq_true rfl⟩ dX12_init_96 (fun st k9 => lv_bipush hx hb dX12_init_97 (n_bip (by decide) (by decide)) k9) dX12_init_99 dX12_init_101 hP hD hS (fun q96 H locs hP hD hS => ?_)
  refine W.widen (k := 11) (n := 1814) (Nat.le_of_ble_eq_true rfl) (Nat.le_of_ble_eq_true rfl) ?_
  refine seg_int (n := 7) (k := 33) (pc2 := 107) C (by simp only [List.length_set]; rfl) (by decide) rfl rfl (cwm_106) (by decide) ⟨Nat.le_of_ble_eq_true rfl, Nat.le_of_ble_eq_true rfl⟩ dX12_init_104 (fun st k9 => lv_bipush hx hb dX12_init_105 (n_bip (by decide) (by decide)) k9) dX12_init_107 dX12_init_109 hP hD hS (fun q104 H locs hP hD hS => ?_)
  refine W.widen (k := 12) (n := 1821) (Nat.le_of_ble_eq_true rfl) (Nat.le_of_ble_eq_true rfl) ?_
  refine seg_int (n := 6) (k := 38) (pc2 := 115) C (by simp only [List.length_set]; rfl) (by decide) rfl rfl (cwm_107) (by decide) ⟨Nat.le_of_ble_eq_true rfl, Nat.le_of_ble_eq_true rfl⟩ dX12_init_112 (fun st k9 => lv_bipush hx hb dX12_init_113 (n_bip (by decide) (by decide)) k9) dX12_init_115 dX12_init_117 hP hD hS (fun q112 H locs hP hD hS => ?_)
  refine W.widen (k := 13) (n := 1827) (Nat.le_of_ble_eq_true rfl) (Nat.le_of_ble_eq_true rfl) ?_
  refine seg_int (n := 24) (k := 39) (pc2 := 123) C (by simp only [List.length_set]; rfl) (by decide) rfl rfl (cwm_108) (by decide) ⟨Nat.le_of_ble_eq_true rfl, Nat.le_of_ble_eq_true rfl⟩ dX12_init_120 (fun st k9 => lv_bipush hx hb dX12_init_121 (n_bip (by decide) (by decide)) k9) dX12_init_123 dX12_init_125 hP hD hS (fun q120 H locs hP hD hS => ?_)
  refine W.widen (k := 14) (n := 1851) (Nat.le_of_ble_eq_true rfl) (Nat.le_of_ble_eq_true rfl) ?_
  refine seg_put (k := 40) C (by simp only [List.length_set]; rfl) (by decide) rfl rfl (cwm_109) dX12_init_128 dX12_init_129 dX12_init_130 hP hD hS (fun H locs hP hD hS => ?_)
  refine seg_int (n := 6) (k := 48) (pc2 := 136) C (by simp only [List.length_set]; rfl) (by decide) rfl rfl (cwm_110) (by decide) ⟨Nat.le_of_ble_eq_true rfl, Nat.le_of_ble_eq_true rfl⟩ dX12_init_133 (fun st k9 => lv_bipush hx hb dX12_init_134 (n_bip (by decide) (by decide)) k9) dX12_init_136 dX12_init_138 hP hD hS (fun q133 H locs hP hD hS => ?_)
  refine W.widen (k := 15) (n := 1857) (Nat.le_of_ble_eq_true rfl) (Nat.le_of_ble_eq_true rfl) ?_
  refine seg_int (n := 6) (k := 49) (pc2 := 144) C (by simp only [List.length_set]; rfl) (by decide) rfl rfl (cwm_111) (by decide) ⟨Nat.le_of_ble_eq_true rfl, Nat.le_of_ble_eq_true rfl⟩ dX12_init_141 (fun st k9 => lv_bipush hx hb dX12_init_142 (n_bip (by decide) (by decide)) k9) dX12_init_144 dX12_init_146 hP hD hS (fun q141 H locs hP hD hS => ?_)
  refine W.widen (k := 16) (n := 1863) (Nat.le_of_ble_eq_true rfl) (Nat.le_of_ble_eq_true rfl) ?_
  refine seg_int (n := 4) (k := 51) (pc2 := 151) C (by simp only [List.length_set]; rfl) (by decide) rfl rfl (cwm_112) (by decide) ⟨Nat.le_of_ble_eq_true rfl, Nat.le_of_ble_eq_true rfl⟩ dX12_init_149 (fun st k9 => lv_iconst hx hb dX12_init_150 rfl k9) dX12_init_151 dX12_init_153 hP hD hS (fun q149 H locs hP hD hS => ?_)
  refine W.widen (k := 17) (n := 1867) (Nat.le_of_ble_eq_true rfl) (Nat.le_of_ble_eq_true rfl) ?_
  refine seg_int (n := 15625) (k := 52) (pc2 := 160) C (by simp only [List.length_set]; rfl) (by decide) rfl rfl (cwm_113) (by decide) ⟨Nat.le_of_ble_eq_true rfl, Nat.le_of_ble_eq_true rfl⟩ dX12_init_156 (fun st k9 => lv_sipush hx hb dX12_init_157 (n_sip (by decide) (by decide)) k9) dX12_init_160 dX12_init_162 hP hD hS (fun q156 H locs hP hD hS => ?_)
  refine W.widen (k := 18) (n := 17492) (Nat.le_of_ble_eq_true rfl) (Nat.le_of_ble_eq_true rfl) ?_
  refine seg_int (n := 15625) (k := 53) (pc2 := 169) C (by simp only [List.length_set]; rfl) (by decide) rfl rfl (cwm_114) (by decide) ⟨Nat.le_of_ble_eq_true rfl, Nat.le_of_ble_eq_true rfl⟩ dX12_init_165 (fun st k9 => lv_sipush hx hb dX12_init_166 (n_sip (by decide) (by decide)) k9) dX12_init_169 dX12_init_171 hP hD hS (fun q165 H locs hP hD hS => ?_)
  refine W.widen (k := 19) (n := 33117) (Nat.le_of_ble_eq_true rfl) (Nat.le_of_ble_eq_true rfl) ?_
  refine seg_int (n := 15625) (k := 54) (pc2 := 178) C (by simp only [List.length_set]; rfl) (by decide) rfl rfl (cwm_115) (by decide) ⟨Nat.le_of_ble_eq_true rfl, Nat.le_of_ble_eq_true rfl⟩ dX12_init_174 (fun st k9 => lv_sipush hx hb dX12_init_175 (n_sip (by decide) (by decide)) k9) dX12_init_178 dX12_init_180 hP hD hS (fun q174 H locs hP hD hS => ?_)
  refine W.widen (k := 20) (n := 48742) (Nat.le_of_ble_eq_true rfl) (Nat.le_of_ble_eq_true rfl) ?_
  refine seg_boolean (n := 15625) (k := 55) (pc2 := 187) C (by simp only [List.length_set]; rfl) (by decide) rfl rfl (cwm_117) (by decide) ⟨Nat.le_of_ble_eq_true rfl, Nat.le_of_ble_eq_true rfl⟩ dX12_init_183 (fun st k9 => lv_sipush hx hb dX12_init_184 (n_sip (by decide) (by decide)) k9) dX12_init_187 dX12_init_189 hP hD hS (fun q183 H locs hP hD hS => ?_)
  refine W.widen (k := 21) (n := 64367) (Nat.le_of_ble_eq_true rfl) (Nat.le_of_ble_eq_true rfl) ?_
  refine seg_put (k := 59) C (by simp only [List.length_set]; rfl) (by decide) rfl rfl (cwm_118) dX12_init_192 dX12_init_193 dX12_init_194 hP hD hS (fun H locs hP hD hS => ?_)
  refine seg_int (n := 766) (k := 60) (pc2 := 201) C (by simp only [List.length_set]; rfl) (by decide) rfl rfl (cwm_119) (by decide) ⟨Nat.le_of_ble_eq_true rfl, Nat.le_of_ble_eq_true rfl⟩ dX12_init_197 (fun st k9 => lv_sipush hx hb dX12_init_198 (n_sip (by decide) (by decide)) k9) dX12_init_201 dX12_init_203 hP hD hS (fun q197 H locs hP hD hS => ?_)
  refine W.widen (k := 22) (n := 65133) (Nat.le_of_ble_eq_true rfl) (Nat.le_of_ble_eq_true rfl) ?_
  refine seg_long (n := 34) (k := 61) (pc2 := 209) C (by simp only [List.length_set]; rfl) (by decide) rfl rfl (cwm_120) (by decide) ⟨Nat.le_of_ble_eq_true rfl, Nat.le_of_ble_eq_true rfl⟩ dX12_init_206 (fun st k9 => lv_bipush hx hb dX12_init_207 (n_bip (by decide) (by decide)) k9) dX12_init_209 dX12_init_211 hP hD hS (fun q206 H locs hP hD hS => ?_)
  refine W.widen (k := 23) (n := 65167) (Nat.le_of_ble_eq_true rfl) (Nat.le_of_ble_eq_true rfl) ?_
  refine seg_boolean (n := 2) (k := 62) (pc2 := 216) C (by simp only [List.length_set]; rfl) (by decide) rfl rfl (cwm_121) (by decide) ⟨Nat.le_of_ble_eq_true rfl, Nat.le_of_ble_eq_true rfl⟩ dX12_init_214 (fun st k9 => lv_iconst hx hb dX12_init_215 rfl k9) dX12_init_216 dX12_init_218 hP hD hS (fun q214 H locs hP hD hS => ?_)
  refine W.widen (k := 24) (n := 65169) (Nat.le_of_ble_eq_true rfl) (Nat.le_of_ble_eq_true rfl) ?_
  obtain ⟨ad, had⟩ : ∃ ad : Nat → Nat, ad = (adl [(67, h0), (68, q4), (69, q13), (70, q22), (71, q30), (72, q39), (73, q47), (74, q60), (75, q68), (76, q76), (77, q83), (78, q96), (79, q104), (80, q112), (81, q120), (82, q133), (83, q141), (84, q149), (85, q156), (86, q165), (87, q174), (88, q183), (89, q197), (90, q206), (91, q214)]) := ⟨_, rfl⟩
  have hFl : (((((((((((((((((((((((((((([.int (Int32.ofInt 0), .null, .int (Int32.ofInt 0), .int (Int32.ofInt 0), .int (Int32.ofInt 0), .int (Int32.ofInt 0), .null, .null, .null, .null, .null, .int (Int32.ofInt 0), .int (Int32.ofInt 0), .int (Int32.ofInt 0), .int (Int32.ofInt 0), .int (Int32.ofInt 0), .int (Int32.ofInt 0), .long (Int64.ofInt 0), .int (Int32.ofInt 0), .int (Int32.ofInt 0), .int (Int32.ofInt 0), .int (Int32.ofInt 0), .null, .null, .int (Int32.ofInt 0), .int (Int32.ofInt 0), .int (Int32.ofInt 0), .int (Int32.ofInt 0), .null, .int (Int32.ofInt 0), .null, .int (Int32.ofInt 0), .null, .null, .int (Int32.ofInt 0), .int (Int32.ofInt 0), .int (Int32.ofInt 0), .int (Int32.ofInt 0), .null, .null, .int (Int32.ofInt 0), .int (Int32.ofInt 0), .int (Int32.ofInt 0), .int (Int32.ofInt 0), .int (Int32.ofInt 0), .int (Int32.ofInt 0), .int (Int32.ofInt 0), .int (Int32.ofInt 0), .null, .null, .int (Int32.ofInt 0), .null, .null, .null, .null, .null, .int (Int32.ofInt 0), .int (Int32.ofInt 0), .int (Int32.ofInt 0), .int (Int32.ofInt 0), .null, .null, .null].set 1 (.ref q4)).set 6 (.ref q13)).set 7 (.ref q22)).set 8 (.ref q30)).set 9 (.ref q39)).set 10 (.ref q47)).set 21 (.int (Int32.ofInt (-1)))).set 22 (.ref q60)).set 23 (.ref q68)).set 28 (.ref q76)).set 30 (.ref q83)).set 31 (.int (Int32.ofInt (-1)))).set 32 (.ref q96)).set 33 (.ref q104)).set 38 (.ref q112)).set 39 (.ref q120)).set 40 (.int (Int32.ofInt (-1)))).set 48 (.ref q133)).set 49 (.ref q141)).set 51 (.ref q149)).set 52 (.ref q156)).set 53 (.ref q165)).set 54 (.ref q174)).set 55 (.ref q183)).set 59 (.int (Int32.ofInt (-1)))).set 60 (.ref q197)).set 61 (.ref q206)).set 62 (.ref q214)) = flds ad Mm0 67 12 := by
    rw [had, flds_code, ← FScM_ok]
    simp only [FScM, List.map_set]
    rfl
  simp only [List.nil_append, List.cons_append] at hP hD
  rw [hFl] at hP hD
  have hW := mW T ad
  simp only [mm0_68, mm0_69, mm0_70, mm0_71, mm0_72, mm0_73, mm0_74, mm0_75, mm0_76, mm0_77, mm0_78, mm0_79, mm0_80, mm0_81, mm0_82, mm0_83, mm0_84, mm0_85, mm0_86, mm0_87, mm0_88, mm0_89, mm0_90, mm0_91] at hW
  have e67 : ad 67 = h0 := by rw [had]; rfl
  have e68 : ad 68 = q4 := by rw [had]; rfl
  have e69 : ad 69 = q13 := by rw [had]; rfl
  have e70 : ad 70 = q22 := by rw [had]; rfl
  have e71 : ad 71 = q30 := by rw [had]; rfl
  have e72 : ad 72 = q39 := by rw [had]; rfl
  have e73 : ad 73 = q47 := by rw [had]; rfl
  have e74 : ad 74 = q60 := by rw [had]; rfl
  have e75 : ad 75 = q68 := by rw [had]; rfl
  have e76 : ad 76 = q76 := by rw [had]; rfl
  have e77 : ad 77 = q83 := by rw [had]; rfl
  have e78 : ad 78 = q96 := by rw [had]; rfl
  have e79 : ad 79 = q104 := by rw [had]; rfl
  have e80 : ad 80 = q112 := by rw [had]; rfl
  have e81 : ad 81 = q120 := by rw [had]; rfl
  have e82 : ad 82 = q133 := by rw [had]; rfl
  have e83 : ad 83 = q141 := by rw [had]; rfl
  have e84 : ad 84 = q149 := by rw [had]; rfl
  have e85 : ad 85 = q156 := by rw [had]; rfl
  have e86 : ad 86 = q165 := by rw [had]; rfl
  have e87 : ad 87 = q174 := by rw [had]; rfl
  have e88 : ad 88 = q183 := by rw [had]; rfl
  have e89 : ad 89 = q197 := by rw [had]; rfl
  have e90 : ad 90 = q206 := by rw [had]; rfl
  have e91 : ad 91 = q214 := by rw [had]; rfl
  rw [e67, e68, e69, e70, e71, e72, e73, e74, e75, e76, e77, e78, e79, e80, e81, e82, e83, e84, e85, e86, e87, e88, e89, e90, e91] at hW
  rw [← hW] at hP hD
  clear e68 e69 e70 e71 e72 e73 e74 e75 e76 e77 e78 e79 e80 e81 e82 e83 e84 e85 e86 e87 e88 e89 e90 e91 hFl hW had
  have hAd := adD_of hD
  have C : CxM p s m #[Value.ref h0] meth c D T A s.heap ls (ad 67) := by rw [e67]; exact C
  have hl : lv_has ls 2 [(0, .ref (ad 67))] := by rw [e67]; exact hl
  refine seg_ll (i := 0) (v := 1903518073) (pc2 := 226) C hAd (by decide) (by decide) cwm_122 dX12_init_221 dX12_init_222 (fun st k9 => lv_iconst hx hb dX12_init_225 rfl k9) dX12_init_226 dX12_init_229 hP hS (fun H locs hP hS => ?_)
  refine seg_ll (i := 1) (v := 1869636974) (pc2 := 235) C hAd (by decide) (by decide) cwm_123 dX12_init_230 dX12_init_231 (fun st k9 => lv_iconst hx hb dX12_init_234 rfl k9) dX12_init_235 dX12_init_238 hP hS (fun H locs hP hS => ?_)
  refine seg_ll (i := 2) (v := 7103847) (pc2 := 244) C hAd (by decide) (by decide) cwm_124 dX12_init_239 dX12_init_240 (fun st k9 => lv_iconst hx hb dX12_init_243 rfl k9) dX12_init_244 dX12_init_247 hP hS (fun H locs hP hS => ?_)
  refine seg_ll (i := 3) (v := 1819239275) (pc2 := 253) C hAd (by decide) (by decide) cwm_125 dX12_init_248 dX12_init_249 (fun st k9 => lv_iconst hx hb dX12_init_252 rfl k9) dX12_init_253 dX12_init_256 hP hS (fun H locs hP hS => ?_)
  refine seg_ll (i := 4) (v := 422541682533) (pc2 := 262) C hAd (by decide) (by decide) cwm_126 dX12_init_257 dX12_init_258 (fun st k9 => lv_iconst hx hb dX12_init_261 rfl k9) dX12_init_262 dX12_init_265 hP hS (fun H locs hP hS => ?_)
  refine seg_ll (i := 5) (v := 418497262196) (pc2 := 271) C hAd (by decide) (by decide) cwm_127 dX12_init_266 dX12_init_267 (fun st k9 => lv_iconst hx hb dX12_init_270 rfl k9) dX12_init_271 dX12_init_274 hP hS (fun H locs hP hS => ?_)
  refine seg_ll (i := 6) (v := 1918985844) (pc2 := 281) C hAd (by decide) (by decide) cwm_128 dX12_init_275 dX12_init_276 (fun st k9 => lv_bipush hx hb dX12_init_279 (n_bip (by decide) (by decide)) k9) dX12_init_281 dX12_init_284 hP hS (fun H locs hP hS => ?_)
  refine seg_ll (i := 7) (v := 1802399604) (pc2 := 291) C hAd (by decide) (by decide) cwm_129 dX12_init_285 dX12_init_286 (fun st k9 => lv_bipush hx hb dX12_init_289 (n_bip (by decide) (by decide)) k9) dX12_init_291 dX12_init_294 hP hS (fun H locs hP hS => ?_)
  refine seg_ll (i := 8) (v := 1752132708) (pc2 := 301) C hAd (by decide) (by decide) cwm_130 dX12_init_295 dX12_init_296 (fun st k9 => lv_bipush hx hb dX12_init_299 (n_bip (by decide) (by decide)) k9) dX12_init_301 dX12_init_304 hP hS (fun H locs hP hS => ?_)
  refine seg_ll (i := 9) (v := 1953854062) (pc2 := 311) C hAd (by decide) (by decide) cwm_131 dX12_init_305 dX12_init_306 (fun st k9 => lv_bipush hx hb dX12_init_309 (n_bip (by decide) (by decide)) k9) dX12_init_311 dX12_init_314 hP hS (fun H locs hP hS => ?_)
  refine seg_ll (i := 10) (v := 1818584692) (pc2 := 321) C hAd (by decide) (by decide) cwm_132 dX12_init_315 dX12_init_316 (fun st k9 => lv_bipush hx hb dX12_init_319 (n_bip (by decide) (by decide)) k9) dX12_init_321 dX12_init_324 hP hS (fun H locs hP hS => ?_)
  refine seg_ll (i := 11) (v := 491394656372) (pc2 := 331) C hAd (by decide) (by decide) cwm_133 dX12_init_325 dX12_init_326 (fun st k9 => lv_bipush hx hb dX12_init_329 (n_bip (by decide) (by decide)) k9) dX12_init_331 dX12_init_334 hP hS (fun H locs hP hS => ?_)
  refine seg_ll (i := 12) (v := 1651471464) (pc2 := 341) C hAd (by decide) (by decide) cwm_134 dX12_init_335 dX12_init_336 (fun st k9 => lv_bipush hx hb dX12_init_339 (n_bip (by decide) (by decide)) k9) dX12_init_341 dX12_init_344 hP hS (fun H locs hP hS => ?_)
  refine seg_ll (i := 13) (v := 7300710) (pc2 := 351) C hAd (by decide) (by decide) cwm_135 dX12_init_345 dX12_init_346 (fun st k9 => lv_bipush hx hb dX12_init_349 (n_bip (by decide) (by decide)) k9) dX12_init_351 dX12_init_354 hP hS (fun H locs hP hS => ?_)
  refine seg_ll (i := 14) (v := 28526) (pc2 := 361) C hAd (by decide) (by decide) cwm_136 dX12_init_355 dX12_init_356 (fun st k9 => lv_bipush hx hb dX12_init_359 (n_bip (by decide) (by decide)) k9) dX12_init_361 dX12_init_364 hP hS (fun H locs hP hS => ?_)
  refine seg_ll (i := 15) (v := 495672977012) (pc2 := 371) C hAd (by decide) (by decide) cwm_137 dX12_init_365 dX12_init_366 (fun st k9 => lv_bipush hx hb dX12_init_369 (n_bip (by decide) (by decide)) k9) dX12_init_371 dX12_init_374 hP hS (fun H locs hP hS => ?_)
  refine seg_ll (i := 16) (v := 26479) (pc2 := 381) C hAd (by decide) (by decide) cwm_138 dX12_init_375 dX12_init_376 (fun st k9 => lv_bipush hx hb dX12_init_379 (n_bip (by decide) (by decide)) k9) dX12_init_381 dX12_init_384 hP hS (fun H locs hP hS => ?_)
  have hP : va_P D classes (wld T ad MmA S67) H := hP
  refine lv_aload_n hx hb dX12_init_385 rfl (lv_at hl 0 rfl) ?_
  refine ct_callV (A1 := A) (d := 0) (z := 136) (as' := []) ⟨hx, hb, hown, hts, hK, hl.1.trans hml.symm⟩ hAd S67_clo hP (by decide) (by decide +kernel) (by decide +kernel) (by decide +kernel) (Or.inl ⟨rfl, by decide +kernel, by decide +kernel⟩) (by intro v hv; simp only [List.mem_cons, List.not_mem_nil, or_false] at hv; subst hv; exact ⟨⟨by decide, by decide +kernel⟩, rfl⟩) (cwm_139) ⟨Nat.le_of_ble_eq_true rfl, Nat.le_of_ble_eq_true rfl⟩ ⟨Nat.le_of_ble_eq_true rfl, Nat.le_of_ble_eq_true rfl⟩ ex_plain dX12_init_386 (Nat.le_of_ble_eq_true rfl) (rest := []) rfl hS (fun q h => h) (fun H locs hP _ _ hS => ?_)
  refine W.eq (g2 := F0 m 389 ls []) rfl ?_
  refine lv_iconst (v := Int32.ofInt 0) hx hb dX12_init_389 (by decide) ?_
  refine lv_istore_n (lv' := [(1, .int (Int32.ofInt 0)), (0, .ref (ad 67))]) hx hb dX12_init_390 rfl hl (by decide) rfl (fun ls hl => ?_)
  have h0c : cpk 0 = MmB := by
    funext b j
    unfold cpk cpy
    rw [if_neg (by omega)]
  refine mloop hx hb hown hts hK hAd (fun ls H locs hP hS => ?_) 117 0 (by decide) ls H locs hl (by rw [h0c]; exact hP) hS
  exact W.vret hx hb hr (fun t ht hW => ⟨⟨(), rfl, trivial, ad, e67, by rw [ht]; exact hP, hAd.D⟩, hS.F ht⟩) hS.2.2 dX12_init_415
