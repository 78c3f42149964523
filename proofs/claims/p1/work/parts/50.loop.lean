/-! THE LAW'S LOOP AND ITS START -/
/-- what call number c%32 owes -/
def stepOf (c : Nat) (a : Nat → Int) (M : Mem) (J : Mem → Prop) : Prop := match c with
  | 0 => Step2 96 130 [aI (a 1), aI (a 2), aI (a 3), aI (a 4), aI (a 5)] M J
  | 1 => Step2 97 132 [aI (a 1)] M J
  | 2 => Step2 98 155 [] M J
  | 3 => Step2 99 156 [] M J
  | 4 => (RI M) ∧ StepT 164 ((0 ≤ (a 1) ∧ (a 1) < M 5 0) ∧ 0 ≤ (a 2) ∧ (a 2) < 3) (M 6 ((a 1) * 3 + (a 2))) [aI (a 1), aI (a 2)] M J
  | 5 => (RI M) ∧ StepT 165 ((0 ≤ (a 1) ∧ (a 1) < M 5 1) ∧ 0 ≤ (a 2) ∧ (a 2) < 7) (M 7 ((a 1) * 7 + (a 2))) [aI (a 1), aI (a 2)] M J
  | 6 => (RI M) ∧ StepT 166 ((0 ≤ (a 1) ∧ (a 1) < M 5 2) ∧ 0 ≤ (a 2) ∧ (a 2) ≤ 5) (if (a 2) < 4 then M 8 ((a 1) * 4 + (a 2)) else if (a 2) = 4 then (if M 8 (4 * (a 1)) < M 8 (4 * (a 1) + 1) then M 8 (4 * (a 1)) else 2 * (M 5 0 - 1) - M 8 (4 * (a 1))) else (if M 8 (4 * (a 1)) < M 8 (4 * (a 1) + 1) then M 8 (4 * (a 1) + 1) else 2 * (M 5 0 - 1) - M 8 (4 * (a 1) + 1))) [aI (a 1), aI (a 2)] M J
  | 7 => Step2 100 169 [] M J
  | 8 => Step2 102 170 [aI (a 1)] M J
  | 9 => Step2 103 173 [] M J
  | 10 => Step2 104 176 [aI (a 1), aI (a 2)] M J
  | 11 => Step2 105 177 [aI (a 1)] M J
  | 12 => Step2 106 183 [] M J
  | 13 => Step2 107 184 [aI (a 1)] M J
  | 14 => Step2 108 185 [aI (a 1)] M J
  | 15 => Step2 109 186 [] M J
  | 16 => Step2 110 187 [aI (a 1), aI (a 2)] M J
  | 17 => Step2 111 188 [aI (a 1)] M J
  | 18 => Step2 112 190 [] M J
  | 19 => (0 ≤ M 4 3 ∧ M 4 3 ≤ 60) ∧ StepT 191 ((0 ≤ (a 1) ∧ (a 1) < M 4 3) ∧ 0 ≤ (a 2) ∧ (a 2) < 4) (M 12 ((a 1) * 4 + (a 2))) [aI (a 1), aI (a 2)] M J
  | 20 => Step2 113 202 [aI (a 1)] M J
  | 21 => Step2 114 203 [aI (a 1)] M J
  | 22 => Step2 115 204 [aI (a 1)] M J
  | 23 => Step2 116 207 [] M J
  | 24 => Step2 118 215 [aI (a 1)] M J
  | 25 => Step2 119 216 [aI (a 1)] M J
  | 26 => Step2 120 217 [] M J
  | 27 => Step2 121 218 [aI (a 1), aI (a 2)] M J
  | 28 => Step2 122 219 [aI (a 1), aI (a 2)] M J
  | 29 => Step2 125 220 [aI (a 1)] M J
  | 30 => Step2 126 221 [aI (a 1)] M J
  | 31 => Step2 127 222 [aI (a 1)] M J
  | _ => False
section LL
variable {p : Program} {l : Launch} {e : Env} {s : State} {m : MethodId} {below : List Frame} {meth : Method} {c : Code} {b L : Nat} {xs : Nat → Int32} {D : va_G} {T : Nat → ClassId} {ad : Nat → Nat} {o t1 t2 t3 t4 : Nat}
theorem cases_32 {n : Nat} (h : n < 32) : n = 0 ∨ n = 1 ∨ n = 2 ∨ n = 3 ∨ n = 4 ∨ n = 5 ∨ n = 6 ∨ n = 7 ∨ n = 8 ∨ n = 9 ∨ n = 10 ∨ n = 11 ∨ n = 12 ∨ n = 13 ∨ n = 14 ∨ n = 15 ∨ n = 16 ∨ n = 17 ∨ n = 18 ∨ n = 19 ∨ n = 20 ∨ n = 21 ∨ n = 22 ∨ n = 23 ∨ n = 24 ∨ n = 25 ∨ n = 26 ∨ n = 27 ∨ n = 28 ∨ n = 29 ∨ n = 30 ∨ n = 31 := by omega
set_option maxHeartbeats 4000000 in
set_option maxRecDepth 100000 in
theorem law_loop (I : Nat → Mem → Prop) (C : LwC l p s m c b L xs D T ad o t1 t2 t3 t4) (hr : meth.sig.returnType = ret) (hlocks : meth.locks = false) (hstep : ∀ (k : Nat) (M : Mem), 6 * k + 6 ≤ L → I k M → stepOf ((arx xs k 0 % 32).toNat) (arx xs k) M (I (k + 1))) :
    ∀ (n k : Nat), 6 * k ≤ L → L + 6 ≤ 6 * k + 6 * n → ∀ (M : Mem) (H : Heap) (locs : List Loc) (ls : Array Slot), I k M → LwS s b D T ad o k M H locs ls → W p l e room_1 s m #[Value.ref b] below meth c H locs (93 + k) (81631 + 6 * k) (lw_Z below #[Value.ref b] s) (F0 m 23 ls []) := by
  intro n
  induction n with
  | zero => intro k h1 h2; omega
  | succ n ih =>
    intro k h1 h2 M H locs ls hI S
    obtain ⟨hx, hb, hml, hown, hts, hK, hX, hbl, hAd, hAo, hE, hL, hst⟩ := id C
    obtain ⟨hl, hP, ⟨f, hO⟩, hS⟩ := id S
    have eL : Int32.ofNat L - 6 = Int32.ofInt ((L : Int) - 6) := by
      rw [Int32.ofInt_sub]
      rfl
    have w1 : w32 ((L : Int) - 6) = (L : Int) - 6 := w32_of (by omega) (by omega)
    have w2 : w32 (6 * (k : Int)) = 6 * (k : Int) := w32_of (by omega) (by omega)
    refine lv_iload hx hb dL_law_23 (lv_at hl 0 rfl) ?_
    refine lv_aload_n hx hb dL_law_25 rfl (lv_at hl 4 rfl) ?_
    refine va_slen hx hb hX hbl (Nat.not_le.mpr hbl) hS dL_law_26 ?_
    refine lv_bipush (v := 6) hx hb dL_law_27 (by decide) ?_
    refine lv_isub hx hb dL_law_29 ?_
    rw [eL]
    refine lv_icmp_gt hx hb dL_law_30 (tgt := 1150) (by decide) (fun _ => ?_) (fun hgt => ?_)
    · refine W.widen (k := 600002) (n := 7302232) (by omega) (by omega) ?_
      refine va_forget (fun q hq => hS.2.2 q hq) ?_
      refine lv_iconst (v := 1) hx hb dL_law_1150 (by decide) ?_
      exact lw_ret hx hb hr hlocks dL_law_1151
    · have hk6 : 6 * k + 6 ≤ L := by
        have h9 : ¬ w32 ((L : Int) - 6) < w32 (6 * (k : Int)) := fun h => hgt (lt32.mpr h)
        omega
      refine lv_aload_n hx hb dL_law_33 rfl (lv_at hl 4 rfl) ?_
      refine lv_iload hx hb dL_law_34 (lv_at hl 0 rfl) ?_
      have hin : (6 * (k : Int)) = ((6 * k + 0 : Nat) : Int) := by omega
      refine va_sld hx hb hX hbl (Nat.not_le.mpr hbl) hS (vin (by omega) (by omega) (by omega)) dL_law_36 ?_
      have ex0 : xs (Int32.ofInt (6 * (k : Int))).toNatClampNeg = Int32.ofInt (arx xs k 0) := by
        rw [tnc (by omega) (by omega), arx_o, hin, Int.toNat_natCast]
      rw [ex0]
      refine lv_bipush (v := Int32.ofInt 31) hx hb dL_law_37 (by decide) ?_
      refine lv_iand hx hb dL_law_39 ?_
      have esel : (Int32.ofInt (arx xs k 0) &&& Int32.ofInt 31).toInt = arx xs k 0 % 32 := and_mask (arx xs k 0) 5 (by decide)
      have hsel := hstep k M hk6 hI
      have nxt : ∀ (M : Mem) (H : Heap) (locs : List Loc) (ls : Array Slot), I (k + 1) M → LwS s b D T ad o k M H locs ls → W p l e room_1 s m #[Value.ref b] below meth c H locs (93 + k + 1) (81631 + 6 * k + 6) (lw_Z below #[Value.ref b] s) (F0 m 1144 ls []) := by
        intro M H locs ls hI2 S2
        obtain ⟨hl, hP, hO, hS⟩ := S2
        refine lv_iinc (k := 0) (v := Int32.ofInt (6 * ((k + 1 : Nat) : Int))) (lv' := [(4, .int (Int32.ofInt (6 * ((k + 1 : Nat) : Int)))), (3, .ref o), (2, .ref (ad 67)), (1, .ref (ad 0)), (0, .ref b)]) hx hb dL_law_1144 hl rfl (by rw [show Int32.ofInt (6 * ((k + 1 : Nat) : Int)) = Int32.ofInt (6 * (k : Int) + 6) from congrArg Int32.ofInt (by omega), Int32.ofInt_add]) (by decide) rfl (fun ls hl => ?_)
        refine lv_goto hx hb dL_law_1147 (tgt := 23) (by decide) ?_
        exact ih (k + 1) (by omega) (by omega) M H locs ls hI2 ⟨hl, hP, hO, hS⟩
      have hR0 : 93 + k + 1 ≤ room_1.cells ∧ 81631 + 6 * k + 6 ≤ room_1.slots := ⟨by show _ ≤ 600002; omega, by show _ ≤ 7302232; omega⟩
      generalize hc : (arx xs k 0 % 32).toNat = cn at hsel
      have hcn : cn < 32 := by omega
      have hci : arx xs k 0 % 32 = (cn : Int) := by omega
      rw [hci] at esel
      clear hc hci hstep ih
      generalize Int32.ofInt (arx xs k 0) &&& Int32.ofInt 31 = x at esel ⊢
      rcases cases_32 hcn with rfl | rfl | rfl | rfl | rfl | rfl | rfl | rfl | rfl | rfl | rfl | rfl | rfl | rfl | rfl | rfl | rfl | rfl | rfl | rfl | rfl | rfl | rfl | rfl | rfl | rfl | rfl | rfl | rfl | rfl | rfl | rfl
      · refine lv_tableIn hx hb dL_law_40 (off := 144) (tgt := 184) (by rw [esel]; decide) (by rw [esel]; decide) (by rw [esel]; rfl) (by decide) ?_
        exact lc_0 C hk6 hsel hR0 S nxt
      · refine lv_tableIn hx hb dL_law_40 (off := 217) (tgt := 257) (by rw [esel]; decide) (by rw [esel]; decide) (by rw [esel]; rfl) (by decide) ?_
        exact lc_1 C hk6 hsel hR0 S nxt
      · refine lv_tableIn hx hb dL_law_40 (off := 242) (tgt := 282) (by rw [esel]; decide) (by rw [esel]; decide) (by rw [esel]; rfl) (by decide) ?_
        exact lc_2 C hk6 hsel hR0 S nxt
      · refine lv_tableIn hx hb dL_law_40 (off := 255) (tgt := 295) (by rw [esel]; decide) (by rw [esel]; decide) (by rw [esel]; rfl) (by decide) ?_
        exact lc_3 C hk6 hsel hR0 S nxt
      · refine lv_tableIn hx hb dL_law_40 (off := 268) (tgt := 308) (by rw [esel]; decide) (by rw [esel]; decide) (by rw [esel]; rfl) (by decide) ?_
        exact lc_4 C hk6 hsel.1 hsel.2 hR0 S nxt
      · refine lv_tableIn hx hb dL_law_40 (off := 336) (tgt := 376) (by rw [esel]; decide) (by rw [esel]; decide) (by rw [esel]; rfl) (by decide) ?_
        exact lc_5 C hk6 hsel.1 hsel.2 hR0 S nxt
      · refine lv_tableIn hx hb dL_law_40 (off := 404) (tgt := 444) (by rw [esel]; decide) (by rw [esel]; decide) (by rw [esel]; rfl) (by decide) ?_
        exact lc_6 C hk6 hsel.1 hsel.2 hR0 S nxt
      · refine lv_tableIn hx hb dL_law_40 (off := 472) (tgt := 512) (by rw [esel]; decide) (by rw [esel]; decide) (by rw [esel]; rfl) (by decide) ?_
        exact lc_7 C hk6 hsel hR0 S nxt
      · refine lv_tableIn hx hb dL_law_40 (off := 485) (tgt := 525) (by rw [esel]; decide) (by rw [esel]; decide) (by rw [esel]; rfl) (by decide) ?_
        exact lc_8 C hk6 hsel hR0 S nxt
      · refine lv_tableIn hx hb dL_law_40 (off := 510) (tgt := 550) (by rw [esel]; decide) (by rw [esel]; decide) (by rw [esel]; rfl) (by decide) ?_
        exact lc_9 C hk6 hsel hR0 S nxt
      · refine lv_tableIn hx hb dL_law_40 (off := 523) (tgt := 563) (by rw [esel]; decide) (by rw [esel]; decide) (by rw [esel]; rfl) (by decide) ?_
        exact lc_10 C hk6 hsel hR0 S nxt
      · refine lv_tableIn hx hb dL_law_40 (off := 560) (tgt := 600) (by rw [esel]; decide) (by rw [esel]; decide) (by rw [esel]; rfl) (by decide) ?_
        exact lc_11 C hk6 hsel hR0 S nxt
      · refine lv_tableIn hx hb dL_law_40 (off := 585) (tgt := 625) (by rw [esel]; decide) (by rw [esel]; decide) (by rw [esel]; rfl) (by decide) ?_
        exact lc_12 C hk6 hsel hR0 S nxt
      · refine lv_tableIn hx hb dL_law_40 (off := 598) (tgt := 638) (by rw [esel]; decide) (by rw [esel]; decide) (by rw [esel]; rfl) (by decide) ?_
        exact lc_13 C hk6 hsel hR0 S nxt
      · refine lv_tableIn hx hb dL_law_40 (off := 623) (tgt := 663) (by rw [esel]; decide) (by rw [esel]; decide) (by rw [esel]; rfl) (by decide) ?_
        exact lc_14 C hk6 hsel hR0 S nxt
      · refine lv_tableIn hx hb dL_law_40 (off := 648) (tgt := 688) (by rw [esel]; decide) (by rw [esel]; decide) (by rw [esel]; rfl) (by decide) ?_
        exact lc_15 C hk6 hsel hR0 S nxt
      · refine lv_tableIn hx hb dL_law_40 (off := 661) (tgt := 701) (by rw [esel]; decide) (by rw [esel]; decide) (by rw [esel]; rfl) (by decide) ?_
        exact lc_16 C hk6 hsel hR0 S nxt
      · refine lv_tableIn hx hb dL_law_40 (off := 698) (tgt := 738) (by rw [esel]; decide) (by rw [esel]; decide) (by rw [esel]; rfl) (by decide) ?_
        exact lc_17 C hk6 hsel hR0 S nxt
      · refine lv_tableIn hx hb dL_law_40 (off := 723) (tgt := 763) (by rw [esel]; decide) (by rw [esel]; decide) (by rw [esel]; rfl) (by decide) ?_
        exact lc_18 C hk6 hsel hR0 S nxt
      · refine lv_tableIn hx hb dL_law_40 (off := 736) (tgt := 776) (by rw [esel]; decide) (by rw [esel]; decide) (by rw [esel]; rfl) (by decide) ?_
        exact lc_19 C hk6 hsel.1 hsel.2 hR0 S nxt
      · refine lv_tableIn hx hb dL_law_40 (off := 804) (tgt := 844) (by rw [esel]; decide) (by rw [esel]; decide) (by rw [esel]; rfl) (by decide) ?_
        exact lc_20 C hk6 hsel hR0 S nxt
      · refine lv_tableIn hx hb dL_law_40 (off := 829) (tgt := 869) (by rw [esel]; decide) (by rw [esel]; decide) (by rw [esel]; rfl) (by decide) ?_
        exact lc_21 C hk6 hsel hR0 S nxt
      · refine lv_tableIn hx hb dL_law_40 (off := 854) (tgt := 894) (by rw [esel]; decide) (by rw [esel]; decide) (by rw [esel]; rfl) (by decide) ?_
        exact lc_22 C hk6 hsel hR0 S nxt
      · refine lv_tableIn hx hb dL_law_40 (off := 879) (tgt := 919) (by rw [esel]; decide) (by rw [esel]; decide) (by rw [esel]; rfl) (by decide) ?_
        exact lc_23 C hk6 hsel hR0 S nxt
      · refine lv_tableIn hx hb dL_law_40 (off := 892) (tgt := 932) (by rw [esel]; decide) (by rw [esel]; decide) (by rw [esel]; rfl) (by decide) ?_
        exact lc_24 C hk6 hsel hR0 S nxt
      · refine lv_tableIn hx hb dL_law_40 (off := 917) (tgt := 957) (by rw [esel]; decide) (by rw [esel]; decide) (by rw [esel]; rfl) (by decide) ?_
        exact lc_25 C hk6 hsel hR0 S nxt
      · refine lv_tableIn hx hb dL_law_40 (off := 942) (tgt := 982) (by rw [esel]; decide) (by rw [esel]; decide) (by rw [esel]; rfl) (by decide) ?_
        exact lc_26 C hk6 hsel hR0 S nxt
      · refine lv_tableIn hx hb dL_law_40 (off := 955) (tgt := 995) (by rw [esel]; decide) (by rw [esel]; decide) (by rw [esel]; rfl) (by decide) ?_
        exact lc_27 C hk6 hsel hR0 S nxt
      · refine lv_tableIn hx hb dL_law_40 (off := 992) (tgt := 1032) (by rw [esel]; decide) (by rw [esel]; decide) (by rw [esel]; rfl) (by decide) ?_
        exact lc_28 C hk6 hsel hR0 S nxt
      · refine lv_tableIn hx hb dL_law_40 (off := 1029) (tgt := 1069) (by rw [esel]; decide) (by rw [esel]; decide) (by rw [esel]; rfl) (by decide) ?_
        exact lc_29 C hk6 hsel hR0 S nxt
      · refine lv_tableIn hx hb dL_law_40 (off := 1054) (tgt := 1094) (by rw [esel]; decide) (by rw [esel]; decide) (by rw [esel]; rfl) (by decide) ?_
        exact lc_30 C hk6 hsel hR0 S nxt
      · refine lv_tableIn hx hb dL_law_40 (off := 1079) (tgt := 1119) (by rw [esel]; decide) (by rw [esel]; decide) (by rw [esel]; rfl) (by decide) ?_
        exact lc_31 C hk6 hsel hR0 S nxt
end LL
