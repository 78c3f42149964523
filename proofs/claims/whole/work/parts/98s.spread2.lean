/-! BEST on the reference's side: spreads, whole -/
section SQ
variable {d : Nat} {M M0 B0 : Mem} {Q : List AV → Mem → Prop} {w l m : Nat} {r q lg b : Int → Int} {fl iv : Int} {wh cm lv : Nat → Int} {A : Nat → Int} {st : Int}
theorem RFc_rm {n c i j : Nat} (hv : vcd m n c) (hi : i < 4) (hd : dg c i = j + 1) : RFc wh (rmc c i) = updR (RFc wh c) (j : Int) (-1) := by
  funext x
  unfold updR RFc
  by_cases e : x = (j : Int)
  · rw [if_pos e, e, if_neg]
    rw [show ((j : Int)).toNat = j by omega, occ_rm hv hi hd, if_pos rfl]
    omega
  · rw [if_neg e]
    by_cases h0 : 0 ≤ x
    · rw [occ_rm hv hi hd, if_neg (show ¬ x.toNat = j by omega)]
    · rw [if_neg (fun h => h0 h.1), if_neg (fun h => h0 h.1)]
theorem RFc_ad {n c i k : Nat} (hv : vcd m n c) (hi : i < 4) (him : i < m) (hd : dg c i = 0) (hk : k < n) (hn : n ≤ 6) (hf : occ c k = 4) : RFc wh (adc c i k) = updR (RFc wh c) (k : Int) (wh i) := by
  funext x
  unfold updR RFc
  by_cases e : x = (k : Int)
  · rw [if_pos e, e, show ((k : Int)).toNat = k by omega, occ_ad hv hi him hd hk hn hf, if_pos rfl, if_pos ⟨by omega, hi⟩]
  · rw [if_neg e]
    by_cases h0 : 0 ≤ x
    · rw [occ_ad hv hi him hd hk hn hf, if_neg (show ¬ x.toNat = k by omega)]
    · rw [if_neg (fun h => h0 h.1), if_neg (fun h => h0 h.1)]
theorem QV_cg {n : Nat} {tk : Nat → Nat → Int} {cur mn : Nat} {qf : Nat → Nat} {M2 : Mem} (h : QV m n cm lv st tk A A cur M mn qf) (h86 : M2 86 = M 86) (h87 : M2 87 = M 87) (h88 : M2 88 = M 88) (h57 : M2 67 57 = M 67 57) (h58 : M2 67 58 = M 67 58) : QV m n cm lv st tk A A cur M2 mn qf := by
  unfold QV QI at h ⊢
  rw [snS_cg h86, h86, h87, h88, h57, h58]
  exact h
theorem mu_cg {n mn : Nat} {M2 : Mem} (h86 : M2 86 = M 86) : mu m n M2 mn = mu m n M mn := by
  unfold mu
  rw [snS_cg h86]
/-- what stands while a code is spread -/
def SPI (w l m : Nat) (r q : Int → Int) (cm lv : Nat → Int) (st : Int) (A : Nat → Int) (c : Nat) (now : Int) (S0 : Nat → Int) (m0 : Nat) (M0 M : Mem) (mn : Nat) (qf : Nat → Nat) : Prop :=
  AgX spX M0 M ∧ QV m (w * l) cm lv st (tkS w l r q st) A A c M mn qf ∧ snS m (w * l) M c = now ∧ (∀ a, snS m (w * l) M a ≤ S0 a) ∧ mu m (w * l) M mn ≤ m0
theorem SPI.g {c : Nat} {now : Int} {S0 : Nat → Int} {m0 mn : Nat} {qf : Nat → Nat} (h : SPI w l m r q cm lv st A c now S0 m0 M0 M mn qf) {M2 : Mem} (hA : AgX (fun b j => b = 74 ∨ b = 75 ∨ (b = 67 ∧ 24 ≤ j ∧ j ≤ 27)) M M2) : SPI w l m r q cm lv st A c now S0 m0 M0 M2 mn qf := by
  obtain ⟨h1, h2, h3, h4, h5⟩ := h
  have f86 : M2 86 = M 86 := hA.fn (fun j => by simp)
  refine ⟨fun b j hb => ?_, QV_cg h2 f86 (hA.fn (fun j => by simp)) (hA.fn (fun j => by simp)) (hA 67 57 (by simp)) (hA 67 58 (by simp)), by rw [snS_cg f86]; exact h3, by rw [snS_cg f86]; exact h4, by rw [mu_cg f86]; exact h5⟩
  rw [hA b j (fun e => hb (by unfold spX; omega))]
  exact h1 b j hb
theorem SPI.co {c : Nat} {now : Int} {S0 : Nat → Int} {m0 mn : Nat} {qf : Nat → Nat} (hO : okW m (w * l) cm lv st (tkS w l r q st) A) (h : SPI w l m r q cm lv st A c now S0 m0 M0 M mn qf) (v : Nat) (x : Int) (hx : Wk m (w * l) cm lv st (tkS w l r q st) A v x) (hxb : x ≤ 200000000) (hvc : v ≠ c) (kk : ∀ M' mn' qf', SPI w l m r q cm lv st A c now S0 m0 M0 M' mn' qf' → AgX coX M M' → snS m (w * l) M' v ≤ x → (∀ a, snS m (w * l) M' a ≤ snS m (w * l) M a) → Q [] M') : XC d 210 [aR 22 0 67, aI ((rcd v : Nat) : Int), aI x] M Q := by
  obtain ⟨h1, h2, h3, h4, h5⟩ := h
  refine s_comes hO h2 v x hx hxb hvc (fun M' mn' qf' hA' hQ' hv hle heq hmu => kk M' mn' qf' ⟨fun b j hb => ?_, hQ', ?_, fun a => ?_, by omega⟩ hA' hv hle)
  · rw [hA' b j (fun e => hb (by unfold coX at e; unfold spX; omega))]
    exact h1 b j hb
  · rw [heq c (fun e => hvc e.symm)]; exact h3
  · have := hle a
    have := h4 a
    omega
theorem sp_k (h : CR w l m r q lg b fl iv wh cm lv B0) (hC0 : CM m iv wh B0 M0) (hst : 0 ≤ st ∧ st ≤ 2 * (r 0 - 1)) (hO : okW m (w * l) cm lv st (tkS w l r q st) A) {c cb i : Nat} (hcb : vcd m (w * l) cb) (hi : i < m) (hdb : dg cb i = 0) (now tk old : Int) (hnow : Wk m (w * l) cm lv st (tkS w l r q st) A c now ∧ now < 100000000) (htk : 0 ≤ tk ∧ tk ≤ 2000) (hold : -1 ≤ old ∧ old < 24) (hcd : ((dg c i : Nat) : Int) = old + 1) (hE : ∀ k, k < w * l → occ cb k = 4 → (k : Int) ≠ old → edI (w * l) cm lv st (tkS w l r q st) i c (adc cb i k) (tk + tkS w l r q st (adc cb i k) k)) (S0 : Nat → Int) (m0 : Nat) (kk : ∀ M' mn' qf', SPI w l m r q cm lv st A c now S0 m0 M0 M' mn' qf' → (∀ j, 0 ≤ j → j < 24 → M' 74 j = RFc wh cb j + 1) → (∀ k, k < w * l → occ cb k = 4 → (k : Int) ≠ old → snS m (w * l) M' (adc cb i k) ≤ now + tk + tkS w l r q st (adc cb i k) k) → XL (d + 4) 211 138 [aR 22 0 67, aI ((rcd c : Nat) : Int), aI st, aI (q (3 * quO r st)), aI now, aI (i : Int), aI (wh i), aI old, aI ((rcd cb : Nat) : Int), aI tk, aI ((w * l : Nat) : Int)] [] M' Q) : ∀ (t k : Nat) (M : Mem) (mn : Nat) (qf : Nat → Nat), k + t = w * l → SPI w l m r q cm lv st A c now S0 m0 M0 M mn qf → (∀ j, 0 ≤ j → j < 24 → M 74 j = RFc wh cb j + 1) → (∀ k', k' < k → occ cb k' = 4 → (k' : Int) ≠ old → snS m (w * l) M (adc cb i k') ≤ now + tk + tkS w l r q st (adc cb i k') k') → XL (d + 4) 211 138 [aR 22 0 67, aI ((rcd c : Nat) : Int), aI st, aI (q (3 * quO r st)), aI now, aI (i : Int), aI (wh i), aI old, aI ((rcd cb : Nat) : Int), aI tk, aI (k : Int)] [] M Q
  | 0, k, M, mn, qf, hk, hS, hg, hdn => by
    have e : k = w * l := by omega
    rw [e] at hdn ⊢
    exact kk M mn qf hS hg hdn
  | t + 1, k, M, mn, qf, hk, hS, hg, hdn => by
    have hok := h.2.1
    have hn6 := hok.2.2.1
    have m4 := hO.1
    have r2 := h.1.2.1.2.2.1
    have hwi := h.ww i hi
    have kn : k < w * l := by omega
    have hCM := hC0.cg hS.1
    have hG : GM M w l := h.1.1.of hCM.1
    have RB := RFc_b (wh := wh) (n := w * l) hcb h.ww r2.1 (k : Int)
    have gk := hg (k : Int) (by omega) (by omega)
    have rec9 := sp_k h hC0 hst hO hcb hi hdb now tk old hnow htk hold hcd hE S0 m0 kk t (k + 1)
    have o4 := occ_4 (c := cb) (k := k)
    have rk : RFc wh cb (k : Int) = if occ cb k < 4 then wh (occ cb k) else -1 := by
      unfold RFc
      rw [show ((k : Int)).toNat = k by omega]
      by_cases c9 : occ cb k < 4
      · rw [if_pos c9, if_pos ⟨by omega, c9⟩]
      · rw [if_neg c9, if_neg (fun h9 => c9 h9.2)]
    by_cases hf : occ cb k = 4 ∧ (k : Int) ≠ old
    · rw [if_neg (by omega)] at rk
      have di4 : i < 4 := by omega
      have vx := vcd_ad hcb di4 hi hdb kn hn6 hf.1
      have ed := hE k kn hf.1 hf.2
      have eu : ((rcd cb : Nat) : Int) + ((i : Int) + 1) * ((5 ^ k : Nat) : Int) = ((rcd (adc cb i k) : Nat) : Int) := by
        rw [rcd_ad di4 hdb (by omega), Int.natCast_add, Int.natCast_mul, Int.natCast_add]
        rfl
      have tb := tkS_b hok (s := st) (adc cb i k) k
      refine sp_3 (d := d + 3) (aI ((rcd c : Nat) : Int)) (aI st) (q (3 * quO r st)) now (i : Int) (wh i) old ((rcd cb : Nat) : Int) tk (k : Int) ((w * l : Nat) : Int) ((5 ^ k : Nat) : Int) (fun Q' => s_m_cells' hG) ⟨by omega, by omega, by omega⟩ (by rw [gk, rk]; rfl) hold hf.2 ⟨by omega, by omega⟩ ⟨by omega, by omega⟩ (fun M' Q' => s_digit k (by omega)) ?_
      have g1 : ∀ j, 0 ≤ j → j < 24 → up M 74 (k : Int) (wh i + 1) 74 j = RFc wh (adc cb i k) j + 1 := fun j j0 j1 => by
        rw [RFc_ad hcb di4 hi hdb kn hn6 hf.1]
        unfold updR
        by_cases e : j = (k : Int)
        · rw [e, up_s, if_pos rfl]
        · rw [up_j e, if_neg e]; exact hg j j0 j1
      have hS1 : SPI w l m r q cm lv st A c now S0 m0 M0 (up M 74 (k : Int) (wh i + 1)) mn qf := hS.g (fun b j hb => by
        simp at hb
        exact up_b (by omega))
      refine s_takeC (d := d) h (hC0.cg hS1.1) st hst vx kn g1 (fun M1 hT => ⟨_, rfl, ?_⟩)
      have hS2 : SPI w l m r q cm lv st A c now S0 m0 M0 M1 mn qf := hS1.g (fun b j hb => by
        simp at hb
        exact hT b j (by omega) (by omega))
      rw [eu]
      have wx := hnow.1.s hi ed
      rw [show now + (tk + tkS w l r q st (adc cb i k) k) = now + tk + tkS w l r q st (adc cb i k) k by omega] at wx
      refine hS2.co (d := d + 3) hO (adc cb i k) (now + tk + tkS w l r q st (adc cb i k) k) wx (by omega) (fun e => ?_) (fun M2 mn2 qf2 hS3 hco hv hle => ⟨rfl, ?_⟩)
      · have := (dg_adc di4 hdb (show k < 7 by omega)).1
        rw [e] at this
        omega
      · have f74 : M2 74 = M1 74 := hco.fn (fun j => by unfold coX; omega)
        have h74 : M1 74 = up M 74 (k : Int) (wh i + 1) 74 := funext fun j => hT 74 j (by decide) (by omega)
        have hS4 : SPI w l m r q cm lv st A c now S0 m0 M0 (up M2 74 (k : Int) 0) mn2 qf2 := hS3.g (fun b j hb => by
          simp at hb
          exact up_b (by omega))
        have sE : snS m (w * l) (up M2 74 (k : Int) 0) = snS m (w * l) M2 := snS_cg (up_r (by decide))
        have sE1 : snS m (w * l) M1 = snS m (w * l) M := snS_cg (funext fun j => by rw [hT 86 j (by decide) (by omega), up_b (by decide)])
        have g := rec9 (up M2 74 (k : Int) 0) mn2 qf2 (by omega) hS4 (fun j j0 j1 => by
          by_cases e : j = (k : Int)
          · rw [e, up_s, rk]; rfl
          · rw [up_j e, f74, h74, up_j e]; exact hg j j0 j1) (fun k' hk' ho hne => by
          rw [sE]
          by_cases e : k' = k
          · rw [e]; exact hv
          · have := hle (adc cb i k')
            rw [sE1] at this
            have := hdn k' (by omega) ho hne
            omega)
        rw [Int.natCast_add] at g
        exact g
    · have gz : (0 < M 74 (k : Int)) ∨ (k : Int) = old := by
        by_cases c9 : occ cb k < 4
        · left
          rw [if_pos c9] at rk
          have := h.ww _ (vcd_occ hcb c9).2
          rw [gk, rk]
          omega
        · right
          apply Classical.byContradiction
          intro h9
          exact hf ⟨by omega, h9⟩
      rw [sp_2 (d := d + 3) _ _ _ _ _ _ _ _ old (k : Int) ((w * l : Nat) : Int) (M 74 (k : Int)) (fun Q' => s_m_cells' hG) ⟨by omega, by omega, by omega⟩ rfl (by rw [gk]; omega) hold gz]
      have g := rec9 M mn qf (by omega) hS hg (fun k' hk' ho hne => by
        by_cases e : k' = k
        · rw [e] at ho hne
          exact absurd ⟨ho, hne⟩ hf
        · exact hdn k' (by omega) ho hne)
      rw [Int.natCast_add] at g
      exact g
/-- all that are counted -/
theorem sp_i (h : CR w l m r q lg b fl iv wh cm lv B0) (hC0 : CM m iv wh B0 M0) (hst : 0 ≤ st ∧ st ≤ 2 * (r 0 - 1)) (hO : okW m (w * l) cm lv st (tkS w l r q st) A) {c : Nat} (hc : vcd m (w * l) c) (now : Int) (hnow : Wk m (w * l) cm lv st (tkS w l r q st) A c now ∧ now < 100000000) (S0 : Nat → Int) (m0 : Nat) (kk : ∀ M' mn' qf', SPI w l m r q cm lv st A c now S0 m0 M0 M' mn' qf' → (∀ i v k, i < m → edI (w * l) cm lv st (tkS w l r q st) i c v k → snS m (w * l) M' v ≤ now + k) → Q [] M') : ∀ (t i : Nat) (M : Mem) (mn : Nat) (qf : Nat → Nat) (o6 o7 o8 o9 o10 : AV), i + t = m → SPI w l m r q cm lv st A c now S0 m0 M0 M mn qf → (∀ j, 0 ≤ j → j < 24 → M 74 j = RFc wh c j + 1) → (∀ i' v k, i' < i → edI (w * l) cm lv st (tkS w l r q st) i' c v k → snS m (w * l) M v ≤ now + k) → XL (d + 4) 211 22 [aR 22 0 67, aI ((rcd c : Nat) : Int), aI st, aI (q (3 * quO r st)), aI now, aI (i : Int), o6, o7, o8, o9, o10] [] M Q
  | 0, i, M, mn, qf, o6, o7, o8, o9, o10, ht, hS, hg, hdn => by
    have e : i = m := by omega
    rw [e] at hdn ⊢
    have hCM := hC0.cg hS.1
    rw [sp_5 _ _ _ _ o6 o7 o8 o9 o10 (m : Int) hCM.2.2.1 ⟨by omega, by have := hO.1; omega⟩]
    exact kk M mn qf hS (fun i v k hi he => hdn i v k hi he)
  | t + 1, i, M, mn, qf, o6, o7, o8, o9, o10, ht, hS, hg, hdn => by
    have hok := h.2.1
    have hV := h.1
    have hn6 := hok.2.2.1
    have m4 := hO.1
    have hi : i < m := by omega
    have di4 : i < 4 := by omega
    have r2 := hV.2.1.2.2.1
    have r0 := hV.2.1.1
    have hwi := h.ww i hi
    have hCM := hC0.cg hS.1
    have hG : GM M w l := hV.1.of hCM.1
    have hcl := h.2.2.2 i hi
    have hbd := (hok.2.2.2.2.2.2.2.2.1 i hi).1
    have RB := fun j => RFc_b (wh := wh) (n := w * l) hc h.ww r2.1 j
    have g9 : gB M := fun j j0 j1 => by
      have := (RB j).1
      rw [hg j j0 j1]
      omega
    have eR : plc (gR M) (wh i) (w * l) = ((dg c i : Nat) : Int) - 1 := by
      rw [← plc_RF hc hi m4 h.ww hok.2.2.2.2.2.2.2.2.2]
      exact plc_cg (fun z hz => by
        unfold gR
        rw [hg (z : Int) (by omega) (by omega)]
        omega)
    have pp : ∀ Q', XC (d + 3) 196 [aR 22 0 67, aI (wh i)] M Q' ↔ Q' [aI (((dg c i : Nat) : Int) - 1)] M := fun Q' => by rw [s_place (d := d + 2) hG g9 (wh i) ⟨by omega, by omega⟩, eR]
    have rec9 := sp_i h hC0 hst hO hc now hnow S0 m0 kk t (i + 1)
    have dle := hc.2.2.1 i di4
    by_cases c0 : dg c i = 0
    · rw [c0] at pp
      refine sp_1 (d := d + 3) ((rcd c : Nat) : Int) st (i : Int) (m : Int) (wh i) (cm i) _ _ o6 o7 o8 o9 o10 hCM.2.2.1 ⟨by omega, by omega, by omega⟩ (hCM.2.2.2 i hi) pp (fun Q' => by rw [s_m_onS (d := d + 2) hV hCM.1 (wh i) hwi, hcl.1]) ⟨by omega, by omega⟩ ⟨by omega, by omega⟩ (fun hne => ?_) (fun heq => ?_)
      · have g := rec9 M mn qf (aI (wh i)) (aI (-1)) o8 o9 o10 (by omega) hS hg (fun i' v k hi' he => by
          by_cases e : i' = i
          · rw [e] at he
            rcases he with ⟨-, h2, -⟩ | ⟨j, h1, -⟩
            · exact absurd h2 hne
            · omega
          · exact hdn i' v k (by omega) he)
        rw [Int.natCast_add] at g
        exact g
      · refine sp_k (d := d) h hC0 hst hO (cb := c) hc hi c0 now 0 (-1) hnow ⟨by decide, by decide⟩ ⟨by decide, by decide⟩ (by rw [c0]; rfl) (fun k hk ho _ => Or.inl ⟨c0, heq, k, hk, ho, rfl, by omega⟩) (snS m (w * l) M) m0 (fun M' mn' qf' hS' hg' hdn' => ?_) (w * l) 0 M mn qf (by omega) ⟨hS.1, hS.2.1, hS.2.2.1, fun a => Int.le_refl _, hS.2.2.2.2⟩ hg (fun k' hk' => absurd hk' (Nat.not_lt_zero k'))
        have hG' : GM M' w l := hV.1.of (hC0.cg hS'.1).1
        rw [sp_4 (d := d + 3) _ _ _ _ _ _ (i : Int) (wh i) (-1) ((w * l : Nat) : Int) (fun Q' => s_m_cells' hG') ⟨by omega, by omega⟩ ⟨by decide, by decide⟩ ⟨by omega, by omega⟩, if_pos rfl]
        have g := rec9 M' mn' qf' (aI (wh i)) (aI (-1)) (aI ((rcd c : Nat) : Int)) (aI 0) (aI ((w * l : Nat) : Int)) (by omega) ⟨hS'.1, hS'.2.1, hS'.2.2.1, fun a => by have := hS'.2.2.2.1 a; have := hS.2.2.2.1 a; omega, hS'.2.2.2.2⟩ hg' (fun i' v k hi' he => by
          by_cases e : i' = i
          · rw [e] at he
            rcases he with ⟨-, -, k2, hk2, ho2, rfl, rfl⟩ | ⟨j, h1, -⟩
            · have := hdn' k2 hk2 ho2 (by omega)
              omega
            · omega
          · have := hdn i' v k (by omega) he
            have := hS'.2.2.2.1 v
            omega)
        rw [Int.natCast_add] at g
        exact g
    · obtain ⟨j, hj⟩ : ∃ j, dg c i = j + 1 := ⟨dg c i - 1, by omega⟩
      have jn : j < w * l := by omega
      rw [hj, show ((j + 1 : Nat) : Int) - 1 = (j : Int) by omega] at pp
      have hcb := vcd_rm hc di4
      obtain ⟨d1, d2⟩ := dg_rmc (c := c) di4
      have eu : ((rcd c : Nat) : Int) - ((i : Int) + 1) * ((5 ^ j : Nat) : Int) = ((rcd (rmc c i) : Nat) : Int) := by
        have := rcd_rm di4 hj
        have e2 : (((i + 1) * 5 ^ j : Nat) : Int) = ((i : Int) + 1) * ((5 ^ j : Nat) : Int) := by
          rw [Int.natCast_mul, Int.natCast_add]
          rfl
        rw [← e2]
        omega
      have oj : occ c j = i := occ_is hc di4 hj
      have rj : RFc wh c (j : Int) = wh i := by
        unfold RFc
        rw [show ((j : Int)).toNat = j by omega, oj, if_pos ⟨by omega, di4⟩]
      have gE : RFc wh (rmc c i) = updR (RFc wh c) (j : Int) (-1) := RFc_rm hc di4 hj
      have tb := tkS_b hok (s := st) c j
      refine sp_1a (d := d + 3) ((rcd c : Nat) : Int) st (i : Int) (m : Int) (wh i) (j : Int) ((5 ^ j : Nat) : Int) ((rcd (rmc c i) : Nat) : Int) (q (3 * quO r st)) now o6 o7 o8 o9 o10 hCM.2.2.1 ⟨by omega, by omega, by omega⟩ (hCM.2.2.2 i hi) ⟨by omega, by omega⟩ pp (fun Q' => s_digit j (by omega)) eu ⟨by omega, by omega⟩ ⟨by omega, by omega⟩ ?_
      refine s_takeC (d := d) h hCM st hst hc jn hg (fun M1 hT => ⟨_, rfl, lv i, fun Q' => ?_, ⟨by omega, by omega⟩, ?_⟩)
      · rw [s_m_offV (d := d + 2) hV (by rw [up_r (by decide)]; exact (funext fun x => hT 69 x (by decide) (by omega)).trans hCM.1) iv (by rw [up_b (by decide), hT 67 21 (by decide) (by omega)]; exact hCM.2.1) h.2.2.1 (wh i) hwi, ← hcl.2]
      · obtain ⟨M2, hM2⟩ : ∃ M2, M2 = up M1 74 (j : Int) 0 := ⟨_, rfl⟩
        rw [← hM2]
        have hS2 : SPI w l m r q cm lv st A c now (snS m (w * l) M) m0 M0 M2 mn qf := (show SPI w l m r q cm lv st A c now (snS m (w * l) M) m0 M0 M mn qf from ⟨hS.1, hS.2.1, hS.2.2.1, fun a => Int.le_refl _, hS.2.2.2.2⟩).g (fun b x hb => by
          simp at hb
          rw [hM2, up_b (by omega)]
          exact hT b x (by omega) (by omega))
        have sE2 : snS m (w * l) M2 = snS m (w * l) M := snS_cg (by rw [hM2, up_r (by decide)]; exact funext fun x => hT 86 x (by decide) (by omega))
        have g2 : ∀ x, 0 ≤ x → x < 24 → M2 74 x = RFc wh (rmc c i) x + 1 := fun x x0 x1 => by
          rw [gE, hM2]
          unfold updR
          by_cases e : x = (j : Int)
          · rw [e, up_s, if_pos rfl]; rfl
          · rw [up_j e, if_neg e, hT 74 x (by decide) (by omega)]
            exact hg x x0 x1
        -- the walk over the CELLS, and what comes behind it
        have rest : ∀ (M3 : Mem) (mn3 : Nat) (qf3 : Nat → Nat), SPI w l m r q cm lv st A c now (snS m (w * l) M) m0 M0 M3 mn3 qf3 → (∀ x, 0 ≤ x → x < 24 → M3 74 x = RFc wh (rmc c i) x + 1) → (lv i = st → snS m (w * l) M3 (rmc c i) ≤ now + tkS w l r q st c j) → XL (d + 4) 211 138 [aR 22 0 67, aI ((rcd c : Nat) : Int), aI st, aI (q (3 * quO r st)), aI now, aI (i : Int), aI (wh i), aI (j : Int), aI ((rcd (rmc c i) : Nat) : Int), aI (tkS w l r q st c j), aI 0] [] M3 Q := fun M3 mn3 qf3 hS3 hg3 hoff => by
          refine sp_k (d := d) h hC0 hst hO (cb := rmc c i) hcb hi d1 now (tkS w l r q st c j) (j : Int) hnow tb ⟨by omega, by omega⟩ (by rw [hj]; omega) (fun k hk ho hne => Or.inr ⟨j, hj, Or.inr ⟨k, hk, by omega, ?_, rfl, rfl⟩⟩) (snS m (w * l) M3) m0 (fun M' mn' qf' hS' hg' hdn' => ?_) (w * l) 0 M3 mn3 qf3 (by omega) ⟨hS3.1, hS3.2.1, hS3.2.2.1, fun a => Int.le_refl _, hS3.2.2.2.2⟩ hg3 (fun k' hk' => absurd hk' (Nat.not_lt_zero k'))
          · rw [occ_rm hc di4 hj, if_neg (by omega)] at ho
            exact ho
          · have hG' : GM M' w l := hV.1.of (hC0.cg hS'.1).1
            rw [sp_4 (d := d + 3) _ _ _ _ _ _ (i : Int) (wh i) (j : Int) ((w * l : Nat) : Int) (fun Q' => s_m_cells' hG') ⟨by omega, by omega⟩ ⟨by omega, by omega⟩ ⟨by omega, by omega⟩, if_neg (by omega)]
            have hS4 : SPI w l m r q cm lv st A c now (snS m (w * l) M3) m0 M0 (up M' 74 (j : Int) (wh i + 1)) mn' qf' := hS'.g (fun b x hb => by
              simp at hb
              exact up_b (by omega))
            have sE4 : snS m (w * l) (up M' 74 (j : Int) (wh i + 1)) = snS m (w * l) M' := snS_cg (up_r (by decide))
            have g := rec9 (up M' 74 (j : Int) (wh i + 1)) mn' qf' (aI (wh i)) (aI (j : Int)) (aI ((rcd (rmc c i) : Nat) : Int)) (aI (tkS w l r q st c j)) (aI ((w * l : Nat) : Int)) (by omega) ⟨hS4.1, hS4.2.1, hS4.2.2.1, fun a => by
              rw [sE4]
              have := hS'.2.2.2.1 a
              have := hS3.2.2.2.1 a
              have := hS.2.2.2.1 a
              omega, hS4.2.2.2.2⟩ (fun x x0 x1 => by
              by_cases e : x = (j : Int)
              · rw [e, up_s, rj]
              · rw [up_j e, hg' x x0 x1, gE]
                unfold updR
                rw [if_neg e]) (fun i' v k hi' he => by
              rw [sE4]
              have l1 := hS'.2.2.2.1 v
              have l2 := hS3.2.2.2.1 v
              by_cases e : i' = i
              · rw [e] at he
                rcases he with ⟨h0, -⟩ | ⟨j2, hj2, ⟨hl, rfl, rfl⟩ | ⟨k2, hk2, hne2, ho2, rfl, rfl⟩⟩
                · omega
                · have ej : j2 = j := by omega
                  rw [ej]
                  have := hoff hl
                  omega
                · have ej : j2 = j := by omega
                  rw [ej] at hne2 ⊢
                  have := hdn' k2 hk2 (by rw [occ_rm hc di4 hj, if_neg hne2]; exact ho2) (by omega)
                  omega
              · have := hdn i' v k (by omega) he
                omega)
            rw [Int.natCast_add] at g
            exact g
        refine ⟨fun hne => rest M2 mn qf hS2 g2 (fun e => absurd e hne), fun heq => ?_⟩
        refine hS2.co (d := d + 3) hO (rmc c i) (now + tkS w l r q st c j) (hnow.1.s hi (Or.inr ⟨j, hj, Or.inl ⟨heq, rfl, rfl⟩⟩)) (by omega) (fun e => ?_) (fun M3 mn3 qf3 hS3 hco hv3 hle3 => ⟨rfl, rest M3 mn3 qf3 hS3 (fun x x0 x1 => by
          rw [hco 74 x (by unfold coX; omega)]
          exact g2 x x0 x1) (fun _ => hv3)⟩)
        rw [e] at d1
        omega
theorem s_spreads (h : CR w l m r q lg b fl iv wh cm lv B0) (hC0 : CM m iv wh B0 M) (hst : 0 ≤ st ∧ st ≤ 2 * (r 0 - 1)) (hO : okW m (w * l) cm lv st (tkS w l r q st) A) {c mn : Nat} {qf : Nat → Nat} (hc : vcd m (w * l) c) (hQ : QV m (w * l) cm lv st (tkS w l r q st) A A c M mn qf) (hlt : snS m (w * l) M c < 100000000) (kk : ∀ M' mn' qf', AgX spX M M' → QV m (w * l) cm lv st (tkS w l r q st) A A c M' mn' qf' → mu m (w * l) M' mn' ≤ mu m (w * l) M mn → snS m (w * l) M' c = snS m (w * l) M c → (∀ i v k, i < m → edI (w * l) cm lv st (tkS w l r q st) i c v k → snS m (w * l) M' v ≤ snS m (w * l) M c + k) → Q [] M') : XC (d + 4) 211 [aR 22 0 67, aI ((rcd c : Nat) : Int), aI st] M Q := by
  have hok := h.2.1
  have rl := (rcd_sp hc hok.2.2.1).1
  refine sp_0 (d := d + 3) ((rcd c : Nat) : Int) st (q (3 * quO r st)) (snS m (w * l) M c) ⟨by omega, by omega⟩ (fun Q' => s_m_sideAt (d := d + 1) h.1 hC0.1 st hst) (snS_v hc).symm ?_
  refine s_unfold (m := m) (wh := wh) c hc hok.2.2.1 hC0.2.2.2 (fun M1 hA1 hg1 => ⟨rfl, ?_⟩)
  have hA1' : AgX (fun b j => b = 74 ∨ b = 75 ∨ (b = 67 ∧ 24 ≤ j ∧ j ≤ 27)) M M1 := fun b j hb => hA1 b j (fun e => hb (Or.inl e))
  have hS : SPI w l m r q cm lv st A c (snS m (w * l) M c) (snS m (w * l) M) (mu m (w * l) M mn) M M mn qf := ⟨fun _ _ _ => rfl, hQ, rfl, fun a => Int.le_refl _, Nat.le_refl _⟩
  exact sp_i (d := d) h hC0 hst hO hc (snS m (w * l) M c) ⟨(hQ.2.1 c).2.2 hlt, hlt⟩ (snS m (w * l) M) (mu m (w * l) M mn) (fun M' mn' qf' hS' hE => kk M' mn' qf' hS'.1 hS'.2.1 hS'.2.2.2.2 hS'.2.2.1 hE) m 0 M1 mn qf aU aU aU aU aU (by omega) (hS.g hA1') hg1 (fun i' v k hi' => absurd hi' (Nat.not_lt_zero i'))
end SQ
