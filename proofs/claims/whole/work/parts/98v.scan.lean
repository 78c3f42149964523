/-! BEST on the reference's side: bestFrom, whole -/
section BV
variable {d : Nat} {M M0 B0 : Mem} {Q : List AV → Mem → Prop} {w l m : Nat} {r q lg b : Int → Int} {fl iv hd : Int} {wh cm lv : Nat → Int} {A : Nat → Int} {s : Nat}
theorem jR_RFc {n : Nat} {r2 : Int} {c : Nat} (hv : vcd m n c) (hr : 0 ≤ r2 ∧ r2 ≤ 9) (hw : ∀ i, i < m → 0 ≤ wh i ∧ wh i < r2) (hinj : ∀ i j, i < m → j < m → wh i = wh j → i = j) : jRaft n r2 (RFc wh c) 511 := by
  have RB := RFc_b hv hw hr.1
  refine ⟨fun k k0 k1 => ⟨(RB k).1, (RB k).2.1⟩, fun j k j0 j1 k0 k1 he => ?_, fun k k0 k1 hne => tb511 (by have := (RB k).1; omega)⟩
  by_cases c9 : RFc wh c j = -1
  · exact Or.inl c9
  · right
    have c8 : RFc wh c k ≠ -1 := by rw [← he]; exact c9
    unfold RFc at he c9 c8
    by_cases q1 : 0 ≤ j ∧ occ c j.toNat < 4
    · by_cases q2 : 0 ≤ k ∧ occ c k.toNat < 4
      · rw [if_pos q1, if_pos q2] at he
        have e := hinj _ _ (vcd_occ hv q1.2).2 (vcd_occ hv q2.2).2 he
        rcases occ_sp c j.toNat with ⟨z, -⟩ | ⟨-, z⟩
        · omega
        · rcases occ_sp c k.toNat with ⟨z2, -⟩ | ⟨-, z2⟩
          · omega
          · rw [e, z2] at z
            omega
      · rw [if_neg q2] at c8; exact absurd rfl c8
    · rw [if_neg q1] at c9; exact absurd rfl c9
def scX (b : Nat) (j : Int) : Prop := b = 74 ∨ b = 77 ∨ b = 78 ∨ b = 79 ∨ b = 85 ∨ (b = 67 ∧ (j = 34 ∨ j = 35))
theorem dg0 {i : Nat} (h : i < 4) : dg 0 i = 0 := by
  have z : ∀ i, i < 4 → dg 0 i = 0 := by decide
  exact z i h
/-- all codes are gone through -/
theorem sc_l (h : CR w l m r q lg b fl iv wh cm lv B0) (hC0 : CM m iv wh B0 M0) (hBI : BI w l m cm lv s A) (hs : (s : Int) ≤ 2 * (r 0 - 1)) (hRA : RAf m (w * l) A M0) (h31 : M0 67 31 = hd) (hdb : -1 ≤ hd ∧ hd < 7) (mi : Int) (hD : ∀ c, snS m (w * l) M0 c = DS w l m r q cm lv (s : Int) A c) (hN : ∀ u : Int, 0 ≤ u → u < 15625 → (∀ c, vcd m (w * l) c → u ≠ ((rcd c : Nat) : Int)) → M0 86 u = 100000000) (kk : ∀ M' be o5 o6, AgX scX M0 M' → ((s : Int) < 2 * (r 0 - 1) → RAf m (w * l) (nxA w l m r q lg b fl hd wh cm lv (s : Int) A) M') → (0 ≤ be ∧ be ≤ 100000000) → ((s : Int) = 2 * (r 0 - 1) → be = frm w l m r q cm lv (s : Int) A 0) → XL (d + 6) 213 190 [aR 22 0 67, aI mi, aI (s : Int), aI be, aI 15625, o5, o6] [] M' Q) : ∀ (t u : Nat) (M : Mem) (be : Int) (o5 o6 : AV), u + t = 15625 → AgX scX M0 M → ((s : Int) < 2 * (r 0 - 1) → ∀ c, vcd m (w * l) c → rcd c < u → M 85 ((rcd c : Nat) : Int) = nxA w l m r q lg b fl hd wh cm lv (s : Int) A c) → (∀ x : Int, (u : Int) ≤ x → x < 15625 → M 85 x = M0 85 x) → (∀ x : Int, 0 ≤ x → x < (u : Int) → (∀ c, vcd m (w * l) c → x ≠ ((rcd c : Nat) : Int)) → M 85 x = 100000000) → (0 ≤ be ∧ be ≤ 100000000) → ((s : Int) = 2 * (r 0 - 1) → be = if u = 0 then 100000000 else frm w l m r q cm lv (s : Int) A 0) → XL (d + 6) 213 190 [aR 22 0 67, aI mi, aI (s : Int), aI be, aI (u : Int), o5, o6] [] M Q
  | 0, u, M, be, o5, o6, ht, hA, h1, h2, h3, hb, hbe => by
    have e : u = 15625 := by omega
    rw [e] at h1 h3 hbe ⊢
    refine kk M be o5 o6 hA (fun hlt => ⟨fun c hv => h1 hlt c hv (rcd_sp hv h.2.1.2.2.1).1, fun x x0 x1 hx => h3 x x0 (by omega) hx⟩) hb (fun he => by
      have := hbe he
      rw [if_neg (by decide)] at this
      exact this)
  | t + 1, u, M, be, o5, o6, ht, hA, h1, h2, h3, hb, hbe => by
    have hok := h.2.1
    have hV := h.1
    have hn6 := hok.2.2.1
    have m4 := hok.2.2.2.1
    have r0 := hV.2.1.1
    have r2 := hV.2.1.2.2.1
    have hAb : AgX bfX M0 M := fun b j hx => hA b j (fun e => hx (by unfold scX at e; unfold bfX; omega))
    have hCM := hC0.cgb hAb
    have rec9 := sc_l h hC0 hBI hs hRA h31 hdb mi hD hN kk t (u + 1)
    have e85 : M 85 (u : Int) = M0 85 (u : Int) := h2 (u : Int) (Int.le_refl _) (by omega)
    have e86 : M 86 = M0 86 := hA.fn (fun j => by unfold scX; omega)
    -- on to the next with the number that is due
    have step : ∀ (M2 : Mem) (x be2 : Int) (o5 o6 : AV), AgX scX M0 M2 → (∀ y : Int, y ≠ (u : Int) → M2 85 y = M 85 y) → M2 85 (u : Int) = x → ((s : Int) < 2 * (r 0 - 1) → ∀ c, vcd m (w * l) c → rcd c = u → x = nxA w l m r q lg b fl hd wh cm lv (s : Int) A c) → ((∀ c, vcd m (w * l) c → rcd c ≠ u) → x = 100000000) → (0 ≤ be2 ∧ be2 ≤ 100000000) → ((s : Int) = 2 * (r 0 - 1) → be2 = frm w l m r q cm lv (s : Int) A 0) → XL (d + 6) 213 190 [aR 22 0 67, aI mi, aI (s : Int), aI be2, aI ((u : Int) + 1), o5, o6] [] M2 Q := fun M2 x be2 o5 o6 hA2 ho hx hnx hno hb2 hbe2 => by
      have g := rec9 M2 be2 o5 o6 (by omega) hA2 (fun hlt c hv hc => by
        by_cases e : rcd c = u
        · rw [e, hx]; exact hnx hlt c hv e
        · rw [ho _ (by omega)]; exact h1 hlt c hv (by omega)) (fun y y0 y1 => by rw [ho y (by omega)]; exact h2 y (by omega) y1) (fun y y0 y1 hy => by
        by_cases e : y = (u : Int)
        · rw [e, hx]; exact hno (fun c hv e9 => hy c hv (by omega))
        · rw [ho y e]; exact h3 y y0 (by omega) hy) hb2 (fun he => by rw [if_neg (by omega)]; exact hbe2 he)
      rw [Int.natCast_add] at g
      exact g
    have upS : ∀ x : Int, AgX scX M0 (up M 85 (u : Int) x) := fun x b j hx => by
      rw [up_b (fun e => hx (by unfold scX; omega))]
      exact hA b j hx
    by_cases hE : ∃ c, vcd m (w * l) c ∧ rcd c = u
    · obtain ⟨c, hv, hcu⟩ := hE
      have uniq : ∀ c', vcd m (w * l) c' → rcd c' = u → c' = c := fun c' hv' hc' => rcd_inj hv' hv hn6 (by omega)
      have ha : M 85 (u : Int) = A c := by rw [e85, ← hcu]; exact hRA.1 c hv
      have hy : M 86 (u : Int) = DS w l m r q cm lv (s : Int) A c := by rw [e86, ← hcu, ← snS_v (M := M0) hv]; exact hD c
      have hAc := (hBI c).1
      have hDc := DS_b hok hBI hs c
      have hfb := frm_b hok hBI hs c
      have hf0 := frm_b hok hBI hs 0
      have hfE : frm w l m r q cm lv (s : Int) A c = if A c < DS w l m r q cm lv (s : Int) A c then A c else DS w l m r q cm lv (s : Int) A c := rfl
      refine bf_6 (d := d + 5) mi (s : Int) be (u : Int) (A c) (DS w l m r q cm lv (s : Int) A c) (frm w l m r q cm lv (s : Int) A c) (2 * (r 0 - 1)) (lgO r (s : Int)) o5 o6 ⟨by omega, by omega⟩ ha hy ⟨by omega, by omega, hb⟩ hfE ⟨by omega, hs, by omega⟩ (fun hno => ?_) (fun hlt => ?_)
      · refine step (up M 85 (u : Int) 100000000) 100000000 be _ o6 (upS _) (fun y hy => up_j hy) up_s (fun _ c' hv' hc' => ?_) (fun _ => rfl) hb (fun he => ?_)
        · rw [uniq c' hv' hc']
          unfold nxA
          rw [cb_f (fun h9 => hno h9.2.2.1), if_neg (by decide)]
        · have := hbe he
          by_cases u0 : u = 0
          · rw [if_pos u0] at this
            have c0 : c = 0 := (uniq 0 vcd_0 (by rw [rcd_0]; exact u0.symm)).symm
            rw [c0] at hno hfb
            omega
          · rw [if_neg u0] at this
            exact this
      · have hJ : Jc m (w * l) cm lv (s : Int) c := by
          rcases hfb with h9 | h9
          · omega
          · exact h9.2.2
        rw [← hcu]
        refine s_unfold (m := m) (wh := wh) c hv hn6 (fun i hi => by rw [up_b (by decide)]; exact hCM.2.2.2 i hi) (fun M1 hA1 hg1 => ⟨rfl, cb (setd m cm lv (s : Int) c), ?_, ?_⟩)
        · have A1 : AgX scX M0 M1 := fun b j hx => by
            rw [hA1 b j (fun e => hx (Or.inl e)), hcu]
            exact upS _ b j hx
          have hCM1 := hC0.cgb (fun b j hx => A1 b j (fun e => hx (by unfold scX at e; unfold bfX; omega)))
          exact fun Q' => s_isSettled (d := d + 1) h hCM1 ⟨by omega, hs⟩ hv hg1
        · have A1 : AgX scX M0 M1 := fun b j hx => by
            rw [hA1 b j (fun e => hx (Or.inl e)), hcu]
            exact upS _ b j hx
          have hCM1 := hC0.cgb (fun b j hx => A1 b j (fun e => hx (by unfold scX at e; unfold bfX; omega)))
          have a85 : ∀ y : Int, M1 85 y = up M 85 (u : Int) 100000000 85 y := fun y => by rw [hA1 85 y (by simp), hcu]
          by_cases hset : setd m cm lv (s : Int) c
          · right
            refine ⟨cb_t hset, fun Q' => by rw [s_m_last, hCM1.1, hV.2.2.2.1.1.1], ?_⟩
            have last0 : (s : Int) = 2 * (r 0 - 1) → c = 0 := fun he => by
              refine dg_ext hv.1 (by decide) (fun i hi => ?_)
              rw [dg0 hi]
              apply Classical.byContradiction
              intro h9
              have him : i < m := by
                apply Classical.byContradiction
                intro h8
                exact h9 (hv.2.1 i hi (by omega))
              have j := (hJ.2 i him).2 h9
              have bd := (hok.2.2.2.2.2.2.2.2.1 i him).1
              exact (hset i him).1 ⟨h9, by omega⟩
            have fE : (s : Int) = 2 * (r 0 - 1) → (if frm w l m r q cm lv (s : Int) A c < be then frm w l m r q cm lv (s : Int) A c else be) = frm w l m r q cm lv (s : Int) A 0 := fun he => by
              have c0 := last0 he
              have u0 : u = 0 := by rw [← hcu, c0, rcd_0]
              have := hbe he
              rw [if_pos u0] at this
              rw [c0] at hlt ⊢
              rw [this, if_pos hlt]
            have bb : 0 ≤ (if frm w l m r q cm lv (s : Int) A c < be then frm w l m r q cm lv (s : Int) A c else be) ∧ (if frm w l m r q cm lv (s : Int) A c < be then frm w l m r q cm lv (s : Int) A c else be) ≤ 100000000 := by
              by_cases c9 : frm w l m r q cm lv (s : Int) A c < be
              · rw [if_pos c9]; omega
              · rw [if_neg c9]; omega
            by_cases hl : (s : Int) = 2 * (r 0 - 1)
            · left
              refine ⟨hl, ?_⟩
              rw [hcu]
              refine step (up M1 85 (u : Int) 100000000) 100000000 _ _ _ (fun b j hx => by
                rw [up_b (fun e => hx (by unfold scX; omega))]
                exact A1 b j hx) (fun y hy => by rw [up_j hy, a85, up_j hy]) up_s (fun hlt9 => absurd hl (by omega)) (fun _ => rfl) bb fE
            · right
              have hsl : (s : Int) < 2 * (r 0 - 1) := by omega
              have hk := lgO_b (r := r) (s := (s : Int)) ⟨by omega, hsl⟩
              have hLE0 := hV.2.2.1.1
              refine ⟨hsl, fun Q' => by
                rw [s_m_legOf (d := d + 4) (s : Int) ⟨by omega, by omega⟩ (by rw [hCM1.1, hV.2.2.2.1.1.1]; exact r0), hCM1.1, hV.2.2.2.1.1.1]
                exact Iff.rfl, ?_⟩
              refine s_legT (d := d) hV hCM1.1 hd (by rw [A1 67 31 (by unfold scX; omega)]; exact h31) hdb (RFc wh c) 511 (jR_RFc hv r2 h.ww hok.2.2.2.2.2.2.2.2.2) hg1 (lgO r (s : Int)) ⟨hk.1, by omega⟩ (if lgO r (s : Int) = hd then 1 else 0) rfl _ rfl (fun M2 hA2 => ?_)
              have vE : legA w l r lg b fl (RFc wh c) (lgO r (s : Int)) (if lgO r (s : Int) = hd then 1 else 0) = lgT w l r lg b fl hd wh (s : Int) c := rfl
              rw [vE]
              have lb : -10 ≤ lgT w l r lg b fl hd wh (s : Int) c ∧ lgT w l r lg b fl hd wh (s : Int) c ≤ 100000 := by
                have hLE := hV.2.2.1.2 (lgO r (s : Int)) hk.1 (by omega)
                have h5 := hV.2.1.2.2.2.2.2.1
                have gb := goV_b (w := w) (l := l) (P := pR (w * l) (RFc wh c)) (t := lg (7 * lgO r (s : Int) + 5)) (mi := lg (7 * lgO r (s : Int) + 2)) (ea := lg (7 * lgO r (s : Int) + 6)) (kn := r 5) hV.1.1 hV.1.2.1 hLE.2.2.2.2.2.1.1 hLE.2.2.1 hLE.2.2.2.2.2.2 ⟨by omega, by omega⟩
                unfold lgT legA legV
                split
                · omega
                · split
                  · omega
                  · split <;> omega
              refine ⟨_, rfl, lb, ?_⟩
              rw [hcu]
              have A2 : AgX scX M0 M2 := fun b j hx => by
                rw [hA2 b j (fun e => hx (by unfold lgX at e; unfold scX; omega))]
                exact A1 b j hx
              refine step (up M2 85 (u : Int) (if lgT w l r lg b fl hd wh (s : Int) c < 0 then 100000000 else frm w l m r q cm lv (s : Int) A c + lgT w l r lg b fl hd wh (s : Int) c)) _ _ _ _ (fun b j hx => by
                rw [up_b (fun e => hx (by unfold scX; omega))]
                exact A2 b j hx) (fun y hy => by rw [up_j hy, hA2 85 y (by unfold lgX; omega), a85, up_j hy]) up_s (fun _ c' hv' hc' => ?_) (fun hno => absurd hcu (hno c hv)) bb fE
              rw [uniq c' hv' hc']
              unfold nxA
              by_cases hneg : lgT w l r lg b fl hd wh (s : Int) c < 0
              · rw [if_pos hneg, cb_f (fun h9 => h9.2.2.2 hneg), if_neg (by decide)]
              · rw [if_neg hneg, cb_t ⟨hv, hset, hlt, hneg⟩, if_pos rfl]
          · left
            refine ⟨cb_f hset, ?_⟩
            rw [hcu]
            refine step M1 100000000 be _ o6 A1 (fun y hy => by rw [a85, up_j hy]) (by rw [a85, up_s]) (fun _ c' hv' hc' => ?_) (fun _ => rfl) hb (fun he => ?_)
            · rw [uniq c' hv' hc']
              unfold nxA
              rw [cb_f (fun h9 => hset h9.2.1), if_neg (by decide)]
            · have := hbe he
              by_cases u0 : u = 0
              · exfalso
                have c0 : c = 0 := (uniq 0 vcd_0 (by rw [rcd_0]; exact u0.symm)).symm
                apply hset
                intro i hi
                have bd := (hok.2.2.2.2.2.2.2.2.1 i hi).1
                rw [c0, dg0 (by omega)]
                exact ⟨fun h9 => h9.1 rfl, fun h9 => by omega⟩
              · rw [if_neg u0] at this
                exact this
    · have hno : ∀ c, vcd m (w * l) c → rcd c ≠ u := fun c hv e => hE ⟨c, hv, e⟩
      have ha : M 85 (u : Int) = 100000000 := by rw [e85]; exact hRA.2 (u : Int) (by omega) (by omega) (fun c hv e => hno c hv (by omega))
      have hy : M 86 (u : Int) = 100000000 := by rw [e86]; exact hN (u : Int) (by omega) (by omega) (fun c hv e => hno c hv (by omega))
      have u0 : u ≠ 0 := fun e => hno 0 vcd_0 (by rw [rcd_0]; exact e.symm)
      refine bf_6 (d := d + 5) mi (s : Int) be (u : Int) 100000000 100000000 100000000 (2 * (r 0 - 1)) 0 o5 o6 ⟨by omega, by omega⟩ ha hy ⟨by decide, by decide, hb⟩ (by decide) ⟨by omega, hs, by omega⟩ (fun _ => ?_) (fun hlt => absurd hlt (by decide))
      refine step (up M 85 (u : Int) 100000000) 100000000 be _ o6 (upS _) (fun y hy => up_j hy) up_s (fun _ c hv hc => absurd hc (hno c hv)) (fun _ => rfl) hb (fun he => ?_)
      have := hbe he
      rw [if_neg u0] at this
      exact this
/-- STOP by STOP -/
theorem bf_l (h : CR w l m r q lg b fl iv wh cm lv B0) (hC0 : CM m iv wh B0 M0) (h31 : M0 67 31 = hd) (hdb : -1 ≤ hd ∧ hd < 7) (mi : Int) (hmi : 0 ≤ mi ∧ mi ≤ 1439) (kk : ∀ M', AgX bfX M0 M' → (∀ i, M' 88 i = 0) → Q [aI (bstV w l m r q lg b fl hd wh cm lv mi)] M') : ∀ (t s : Nat) (M : Mem) (o3 o4 o5 o6 : AV), ((s + t : Nat) : Int) = 2 * (r 0 - 1) → AgX bfX M0 M → (∀ i, M 88 i = 0) → RAf m (w * l) (bA w l m r q lg b fl hd wh cm lv mi s) M → XL (d + 6) 213 34 [aR 22 0 67, aI mi, aI (s : Int), o3, o4, o5, o6] [] M Q := by
  intro t
  induction t with
  | zero =>
    intro s M o3 o4 o5 o6 ht hA h88 hRA
    have r0 := h.1.2.1.1
    have hs : (s : Int) ≤ 2 * (r 0 - 1) := by omega
    have hCM := hC0.cgb hA
    have hok := h.2.1
    have hBI := bA_BI (hd := hd) hok hmi s hs
    have la : ∀ (M' : Mem), CM m iv wh B0 M' → ∀ {d' : Nat}, ∀ Q', XC d' 160 [aR 22 0 67] M' Q' ↔ Q' [aI (2 * (r 0 - 1))] M' := fun M' hc d' Q' => by rw [s_m_last, hc.1, h.1.2.2.2.1.1.1]
    rw [bf_2 (d := d + 5) mi (s : Int) (2 * (r 0 - 1)) o3 o4 o5 o6 ⟨by omega, hs, by omega⟩ (la M hCM)]
    obtain ⟨M1, hM1⟩ : ∃ M1, M1 = up (up M 67 57 0) 67 58 0 := ⟨_, rfl⟩
    rw [← hM1]
    have A1 : AgX bfX M0 M1 := fun b j hb => by
      unfold bfX at hb
      rw [hM1, up_b' (by omega), up_b' (by omega)]
      exact hA b j hb
    refine q1_l (M0 := M1) mi (s : Int) o4 o5 o6 (fun M2 hA2 h86 => ?_) 15625 0 M1 (by omega) (fun _ _ _ => rfl) (fun x x0 x1 => absurd x1 (by omega))
    have A2 : AgX bfX M0 M2 := fun b j hb => by
      rw [hA2 b j (fun e => hb (by unfold bfX; omega))]
      exact A1 b j hb
    have f88 : ∀ i, M2 88 i = 0 := fun i => by rw [hA2 88 i (by simp), hM1, up_b (by decide), up_b (by decide)]; exact h88 i
    have f57 : M2 67 57 = 0 := by rw [hA2 67 57 (by simp), hM1, up_j (by decide), up_s]
    have f58 : M2 67 58 = 0 := by rw [hA2 67 58 (by simp), hM1, up_s]
    have f85 : M2 85 = M 85 := by rw [hA2.fn (b := 85) (fun j => by simp), hM1, up_r (by decide), up_r (by decide)]
    have sE : ∀ c, snS m (w * l) M2 c = 100000000 := fun c => by
      by_cases hv : vcd m (w * l) c
      · rw [snS_v hv]
        have := (rcd_sp hv hok.2.2.1).1
        exact h86 _ (by omega) (by omega)
      · exact snS_n hv
    refine q2_l (M0 := M2) h (hC0.cgb A2) hBI hs (by unfold RAf at hRA ⊢; rw [f85]; exact hRA) mi o4 o5 o6 (fun M3 mn qf hA3 hQ3 => ?_) 15625 0 M2 0 (fun _ => 0) (by omega) (fun _ _ _ => rfl) ⟨⟨f58, by rw [f57]; decide, fun j hj => absurd hj (Nat.not_lt_zero j), fun j _ hj => absurd hj (Nat.not_lt_zero j), fun c _ => Or.inl (f88 _), fun i _ => f88 i⟩, fun c => by rw [sE]; exact ⟨by decide, by decide, fun h9 => absurd h9 (by decide)⟩, fun c _ _ _ hlt => by rw [sE] at hlt; exact absurd hlt (by decide), fun c hc => by unfold A2u at hc; rw [if_neg (Nat.not_lt_zero _)] at hc; exact absurd hc (by decide), fun u u0 u1 _ => h86 u u0 u1, fun j hj => absurd hj (Nat.not_lt_zero j)⟩
    refine q3_l (d := d + 1) (M0 := M3) h (hC0.cgb (fun b j hb => by
      rw [hA3 b j (fun e => hb (by unfold quX at e; unfold bfX; omega))]
      exact A2 b j hb)) hBI hs mi o4 o5 o6 (fun M4 o3' hA4 hD hz hN h58 => ?_) _ M3 mn qf _ (Nat.le_refl _) (fun _ _ _ => rfl) hQ3
    have A4 : AgX bfX M0 M4 := fun b j hb => by
      rw [hA4 b j (fun e => hb (by unfold quX at e; unfold bfX; omega)), hA3 b j (fun e => hb (by unfold quX at e; unfold bfX; omega))]
      exact A2 b j hb
    have g85 : M4 85 = M 85 := by
      rw [hA4.fn (b := 85) (fun j => by unfold quX; omega), hA3.fn (b := 85) (fun j => by unfold quX; omega)]
      exact f85
    rw [bf_5e _ _ o3' o4 o5 o6 h58]
    refine sc_l (M0 := M4) h (hC0.cgb A4) hBI hs (by unfold RAf at hRA ⊢; rw [g85]; exact hRA) (by rw [A4 67 31 (by unfold bfX; omega)]; exact h31) hdb mi hD hN (fun M5 be o5' o6' hA5 hRA5 hbb hbe => ?_) 15625 0 M4 100000000 o5 o6 (by omega) (fun _ _ _ => rfl) (fun _ c _ hc => absurd hc (Nat.not_lt_zero _)) (fun _ _ _ => rfl) (fun x x0 x1 => absurd x1 (by omega)) (by decide) (fun _ => rfl)
    have A5 : AgX bfX M0 M5 := fun b j hb => by
      rw [hA5 b j (fun e => hb (by unfold scX at e; unfold bfX; omega))]
      exact A4 b j hb
    have hl : (s : Int) = 2 * (r 0 - 1) := by omega
    rw [bf_7 (d := d + 5) mi (s : Int) be (2 * (r 0 - 1)) o5' o6' ⟨by omega, hs, by omega⟩ hbb hmi (la M5 (hC0.cgb A5)), if_pos hl]
    have k := kk M5 A5 (fun i => by rw [hA5 88 i (by unfold scX; omega)]; exact hz i)
    unfold bstV at k
    rw [show (2 * (r 0 - 1)).toNat = s by omega, ← hl, ← hbe hl] at k
    exact k
  | succ t ih =>
    intro s M o3 o4 o5 o6 ht hA h88 hRA
    have r0 := h.1.2.1.1
    have hs : (s : Int) ≤ 2 * (r 0 - 1) := by omega
    have hCM := hC0.cgb hA
    have hok := h.2.1
    have hBI := bA_BI (hd := hd) hok hmi s hs
    have la : ∀ (M' : Mem), CM m iv wh B0 M' → ∀ {d' : Nat}, ∀ Q', XC d' 160 [aR 22 0 67] M' Q' ↔ Q' [aI (2 * (r 0 - 1))] M' := fun M' hc d' Q' => by rw [s_m_last, hc.1, h.1.2.2.2.1.1.1]
    rw [bf_2 (d := d + 5) mi (s : Int) (2 * (r 0 - 1)) o3 o4 o5 o6 ⟨by omega, hs, by omega⟩ (la M hCM)]
    obtain ⟨M1, hM1⟩ : ∃ M1, M1 = up (up M 67 57 0) 67 58 0 := ⟨_, rfl⟩
    rw [← hM1]
    have A1 : AgX bfX M0 M1 := fun b j hb => by
      unfold bfX at hb
      rw [hM1, up_b' (by omega), up_b' (by omega)]
      exact hA b j hb
    refine q1_l (M0 := M1) mi (s : Int) o4 o5 o6 (fun M2 hA2 h86 => ?_) 15625 0 M1 (by omega) (fun _ _ _ => rfl) (fun x x0 x1 => absurd x1 (by omega))
    have A2 : AgX bfX M0 M2 := fun b j hb => by
      rw [hA2 b j (fun e => hb (by unfold bfX; omega))]
      exact A1 b j hb
    have f88 : ∀ i, M2 88 i = 0 := fun i => by rw [hA2 88 i (by simp), hM1, up_b (by decide), up_b (by decide)]; exact h88 i
    have f57 : M2 67 57 = 0 := by rw [hA2 67 57 (by simp), hM1, up_j (by decide), up_s]
    have f58 : M2 67 58 = 0 := by rw [hA2 67 58 (by simp), hM1, up_s]
    have f85 : M2 85 = M 85 := by rw [hA2.fn (b := 85) (fun j => by simp), hM1, up_r (by decide), up_r (by decide)]
    have sE : ∀ c, snS m (w * l) M2 c = 100000000 := fun c => by
      by_cases hv : vcd m (w * l) c
      · rw [snS_v hv]
        have := (rcd_sp hv hok.2.2.1).1
        exact h86 _ (by omega) (by omega)
      · exact snS_n hv
    refine q2_l (M0 := M2) h (hC0.cgb A2) hBI hs (by unfold RAf at hRA ⊢; rw [f85]; exact hRA) mi o4 o5 o6 (fun M3 mn qf hA3 hQ3 => ?_) 15625 0 M2 0 (fun _ => 0) (by omega) (fun _ _ _ => rfl) ⟨⟨f58, by rw [f57]; decide, fun j hj => absurd hj (Nat.not_lt_zero j), fun j _ hj => absurd hj (Nat.not_lt_zero j), fun c _ => Or.inl (f88 _), fun i _ => f88 i⟩, fun c => by rw [sE]; exact ⟨by decide, by decide, fun h9 => absurd h9 (by decide)⟩, fun c _ _ _ hlt => by rw [sE] at hlt; exact absurd hlt (by decide), fun c hc => by unfold A2u at hc; rw [if_neg (Nat.not_lt_zero _)] at hc; exact absurd hc (by decide), fun u u0 u1 _ => h86 u u0 u1, fun j hj => absurd hj (Nat.not_lt_zero j)⟩
    refine q3_l (d := d + 1) (M0 := M3) h (hC0.cgb (fun b j hb => by
      rw [hA3 b j (fun e => hb (by unfold quX at e; unfold bfX; omega))]
      exact A2 b j hb)) hBI hs mi o4 o5 o6 (fun M4 o3' hA4 hD hz hN h58 => ?_) _ M3 mn qf _ (Nat.le_refl _) (fun _ _ _ => rfl) hQ3
    have A4 : AgX bfX M0 M4 := fun b j hb => by
      rw [hA4 b j (fun e => hb (by unfold quX at e; unfold bfX; omega)), hA3 b j (fun e => hb (by unfold quX at e; unfold bfX; omega))]
      exact A2 b j hb
    have g85 : M4 85 = M 85 := by
      rw [hA4.fn (b := 85) (fun j => by unfold quX; omega), hA3.fn (b := 85) (fun j => by unfold quX; omega)]
      exact f85
    rw [bf_5e _ _ o3' o4 o5 o6 h58]
    refine sc_l (M0 := M4) h (hC0.cgb A4) hBI hs (by unfold RAf at hRA ⊢; rw [g85]; exact hRA) (by rw [A4 67 31 (by unfold bfX; omega)]; exact h31) hdb mi hD hN (fun M5 be o5' o6' hA5 hRA5 hbb hbe => ?_) 15625 0 M4 100000000 o5 o6 (by omega) (fun _ _ _ => rfl) (fun _ c _ hc => absurd hc (Nat.not_lt_zero _)) (fun _ _ _ => rfl) (fun x x0 x1 => absurd x1 (by omega)) (by decide) (fun _ => rfl)
    have A5 : AgX bfX M0 M5 := fun b j hb => by
      rw [hA5 b j (fun e => hb (by unfold scX at e; unfold bfX; omega))]
      exact A4 b j hb
    have hl : (s : Int) < 2 * (r 0 - 1) := by omega
    rw [bf_7 (d := d + 5) mi (s : Int) be (2 * (r 0 - 1)) o5' o6' ⟨by omega, hs, by omega⟩ hbb hmi (la M5 (hC0.cgb A5)), if_neg (by omega)]
    have g := ih (s + 1) M5 (aI be) (aI 15625) o5' o6' (by omega) A5 (fun i => by rw [hA5 88 i (by unfold scX; omega)]; exact hz i) (hRA5 hl)
    rw [Int.natCast_add] at g
    exact g
theorem ar_l (mi : Int) (o3 o4 o5 o6 : AV) (kk : ∀ M', AgX (fun b _ => b = 85) M0 M' → (∀ u : Int, 0 ≤ u → u < 15625 → M' 85 u = if u = 0 then mi else 100000000) → XL d 213 34 [aR 22 0 67, aI mi, aI 0, o3, o4, o5, o6] [] M' Q) : ∀ (t u : Nat) (M : Mem), u + t = 15625 → AgX (fun b _ => b = 85) M0 M → (∀ x : Int, 0 ≤ x → x < (u : Int) → M 85 x = if x = 0 then mi else 100000000) → XL d 213 2 [aR 22 0 67, aI mi, aI (u : Int), o3, o4, o5, o6] [] M Q
  | 0, u, M, h, hA, hz => by
    rw [bf_1 mi (u : Int) o3 o4 o5 o6 ⟨by omega, by omega⟩, if_neg (by omega)]
    exact kk M hA (fun x x0 x1 => hz x x0 (by omega))
  | t + 1, u, M, h, hA, hz => by
    rw [bf_1 mi (u : Int) o3 o4 o5 o6 ⟨by omega, by omega⟩, if_pos (by omega)]
    have g := ar_l mi o3 o4 o5 o6 kk t (u + 1) (up M 85 (u : Int) (if (u : Int) = 0 then mi else 100000000)) (by omega) (fun b j hb => by rw [up_b hb]; exact hA b j hb) (fun x x0 x1 => by
      by_cases e : x = (u : Int)
      · rw [e, up_s]
      · rw [up_j e]; exact hz x x0 (by omega))
    rw [Int.natCast_add] at g
    exact g
theorem s_bestFrom (h : CR w l m r q lg b fl iv wh cm lv B0) (hC0 : CM m iv wh B0 M) (h31 : M 67 31 = hd) (hdb : -1 ≤ hd ∧ hd < 7) (h88 : ∀ i, M 88 i = 0) (mi : Int) (hmi : 0 ≤ mi ∧ mi ≤ 1439) (kk : ∀ M', AgX bfX M M' → (∀ i, M' 88 i = 0) → Q [aI (bstV w l m r q lg b fl hd wh cm lv mi)] M') : XC (d + 6) 213 [aR 22 0 67, aI mi] M Q := by
  have r0 := h.1.2.1.1
  have hok := h.2.1
  have hpos := hok.2.2.2.2.2.2.2.1
  rw [bf_0]
  refine ar_l (M0 := M) mi aU aU aU aU (fun M1 hA1 h85 => ?_) 15625 0 M (by omega) (fun _ _ _ => rfl) (fun x x0 x1 => absurd x1 (by omega))
  have A1 : AgX bfX M M1 := fun b j hb => hA1 b j (fun e => hb (by unfold bfX; omega))
  refine bf_l (d := d) h hC0 h31 hdb mi hmi kk (2 * (r 0 - 1)).toNat 0 M1 aU aU aU aU (by omega) A1 (fun i => by rw [hA1 88 i (by simp)]; exact h88 i) ⟨fun c hv => ?_, fun u u0 u1 hu => ?_⟩
  · have rl := (rcd_sp hv hok.2.2.1).1
    rw [h85 _ (by omega) (by omega)]
    unfold bA
    by_cases e : c = 0
    · rw [if_pos e, e, rcd_0, if_pos (show ((0 : Nat) : Int) = 0 from rfl)]
    · rw [if_neg e, if_neg (fun h9 => e (rcd_inj hv vcd_0 hok.2.2.1 (by rw [rcd_0]; omega)))]
  · rw [h85 u u0 u1, if_neg]
    intro e
    exact hu 0 vcd_0 (by rw [e, rcd_0]; rfl)
end BV
