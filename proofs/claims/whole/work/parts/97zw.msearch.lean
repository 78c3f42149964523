/-! FIRST on the reference's side: the search, whole -/
def yX (b : Nat) (j : Int) : Prop := fX b j ∨ b = 83
section MW
variable {d : Nat} {M M0 : Mem} {Q : List AV → Mem → Prop} {w l : Nat} {r q lg b : Int → Int} {fl : Int}
theorem RivM.cg {M2 : Mem} (h : RivM M0 w l r q lg b fl) (e : M2 69 = M0 69) (e2 : M2 67 21 = M0 67 21) (e3 : M2 67 31 = M0 67 31) : RivM M2 w l r q lg b fl := by
  obtain ⟨h1, h2, h3, h4, h5, h6, h7, h8⟩ := h
  exact ⟨h1.of e, h2, h3, by rw [e]; exact h4, by rw [e]; exact h5, small_cg e h6, by rw [e2]; exact h7, by rw [e3]; exact h8⟩
theorem mf_leaf (hV : RivM M0 w l r q lg b fl) (m : Nat) (hL : TL M0 r b m) (hm0 : 0 < m) (R0 : Int → Int) (hR0 : ∀ c, 0 ≤ c → c < 24 → R0 c = -1) (i s : Int) (hA : AgX yX M0 M) (R : Int → Int) (hR : plcR R0 (M 83) (M0 82) m = R) (hP : PRi (w * l) (r 2) (M0 82) m R) (ha : ∀ k : Nat, k < m → 0 ≤ M 83 (k : Int) ∧ M 83 (k : Int) < 24) (k1 : ∀ M', wgd w l r q lg b fl R → AgX (fun b j => yX b j ∨ rsX b j) M0 M' → (∀ j, 0 ≤ j → j < 24 → M' 69 (359 + j) = R j + 1) → Q [aI 1] M') (k0 : ∀ M' s, ¬ wgd w l r q lg b fl R → AgX yX M0 M' → M' 83 = M 83 → XL (d + 7) 207 144 [aR 22 0 67, aI i, s, aI (m : Int)] [] M' Q) : XL (d + 7) 207 249 [aR 22 0 67, aI i, aI s, aI 0] [] M Q := by
  have hn : w * l ≤ 24 := hV.1.n
  have r1 := hV.2.1.2.1
  have r0 := hV.2.1.1
  have hLE0 := hV.2.2.1.1
  have m6 := hL.2.1
  have e82 : M 82 = M0 82 := hA.fn (fun j => by unfold yX fX; omega)
  have etm : M 67 50 = (m : Int) := by rw [hA 67 _ (by unfold yX fX; omega)]; exact hL.1
  have hV0 : RivM M w l r q lg b fl := hV.cg (hA.fn (fun j => by unfold yX fX; omega)) (hA 67 21 (by unfold yX fX; omega)) (hA 67 31 (by unfold yX fX; omega))
  have hto : ∀ c : Int, 0 ≤ c → c < 24 → R c ≠ -1 → 0 < b (4 * R c + 1) := fun c c0 c1 hne => by
    obtain ⟨j, j1, j2⟩ := hP.2.1 c c0 c1 hne
    rw [← j2]
    exact (hL.2.2 j j1).2.2
  have hne : ¬ mtR (w * l) R := fun hmt => by
    have := hP.2.2
    rw [cnt_mt.mpr hmt] at this
    omega
  have hr1 : 0 < r 1 := by
    obtain ⟨x0, x1, x2⟩ := hL.2.2 0 hm0
    have := (hV.2.1.2.2.2.2.2.2.2.2.2 _ x0.1 x0.2).2.1
    omega
  have wE : wgd w l r q lg b fl R ↔ rgd w l r q lg b fl R := wgd_r hV.1.1 hV.1.2.1 hV.2.2.1 ⟨by have := hV.2.1.2.2.2.2.2.1; omega, hV.2.1.2.2.2.2.2.1.2⟩ (fun i hi hne => hto (i : Int) (by omega) (by omega) hne) hne hr1
  refine ffg_0 (M0 := M) i s (fun M1 hA1 hz1 => ?_) 24 0 M (by omega) (fun _ _ _ => rfl) (fun j j0 j1 => absurd j1 (by omega))
  have f83 : M1 83 = M 83 := hA1.fn (fun j => by simp)
  have f82 : M1 82 = M0 82 := by rw [hA1.fn (b := 82) (fun j => by simp)]; exact e82
  refine ffg_1 (M0 := M1) i s m m6 (by rw [hA1 67 _ (by simp)]; exact etm) R0 (fun k hk => by rw [f83]; exact ha k hk) (fun M2 hA2 hz2 => ?_) m 0 M1 (by omega) (fun _ _ _ => rfl) (fun j j0 j1 => by
    show M1 74 j = R0 j + 1
    rw [hz1 j j0 j1, hR0 j j0 j1]
    decide)
  rw [f83, f82, hR] at hz2
  have A2 : AgX (fun b _ => b = 74) M M2 := fun c j hc => by
    rw [hA2 c j hc]
    exact hA1 c j hc
  have g82 : M2 82 = M0 82 := by rw [A2.fn (b := 82) (fun j => by simp)]; exact e82
  have hV2 : RivM M2 w l r q lg b fl := hV0.cg (A2.fn (fun j => by simp)) (A2 67 21 (by simp)) (A2 67 31 (by simp))
  have hL2 : TL M2 r b m := ⟨by rw [A2 67 _ (by simp)]; exact etm, m6, fun j hj => by rw [g82]; exact hL.2.2 j hj⟩
  refine ffi_6 (d := d + 6) i s (m : Int) ⟨by omega, by omega⟩ hL2.1 ?_
  refine s_comesOff (d := d) hV2 m hL2 R hP.1 (fun j hj hne => by
    obtain ⟨x, x1, x2⟩ := hP.2.1 (j : Int) (by omega) (by omega) hne
    exact ⟨x, x1, by rw [g82]; exact x2⟩) hP.2.2 hz2 (fun M3 hA3 => ?_)
  have A3 : AgX yX M M3 := fun c j hc => by
    rw [hA3 c j (fun e => hc (Or.inl e)), A2 c j (fun e => hc (by unfold yX fX; omega))]
  have A3' : AgX yX M0 M3 := fun c j hc => by
    rw [A3 c j hc]
    exact hA c j hc
  have h83 : M3 83 = M 83 := by
    rw [hA3.fn (b := 83) (fun j => by unfold fX; omega)]
    exact A2.fn (fun j => by simp)
  have h82 : M3 82 = M0 82 := A3'.fn (fun j => by unfold yX fX; omega)
  refine ⟨_, rfl, ?_⟩
  by_cases hv : rgd w l r q lg b fl R
  · right
    refine ⟨cb_t hv, ?_⟩
    refine ffs_0 (M0 := M3) i s (fun M4 hA4 hz4 => ?_) 24 0 M3 (by omega) (fun _ _ _ => rfl) (fun j j0 j1 => absurd j1 (by omega))
    have i83 : M4 83 = M 83 := by rw [hA4.fn (b := 83) (fun j => by unfold rsX; omega)]; exact h83
    have i82 : M4 82 = M0 82 := by rw [hA4.fn (b := 82) (fun j => by unfold rsX; omega)]; exact h82
    refine ffs_1 (M0 := M4) i s m m6 (by rw [hA4 67 _ (by unfold rsX; omega), A3 67 _ (by unfold yX fX; omega)]; exact etm) R0 (fun k hk => by rw [i83]; exact ha k hk) (fun M5 hA5 hz5 => ?_) m 0 M4 (by omega) (fun _ _ _ => rfl) (fun j j0 j1 => by
      show M4 69 (359 + j) = R0 j + 1
      rw [hz4 j j0 j1, hR0 j j0 j1]
      decide)
    rw [i83, i82, hR] at hz5
    exact k1 M5 (wE.mpr hv) (fun c j hc => by
      rw [hA5 c j (fun e => hc (Or.inr e)), hA4 c j (fun e => hc (Or.inr e))]
      exact A3' c j (fun e => hc (Or.inl e))) hz5
  · left
    exact ⟨cb_f hv, k0 M3 (aI s) (fun h9 => hv (wE.mp h9)) A3' h83⟩
theorem mf_k (hV : RivM M0 w l r q lg b fl) (m : Nat) (hL : TL M0 r b m) (hdis : ∀ i j : Nat, i < m → j < i → M0 82 (j : Int) ≠ M0 82 (i : Int)) (R0 : Int → Int) (hR0 : ∀ c, 0 ≤ c → c < 24 → R0 c = -1) (i t : Nat) (hi : i + (t + 1) = m) (f : (Int → Int) → Option (Int → Int)) (hf : f = fsr (w * l) (wgd w l r q lg b fl) (ordL (M0 82) (i + 1) t))
  (k1 : ∀ Z M', AgX (fun b j => yX b j ∨ rsX b j) M0 M' → (∀ j, 0 ≤ j → j < 24 → M' 69 (359 + j) = Z j + 1) → PRi (w * l) (r 2) (M0 82) m Z → fsr (w * l) (wgd w l r q lg b fl) (ordL (M0 82) 0 m) R0 = some Z → Q [aI 1] M')
  (ih : t ≠ 0 → ∀ (R : Int → Int) (M : Mem) (o2 o3 : AV), AgX yX M0 M → M 83 ((i : Int) + 1) = -1 → plcR R0 (M 83) (M0 82) (i + 1) = R → PRi (w * l) (r 2) (M0 82) (i + 1) R → (∀ j : Nat, j < i + 1 → 0 ≤ M 83 (j : Int) ∧ M 83 (j : Int) < ((w * l : Nat) : Int)) → (∀ Z, f R = some Z → fsr (w * l) (wgd w l r q lg b fl) (ordL (M0 82) 0 m) R0 = some Z) → (f R = none → ∀ M' o2 o3, AgX yX M0 M' → (∀ j : Nat, j < i + 1 → M' 83 (j : Int) = M 83 (j : Int)) → XL (d + 7) 207 144 [aR 22 0 67, aI (i : Int), o2, o3] [] M' Q) → XL (d + 7) 207 144 [aR 22 0 67, aI ((i : Int) + 1), o2, o3] [] M Q)
  : ∀ (t2 k : Nat) (R : Int → Int) (M : Mem) (o2 o3 : AV), k + t2 = w * l → AgX yX M0 M → M 83 (i : Int) = (k : Int) - 1 → plcR R0 (M 83) (M0 82) i = R → PRi (w * l) (r 2) (M0 82) i R → (∀ j : Nat, j < i → 0 ≤ M 83 (j : Int) ∧ M 83 (j : Int) < ((w * l : Nat) : Int)) → (∀ Z, fK f (M0 82 (i : Int)) R t2 k = some Z → fsr (w * l) (wgd w l r q lg b fl) (ordL (M0 82) 0 m) R0 = some Z) → (fK f (M0 82 (i : Int)) R t2 k = none → ∀ M' o2 o3, AgX yX M0 M' → (∀ j : Nat, j < i → M' 83 (j : Int) = M 83 (j : Int)) → XL (d + 7) 207 144 [aR 22 0 67, aI ((i : Int) - 1), o2, o3] [] M' Q) → XL (d + 7) 207 144 [aR 22 0 67, aI (i : Int), o2, o3] [] M Q
  | 0, k, R, M, o2, o3, h, hA, ha, hR, hP, hb, g1, g0 => by
    have hn : w * l ≤ 24 := hV.1.n
    have m6 := hL.2.1
    have hG : GM (up M 83 (i : Int) (k : Int)) w l := hV.1.of (by rw [up_r (by decide)]; exact hA.fn (fun j => by unfold yX fX; omega))
    rw [ffi_1 (d := d + 6) (i : Int) (k : Int) ((w * l : Nat) : Int) o2 o3 ⟨by omega, by omega⟩ ha ⟨by omega, by omega, by omega⟩ (fun Q' => s_m_cells' hG), if_pos (by omega)]
    exact g0 rfl _ o2 o3 (fun c j hc => by
      rw [up_b (fun e => hc (Or.inr e))]
      exact hA c j hc) (fun j hj => up_j (by omega))
  | t2 + 1, k, R, M, o2, o3, h, hA, ha, hR, hP, hb, g1, g0 => by
    have hn : w * l ≤ 24 := hV.1.n
    have m6 := hL.2.1
    have r2 := hV.2.1.2.2.1
    have hi6 : i < m := by omega
    obtain ⟨x0, x1, x2⟩ := hL.2.2 i hi6
    have oNe : ∀ j : Nat, j < i → M0 82 (j : Int) ≠ -1 := fun j hj => by
      have := (hL.2.2 j (by omega)).1
      omega
    obtain ⟨M1, hM1⟩ : ∃ M1, M1 = up M 83 (i : Int) (k : Int) := ⟨_, rfl⟩
    have A1 : AgX yX M0 M1 := fun c j hc => by
      rw [hM1, up_b (fun e => hc (Or.inr e))]
      exact hA c j hc
    have a1i : M1 83 (i : Int) = (k : Int) := by rw [hM1]; exact up_s
    have a1j : ∀ j : Nat, j < i → M1 83 (j : Int) = M 83 (j : Int) := fun j hj => by rw [hM1]; exact up_j (by omega)
    have hG : GM M1 w l := hV.1.of (A1.fn (fun j => by unfold yX fX; omega))
    have ef : fK f (M0 82 (i : Int)) R (t2 + 1) k = if R (k : Int) = -1 then (match f (updR R (k : Int) (M0 82 (i : Int))) with
      | some z => some z
      | none => fK f (M0 82 (i : Int)) R t2 (k + 1)) else fK f (M0 82 (i : Int)) R t2 (k + 1) := rfl
    rw [ffi_1 (d := d + 6) (i : Int) (k : Int) ((w * l : Nat) : Int) o2 o3 ⟨by omega, by omega⟩ ha ⟨by omega, by omega, by omega⟩ (fun Q' => by rw [← hM1]; exact s_m_cells' hG), if_neg (by omega), ← hM1]
    have hR1 : plcR R0 (M1 83) (M0 82) i = R := by
      rw [← hR]
      exact plcR_cg i a1j
    have free := plcR_free (a := M1 83) (c := (k : Int)) i oNe (hR0 (k : Int) (by omega) (by omega))
    rw [hR1] at free
    have rec9 := mf_k hV m hL hdis R0 hR0 i t hi f hf k1 ih t2 (k + 1)
    have cont : ∀ M' o2 o3, AgX yX M0 M' → (∀ j : Nat, j < i + 1 → M' 83 (j : Int) = M1 83 (j : Int)) → (∀ Z, fK f (M0 82 (i : Int)) R t2 (k + 1) = some Z → fsr (w * l) (wgd w l r q lg b fl) (ordL (M0 82) 0 m) R0 = some Z) → (fK f (M0 82 (i : Int)) R t2 (k + 1) = none → fK f (M0 82 (i : Int)) R (t2 + 1) k = none) → XL (d + 7) 207 144 [aR 22 0 67, aI (i : Int), o2, o3] [] M' Q := fun M' o2 o3 hA' hj hs hno => by
      refine rec9 R M' o2 o3 (by omega) hA' (by rw [hj i (by omega), a1i]; omega) ?_ hP (fun j hj9 => by rw [hj j (by omega), a1j j hj9]; exact hb j hj9) hs (fun hnn M2 o2 o3 hA2 hj2 => g0 (hno hnn) M2 o2 o3 hA2 (fun j hj9 => by rw [hj2 j hj9, hj j (by omega), a1j j hj9]))
      rw [← hR]
      exact plcR_cg i (fun j hj9 => by rw [hj j (by omega), a1j j hj9])
    refine ffd_l i (k : Int) (by omega) a1i (fun j hj => by
      by_cases e : j = i
      · rw [e, a1i]; omega
      · rw [a1j j (by omega)]
        have := hb j (by omega)
        omega) (fun hfr => ?_) (fun hfr => ?_) i 0 1 (by omega) (Or.inl ⟨rfl, fun j hj => absurd hj (Nat.not_lt_zero j)⟩)
    · have c : R (k : Int) = -1 := free.mpr hfr
      rw [if_pos c] at ef
      have hP1 : PRi (w * l) (r 2) (M0 82) (i + 1) (updR R (k : Int) (M0 82 (i : Int))) := hP.s r2.2 hn (by omega) c (fun j hj => hdis i j hi6 hj) x0
      have hR2 : plcR R0 (M1 83) (M0 82) (i + 1) = updR R (k : Int) (M0 82 (i : Int)) := by
        show updR (plcR R0 (M1 83) (M0 82) i) (M1 83 (i : Int)) (M0 82 (i : Int)) = _
        rw [hR1, a1i]
      rw [ffi_3 (i : Int) 1 (m : Int) ⟨by omega, by omega, by omega⟩ (by rw [A1 67 _ (by unfold yX fX; omega)]; exact hL.1) (Or.inr rfl), if_neg (by decide)]
      by_cases cw : (i : Int) + 1 < (m : Int)
      · rw [if_pos cw]
        refine ih (by omega) (updR R (k : Int) (M0 82 (i : Int))) (up M1 83 ((i : Int) + 1) (-1)) _ _ (fun c j hc => ?_) up_s ?_ hP1 (fun j hj => ?_) (fun Z hZ => g1 Z (by rw [ef, hZ])) (fun hno M' o2 o3 hA' hj => ?_)
        · rw [up_b (fun e => hc (Or.inr e))]
          exact A1 c j hc
        · rw [← hR2]
          exact plcR_cg (i + 1) (fun j hj => up_j (by omega))
        · rw [up_j (by omega)]
          by_cases e : j = i
          · rw [e, a1i]; omega
          · rw [a1j j (by omega)]; exact hb j (by omega)
        · exact cont M' o2 o3 hA' (fun j hj9 => by rw [hj j hj9, up_j (by omega)]) (fun Z hZ => g1 Z (by rw [ef, hno]; exact hZ)) (fun hnn => by rw [ef, hno]; exact hnn)
      · rw [if_neg cw]
        have t0 : t = 0 := by omega
        have im : i + 1 = m := by omega
        have fe : f (updR R (k : Int) (M0 82 (i : Int))) = if cb (wgd w l r q lg b fl (updR R (k : Int) (M0 82 (i : Int)))) = 1 then some (updR R (k : Int) (M0 82 (i : Int))) else none := by
          rw [hf, t0]
          rfl
        refine mf_leaf (d := d) hV m hL (by omega) R0 hR0 (i : Int) 1 A1 (updR R (k : Int) (M0 82 (i : Int))) (by rw [← im]; exact hR2) (by rw [← im]; exact hP1) (fun j hj => ?_) (fun M' hv hA' hz => ?_) (fun M' s hv hA' h83 => ?_)
        · by_cases e : j = i
          · rw [e, a1i]; omega
          · rw [a1j j (by omega)]
            have := hb j (by omega)
            omega
        · rw [cb_t hv, if_pos rfl] at fe
          exact k1 _ M' hA' hz (by rw [← im]; exact hP1) (g1 _ (by rw [ef, fe]))
        · rw [cb_f hv, if_neg (by decide)] at fe
          exact cont M' _ _ hA' (fun j hj9 => by rw [h83]) (fun Z hZ => g1 Z (by rw [ef, fe]; exact hZ)) (fun hnn => by rw [ef, fe]; exact hnn)
    · have c : R (k : Int) ≠ -1 := fun h9 => hfr (free.mp h9)
      rw [if_neg c] at ef
      rw [ffi_3 (i : Int) 0 (m : Int) ⟨by omega, by omega, by omega⟩ (by rw [A1 67 _ (by unfold yX fX; omega)]; exact hL.1) (Or.inl rfl), if_pos rfl]
      exact cont M1 _ _ A1 (fun j _ => rfl) (fun Z hZ => g1 Z (by rw [ef]; exact hZ)) (fun hnn => by rw [ef]; exact hnn)
theorem mf_s (hV : RivM M0 w l r q lg b fl) (m : Nat) (hL : TL M0 r b m) (hdis : ∀ i j : Nat, i < m → j < i → M0 82 (j : Int) ≠ M0 82 (i : Int)) (R0 : Int → Int) (hR0 : ∀ c, 0 ≤ c → c < 24 → R0 c = -1)
  (k1 : ∀ Z M', AgX (fun b j => yX b j ∨ rsX b j) M0 M' → (∀ j, 0 ≤ j → j < 24 → M' 69 (359 + j) = Z j + 1) → PRi (w * l) (r 2) (M0 82) m Z → fsr (w * l) (wgd w l r q lg b fl) (ordL (M0 82) 0 m) R0 = some Z → Q [aI 1] M')
  : ∀ (t i : Nat) (R : Int → Int) (M : Mem) (o2 o3 : AV), i + t = m → t ≠ 0 → AgX yX M0 M → M 83 (i : Int) = -1 → plcR R0 (M 83) (M0 82) i = R → PRi (w * l) (r 2) (M0 82) i R → (∀ j : Nat, j < i → 0 ≤ M 83 (j : Int) ∧ M 83 (j : Int) < ((w * l : Nat) : Int)) → (∀ Z, fsr (w * l) (wgd w l r q lg b fl) (ordL (M0 82) i t) R = some Z → fsr (w * l) (wgd w l r q lg b fl) (ordL (M0 82) 0 m) R0 = some Z) → (fsr (w * l) (wgd w l r q lg b fl) (ordL (M0 82) i t) R = none → ∀ M' o2 o3, AgX yX M0 M' → (∀ j : Nat, j < i → M' 83 (j : Int) = M 83 (j : Int)) → XL (d + 7) 207 144 [aR 22 0 67, aI ((i : Int) - 1), o2, o3] [] M' Q) → XL (d + 7) 207 144 [aR 22 0 67, aI (i : Int), o2, o3] [] M Q
  | 0, i, R, M, o2, o3, h, ht, _, _, _, _, _, _, _ => absurd rfl ht
  | t + 1, i, R, M, o2, o3, h, ht, hA, ha, hR, hP, hb, g1, g0 => by
    refine mf_k (d := d) hV m hL hdis R0 hR0 i t h _ rfl k1 (fun t0 R M o2 o3 a1 a2 a3 a4 a5 a6 a7 => ?_) (w * l) 0 R M o2 o3 (by omega) hA (by rw [ha]; rfl) hR hP hb g1 g0
    have g := mf_s hV m hL hdis R0 hR0 k1 t (i + 1) R M o2 o3 (by omega) t0 a1 (by rw [Int.natCast_add]; exact a2) a3 a4 a5 a6 (fun hno M' o2 o3 hA' hj => by
      have g := a7 hno M' o2 o3 hA' hj
      rw [show (((i + 1 : Nat) : Int) - 1) = (i : Int) by omega]
      exact g)
    rw [Int.natCast_add] at g
    exact g
end MW
