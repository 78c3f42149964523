/-! TEXTS on the class's side: the state -/
def cX (b : Nat) (j : Int) : Prop := (b = 1 ∧ (j = 4 ∨ (6 ≤ j ∧ j ≤ 10))) ∨ (b = 34 ∧ j = 6) ∨ (35 ≤ b ∧ b ≤ 42)
def cG (b : Nat) (j : Int) : Prop := (b = 1 ∧ (j = 4 ∨ (6 ≤ j ∧ j ≤ 8))) ∨ (b = 34 ∧ j = 6) ∨ (35 ≤ b ∧ b ≤ 42)
theorem cG_X {b : Nat} {j : Int} (h : cG b j) : cX b j := by
  unfold cG at h
  unfold cX
  omega
def vld (w : List Nat) : Prop := w.length ≤ 6 ∧ ∀ x ∈ w, 1 ≤ x ∧ x ≤ 26
/-- a FAULT is told -/
def Bd (M0 : Mem) (k : Int) (p : Nat) (M : Mem) : Prop := AgX cX M0 M ∧ small M 37 49 ∧ M 1 9 = k ∧ M 1 10 = (p : Int)
def RDc (M : Mem) (d : PD) (nq nl nb : Int) (nn nm : Nat) : Prop := (∀ k, 0 ≤ k → k ≤ 7 → M 35 k = dR d k) ∧ (∀ i, 0 ≤ i → i < nq → M 36 i = dQ d i) ∧ (∀ i, 0 ≤ i → i < nl → M 37 i = dL d i) ∧ (∀ i, 0 ≤ i → i < nb → M 38 i = dB d i) ∧ (∀ i : Nat, i < nn → M 39 (i : Int) = nm32 (dN d i)) ∧ (∀ i : Nat, i < nm → M 40 (i : Int) = nm32 (dM d i)) ∧ (dS d < 16 → M 34 6 = 8 * (dS d : Int))
def CG (T : Int → Int) (len lim : Nat) (M0 M : Mem) (t : Tok) (d : PD) (nq nl nb : Int) (nn nm : Nat) : Prop := CTx M T len lim ∧ CTk M t ∧ TF T len lim 0 t ∧ AgX cG M0 M ∧ small M 37 49 ∧ RDc M d nq nl nb nn nm
/-- NAMES that stand -/
def ND (d : PD) : Prop := (0 ≤ dR d 0 ∧ dR d 0 ≤ 8) ∧ (0 ≤ dR d 2 ∧ dR d 2 ≤ 9) ∧ (∀ i : Nat, i < (dR d 0).toNat → vld (dN d i)) ∧ (∀ i : Nat, i < (dR d 2).toNat → vld (dM d i))
theorem updR_a {f : Int → Int} {k x : Int} : updR f k x k = x := if_pos rfl
theorem updR_o {f : Int → Int} {k x j : Int} (h : j ≠ k) : updR f k x j = f j := if_neg h
section XG
variable {d : Nat} {M M0 : Mem} {Q : List AV → Mem → Prop} {T : Int → Int} {len lim : Nat} {t : Tok} {D : PD} {nq nl nb : Int} {nn nm : Nat}
theorem CG.k (h : CG T len lim M0 M t D nq nl nb nn nm) {M' : Mem} {t' : Tok} (hA : AgX kX M M') (hK : CTk M' t') (hF : TF T len lim 0 t') : CG T len lim M0 M' t' D nq nl nb nn nm := by
  obtain ⟨a1, a2, a3, a4, a5, b1, b2, b3, b4, b5, b6, b7⟩ := h
  have f : ∀ b, b ≠ 1 → M' b = M b := fun b hb => hA.fn (fun j => by unfold kX; omega)
  refine ⟨a1.k hA, hK, hF, fun b j hx => ?_, small_cg (f 37 (by decide)) a5, ?_⟩
  · rw [hA b j (by unfold kX; unfold cG at hx; omega)]
    exact a4 b j hx
  · unfold RDc
    rw [f 35 (by decide), f 36 (by decide), f 37 (by decide), f 38 (by decide), f 39 (by decide), f 40 (by decide), f 34 (by decide)]
    exact ⟨b1, b2, b3, b4, b5, b6, b7⟩
/-- a cell that tells nothing of the RIVER -/
theorem CG.u (h : CG T len lim M0 M t D nq nl nb nn nm) {a : Nat} {i x : Int} (ha : a = 41 ∨ a = 42) : CG T len lim M0 (up M a i x) t D nq nl nb nn nm := by
  obtain ⟨a1, a2, a3, a4, a5, b1, b2, b3, b4, b5, b6, b7⟩ := h
  have f : ∀ b j, ¬ (b = a ∧ j = i) → up M a i x b j = M b j := fun b j hb => up_b' hb
  refine ⟨a1.o (Or.inl (by omega)), a2.o (by omega), a3, fun b j hx => ?_, small_cg (up_r (by omega)) a5, ?_⟩
  · rw [f b j (by unfold cG at hx; omega)]
    exact a4 b j hx
  · unfold RDc
    rw [up_r (by omega), up_r (b := 36) (by omega), up_r (b := 37) (by omega), up_r (b := 38) (by omega), up_r (b := 39) (by omega), up_r (b := 40) (by omega), f 34 6 (by omega)]
    exact ⟨b1, b2, b3, b4, b5, b6, b7⟩
theorem CG.q (h : CG T len lim M0 M t D nq nl nb nn nm) (i x : Int) {nq2 : Int} (hn : ∀ j, 0 ≤ j → j < nq2 → j = i ∨ j < nq) : CG T len lim M0 (up M 36 i x) t (wQ D i x) nq2 nl nb nn nm := by
  obtain ⟨a1, a2, a3, a4, a5, b1, b2, b3, b4, b5, b6, b7⟩ := h
  refine ⟨a1.o (Or.inl (by decide)), a2.o (by decide), a3, fun b j hx => ?_, small_cg (up_r (by decide)) a5, ?_, fun j h0 h1 => ?_, ?_, ?_, ?_, ?_, ?_⟩
  · rw [up_b' (by unfold cG at hx; omega)]
    exact a4 b j hx
  · rw [up_r (by decide)]; exact b1
  · show _ = updR (dQ D) i x j
    by_cases e : j = i
    · rw [e, up_s, updR_a]
    · rw [up_j e, updR_o e]
      exact b2 j h0 (by have := hn j h0 h1; omega)
  · rw [up_r (by decide)]; exact b3
  · rw [up_r (by decide)]; exact b4
  · rw [up_r (by decide)]; exact b5
  · rw [up_r (by decide)]; exact b6
  · rw [up_r (by decide)]; exact b7
theorem CG.l (h : CG T len lim M0 M t D nq nl nb nn nm) (i x : Int) (hx : -100000 ≤ x ∧ x ≤ 100000) {nl2 : Int} (hn : ∀ j, 0 ≤ j → j < nl2 → j = i ∨ j < nl) : CG T len lim M0 (up M 37 i x) t (wL D i x) nq nl2 nb nn nm := by
  obtain ⟨a1, a2, a3, a4, a5, b1, b2, b3, b4, b5, b6, b7⟩ := h
  refine ⟨a1.o (Or.inl (by decide)), a2.o (by decide), a3, fun b j hx => ?_, fun j h0 h1 => ?_, ?_, ?_, fun j h0 h1 => ?_, ?_, ?_, ?_, ?_⟩
  · rw [up_b' (by unfold cG at hx; omega)]
    exact a4 b j hx
  · by_cases e : j = i
    · rw [e, up_s]; exact hx
    · rw [up_j e]; exact a5 j h0 h1
  · rw [up_r (by decide)]; exact b1
  · rw [up_r (by decide)]; exact b2
  · show _ = updR (dL D) i x j
    by_cases e : j = i
    · rw [e, up_s, updR_a]
    · rw [up_j e, updR_o e]
      exact b3 j h0 (by have := hn j h0 h1; omega)
  · rw [up_r (by decide)]; exact b4
  · rw [up_r (by decide)]; exact b5
  · rw [up_r (by decide)]; exact b6
  · rw [up_r (by decide)]; exact b7
theorem CG.b (h : CG T len lim M0 M t D nq nl nb nn nm) (i x : Int) {nb2 : Int} (hn : ∀ j, 0 ≤ j → j < nb2 → j = i ∨ j < nb) : CG T len lim M0 (up M 38 i x) t (wB D i x) nq nl nb2 nn nm := by
  obtain ⟨a1, a2, a3, a4, a5, b1, b2, b3, b4, b5, b6, b7⟩ := h
  refine ⟨a1.o (Or.inl (by decide)), a2.o (by decide), a3, fun b j hx => ?_, small_cg (up_r (by decide)) a5, ?_, ?_, ?_, fun j h0 h1 => ?_, ?_, ?_, ?_⟩
  · rw [up_b' (by unfold cG at hx; omega)]
    exact a4 b j hx
  · rw [up_r (by decide)]; exact b1
  · rw [up_r (by decide)]; exact b2
  · rw [up_r (by decide)]; exact b3
  · show _ = updR (dB D) i x j
    by_cases e : j = i
    · rw [e, up_s, updR_a]
    · rw [up_j e, updR_o e]
      exact b4 j h0 (by have := hn j h0 h1; omega)
  · rw [up_r (by decide)]; exact b5
  · rw [up_r (by decide)]; exact b6
  · rw [up_r (by decide)]; exact b7
theorem CG.r (h : CG T len lim M0 M t D nq nl nb nn nm) (i x : Int) : CG T len lim M0 (up M 35 i x) t (wR D i x) nq nl nb nn nm := by
  obtain ⟨a1, a2, a3, a4, a5, b1, b2, b3, b4, b5, b6, b7⟩ := h
  refine ⟨a1.o (Or.inl (by decide)), a2.o (by decide), a3, fun b j hx => ?_, small_cg (up_r (by decide)) a5, fun j h0 h1 => ?_, ?_, ?_, ?_, ?_, ?_, ?_⟩
  · rw [up_b' (by unfold cG at hx; omega)]
    exact a4 b j hx
  · show _ = updR (dR D) i x j
    by_cases e : j = i
    · rw [e, up_s, updR_a]
    · rw [up_j e, updR_o e]
      exact b1 j h0 h1
  · rw [up_r (by decide)]; exact b2
  · rw [up_r (by decide)]; exact b3
  · rw [up_r (by decide)]; exact b4
  · rw [up_r (by decide)]; exact b5
  · rw [up_r (by decide)]; exact b6
  · rw [up_r (by decide)]; exact b7
theorem CG.n (h : CG T len lim M0 M t D nq nl nb nn nm) (i : Nat) (w : List Nat) {nn2 : Nat} (hn : ∀ j, j < nn2 → j = i ∨ j < nn) : CG T len lim M0 (up M 39 (i : Int) (nm32 w)) t (wN D i w) nq nl nb nn2 nm := by
  obtain ⟨a1, a2, a3, a4, a5, b1, b2, b3, b4, b5, b6, b7⟩ := h
  refine ⟨a1.o (Or.inl (by decide)), a2.o (by decide), a3, fun b j hx => ?_, small_cg (up_r (by decide)) a5, ?_, ?_, ?_, ?_, fun j h1 => ?_, ?_, ?_⟩
  · rw [up_b' (by unfold cG at hx; omega)]
    exact a4 b j hx
  · rw [up_r (by decide)]; exact b1
  · rw [up_r (by decide)]; exact b2
  · rw [up_r (by decide)]; exact b3
  · rw [up_r (by decide)]; exact b4
  · show _ = nm32 (if j = i then w else dN D j)
    by_cases e : j = i
    · rw [e, up_s, if_pos rfl]
    · rw [up_j (by omega), if_neg e]
      exact b5 j (by have := hn j h1; omega)
  · rw [up_r (by decide)]; exact b6
  · rw [up_r (by decide)]; exact b7
theorem CG.m (h : CG T len lim M0 M t D nq nl nb nn nm) (i : Nat) (w : List Nat) {nm2 : Nat} (hn : ∀ j, j < nm2 → j = i ∨ j < nm) : CG T len lim M0 (up M 40 (i : Int) (nm32 w)) t (wM D i w) nq nl nb nn nm2 := by
  obtain ⟨a1, a2, a3, a4, a5, b1, b2, b3, b4, b5, b6, b7⟩ := h
  refine ⟨a1.o (Or.inl (by decide)), a2.o (by decide), a3, fun b j hx => ?_, small_cg (up_r (by decide)) a5, ?_, ?_, ?_, ?_, ?_, fun j h1 => ?_, ?_⟩
  · rw [up_b' (by unfold cG at hx; omega)]
    exact a4 b j hx
  · rw [up_r (by decide)]; exact b1
  · rw [up_r (by decide)]; exact b2
  · rw [up_r (by decide)]; exact b3
  · rw [up_r (by decide)]; exact b4
  · rw [up_r (by decide)]; exact b5
  · show _ = nm32 (if j = i then w else dM D j)
    by_cases e : j = i
    · rw [e, up_s, if_pos rfl]
    · rw [up_j (by omega), if_neg e]
      exact b6 j (by have := hn j h1; omega)
  · rw [up_r (by decide)]; exact b7
theorem CG.s (h : CG T len lim M0 M t D nq nl nb nn nm) (s : Nat) (x : Int) (hx : x = 8 * (s : Int)) : CG T len lim M0 (up M 34 6 x) t (wS D s) nq nl nb nn nm := by
  obtain ⟨a1, a2, a3, a4, a5, b1, b2, b3, b4, b5, b6, b7⟩ := h
  refine ⟨a1.o (Or.inl (by decide)), a2.o (by decide), a3, fun b j hx => ?_, small_cg (up_r (by decide)) a5, ?_, ?_, ?_, ?_, ?_, ?_, ?_⟩
  · rw [up_b' (by unfold cG at hx; omega)]
    exact a4 b j hx
  · rw [up_r (by decide)]; exact b1
  · rw [up_r (by decide)]; exact b2
  · rw [up_r (by decide)]; exact b3
  · rw [up_r (by decide)]; exact b4
  · rw [up_r (by decide)]; exact b5
  · rw [up_r (by decide)]; exact b6
  · intro _; rw [up_s]; exact hx
theorem CG.bd (h : CG T len lim M0 M t D nq nl nb nn nm) (k : Int) : Bd M0 k (tP t) (up (up M 1 9 k) 1 10 (M 1 6)) := by
  obtain ⟨a1, a2, a3, a4, a5, -⟩ := h
  refine ⟨fun b j hx => ?_, small_cg (by rw [up_r (by decide), up_r (by decide)]) a5, by rw [up_j (by decide), up_s], by rw [up_s]; exact a2.2.1⟩
  rw [up_b' (by unfold cX at hx; omega), up_b' (by unfold cX at hx; omega)]
  exact a4 b j (fun h9 => hx (cG_X h9))
theorem CG.bd' (h : CG T len lim M0 M t D nq nl nb nn nm) (k : Int) (p : Nat) : Bd M0 k p (up (up M 1 9 k) 1 10 (p : Int)) := by
  obtain ⟨a1, a2, a3, a4, a5, -⟩ := h
  refine ⟨fun b j hx => ?_, small_cg (by rw [up_r (by decide), up_r (by decide)]) a5, by rw [up_j (by decide), up_s], by rw [up_s]⟩
  rw [up_b' (by unfold cX at hx; omega), up_b' (by unfold cX at hx; omega)]
  exact a4 b j (fun h9 => hx (cG_X h9))
theorem CG.tk (h : CG T len lim M0 M t D nq nl nb nn nm) : TOK len lim 0 t := h.2.2.1.tk h.1.2.2.1
/-- the TOKEN behind -/
theorem g_adv (h : CG T len lim M0 M t D nq nl nb nn nm) (h1 : 1 ≤ tK t ∧ tK t ≤ 4) (kk : ∀ M', CG T len lim M0 M' (nt T len lim t) D nq nl nb nn nm → Q [] M') : XC (d + 3) 75 [aR 19 0 1] M Q :=
  s_adv h.1 h.2.1 h.2.2.1 h1 (fun M' hA hK => kk M' (h.k hA hK ((h.2.2.1.nt h.1.2.2.1 h1).w (Nat.zero_le _))))
theorem g_isWord (h : CG T len lim M0 M t D nq nl nb nn nm) (w : Int) (hw : 0 ≤ w ∧ w ≤ 16) : XC d 81 [aR 19 0 1, aI w] M Q ↔ Q [aI (if tK t = 1 ∧ tV t = w then 1 else 0)] M :=
  s_isWordX w (tK t) (tV t) hw h.2.1.1 h.tk.1 (fun c => ⟨h.2.1.2.2.1 c, by have := h.tk.2.2.1 c; omega⟩)
/-- NUMBERS of a LEG -/
theorem g_numL (h : CG T len lim M0 M t D nq nl nb nn nm) (i lo hi : Int) (hi0 : 0 ≤ i ∧ i < 49) (hb : (-10 ≤ lo ∧ lo ≤ 10000) ∧ -10 ≤ hi ∧ hi ≤ 10000) {nl2 : Int} (hn : ∀ j, 0 ≤ j → j < nl2 → j = i ∨ j < nl) (kk : CPost (pNum T len lim lo hi t) (fun k p => ∀ M', Bd M0 k p M' → Q [aI 0] M') (fun t' v => ∀ M', CG T len lim M0 M' t' (wL D i v) nq nl2 nb nn nm → Q [aI 1] M')) : XC (d + 4) 83 [aR 19 0 1, aI lo, aI hi, aR 0 49 37, aI i] M Q :=
  s_takeN h.1 h.2.1 h.2.2.1 37 49 i lo hi (Or.inr (Or.inl ⟨rfl, rfl⟩)) hi0 hb (kk.imp (fun k p hk => hk _ (h.bd' k p)) (fun u v e hk M' hA hK => by
    obtain ⟨e1, e2, e3, e4, e5⟩ := pNum_ok e
    have vb := h.tk.2.2.2.2.1 e1
    refine hk M' ((h.l i v (by omega) hn).k hA hK ?_)
    rw [e2]
    exact (h.2.2.1.nt h.1.2.2.1 (by omega)).w (Nat.zero_le _)))
theorem g_numQ (h : CG T len lim M0 M t D nq nl nb nn nm) (i lo hi : Int) (hi0 : 0 ≤ i ∧ i < 24) (hb : (-10 ≤ lo ∧ lo ≤ 10000) ∧ -10 ≤ hi ∧ hi ≤ 10000) {nq2 : Int} (hn : ∀ j, 0 ≤ j → j < nq2 → j = i ∨ j < nq) (kk : CPost (pNum T len lim lo hi t) (fun k p => ∀ M', Bd M0 k p M' → Q [aI 0] M') (fun t' v => ∀ M', CG T len lim M0 M' t' (wQ D i v) nq2 nl nb nn nm → Q [aI 1] M')) : XC (d + 4) 83 [aR 19 0 1, aI lo, aI hi, aR 0 24 36, aI i] M Q :=
  s_takeN h.1 h.2.1 h.2.2.1 36 24 i lo hi (Or.inl ⟨rfl, rfl⟩) hi0 hb (kk.imp (fun k p hk => hk _ (h.bd' k p)) (fun u v e hk M' hA hK => by
    obtain ⟨e1, e2, e3, e4, e5⟩ := pNum_ok e
    refine hk M' ((h.q i v hn).k hA hK ?_)
    rw [e2]
    exact (h.2.2.1.nt h.1.2.2.1 (by omega)).w (Nat.zero_le _)))
theorem g_numB (h : CG T len lim M0 M t D nq nl nb nn nm) (i lo hi : Int) (hi0 : 0 ≤ i ∧ i < 36) (hb : (-10 ≤ lo ∧ lo ≤ 10000) ∧ -10 ≤ hi ∧ hi ≤ 10000) {nb2 : Int} (hn : ∀ j, 0 ≤ j → j < nb2 → j = i ∨ j < nb) (kk : CPost (pNum T len lim lo hi t) (fun k p => ∀ M', Bd M0 k p M' → Q [aI 0] M') (fun t' v => ∀ M', CG T len lim M0 M' t' (wB D i v) nq nl nb2 nn nm → Q [aI 1] M')) : XC (d + 4) 83 [aR 19 0 1, aI lo, aI hi, aR 0 36 38, aI i] M Q :=
  s_takeN h.1 h.2.1 h.2.2.1 38 36 i lo hi (Or.inr (Or.inr (Or.inl ⟨rfl, rfl⟩))) hi0 hb (kk.imp (fun k p hk => hk _ (h.bd' k p)) (fun u v e hk M' hA hK => by
    obtain ⟨e1, e2, e3, e4, e5⟩ := pNum_ok e
    refine hk M' ((h.b i v hn).k hA hK ?_)
    rw [e2]
    exact (h.2.2.1.nt h.1.2.2.1 (by omega)).w (Nat.zero_le _)))
/-- NUMBERS put elsewhere -/
theorem g_numX (h : CG T len lim M0 M t D nq nl nb nn nm) (a n : Nat) (i lo hi : Int) (ha : (a = 41 ∧ n = 240) ∨ (a = 42 ∧ n = 2)) (hi0 : 0 ≤ i ∧ i < (n : Int)) (hb : (-10 ≤ lo ∧ lo ≤ 10000) ∧ -10 ≤ hi ∧ hi ≤ 10000) (kk : CPost (pNum T len lim lo hi t) (fun k p => ∀ M', Bd M0 k p M' → Q [aI 0] M') (fun t' v => ∀ M', AgX kX (up M a i v) M' → CG T len lim M0 M' t' D nq nl nb nn nm → Q [aI 1] M')) : XC (d + 4) 83 [aR 19 0 1, aI lo, aI hi, aR 0 n a, aI i] M Q :=
  s_takeN h.1 h.2.1 h.2.2.1 a n i lo hi (by omega) hi0 hb (kk.imp (fun k p hk => hk _ (h.bd' k p)) (fun u v e hk M' hA hK => by
    obtain ⟨e1, e2, e3, e4, e5⟩ := pNum_ok e
    refine hk M' hA ((h.u (by omega)).k hA hK ?_)
    rw [e2]
    exact (h.2.2.1.nt h.1.2.2.1 (by omega)).w (Nat.zero_le _)))
theorem g_qn (h : CG T len lim M0 M t D nq nl nb nn nm) (hD : ND D) (hn : (dR D 0).toNat ≤ nn) (w : List Nat) (hw : vld w) : XC d 32 [aR 13 0 35, aI (nm32 w)] M Q ↔ Q [aI (qnF D w)] M := by
  obtain ⟨a1, a2, a3, a4, a5, b1, b2, b3, b4, b5, b6, b7⟩ := h
  obtain ⟨d1, d2, d3, d4⟩ := hD
  have g := nn_l (d := d) (M := M) (Q := Q) 35 35 39 32 (by decide) (dN D) (dR D 0).toNat (by omega) (fun _ => by omega) (by rw [if_pos rfl, b1 0 (by decide) (by decide)]; omega) (fun i hi => ⟨b5 i (by omega), (d3 i hi).1, (d3 i hi).2⟩) w hw.1 hw.2 (dR D 0).toNat 0 (by omega)
  unfold qnF fnd
  rw [← g, e_32, k_32_0]
  simp (disch := first | exact nl_i _ | exact nl_r _ | exact Nat.le_of_ble_eq_true rfl | exact Or.inl rfl | exact Or.inr rfl | exact w8_lo _ | exact w8_hi _ | decide | omega) only [v_fall, v_il_0, v_al_0, v_is_0, v_as_0, v_inc_0, v_ll_0, v_ls_0, v_il_1, v_al_1, v_is_1, v_as_1, v_inc_1, v_ll_1, v_ls_1, v_il_2, v_al_2, v_is_2, v_as_2, v_inc_2, v_ll_2, v_ls_2, v_il_3, v_al_3, v_is_3, v_as_3, v_inc_3, v_ll_3, v_ls_3, v_il_4, v_al_4, v_is_4, v_as_4, v_inc_4, v_ll_4, v_ls_4, v_il_5, v_al_5, v_is_5, v_as_5, v_inc_5, v_ll_5, v_ls_5, v_il_6, v_al_6, v_is_6, v_as_6, v_inc_6, v_il_7, v_al_7, v_is_7, v_as_7, v_inc_7, v_il_8, v_al_8, v_is_8, v_as_8, v_inc_8, v_il_9, v_al_9, v_is_9, v_as_9, v_inc_9, v_il_10, v_al_10, v_is_10, v_as_10, v_inc_10, v_il_11, v_al_11, v_is_11, v_as_11, v_inc_11, v_il_12, v_al_12, v_is_12, v_as_12, v_inc_12, v_il_13, v_al_13, v_is_13, v_as_13, v_inc_13, v_c_8, v_c_9, v_c_10, v_c_11, v_c_12, v_c_13, v_c_14, v_b_15, v_b_16, v_b_17, v_b_21, v_b_22, v_b_23, v_b_24, v_b_25, v_b_26, v_b_18, v_b_19, v_b_20, v_b_27, v_b_28, v_b_29, v_b_30, v_b_31, v_dup_i, v_dup_r, v_dup2, v_pop, v_gi, v_gl, v_gr, v_pi, v_pl, v_pz, v_iald, v_lald, v_bald, v_zald, v_aald, v_iast, v_last, v_bast, v_zast, v_alen_0, v_alen_1, v_alen_2, v_alen_3, v_alen_4, v_j_45, v_j_46, v_j_47, v_j_48, v_j_49, v_j_50, v_j_51, v_j_52, v_j_53, v_j_54, v_j_55, v_j_56, v_goto, v_sw, v_ret_i, v_ret_z, v_ret, v_cpy, v_iv_1, v_iv_2, v_iv_3, v_iv_4, v_iv_5, v_iv_6, v_is2_1, v_is2_2, v_is2_3, v_ivJ, List.nil_append, List.cons_append, rf_0_0, rf_0_1, rf_0_2, rf_0_3, rf_0_4, rf_0_5, rf_0_6, rf_0_7, rf_0_8, rf_0_9, rf_1_0, rf_1_2, rf_4_0, rf_4_1, rf_4_2, rf_5_8, rf_5_9, rf_5_10, rf_5_11, rf_5_12, rf_13_0, rf_13_1, rf_14_0, rf_14_1, rf_14_2, rf_15_8, rf_15_9, rf_15_10, rf_15_11, rf_15_12, rf_23_0, rf_23_1, rf_23_2, rf_24_8, rf_24_9, rf_24_10, rf_24_11, rf_24_12, rf_32_6, rf_34_0, rf_34_1, rf_34_2, rf_34_3, rf_35_8, rf_35_9, rf_35_10, rf_35_11, rf_35_12, rf_43_0, rf_43_1, rf_43_2, rf_43_3, rf_45_0, rf_45_1, rf_46_0, rf_46_1, rf_46_2, rf_46_3, rf_46_4, rf_46_5, rf_47_0, rf_47_1, rf_49_0, rf_49_1, rf_49_2, rf_49_3, rf_49_4, rf_49_5, rf_53_0, rf_53_1, rf_53_2, rf_53_3, rf_53_4, rf_53_5, rf_53_6, rf_53_7, rf_53_9, rf_53_10, rf_53_11, rf_53_12, rf_53_13, rf_54_0, rf_54_1, rf_55_1, rf_55_2, rf_55_3, rf_67_1, rf_67_6, rf_67_7, rf_67_8, rf_67_9, rf_67_10, rf_67_22, rf_67_23, rf_67_28, rf_67_30, rf_67_32, rf_67_33, rf_67_38, rf_67_39, rf_67_48, rf_67_49, rf_67_51, rf_67_52, rf_67_53, rf_67_54, rf_67_55, rf_67_60, rf_67_61, rf_67_62, up_s, up_b, up_j, b_32_22, k_32_22, b_32_28, k_32_28, w_sm, ↓if_pos, ↓if_neg,  ]
  exact Iff.rfl
theorem g_bn (h : CG T len lim M0 M t D nq nl nb nn nm) (hD : ND D) (hn : (dR D 2).toNat ≤ nm) (w : List Nat) (hw : vld w) : XC d 33 [aR 13 0 35, aI (nm32 w)] M Q ↔ Q [aI (bnF D w)] M := by
  obtain ⟨a1, a2, a3, a4, a5, b1, b2, b3, b4, b5, b6, b7⟩ := h
  obtain ⟨d1, d2, d3, d4⟩ := hD
  have g := nn_l (d := d) (M := M) (Q := Q) 35 35 40 33 (by decide) (dM D) (dR D 2).toNat (by omega) (fun h9 => absurd h9 (by decide)) (by rw [if_neg (by decide), b1 2 (by decide) (by decide)]; omega) (fun i hi => ⟨b6 i (by omega), (d4 i hi).1, (d4 i hi).2⟩) w hw.1 hw.2 (dR D 2).toNat 0 (by omega)
  unfold bnF fnd
  rw [← g, e_33, k_33_0]
  simp (disch := first | exact nl_i _ | exact nl_r _ | exact Nat.le_of_ble_eq_true rfl | exact Or.inl rfl | exact Or.inr rfl | exact w8_lo _ | exact w8_hi _ | decide | omega) only [v_fall, v_il_0, v_al_0, v_is_0, v_as_0, v_inc_0, v_ll_0, v_ls_0, v_il_1, v_al_1, v_is_1, v_as_1, v_inc_1, v_ll_1, v_ls_1, v_il_2, v_al_2, v_is_2, v_as_2, v_inc_2, v_ll_2, v_ls_2, v_il_3, v_al_3, v_is_3, v_as_3, v_inc_3, v_ll_3, v_ls_3, v_il_4, v_al_4, v_is_4, v_as_4, v_inc_4, v_ll_4, v_ls_4, v_il_5, v_al_5, v_is_5, v_as_5, v_inc_5, v_ll_5, v_ls_5, v_il_6, v_al_6, v_is_6, v_as_6, v_inc_6, v_il_7, v_al_7, v_is_7, v_as_7, v_inc_7, v_il_8, v_al_8, v_is_8, v_as_8, v_inc_8, v_il_9, v_al_9, v_is_9, v_as_9, v_inc_9, v_il_10, v_al_10, v_is_10, v_as_10, v_inc_10, v_il_11, v_al_11, v_is_11, v_as_11, v_inc_11, v_il_12, v_al_12, v_is_12, v_as_12, v_inc_12, v_il_13, v_al_13, v_is_13, v_as_13, v_inc_13, v_c_8, v_c_9, v_c_10, v_c_11, v_c_12, v_c_13, v_c_14, v_b_15, v_b_16, v_b_17, v_b_21, v_b_22, v_b_23, v_b_24, v_b_25, v_b_26, v_b_18, v_b_19, v_b_20, v_b_27, v_b_28, v_b_29, v_b_30, v_b_31, v_dup_i, v_dup_r, v_dup2, v_pop, v_gi, v_gl, v_gr, v_pi, v_pl, v_pz, v_iald, v_lald, v_bald, v_zald, v_aald, v_iast, v_last, v_bast, v_zast, v_alen_0, v_alen_1, v_alen_2, v_alen_3, v_alen_4, v_j_45, v_j_46, v_j_47, v_j_48, v_j_49, v_j_50, v_j_51, v_j_52, v_j_53, v_j_54, v_j_55, v_j_56, v_goto, v_sw, v_ret_i, v_ret_z, v_ret, v_cpy, v_iv_1, v_iv_2, v_iv_3, v_iv_4, v_iv_5, v_iv_6, v_is2_1, v_is2_2, v_is2_3, v_ivJ, List.nil_append, List.cons_append, rf_0_0, rf_0_1, rf_0_2, rf_0_3, rf_0_4, rf_0_5, rf_0_6, rf_0_7, rf_0_8, rf_0_9, rf_1_0, rf_1_2, rf_4_0, rf_4_1, rf_4_2, rf_5_8, rf_5_9, rf_5_10, rf_5_11, rf_5_12, rf_13_0, rf_13_1, rf_14_0, rf_14_1, rf_14_2, rf_15_8, rf_15_9, rf_15_10, rf_15_11, rf_15_12, rf_23_0, rf_23_1, rf_23_2, rf_24_8, rf_24_9, rf_24_10, rf_24_11, rf_24_12, rf_32_6, rf_34_0, rf_34_1, rf_34_2, rf_34_3, rf_35_8, rf_35_9, rf_35_10, rf_35_11, rf_35_12, rf_43_0, rf_43_1, rf_43_2, rf_43_3, rf_45_0, rf_45_1, rf_46_0, rf_46_1, rf_46_2, rf_46_3, rf_46_4, rf_46_5, rf_47_0, rf_47_1, rf_49_0, rf_49_1, rf_49_2, rf_49_3, rf_49_4, rf_49_5, rf_53_0, rf_53_1, rf_53_2, rf_53_3, rf_53_4, rf_53_5, rf_53_6, rf_53_7, rf_53_9, rf_53_10, rf_53_11, rf_53_12, rf_53_13, rf_54_0, rf_54_1, rf_55_1, rf_55_2, rf_55_3, rf_67_1, rf_67_6, rf_67_7, rf_67_8, rf_67_9, rf_67_10, rf_67_22, rf_67_23, rf_67_28, rf_67_30, rf_67_32, rf_67_33, rf_67_38, rf_67_39, rf_67_48, rf_67_49, rf_67_51, rf_67_52, rf_67_53, rf_67_54, rf_67_55, rf_67_60, rf_67_61, rf_67_62, up_s, up_b, up_j, b_33_22, k_33_22, b_33_28, k_33_28, w_sm, ↓if_pos, ↓if_neg,  ]
  exact Iff.rfl
theorem qnF_b {w : List Nat} (hD : ND D) : -1 ≤ qnF D w ∧ qnF D w < dR D 0 := by
  unfold qnF
  have := hD.1
  rcases fnd_sp (F := dN D) (w := w) (n := (dR D 0).toNat) with ⟨h9, _⟩ | ⟨i, h9, h8, _⟩ <;> omega
theorem bnF_b {w : List Nat} (hD : ND D) : -1 ≤ bnF D w ∧ bnF D w < dR D 2 := by
  unfold bnF
  have := hD.2.1
  rcases fnd_sp (F := dM D) (w := w) (n := (dR D 2).toNat) with ⟨h9, _⟩ | ⟨i, h9, h8, _⟩ <;> omega
end XG
