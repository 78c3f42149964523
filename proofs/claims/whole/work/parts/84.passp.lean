/-! PASSES: divisions of rows, both ways of looking for the best one -/
def wIn (c k W : Nat → Int) (t : Int) : Nat → Int → Int → Int
  | 0, _, a => a
  | f + 1, m, a => if t < m + c f then a else wIn c k W t f (m + c f) (if W f + 100 + (if f = 0 then 0 else k f) < a then W f + 100 + (if f = 0 then 0 else k f) else a)
def wTab (c k : Nat → Int) (t : Int) : Nat → Nat → Int
  | 0, _ => 0
  | e + 1, j => if j = e + 1 then wIn c k (wTab c k t e) t (e + 1) 0 500000000 else wTab c k t e j
def lxm (a b : Int × Int) : Int × Int := if a.1 < b.1 ∨ a.1 = b.1 ∧ a.2 ≤ b.2 then a else b
def rIn (c k : Nat → Int) (T : Nat → Int × Int) (t : Int) : Nat → Int → Int × Int → Int × Int
  | 0, _, a => a
  | f + 1, m, a => rIn c k T t f (m + c f) (if t < m + c f ∨ 100000000 ≤ (T f).1 then a else lxm a ((T f).1 + (if 0 < m + c f then 1 else 0), (T f).2 + (if f = 0 then 0 else k f)))
def rTab (c k : Nat → Int) (t : Int) : Nat → Nat → Int × Int
  | 0, _ => (0, 0)
  | e + 1, j => if j = e + 1 then rIn c k (rTab c k t e) t (e + 1) 0 (100000000, 0) else rTab c k t e j
theorem wTab_s {c k : Nat → Int} {t : Int} {j : Nat} : ∀ {e : Nat}, j ≤ e → wTab c k t e j = wTab c k t j j
  | 0, h => by rw [show j = 0 by omega]
  | e + 1, h => by
    by_cases he : j = e + 1
    · rw [he]
    · rw [show wTab c k t (e + 1) j = wTab c k t e j from if_neg he]
      exact wTab_s (by omega)
theorem rTab_s {c k : Nat → Int} {t : Int} {j : Nat} : ∀ {e : Nat}, j ≤ e → rTab c k t e j = rTab c k t j j
  | 0, h => by rw [show j = 0 by omega]
  | e + 1, h => by
    by_cases he : j = e + 1
    · rw [he]
    · rw [show rTab c k t (e + 1) j = rTab c k t e j from if_neg he]
      exact rTab_s (by omega)
/-- two ways of telling times and KNOTS -/
def paA (e : Nat) (w : Int) (p : Int × Int) : Prop := (w = 500000000 ∧ p = (100000000, 0)) ∨ (w = 100 * p.1 + p.2 ∧ (1 ≤ p.1 ∧ p.1 ≤ (e : Int)) ∧ 0 ≤ p.2 ∧ p.2 ≤ 4 * (e : Int))
def paR (c : Nat → Int) (e : Nat) (w : Int) (p : Int × Int) : Prop := (e = 0 ∧ w = 0 ∧ p = (0, 0)) ∨ (1 ≤ e ∧ (∀ r, r < e → c r = 0) ∧ w = 100 ∧ p = (0, 0)) ∨ (1 ≤ e ∧ (¬ ∀ r, r < e → c r = 0) ∧ paA e w p)
theorem paA_m {e g : Nat} {w : Int} {p : Int × Int} (h : paA g w p) (hg : g ≤ e) : paA e w p := by
  rcases h with h | ⟨h1, h2, h3, h4⟩
  · exact Or.inl h
  · exact Or.inr ⟨h1, ⟨h2.1, by omega⟩, h3, by omega⟩
theorem rIn_big {c k : Nat → Int} {T : Nat → Int × Int} {t : Int} (hc : ∀ r, 0 ≤ c r) : ∀ (f : Nat) (m : Int) (a : Int × Int), t < m → rIn c k T t f m a = a
  | 0, _, _, _ => rfl
  | f + 1, m, a, h => by
    have := hc f
    unfold rIn
    rw [if_pos (Or.inl (by omega))]
    exact rIn_big hc f _ a (by omega)
theorem lxm_A {e : Nat} (he : e ≤ 6) {aW : Int} {aT : Int × Int} (h : paA e aW aT) {x y : Int} (hx : 1 ≤ x ∧ x ≤ (e : Int)) (hy : 0 ≤ y ∧ y ≤ 4 * (e : Int)) : paA e (if 100 * x + y < aW then 100 * x + y else aW) (lxm aT (x, y)) := by
  unfold lxm
  rcases h with ⟨h1, h2⟩ | ⟨h1, h2, h3, h4⟩
  · rw [h1, h2, if_pos (by omega), if_neg (by show ¬ ((100000000 : Int) < x ∨ (100000000 : Int) = x ∧ (0 : Int) ≤ y); omega)]
    exact Or.inr ⟨rfl, hx, hy⟩
  · by_cases c : 100 * x + y < aW
    · rw [if_pos c, if_neg (by show ¬ (aT.1 < x ∨ aT.1 = x ∧ aT.2 ≤ y); omega)]
      exact Or.inr ⟨rfl, hx, hy⟩
    · rw [if_neg c, if_pos (by show aT.1 < x ∨ aT.1 = x ∧ aT.2 ≤ y; omega)]
      exact Or.inr ⟨h1, h2, h3, h4⟩
/-- a walk from a row that is not empty -/
theorem pa_lock {c k W : Nat → Int} {T : Nat → Int × Int} {t : Int} {e : Nat} (he : e + 1 ≤ 6) (hc : ∀ r, 0 ≤ c r) (hk : ∀ r, 0 ≤ k r ∧ k r ≤ 4) (hk0 : ∀ r, c r = 0 → k (r + 1) = 0) (hR : ∀ g, g ≤ e → paR c g (W g) (T g)) : ∀ (f : Nat) (m aW : Int) (aT : Int × Int), f ≤ e + 1 → (0 < m ∨ (m = 0 ∧ f = e + 1 ∧ 0 < c e)) → (paA (e + 1) aW aT ∨ (1 ≤ f ∧ aT = (1, 0) ∧ (100 ≤ aW ∧ aW ≤ 200) ∧ m ≤ t ∧ ∀ r, r < f → c r = 0)) → paA (e + 1) (wIn c k W t f m aW) (rIn c k T t f m aT)
  | 0, m, aW, aT, _, _, hI => by
    rcases hI with h | h
    · exact h
    · exact absurd h.1 (by decide)
  | g + 1, m, aW, aT, hf, hm, hI => by
    have hcg := hc g
    have hkg := hk g
    have hm1 : 0 < m + c g := by
      rcases hm with h | ⟨h1, h2, h3⟩
      · omega
      · rw [show g = e by omega]; omega
    have hRg := hR g (by omega)
    have ih := pa_lock (t := t) he hc hk hk0 hR g (m + c g)
    unfold wIn rIn
    by_cases hb : t < m + c g
    · rw [if_pos hb, if_pos (Or.inl hb), rIn_big hc g _ _ hb]
      rcases hI with h | ⟨h1, h2, h3, h4, h5⟩
      · exact h
      · have := h5 g (by omega)
        omega
    · rw [if_neg hb, if_pos hm1]
      rcases hI with h | ⟨h1, h2, h3, h4, h5⟩
      · rcases hRg with ⟨r1, r2, r3⟩ | ⟨r1, r2, r3, r4⟩ | ⟨r1, r2, r3⟩
        · -- from the front
          refine ih _ _ (by omega) (Or.inl hm1) (Or.inl ?_)
          rw [r2, r3, if_pos r1, if_neg (show ¬ (t < m + c g ∨ (100000000 : Int) ≤ ((0 : Int), (0 : Int)).1) from fun h9 => h9.elim hb (by decide))]
          exact lxm_A he h (x := 1) (y := 0) (by omega) (by omega)
        · -- behind empty rows
          have k0 : k g = 0 := by
            have := hk0 (g - 1) (r2 (g - 1) (by omega))
            rw [show g - 1 + 1 = g by omega] at this
            exact this
          refine ih _ _ (by omega) (Or.inl hm1) (Or.inr ⟨r1, ?_, ?_, by omega, r2⟩)
          · rw [r4, if_neg (show ¬ g = 0 by omega), k0, if_neg (show ¬ (t < m + c g ∨ (100000000 : Int) ≤ ((0 : Int), (0 : Int)).1) from fun h9 => h9.elim hb (by decide))]
            show lxm aT (1, 0) = (1, 0)
            unfold lxm
            rcases h with ⟨h1, h2⟩ | ⟨h1, h2, h3, h4⟩
            · rw [h2, if_neg (by decide)]
            · by_cases c9 : aT.1 < (1 : Int) ∨ aT.1 = (1 : Int) ∧ aT.2 ≤ (0 : Int)
              · rw [if_pos c9]
                exact Prod.ext (by show aT.1 = 1; omega) (by show aT.2 = 0; omega)
              · rw [if_neg c9]
          · rw [r3, if_neg (show ¬ g = 0 by omega), k0]
            rcases h with ⟨h1, h2⟩ | ⟨h1, h2, h3, h4⟩
            · rw [if_pos (by omega)]; omega
            · by_cases c9 : (100 : Int) + 100 + 0 < aW
              · rw [if_pos c9]; omega
              · rw [if_neg c9]; omega
        · -- behind others
          refine ih _ _ (by omega) (Or.inl hm1) (Or.inl ?_)
          rw [if_neg (show ¬ g = 0 by omega)]
          rcases r3 with ⟨q1, q2⟩ | ⟨q1, q2, q3, q4⟩
          · rw [q1, q2, if_pos (show (t < m + c g ∨ (100000000 : Int) ≤ ((100000000 : Int), (0 : Int)).1) from Or.inr (by decide))]
            rw [if_neg (by
              rcases h with ⟨h1, _⟩ | ⟨h1, h2, h3, h4⟩ <;> omega)]
            exact h
          · rw [q1, if_neg (show ¬ (t < m + c g ∨ 100000000 ≤ (T g).1) from fun h9 => h9.elim hb (by omega))]
            have := lxm_A he h (x := (T g).1 + 1) (y := (T g).2 + k g) (by omega) (by omega)
            rw [show 100 * (T g).1 + (T g).2 + 100 + k g = 100 * ((T g).1 + 1) + ((T g).2 + k g) by omega]
            exact this
      · have cg := h5 g (by omega)
        rcases hRg with ⟨r1, r2, r3⟩ | ⟨r1, r2, r3, r4⟩ | ⟨r1, r2, r3⟩
        · refine ih _ _ (by omega) (Or.inl hm1) (Or.inl ?_)
          rw [r2, r3, if_pos r1, h2, if_neg (show ¬ (t < m + c g ∨ (100000000 : Int) ≤ ((0 : Int), (0 : Int)).1) from fun h9 => h9.elim hb (by decide))]
          have e1 : (if (0 : Int) + 100 + 0 < aW then (0 : Int) + 100 + 0 else aW) = 100 := by
            by_cases c9 : (0 : Int) + 100 + 0 < aW
            · rw [if_pos c9]; rfl
            · rw [if_neg c9]; omega
          rw [e1]
          exact Or.inr ⟨rfl, ⟨by decide, by show (1 : Int) ≤ _; omega⟩, by decide, by show (0 : Int) ≤ _; omega⟩
        · have k0 : k g = 0 := by
            have := hk0 (g - 1) (r2 (g - 1) (by omega))
            rw [show g - 1 + 1 = g by omega] at this
            exact this
          refine ih _ _ (by omega) (Or.inl hm1) (Or.inr ⟨r1, ?_, ?_, by omega, r2⟩)
          · rw [r4, if_neg (show ¬ g = 0 by omega), k0, h2, if_neg (show ¬ (t < m + c g ∨ (100000000 : Int) ≤ ((0 : Int), (0 : Int)).1) from fun h9 => h9.elim hb (by decide))]
            rfl
          · rw [r3, if_neg (show ¬ g = 0 by omega), k0]
            by_cases c9 : (100 : Int) + 100 + 0 < aW
            · rw [if_pos c9]; omega
            · rw [if_neg c9]; omega
        · exact absurd (fun r hr => h5 r (by omega)) r2
theorem wIn_min {c k W : Nat → Int} {t : Int} : ∀ (f : Nat) (m a x : Int), wIn c k W t f m (if x < a then x else a) = (if x < wIn c k W t f m a then x else wIn c k W t f m a)
  | 0, _, _, _ => rfl
  | f + 1, m, a, x => by
    unfold wIn
    by_cases hb : t < m + c f
    · rw [if_pos hb, if_pos hb]
    · rw [if_neg hb, if_neg hb]
      generalize W f + 100 + (if f = 0 then 0 else k f) = z
      rw [← wIn_min f]
      congr 1
      by_cases h1 : x < a
      · rw [if_pos h1]
        by_cases h2 : z < a
        · rw [if_pos h2]
          by_cases h3 : z < x
          · rw [if_pos h3, if_neg (by omega)]
          · rw [if_neg h3]
            by_cases h4 : x < z
            · rw [if_pos h4]
            · rw [if_neg h4]; omega
        · rw [if_neg h2, if_neg (by omega), if_pos h1]
      · rw [if_neg h1]
        by_cases h2 : z < a
        · rw [if_pos h2, if_neg (by omega)]
        · rw [if_neg h2, if_neg h1]
theorem lxm_c {a x z : Int × Int} : lxm (lxm a x) z = lxm (lxm a z) x := by
  obtain ⟨a1, a2⟩ := a
  obtain ⟨x1, x2⟩ := x
  obtain ⟨z1, z2⟩ := z
  unfold lxm
  by_cases h1 : a1 < x1 ∨ a1 = x1 ∧ a2 ≤ x2
  · by_cases h2 : a1 < z1 ∨ a1 = z1 ∧ a2 ≤ z2
    · simp only [if_pos h1, if_pos h2]
    · simp only [if_pos h1, if_neg h2]
      rw [if_pos (by show z1 < x1 ∨ z1 = x1 ∧ z2 ≤ x2; omega)]
  · by_cases h2 : a1 < z1 ∨ a1 = z1 ∧ a2 ≤ z2
    · simp only [if_neg h1, if_pos h2]
      rw [if_pos (by show x1 < z1 ∨ x1 = z1 ∧ x2 ≤ z2; omega)]
    · simp only [if_neg h1, if_neg h2]
      by_cases h3 : x1 < z1 ∨ x1 = z1 ∧ x2 ≤ z2
      · rw [if_pos h3]
        by_cases h4 : z1 < x1 ∨ z1 = x1 ∧ z2 ≤ x2
        · rw [if_pos h4]
          exact Prod.ext (by show x1 = z1; omega) (by show x2 = z2; omega)
        · rw [if_neg h4]
      · rw [if_neg h3, if_pos (by show z1 < x1 ∨ z1 = x1 ∧ z2 ≤ x2; omega)]
theorem lxm_i {a : Int × Int} : lxm a a = a := by
  unfold lxm
  rw [if_pos (Or.inr ⟨rfl, Int.le_refl _⟩)]
theorem rIn_min {c k : Nat → Int} {T : Nat → Int × Int} {t : Int} : ∀ (f : Nat) (m : Int) (a x : Int × Int), rIn c k T t f m (lxm a x) = lxm (rIn c k T t f m a) x
  | 0, _, _, _ => rfl
  | f + 1, m, a, x => by
    unfold rIn
    by_cases hb : t < m + c f ∨ 100000000 ≤ (T f).1
    · rw [if_pos hb, if_pos hb]
      exact rIn_min f _ a x
    · rw [if_neg hb, if_neg hb, lxm_c]
      exact rIn_min f _ _ x
theorem wIn_cg {c k W W2 : Nat → Int} {t : Int} : ∀ (f : Nat) (m a : Int), (∀ g, g < f → W g = W2 g) → wIn c k W t f m a = wIn c k W2 t f m a
  | 0, _, _, _ => rfl
  | f + 1, m, a, h => by
    unfold wIn
    rw [h f (by omega), wIn_cg f _ _ (fun g hg => h g (by omega))]
theorem rIn_cg {c k : Nat → Int} {T T2 : Nat → Int × Int} {t : Int} : ∀ (f : Nat) (m : Int) (a : Int × Int), (∀ g, g < f → T g = T2 g) → rIn c k T t f m a = rIn c k T2 t f m a
  | 0, _, _, _ => rfl
  | f + 1, m, a, h => by
    unfold rIn
    rw [h f (by omega), rIn_cg f _ _ (fun g hg => h g (by omega))]
theorem wTab_0 {c k : Nat → Int} {t : Int} {e : Nat} : wTab c k t (e + 1) (e + 1) = wIn c k (wTab c k t e) t (e + 1) 0 500000000 := if_pos rfl
theorem rTab_0 {c k : Nat → Int} {t : Int} {e : Nat} : rTab c k t (e + 1) (e + 1) = rIn c k (rTab c k t e) t (e + 1) 0 (100000000, 0) := if_pos rfl
theorem paR_le {c : Nat → Int} {e : Nat} {w : Int} {p : Int × Int} (he : e ≤ 6) (h : paR c e w p) : 0 ≤ w ∧ w ≤ 500000000 ∧ (p.1 ≤ 100000000) := by
  rcases h with ⟨_, h1, h2⟩ | ⟨_, _, h1, h2⟩ | ⟨_, _, ⟨h1, h2⟩ | ⟨h1, h2, h3, h4⟩⟩
  · rw [h1, h2]; decide
  · rw [h1, h2]; decide
  · rw [h1, h2]; decide
  · omega
theorem pa_all {c k : Nat → Int} {t : Int} (ht : 0 ≤ t) (hc : ∀ r, 0 ≤ c r) (hk : ∀ r, 0 ≤ k r ∧ k r ≤ 4) (hk0 : ∀ r, c r = 0 → k (r + 1) = 0) (hk1 : ∀ r, c r = 0 → k r = 0) : ∀ (e : Nat), e ≤ 6 → paR c e (wTab c k t e e) (rTab c k t e e) := by
  intro e
  induction e using Nat.strongRecOn with
  | ind e ih =>
    intro he
    match e, ih, he with
    | 0, _, _ => exact Or.inl ⟨rfl, rfl, rfl⟩
    | e + 1, ih, he =>
      have hR : ∀ g, g ≤ e → paR c g (wTab c k t e g) (rTab c k t e g) := fun g hg => by
        rw [wTab_s hg, rTab_s hg]
        exact ih g (by omega) (by omega)
      rw [wTab_0, rTab_0]
      by_cases hce : c e = 0
      · unfold wIn rIn
        rw [hce, if_neg (by omega), if_neg (show ¬ (0 : Int) < 0 + 0 by decide)]
        have ke := hk1 e hce
        have kk : (if e = 0 then 0 else k e) = 0 := by
          by_cases h : e = 0
          · rw [if_pos h]
          · rw [if_neg h]; exact ke
        rw [kk]
        have hRe := hR e (Nat.le_refl e)
        match e, hRe, hR, hce, ih, he with
        | 0, hRe, _, hce, _, _ =>
          refine Or.inr (Or.inl ⟨by omega, fun r hr => by rw [show r = 0 by omega]; exact hce, rfl, ?_⟩)
          unfold rIn
          rw [if_neg (show ¬ (t < 0 + 0 ∨ (100000000 : Int) ≤ (rTab c k t 0 0).1) from fun h => h.elim (by omega) (by show ¬ (100000000 : Int) ≤ 0; decide))]
          rfl
        | e + 1, hRe, hR, hce, ih, he =>
          have w1 : wIn c k (wTab c k t (e + 1)) t (e + 1) (0 + 0) 500000000 = wTab c k t (e + 1) (e + 1) := by
            rw [wTab_0, show (0 : Int) + 0 = 0 from rfl]
            exact wIn_cg _ _ _ (fun g hg => if_neg (by omega))
          have r1 : rIn c k (rTab c k t (e + 1)) t (e + 1) (0 + 0) (100000000, 0) = rTab c k t (e + 1) (e + 1) := by
            rw [rTab_0, show (0 : Int) + 0 = 0 from rfl]
            exact rIn_cg _ _ _ (fun g hg => if_neg (by omega))
          have eW : wIn c k (wTab c k t (e + 1)) t (e + 1) (0 + 0) (if wTab c k t (e + 1) (e + 1) + 100 + 0 < 500000000 then wTab c k t (e + 1) (e + 1) + 100 + 0 else 500000000) = wTab c k t (e + 1) (e + 1) := by
            rw [wIn_min, w1, if_neg (by omega)]
          have eT : rIn c k (rTab c k t (e + 1)) t (e + 1) (0 + 0) (if t < 0 + 0 ∨ 100000000 ≤ (rTab c k t (e + 1) (e + 1)).1 then (100000000, 0) else lxm (100000000, 0) ((rTab c k t (e + 1) (e + 1)).1 + 0, (rTab c k t (e + 1) (e + 1)).2 + 0)) = rTab c k t (e + 1) (e + 1) := by
            by_cases h : t < 0 + 0 ∨ 100000000 ≤ (rTab c k t (e + 1) (e + 1)).1
            · rw [if_pos h, r1]
            · rw [if_neg h, rIn_min, r1, Int.add_zero, Int.add_zero]
              exact lxm_i
          rw [eW, eT]
          generalize wTab c k t (e + 1) (e + 1) = w9 at hRe
          generalize rTab c k t (e + 1) (e + 1) = p9 at hRe
          rcases hRe with ⟨h1, _⟩ | ⟨h1, h2, h3, h4⟩ | ⟨h1, h2, h3⟩
          · exact absurd h1 (by omega)
          · refine Or.inr (Or.inl ⟨by omega, fun r hr => ?_, h3, h4⟩)
            by_cases hr2 : r = e + 1
            · rw [hr2]; exact hce
            · exact h2 r (by omega)
          · exact Or.inr (Or.inr ⟨by omega, fun h9 => h2 (fun r hr => h9 r (by omega)), paA_m h3 (by omega)⟩)
      · have h0 := hc e
        refine Or.inr (Or.inr ⟨by omega, fun h9 => hce (h9 e (by omega)), ?_⟩)
        exact pa_lock he hc hk hk0 hR (e + 1) 0 500000000 (100000000, 0) (by omega) (Or.inr ⟨rfl, rfl, by omega⟩) (Or.inl (Or.inl ⟨rfl, rfl⟩))
