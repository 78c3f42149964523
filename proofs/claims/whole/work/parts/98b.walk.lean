/-! BEST, pure: what may be done at a STOP, the least minutes -/
section WK
variable (m n : Nat) (cm lv : Nat → Int) (st : Int) (tk : Nat → Nat → Int)
def Jc (c : Nat) : Prop := vcd m n c ∧ ∀ i, i < m → (cm i < st ∧ st < lv i → dg c i ≠ 0) ∧ (dg c i ≠ 0 → cm i ≤ st ∧ st ≤ lv i)
/-- one BARGE comes on, off or about -/
def edI (i u v : Nat) (k : Int) : Prop :=
  (dg u i = 0 ∧ cm i = st ∧ ∃ c, c < n ∧ occ u c = 4 ∧ v = adc u i c ∧ k = tk v c) ∨
  (∃ j, dg u i = j + 1 ∧ ((lv i = st ∧ v = rmc u i ∧ k = tk u j) ∨ (∃ c, c < n ∧ c ≠ j ∧ occ u c = 4 ∧ v = adc (rmc u i) i c ∧ k = tk u j + tk v c)))
def Wk (A : Nat → Int) (c : Nat) (x : Int) : Prop := ∀ P : Nat → Int → Prop, (∀ c, A c < 100000000 → P c (A c)) → (∀ i u v x k, i < m → P u x → edI n cm lv st tk i u v k → P v (x + k)) → P c x
noncomputable def dsV (A : Nat → Int) (c : Nat) : Int := @dite Int (∃ y, Wk m n cm lv st tk A c y ∧ ∀ x, Wk m n cm lv st tk A c x → y ≤ x) (Classical.propDecidable _) (fun h => Classical.choose h) (fun _ => 100000000)
end WK
section WL
variable {m n : Nat} {cm lv : Nat → Int} {st : Int} {tk : Nat → Nat → Int} {A : Nat → Int}
theorem Wk.i {c : Nat} (h : A c < 100000000) : Wk m n cm lv st tk A c (A c) := fun _ h1 _ => h1 c h
theorem Wk.s {i u v : Nat} {x k : Int} (h : Wk m n cm lv st tk A u x) (hi : i < m) (he : edI n cm lv st tk i u v k) : Wk m n cm lv st tk A v (x + k) := fun P h1 h2 => h2 i u v x k hi (h P h1 h2) he
theorem Wk.ind {P : Nat → Int → Prop} (h1 : ∀ c, A c < 100000000 → P c (A c)) (h2 : ∀ i u v x k, i < m → Wk m n cm lv st tk A u x → P u x → edI n cm lv st tk i u v k → P v (x + k)) {c : Nat} {x : Int} (h : Wk m n cm lv st tk A c x) : P c x :=
  (h (fun c x => Wk m n cm lv st tk A c x ∧ P c x) (fun c hc => ⟨Wk.i hc, h1 c hc⟩) (fun i u v x k hi hu he => ⟨hu.1.s hi he, h2 i u v x k hi hu.1 hu.2 he⟩)).2
/-- what is asked of the start and of the costs -/
def okW (m n : Nat) (cm lv : Nat → Int) (st : Int) (tk : Nat → Nat → Int) (A : Nat → Int) : Prop := m ≤ 4 ∧ n ≤ 6 ∧ (∀ i, i < m → cm i < lv i) ∧ (∀ c k, 0 ≤ tk c k ∧ tk c k ≤ 2000) ∧ ∀ c, A c < 100000000 → 0 ≤ A c ∧ Jc m n cm lv st c
theorem edI_J (hO : okW m n cm lv st tk A) {i u v : Nat} {k : Int} (hi : i < m) (hu : Jc m n cm lv st u) (he : edI n cm lv st tk i u v k) : Jc m n cm lv st v ∧ 0 ≤ k ∧ k ≤ 4000 := by
  obtain ⟨o1, o2, o3, o4, -⟩ := hO
  obtain ⟨v1, v2⟩ := hu
  have i4 : i < 4 := by omega
  have lt := o3 i hi
  rcases he with ⟨h1, h2, c, c1, c2, rfl, rfl⟩ | ⟨j, h1, ⟨h2, rfl, rfl⟩ | ⟨c, c1, c2, c3, rfl, rfl⟩⟩
  · obtain ⟨d1, d2⟩ := dg_adc i4 h1 (show c < 7 by omega)
    have t := o4 (adc u i c) c
    refine ⟨⟨vcd_ad v1 i4 hi h1 c1 o2 c2, fun j hj => ?_⟩, by omega, by omega⟩
    by_cases e : j = i
    · rw [e, d1]
      exact ⟨fun _ => by omega, fun _ => by omega⟩
    · rw [d2 j (by omega) e]; exact v2 j hj
  · obtain ⟨d1, d2⟩ := dg_rmc (c := u) i4
    have t := o4 u j
    refine ⟨⟨vcd_rm v1 i4, fun j hj => ?_⟩, by omega, by omega⟩
    by_cases e : j = i
    · rw [e, d1]
      exact ⟨fun h => by omega, fun h => absurd rfl h⟩
    · rw [d2 j (by omega) e]; exact v2 j hj
  · obtain ⟨d1, d2⟩ := dg_rmc (c := u) i4
    have f2 : occ (rmc u i) c = 4 := by rw [occ_rm v1 i4 h1, if_neg c2]; exact c3
    obtain ⟨d3, d4⟩ := dg_adc i4 d1 (show c < 7 by omega)
    have t := o4 u j
    have t2 := o4 (adc (rmc u i) i c) c
    refine ⟨⟨vcd_ad (vcd_rm v1 i4) i4 hi d1 c1 o2 f2, fun j2 hj => ?_⟩, by omega, by omega⟩
    by_cases e : j2 = i
    · rw [e, d3]
      have := v2 i hi
      exact ⟨fun _ => by omega, fun _ => this.2 (by omega)⟩
    · rw [d4 j2 (by omega) e, d2 j2 (by omega) e]; exact v2 j2 hj
theorem Wk.J (hO : okW m n cm lv st tk A) {c : Nat} {x : Int} (h : Wk m n cm lv st tk A c x) : Jc m n cm lv st c ∧ 0 ≤ x :=
  Wk.ind (P := fun c x => Jc m n cm lv st c ∧ 0 ≤ x) (fun c hc => ⟨(hO.2.2.2.2 c hc).2, (hO.2.2.2.2 c hc).1⟩) (fun i u v x k hi _ hu he => by
    have := edI_J hO hi hu.1 he
    exact ⟨this.1, by omega⟩) h
theorem Wk.min (hO : okW m n cm lv st tk A) {c : Nat} : ∀ (t : Nat) (x : Int), x.toNat ≤ t → Wk m n cm lv st tk A c x → ∃ y, Wk m n cm lv st tk A c y ∧ ∀ x, Wk m n cm lv st tk A c x → y ≤ x
  | 0, x, ht, h => ⟨x, h, fun y hy => by
    have h1 := (h.J hO).2
    have h2 := (hy.J hO).2
    omega⟩
  | t + 1, x, ht, h => by
    by_cases hx : ∃ y, Wk m n cm lv st tk A c y ∧ y < x
    · obtain ⟨y, hy, hlt⟩ := hx
      have h2 := (hy.J hO).2
      exact Wk.min hO t y (by omega) hy
    · refine ⟨x, h, fun y hy => ?_⟩
      apply Classical.byContradiction
      intro h9
      exact hx ⟨y, hy, by omega⟩
theorem dsV_y (hO : okW m n cm lv st tk A) {c : Nat} {x : Int} (h : Wk m n cm lv st tk A c x) : Wk m n cm lv st tk A c (dsV m n cm lv st tk A c) ∧ dsV m n cm lv st tk A c ≤ x := by
  have hE := Wk.min hO x.toNat x (Nat.le_refl _) h
  have e : dsV m n cm lv st tk A c = Classical.choose hE := dif_pos hE
  have s := Classical.choose_spec hE
  rw [e]
  exact ⟨s.1, s.2 x h⟩
theorem dsV_n {c : Nat} (h : ∀ x, ¬ Wk m n cm lv st tk A c x) : dsV m n cm lv st tk A c = 100000000 := dif_neg (fun ⟨y, hy, _⟩ => h y hy)
/-- how far it may be -/
def Rs (m n : Nat) (cm lv : Nat → Int) (st : Int) (tk : Nat → Nat → Int) (A : Nat → Int) (X : Int) (j c : Nat) : Prop := ∃ y, Wk m n cm lv st tk A c y ∧ y ≤ X + (j : Int) * 4000
noncomputable def rb (m n : Nat) (cm lv : Nat → Int) (st : Int) (tk : Nat → Nat → Int) (A : Nat → Int) (X : Int) (j c : Nat) : Bool := @decide (Rs m n cm lv st tk A X j c) (Classical.propDecidable _)
theorem rb_t {X : Int} {j c : Nat} : rb m n cm lv st tk A X j c = true ↔ Rs m n cm lv st tk A X j c := by
  unfold rb
  exact @decide_eq_true_iff _ (Classical.propDecidable _)
theorem Rs_s {X : Int} {j c : Nat} (h : Rs m n cm lv st tk A X j c) : Rs m n cm lv st tk A X (j + 1) c := by
  obtain ⟨y, h1, h2⟩ := h
  exact ⟨y, h1, by omega⟩
theorem Rs_all (hO : okW m n cm lv st tk A) {X : Int} (hX : ∀ c, A c < 100000000 → A c ≤ X) : ∀ j : Nat, (∀ c x, Wk m n cm lv st tk A c x → Rs m n cm lv st tk A X j c) ∨ j ≤ cnt 4096 (rb m n cm lv st tk A X j)
  | 0 => Or.inr (Nat.zero_le _)
  | j + 1 => by
    rcases Rs_all hO hX j with h | h
    · exact Or.inl (fun c x hx => Rs_s (h c x hx))
    · by_cases hall : ∀ c x, Wk m n cm lv st tk A c x → Rs m n cm lv st tk A X j c
      · exact Or.inl (fun c x hx => Rs_s (hall c x hx))
      · right
        have hE : ∃ i u v k, i < m ∧ Rs m n cm lv st tk A X j u ∧ edI n cm lv st tk i u v k ∧ ¬ Rs m n cm lv st tk A X j v := by
          apply Classical.byContradiction
          intro hno
          apply hall
          intro c x hx
          refine Wk.ind (P := fun c _ => Rs m n cm lv st tk A X j c) (fun c hc => ⟨A c, Wk.i hc, by have := hX c hc; omega⟩) (fun i u v x k hi hu hR he => ?_) hx
          apply Classical.byContradiction
          intro h9
          exact hno ⟨i, u, v, k, hi, hR, he, h9⟩
        obtain ⟨i, u, v, k, hi, ⟨y, hy, hyx⟩, he, hv⟩ := hE
        have hk := (edI_J hO hi (hy.J hO).1 he).2
        have hvw := hy.s hi he
        have hR : Rs m n cm lv st tk A X (j + 1) v := ⟨y + k, hvw, by omega⟩
        have lt : cnt 4096 (rb m n cm lv st tk A X j) < cnt 4096 (rb m n cm lv st tk A X (j + 1)) := cnt_lt (fun c _ hc => rb_t.mpr (Rs_s (rb_t.mp hc))) ⟨v, (hvw.J hO).1.1.1, rb_t.mpr hR, by
          cases hx : rb m n cm lv st tk A X j v
          · rfl
          · exact absurd (rb_t.mp hx) hv⟩
        omega
theorem dsV_b (hO : okW m n cm lv st tk A) {X : Int} (hX : ∀ c, A c < 100000000 → A c ≤ X) {c : Nat} {x : Int} (h : Wk m n cm lv st tk A c x) : dsV m n cm lv st tk A c ≤ X + 4184000 := by
  rcases Rs_all hO hX 1046 with h1 | h1
  · obtain ⟨y, hy, hyx⟩ := h1 c x h
    have := (dsV_y hO hy).2
    omega
  · have : cnt 4096 (rb m n cm lv st tk A X 1046) ≤ cnt 4096 vcdB := cnt_mono (fun c _ hc => by
      obtain ⟨y, hy, -⟩ := rb_t.mp hc
      exact vcd_B (hy.J hO).1.1 hO.2.1)
    rw [vcdB_n] at this
    omega
/-- what is closed is least -/
theorem cl_ds (hO : okW m n cm lv st tk A) {X : Int} (hX : ∀ c, A c < 100000000 → A c ≤ X) (hX2 : X ≤ 90000000) {S : Nat → Int} {F : Int} (hF : 100000000 ≤ F) (h1 : ∀ c, S c < F → Wk m n cm lv st tk A c (S c)) (h2 : ∀ c, A c < 100000000 → S c ≤ A c) (h3 : ∀ i u v k, i < m → S u < F → edI n cm lv st tk i u v k → S v ≤ S u + k) (h4 : ∀ c, S c ≤ F) (c : Nat) : (S c < 100000000 ∧ S c = dsV m n cm lv st tk A c) ∨ (S c = F ∧ dsV m n cm lv st tk A c = 100000000) := by
  by_cases hr : ∃ x, Wk m n cm lv st tk A c x
  · obtain ⟨x, hx⟩ := hr
    have hd := (dsV_y hO hx).1
    have hb := dsV_b hO hX hx
    have key : dsV m n cm lv st tk A c < F → S c ≤ dsV m n cm lv st tk A c := Wk.ind (P := fun c x => x < F → S c ≤ x) (fun c hc _ => h2 c hc) (fun i u v x k hi hu hP he hlt => by
      have hk := (edI_J hO hi (hu.J hO).1 he).2
      have g1 := hP (by omega)
      have g2 := h3 i u v k hi (by omega) he
      omega) hd
    have k1 := key (by omega)
    have k2 := (dsV_y hO (h1 c (by omega))).2
    exact Or.inl ⟨by omega, by omega⟩
  · have hno : ∀ x, ¬ Wk m n cm lv st tk A c x := fun x hx => hr ⟨x, hx⟩
    right
    refine ⟨?_, dsV_n hno⟩
    have := h4 c
    apply Classical.byContradiction
    intro h9
    exact hno _ (h1 c (by omega))
/-- where it goes on -/
theorem ds_edge (hO : okW m n cm lv st tk A) {S : Nat → Int} (h2 : ∀ c, A c < 100000000 → S c ≤ A c) (h1 : ∀ c x, Wk m n cm lv st tk A c x → dsV m n cm lv st tk A c ≤ S c) {c : Nat} {x : Int} (hx : Wk m n cm lv st tk A c x) (hne : S c ≠ dsV m n cm lv st tk A c) : ∃ i u v k, i < m ∧ Wk m n cm lv st tk A u (dsV m n cm lv st tk A u) ∧ edI n cm lv st tk i u v k ∧ S u = dsV m n cm lv st tk A u ∧ S v ≠ dsV m n cm lv st tk A v ∧ dsV m n cm lv st tk A v = dsV m n cm lv st tk A u + k := by
  have hd := (dsV_y hO hx).1
  have key : dsV m n cm lv st tk A c = dsV m n cm lv st tk A c → S c = dsV m n cm lv st tk A c ∨ ∃ i u v k, i < m ∧ Wk m n cm lv st tk A u (dsV m n cm lv st tk A u) ∧ edI n cm lv st tk i u v k ∧ S u = dsV m n cm lv st tk A u ∧ S v ≠ dsV m n cm lv st tk A v ∧ dsV m n cm lv st tk A v = dsV m n cm lv st tk A u + k :=
    Wk.ind (P := fun c x => x = dsV m n cm lv st tk A c → S c = dsV m n cm lv st tk A c ∨ ∃ i u v k, i < m ∧ Wk m n cm lv st tk A u (dsV m n cm lv st tk A u) ∧ edI n cm lv st tk i u v k ∧ S u = dsV m n cm lv st tk A u ∧ S v ≠ dsV m n cm lv st tk A v ∧ dsV m n cm lv st tk A v = dsV m n cm lv st tk A u + k) (fun c hc he => by
      left
      have g1 := h2 c hc
      have g2 := h1 c _ (Wk.i hc)
      omega) (fun i u v x k hi hu hP he hv => by
      have d1 := dsV_y hO hu
      have d2 := (dsV_y hO (d1.1.s hi he)).2
      have ex : x = dsV m n cm lv st tk A u := by omega
      rcases hP ex with g | g
      · by_cases c9 : S v = dsV m n cm lv st tk A v
        · exact Or.inl c9
        · exact Or.inr ⟨i, u, v, k, hi, d1.1, he, g, c9, by omega⟩
      · exact Or.inr g) hd
  exact (key rfl).resolve_left hne
end WL
