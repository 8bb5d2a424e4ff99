/-! lay: what holds while TRYs are laid apart -/
/-- the catches of all TRY nodes -/
def ly_cha (N : Nat) (L : Nat → Nat) (C : Nat → Nat → Nat) (m : um_S) : Prop := ∀ k, k < N → m 39 k = 18 → ly_chain m k (m 41 k) (L k) (C k) ∧ (L k = 0 ↔ m 41 k = -1)
/-- over a function: TRYs from i0 on are still to be laid apart, item j is under way; f functions have their entries -/
def ly_gl (N v0 i0 ci f : Nat) (L : Nat → Nat) (C : Nat → Nat → Nat) (j n B I dc : Nat) (D bs it ix hs nn dn tn : Nat → Nat) (c m : um_S) : Prop :=
  ly_hd I n D L C bs it ix hs nn c m ∧ ly_dl N v0 dc I dn tn c m ∧ ly_cha N L C m ∧ (c 3 7 = m 38 34 ∧ c 2 8 = m 38 21) ∧ (v0 + dc ≤ B ∧ i0 ≤ dc ∧ ly_cnt m tn i0 = ci) ∧
  (∀ i k, i < I → k < 150 → m 55 i = nI k → m 39 k = 18 → ¬ m 59 i = -1 → bs i = ly_nh m L k ∨ i = j ∨ ∃ q, i0 ≤ q ∧ q < dc ∧ dn q = i) ∧
  (∀ q, i0 ≤ q → q < dc → bs (dn q) = 0 ∧ ¬ dn q = j) ∧
  ∀ g, g < f → ∃ t, t < n ∧ c 14 g = nI t ∧ m 54 g = nI t ∧ D t = 0
section LayGl
variable {N v0 i0 ci f j n n1 B B1 I I1 dc dc1 : Nat} {L : Nat → Nat} {C : Nat → Nat → Nat} {D D1 bs bs1 it it1 ix ix1 hs hs1 nn nn1 dn dn1 tn tn1 : Nat → Nat} {c m c1 m1 : um_S} {a : Nat}
theorem ly_cha_of (h : ly_cha N L C m) (g : ∀ q, 39 ≤ q → q ≤ 44 → m1 q = m q) : ly_cha N L C m1 := by
  unfold ly_cha ly_chain um_isS at *
  rw [g 39 (by decide) (by decide), g 41 (by decide) (by decide), g 42 (by decide) (by decide), g 43 (by decide) (by decide), g 44 (by decide) (by decide)]
  exact h
theorem ly_nh_of (e34 : m1 38 34 = m 38 34) (e42 : m1 42 = m 42) (k : Nat) : ly_nh m1 L k = ly_nh m L k := by
  unfold ly_nh ly_nc
  rw [e34, e42]
theorem ly_nc_of (e34 : m1 38 34 = m 38 34) (l : Nat) : ly_nc m1 l = ly_nc m l := by
  unfold ly_nc
  rw [e34]
theorem ly_gl_of (h : ly_gl N v0 i0 ci f L C j n B I dc D bs it ix hs nn dn tn c m) (hd1 : ly_hd I n1 D1 L C bs1 it1 ix1 hs1 nn1 c1 m1) (hbs : ∀ i, ¬ i = j → bs1 i = bs i) (hn : n ≤ n1) (hB : B ≤ B1) (hD : ∀ k, k < n → D1 k = D k) (e : c1 16 = c 16 ∧ c1 14 = c 14) (e3 : c1 3 6 = c 3 6 ∧ c1 3 7 = c 3 7) (e8 : c1 2 8 = m1 38 21)
    (g : ∀ q, (39 ≤ q ∧ q ≤ 44) ∨ q = 54 ∨ q = 55 ∨ q = 59 ∨ q = 62 → m1 q = m q) (g38 : m1 38 32 = m 38 32 ∧ m1 38 34 = m 38 34) : ly_gl N v0 i0 ci f L C j n1 B1 I dc D1 bs1 it1 ix1 hs1 nn1 dn tn c1 m1 := by
  obtain ⟨-, ⟨l1, l2, l3, l4⟩, h3, h4, h5, h6, h7, h8⟩ := h
  have w := ly_wq_of g38.2 (g 41 (by decide)) (g 42 (by decide))
  have cn := ly_cnt_of (tn := tn) g38.2 (g 41 (by decide)) (g 42 (by decide))
  refine ⟨hd1, ⟨by rw [e3.1]; exact l1, by rw [g38.1, cn]; exact l2, fun i hi => ?_, l4⟩, ly_cha_of h3 (fun q a1 a2 => g q (by omega)), ⟨by rw [e3.2, g38.2]; exact h4.1, e8⟩, ⟨by omega, h5.2.1, by rw [cn]; exact h5.2.2⟩, fun i k a1 a2 a3 a4 a5 => ?_, fun q a1 a2 => ?_, fun y hy => ?_⟩
  · obtain ⟨k1, k2, k3, k4, k5, k6, k7⟩ := l3 i hi
    refine ⟨by rw [e.1]; exact k1, k2, k3, by rw [g 39 (by decide)]; exact k4, by rw [g 55 (by decide)]; exact k5, by rw [g 59 (by decide)]; exact k6, fun z => ?_⟩
    rw [w] at z
    rw [cn, g 62 (by decide)]
    exact k7 z
  · rw [g 55 (by decide)] at a3
    rw [g 39 (by decide)] at a4
    rw [g 59 (by decide)] at a5
    by_cases z : i = j
    · exact Or.inr (Or.inl z)
    · rw [hbs i z, ly_nh_of g38.2 (g 42 (by decide))]
      exact h6 i k a1 a2 a3 a4 a5
  · obtain ⟨x1, x2⟩ := h7 q a1 a2
    exact ⟨by rw [hbs _ x2]; exact x1, x2⟩
  · obtain ⟨t, x1, x2, x3, x4⟩ := h8 y hy
    exact ⟨t, by omega, by rw [e.2]; exact x2, by rw [g 54 (by decide)]; exact x3, by rw [hD t x1]; exact x4⟩
/-- after some turns -/
theorem ly_gl_run (h : ly_gl N v0 i0 ci f L C j n B I dc D bs it ix hs nn dn tn c m) (kq : ly_kq a c m c1 m1) (gx : ly_gx I I1 dc dc1 dn1 m m1) (dl : ly_dl N v0 dc1 I1 dn1 tn1 c1 m1) (hdc : dc ≤ dc1) (hdn : ∀ i, i < dc → dn1 i = dn i) (htn : ∀ i, i < dc → tn1 i = tn i) (hn : n ≤ n1) (hD : ∀ k, k < n → D1 k = D k) (hB : v0 + dc1 ≤ B1) (hj : (j < I ∧ ¬ m 59 j = -1) ∨ I1 ≤ j) :
    ly_gl N v0 i0 ci f L C j n1 B1 I1 dc1 D1 bs it ix hs nn dn1 tn1 c1 m1 := by
  obtain ⟨h1, h2, h3, h4, h5, h6, h7, h8⟩ := h
  have M : ∀ q, (39 ≤ q ∧ q ≤ 45) ∨ q = 54 ∨ q = 60 ∨ q = 61 → m1 q = m q := fun q hq => kq.2.2.2.2.2.1 q (by omega)
  have M38 : ∀ k, k = 21 ∨ k = 30 ∨ k = 34 → m1 38 k = m 38 k := fun k hk => kq.2.2.2.2.2.2.1 k (by omega)
  refine ⟨ly_hd_of h1 gx.1 hn hD (fun q a1 a2 => kq.1 q (by omega)) (by rw [kq.2.2.2.2.1]) (fun q hq => M q (by omega)) ⟨M38 30 (by decide), M38 34 (by decide)⟩ gx.2.1, dl, ly_cha_of h3 (fun q a1 a2 => M q (by omega)), ⟨by rw [kq.2.2.1 7 (by decide), M38 34 (by decide)]; exact h4.1, by rw [kq.2.1 8 (by decide), M38 21 (by decide)]; exact h4.2⟩, ⟨hB, by omega, by rw [ly_cnt_of (M38 34 (by decide)) (M 41 (by decide)) (M 42 (by decide)), ly_cnt_g i0 (fun q hq => htn q (by omega))]; exact h5.2.2⟩, fun i k a1 a2 a3 a4 a5 => ?_, fun q a1 a2 => ?_, fun y hy => ?_⟩
  · rw [M 39 (by decide)] at a4
    rcases gx.2.2.1 i k a1 a2 a3 a4 a5 with ⟨z1, z2⟩ | ⟨q, z1, z2, z3⟩
    · obtain ⟨y1, -⟩ := gx.2.1 i z1
      rw [ly_nh_of (M38 34 (by decide)) (M 42 (by decide))]
      rcases h6 i k z1 a2 (y1.symm.trans a3) a4 z2 with z | z | ⟨q, x1, x2, x3⟩
      · exact Or.inl z
      · exact Or.inr (Or.inl z)
      · exact Or.inr (Or.inr ⟨q, x1, by omega, by rw [hdn q x2]; exact x3⟩)
    · exact Or.inr (Or.inr ⟨q, by omega, z2, z3⟩)
  · by_cases z : q < dc
    · rw [hdn q z]
      exact h7 q a1 z
    · have g4 := gx.2.2.2 q (by omega) a2
      refine ⟨?_, ?_⟩
      · by_cases w : 0 < bs (dn1 q)
        · obtain ⟨x1, x2, -⟩ := h1.2.1 _ w
          exact absurd ⟨x1, x2⟩ g4
        · omega
      · rcases hj with y | y
        · intro w
          rw [← w] at y
          exact g4 y
        · have := (dl.2.2.1 q a2).2.1
          omega
  · obtain ⟨t, x1, x2, x3, x4⟩ := h8 y hy
    exact ⟨t, by omega, by rw [kq.1 14 (by decide)]; exact x2, by rw [M 54 (by decide)]; exact x3, by rw [hD t x1]; exact x4⟩
end LayGl
/-! lay: how long it takes -/
/-- rows that lay leaves alone -/
def ly_hi (c m c1 m1 : um_S) : Prop :=
  (∀ q, (q = 1 ∨ q = 4 ∨ (8 ≤ q ∧ q ≤ 10) ∨ (17 ≤ q ∧ q ≤ 22)) → c1 q = c q) ∧ (∀ q, 26 ≤ q → q ≤ 28 → c1 q 0 = c q 0) ∧ (∀ q, ((39 ≤ q ∧ q ≤ 45) ∨ 70 ≤ q) → m1 q = m q) ∧ (∀ k, (k = 1 ∨ k = 9 ∨ k = 14 ∨ 46 ≤ k) → m1 38 k = m 38 k) ∧ c1 2 6 = c 2 6 ∧ c1 5 8 = c 5 8
theorem ly_hi.rf {c m : um_S} : ly_hi c m c m := ⟨fun _ _ => rfl, fun _ _ _ => rfl, fun _ _ => rfl, fun _ _ => rfl, rfl, rfl⟩
theorem ly_hi.trans {c m c1 m1 c2 m2 : um_S} (h : ly_hi c m c1 m1) (g : ly_hi c1 m1 c2 m2) : ly_hi c m c2 m2 :=
  ⟨fun q hq => (g.1 q hq).trans (h.1 q hq), fun q a1 a2 => (g.2.1 q a1 a2).trans (h.2.1 q a1 a2), fun q hq => (g.2.2.1 q hq).trans (h.2.2.1 q hq), fun k hk => (g.2.2.2.1 k hk).trans (h.2.2.2.1 k hk), g.2.2.2.2.1.trans h.2.2.2.2.1, g.2.2.2.2.2.trans h.2.2.2.2.2⟩
theorem ly_hi_kq {a : Nat} {c m c1 m1 : um_S} (h : ly_kq a c m c1 m1) : ly_hi c m c1 m1 :=
  ⟨fun q hq => h.1 q (by omega), h.2.2.2.1.2, fun q hq => h.2.2.2.2.2.1 q (by omega), fun k hk => h.2.2.2.2.2.2.1 k (by omega), h.2.1 6 (by decide), h.2.2.2.1.1⟩
theorem ly_hi_of {c m c1 m1 : um_S} (e : ∀ q, (q = 1 ∨ q = 4 ∨ q = 5 ∨ (8 ≤ q ∧ q ≤ 10) ∨ (17 ≤ q ∧ q ≤ 22) ∨ (26 ≤ q ∧ q ≤ 28)) → c1 q = c q) (g : ∀ q, ((39 ≤ q ∧ q ≤ 45) ∨ 70 ≤ q) → m1 q = m q) (g38 : ∀ k, (k = 1 ∨ k = 9 ∨ k = 14 ∨ 46 ≤ k) → m1 38 k = m 38 k) (e26 : c1 2 6 = c 2 6) : ly_hi c m c1 m1 :=
  ⟨fun q hq => e q (by omega), fun q a1 a2 => by rw [e q (by omega)], g, g38, e26, by rw [e 5 (by omega)]⟩
/-- turns lead from (c, m) to where P holds, or to a failure; F: how many there may be -/
def ly_oc (F sv : Nat) (c m : um_S) (P : Nat → um_S → um_S → Prop) : Prop :=
  ∃ c1 m1 k kr, ly_sts k kr c m c1 m1 ∧ ly_hi c m c1 m1 ∧ ((∃ B1, k + 10 * (2000 - B1) + sv ≤ F ∧ kr + 10 * (2000 - B1) + sv ≤ F ∧ P B1 c1 m1) ∨ (ly_fail c1 m1 ∧ k ≤ F + 3 ∧ kr ≤ F + 3))
section LayOc
variable {F sv e s s2 B k kr : Nat} {c m c1 m1 : um_S} {P P2 : Nat → um_S → um_S → Prop}
theorem ly_oc_bind (h : ly_oc F sv c m P) (g : ∀ B1 c1 m1, P B1 c1 m1 → ly_oc (10 * (2000 - B1) + e) s2 c1 m1 P2) (he : e ≤ sv) (hs : s + e ≤ sv + s2) : ly_oc F s c m P2 := by
  obtain ⟨c1, m1, k, kr, x1, x0, ⟨B1, x2, x3, x4⟩ | ⟨x2, x3, x4⟩⟩ := h
  · obtain ⟨c2, m2, k2, kr2, y1, y0, ⟨B2, y2, y3, y4⟩ | ⟨y2, y3, y4⟩⟩ := g B1 c1 m1 x4
    · exact ⟨c2, m2, k + k2, kr + kr2, x1.trans y1, x0.trans y0, Or.inl ⟨B2, by omega, by omega, y4⟩⟩
    · exact ⟨c2, m2, k + k2, kr + kr2, x1.trans y1, x0.trans y0, Or.inr ⟨y2, by omega, by omega⟩⟩
  · exact ⟨c1, m1, k, kr, x1, x0, Or.inr ⟨x2, x3, x4⟩⟩
theorem ly_oc_one (hst : ly_sts k kr c m c1 m1) (hh : ly_hi c m c1 m1) (h : P B c1 m1) (h1 : k + 10 * (2000 - B) + sv ≤ F) (h2 : kr + 10 * (2000 - B) + sv ≤ F) : ly_oc F sv c m P := ⟨c1, m1, k, kr, hst, hh, Or.inl ⟨B, h1, h2, h⟩⟩
theorem ly_oc_bad (hst : ly_sts k kr c m c1 m1) (hh : ly_hi c m c1 m1) (h : ly_fail c1 m1) (h1 : k ≤ 3) (h2 : kr ≤ 3) : ly_oc F sv c m P := ⟨c1, m1, k, kr, hst, hh, Or.inr ⟨h, by omega, by omega⟩⟩
theorem ly_oc_weak (h : ly_oc F sv c m P) (hF : F + s ≤ e + sv) (hF2 : F ≤ e) (hP : ∀ B c m, P B c m → P2 B c m) : ly_oc e s c m P2 := by
  obtain ⟨c1, m1, k, kr, x1, x0, ⟨B1, x2, x3, x4⟩ | ⟨x2, x3, x4⟩⟩ := h
  · exact ⟨c1, m1, k, kr, x1, x0, Or.inl ⟨B1, by omega, by omega, hP _ _ _ x4⟩⟩
  · exact ⟨c1, m1, k, kr, x1, x0, Or.inr ⟨x2, by omega, by omega⟩⟩
end LayOc
