/-! lay: the open entries, and what holds when other rows change -/
/-- the items' rows are the same for the first I -/
def ly_fr (I : Nat) (c m c2 m2 : um_S) : Prop :=
  (∀ q s, 23 ≤ q → q ≤ 29 → s ≤ I → c2 q s = c q s) ∧ (∀ q j, 55 ≤ q → q ≤ 59 → j < I → m2 q j = m q j) ∧ (∀ q, 39 ≤ q → q ≤ 44 → m2 q = m q)
theorem ly_fr.rf {I : Nat} {c m : um_S} : ly_fr I c m c m := ⟨fun _ _ _ _ _ => rfl, fun _ _ _ _ _ => rfl, fun _ _ _ => rfl⟩
section LayMono
variable {c m c2 m2 : um_S} {N u u2 I I2 : Nat} {D D2 : Nat → Nat} {x y : Int32} {ab fi : Nat}
theorem ly_cx_mono (hI : I ≤ I2) (hF : ly_fr I c m c2 m2) (h : ly_cx I (c 24) (m 56) x y) : ly_cx I2 (c2 24) (m2 56) x y := by
  rcases h with h | ⟨j, hj, h⟩
  · exact Or.inl h
  · refine Or.inr ⟨j, by omega, ?_⟩
    rw [hF.1 24 (j + 1) (by decide) (by decide) (by omega), hF.2.1 56 j (by decide) (by decide) hj]
    exact h
theorem ly_cy_mono (hI : I ≤ I2) (hF : ly_fr I c m c2 m2) (h : ly_cy I (c 24) (m 56) x y) : ly_cy I2 (c2 24) (m2 56) x y := by
  rcases h with h | ⟨j, hj, h⟩
  · exact Or.inl (ly_cx_mono hI hF h)
  · refine Or.inr ⟨j, by omega, ?_⟩
    rw [hF.1 24 (j + 1) (by decide) (by decide) (by omega), hF.2.1 56 j (by decide) (by decide) hj]
    exact h
theorem ly_up_mono (hI : I ≤ I2) (hF : ly_fr I c m c2 m2) (h : ly_up I (c 24) (c 25) (c 27) (c 28) x ab fi) : ly_up I2 (c2 24) (c2 25) (c2 27) (c2 28) x ab fi := by
  rcases h with h | ⟨j, p, ov, kp, hj, h⟩
  · exact Or.inl h
  · refine Or.inr ⟨j, p, ov, kp, by omega, ?_⟩
    rw [hF.1 24 (j + 1) (by decide) (by decide) (by omega), hF.1 25 (j + 1) (by decide) (by decide) (by omega), hF.1 27 (j + 1) (by decide) (by decide) (by omega), hF.1 28 (j + 1) (by decide) (by decide) (by omega)]
    exact h
theorem ly_item_mono {j : Nat} (hj : j < I) (hu : u ≤ u2) (hD : ∀ k, k < u → D2 k = D k) (hF : ly_fr I c m c2 m2) (h : ly_item N u D c m j) : ly_item N u2 D2 c2 m2 j := by
  obtain ⟨nd, ov, dp, h1, h2, h3, h4, h5, h6, h7, h8, h9, h10, h11⟩ := h
  have e : ∀ q, 23 ≤ q → q ≤ 29 → c2 q (j + 1) = c q (j + 1) := fun q a1 a2 => hF.1 q _ a1 a2 (by omega)
  have g : ∀ q, 55 ≤ q → q ≤ 59 → m2 q j = m q j := fun q a1 a2 => hF.2.1 q _ a1 a2 hj
  refine ⟨nd, ov, dp, h1, by rw [g 55 (by decide) (by decide)]; exact h2, by rw [g 57 (by decide) (by decide)]; exact h3, by rw [e 27 (by decide) (by decide)]; exact h4, by rw [g 58 (by decide) (by decide)]; exact h5, by rw [e 28 (by decide) (by decide)]; exact h6, h7, h8, ?_, ?_, ?_⟩
  · rw [e 23 (by decide) (by decide), g 56 (by decide) (by decide)]
    refine ly_cx_mono (Nat.le_refl j) ?_ h9
    exact ⟨fun q s a1 a2 a3 => hF.1 q s a1 a2 (by omega), fun q i a1 a2 a3 => hF.2.1 q i a1 a2 (by omega), hF.2.2⟩
  · rw [hF.2.2 39 (by decide) (by decide), hF.2.2 42 (by decide) (by decide), e 24 (by decide) (by decide), e 25 (by decide) (by decide), e 26 (by decide) (by decide), e 23 (by decide) (by decide)]
    rcases h10 with h | ⟨k1, k2, k3, s, p, k4, k5, k6, k7⟩
    · exact Or.inl h
    · exact Or.inr ⟨k1, k2, k3, s, p, k4, k5, k6, by rw [hF.1 26 s (by decide) (by decide) (by omega)]; exact k7⟩
  · rw [g 59 (by decide) (by decide), e 29 (by decide) (by decide)]
    rcases h11 with h | ⟨w, k1, k2, k3⟩
    · exact Or.inl h
    · exact Or.inr ⟨w, by omega, by rw [hD w k1]; exact k2, k3⟩
theorem um_ins_mono {p : Nat} {op arg : Int32} (hp : p < u) (hu : u ≤ u2) (hD : ∀ k, k < u → D2 k = D k) (h : um_ins u D p op arg) : um_ins u2 D2 p op arg := by
  have h0 := hD p hp
  unfold um_ins at h ⊢
  rcases h with ⟨a1, a2, a3, a4⟩ | ⟨a1, a2, a3, a4, a5⟩ | ⟨w, a1, a2, a3, a4, a5, a6, a7⟩ | ⟨a1, a2, a3, a4, a5⟩ | ⟨a1, a2, a3, a4⟩ | ⟨a1, a2, a3, a4, t, a5, a6, a7⟩ | ⟨a1, t, a5, a6, a7⟩ | ⟨a1, a2, a3⟩ | ⟨a1, a2, a3, a4, a5⟩ | ⟨a1, a2⟩ | ⟨a1, a2, a3, a4, a5⟩ | ⟨a1, a2⟩
  · exact Or.inl ⟨a1, by omega, by omega, by rw [hD _ a3, h0]; exact a4⟩
  · exact Or.inr (Or.inl ⟨a1, by omega, by omega, by rw [hD _ a3, h0]; exact a4, a5⟩)
  · exact Or.inr (Or.inr (Or.inl ⟨w, a1, a2, a3, by omega, by omega, by rw [hD _ a4, h0]; exact a6, by rw [hD _ a4]; exact a7⟩))
  · exact Or.inr (Or.inr (Or.inr (Or.inl ⟨a1, by omega, by omega, by rw [hD _ a3, h0]; exact a4, a5⟩)))
  · exact Or.inr (Or.inr (Or.inr (Or.inr (Or.inl ⟨a1, by omega, by omega, by rw [hD _ a3, h0]; exact a4⟩))))
  · exact Or.inr (Or.inr (Or.inr (Or.inr (Or.inr (Or.inl ⟨a1, by omega, by omega, by rw [hD _ a3, h0]; exact a4, t, by omega, a6, by rw [hD _ a5, h0]; exact a7⟩)))))
  · exact Or.inr (Or.inr (Or.inr (Or.inr (Or.inr (Or.inr (Or.inl ⟨a1, t, by omega, a6, by rw [hD _ a5, h0]; exact a7⟩))))))
  · exact Or.inr (Or.inr (Or.inr (Or.inr (Or.inr (Or.inr (Or.inr (Or.inl ⟨a1, by omega, by omega⟩)))))))
  · exact Or.inr (Or.inr (Or.inr (Or.inr (Or.inr (Or.inr (Or.inr (Or.inr (Or.inl ⟨a1, by omega, by omega, by rw [hD _ a3]; exact a4, a5⟩))))))))
  · exact Or.inr (Or.inr (Or.inr (Or.inr (Or.inr (Or.inr (Or.inr (Or.inr (Or.inr (Or.inl ⟨a1, by omega⟩)))))))))
  · exact Or.inr (Or.inr (Or.inr (Or.inr (Or.inr (Or.inr (Or.inr (Or.inr (Or.inr (Or.inr (Or.inl ⟨a1, by omega, by omega, by rw [hD _ a3, h0]; exact a4, a5⟩))))))))))
  · exact Or.inr (Or.inr (Or.inr (Or.inr (Or.inr (Or.inr (Or.inr (Or.inr (Or.inr (Or.inr (Or.inr ⟨a1, a2⟩))))))))))
/-- the instructions stay what they are when other rows change -/
theorem ly_ins_mono {n : Nat} {X X2 : Nat → Prop} (hn : n ≤ u) (hI : I ≤ I2) (hu : u ≤ u2) (hD : ∀ k, k < u → D2 k = D k) (hF : ly_fr I c m c2 m2) (hX : ∀ p, p < n → X p → X2 p) (e : ∀ q p, 11 ≤ q → q ≤ 13 → p < n → c2 q p = c q p) (g : ∀ q p, 46 ≤ q → q ≤ 48 → p < n → m2 q p = m q p)
    (h : ly_ins n u I D X c m) : ly_ins n u2 I2 D2 X2 c2 m2 := by
  intro p hp
  obtain ⟨h1, h2, h3⟩ := h p hp
  rw [e 11 p (by decide) (by decide) hp, e 12 p (by decide) (by decide) hp, e 13 p (by decide) (by decide) hp, g 46 p (by decide) (by decide) hp, g 47 p (by decide) (by decide) hp, g 48 p (by decide) (by decide) hp]
  refine ⟨h1, ly_cy_mono hI hF h2, ?_⟩
  rcases h3 with ⟨k1, k2⟩ | ⟨k1, k2⟩
  · exact Or.inl ⟨k1, um_ins_mono (by omega) hu hD k2⟩
  · refine Or.inr ⟨?_, ?_⟩
    · rcases k1 with ⟨j1, j2, j3, j4⟩ | ⟨j1, j2⟩
      · exact Or.inl ⟨j1, by rw [hD p (by omega)]; exact j2, by omega, by rw [hD _ j3]; exact j4⟩
      · exact Or.inr ⟨j1, by rw [hD p (by omega)]; exact j2⟩
    · rcases k2 with ⟨j1, j2⟩ | ⟨j, hj, j1, j2, j3⟩
      · exact Or.inl ⟨hX p hp j1, j2⟩
      · refine Or.inr ⟨j, by omega, ?_⟩
        rw [hF.1 24 (j + 1) (by decide) (by decide) (by omega), hF.2.1 59 j (by decide) (by decide) hj]
        exact ⟨j1, j2, j3⟩
end LayMono
/-- an open entry r: node k of kind w, in state s, at depth b; n instructions -/
def ly_eE (I : Nat) (c m : um_S) (r k w s b ab fi : Nat) : Prop :=
  w ≤ 7 ∧ s ≤ 2 ∧ (w ≤ 1 → s = 0) ∧ b + k ≤ 149 ∧ ly_cy I (c 24) (m 56) (c 32 r) (m 64 r) ∧ ly_up I (c 24) (c 25) (c 27) (c 28) (c 32 r) ab fi
def ly_eS (n I : Nat) (D : Nat → Nat) (c m : um_S) (r w s b ab fi : Nat) : Prop :=
  b = 0 ∧ 8 ≤ w ∧ ly_cx I (c 24) (m 56) (c 32 r) (m 64 r) ∧ ly_up I (c 24) (c 25) (c 27) (c 28) (c 32 r) ab fi ∧
  (s = 0 ∨ (s = 1 ∧ (w = 9 ∨ w = 10 ∨ w = 11 ∨ w = 12 ∨ w = 14)) ∨ (s = 2 ∧ w = 11) ∨
   (w = 12 ∧ s = 2 ∧ ∃ p, p < n ∧ c 34 r = nI p ∧ m 68 r = nI p ∧ m 46 p = 10 ∧ D p = 1 ∧ D (p + 1) = 0) ∨
   (w = 12 ∧ s = 3 ∧ ∃ p, p < n ∧ c 34 r = nI p ∧ m 69 r = nI p ∧ m 46 p = 11 ∧ D p = 0))
def ly_eW (u I : Nat) (D : Nat → Nat) (c m : um_S) (r k w s b ab fi : Nat) : Prop :=
  b = 0 ∧ w = 13 ∧ (s = 1 ∨ s = 2) ∧ ∃ j p, j < I ∧ m 68 r = nI j ∧ c 32 r = nI (4 * (j + 1)) ∧ m 55 j = nI k ∧ c 24 (j + 1) = -1 ∧ m 56 j = m 64 r ∧ m 57 j = nI ab ∧ m 58 j = nI fi ∧ m 59 j = -1 ∧ c 34 r = nI p ∧ m 69 r = nI p ∧ p < u ∧ D p = 0
def ly_eR (I B : Nat) (c m : um_S) (r w s b : Nat) : Prop :=
  b = 0 ∧ (w = 16 ∨ w = 17) ∧ 1 ≤ s ∧ (∃ s1 p1, p1 < 3 ∧ c 32 r = nI (4 * s1 + p1) ∧ s + s1 ≤ 2000) ∧ ly_cx I (c 24) (m 56) (c 32 r) (m 69 r) ∧
  ∃ x s0 p0, p0 < 3 ∧ s0 ≤ I ∧ ly_cx I (c 24) (m 56) x (m 64 r) ∧ x = nI (4 * s0 + p0) ∧ (w = 17 → ∃ s1 p1, p1 < 3 ∧ s1 ≤ I ∧ c 32 r = nI (4 * s1 + p1) ∧ c 26 s0 = c 26 s1)
def ly_eT (I : Nat) (c m : um_S) (r k w s b ab fi : Nat) : Prop :=
  b = 0 ∧ w = 18 ∧ (s = 1 ∨ s = 2) ∧ ∃ j, j < I ∧ m 68 r = nI j ∧ c 32 r = nI (4 * (j + 1)) ∧ m 55 j = nI k ∧ c 24 (j + 1) = nI k ∧ m 56 j = m 64 r ∧ m 57 j = nI ab ∧ m 58 j = nI fi ∧ m 59 j = -1
/-- an entry but for what is laid apart -/
def ly_ent (N n u I B : Nat) (D : Nat → Nat) (c m : um_S) (r k w s b : Nat) : Prop :=
  k < N ∧ m 39 k = nI w ∧ w ≤ 18 ∧ c 31 r = nI k ∧ m 63 r = nI k ∧ c 33 r = nI s ∧ m 67 r = nI s ∧
  ∃ ab fi : Nat, m 65 r = nI ab ∧ m 66 r = nI fi ∧ ab + k ≤ 149 ∧ fi + k ≤ 149 ∧
    (ly_eE I c m r k w s b ab fi ∨ ly_eS n I D c m r w s b ab fi ∨ ly_eW u I D c m r k w s b ab fi ∨ ly_eR I B c m r w s b ∨ ly_eT I c m r k w s b ab fi)
section LayEnt
variable {c m c2 m2 : um_S} {N n n2 u u2 I I2 B B2 : Nat} {D D2 : Nat → Nat} {r k w s b : Nat}
theorem ly_ent_mono (hn : n ≤ n2) (hnu : n ≤ u) (hn1 : ∀ p, p < n → p + 1 < u ∨ D2 (p + 1) = D (p + 1)) (hI : I ≤ I2) (hu : u ≤ u2) (hB : B ≤ B2) (hD : ∀ k, k < u → D2 k = D k) (hF : ly_fr I c m c2 m2) (e : ∀ q, 31 ≤ q → q ≤ 34 → c2 q r = c q r) (g : ∀ q, 63 ≤ q → q ≤ 69 → m2 q r = m q r) (o : ∀ p, p < n → m2 46 p = m 46 p)
    (h : ly_ent N n u I B D c m r k w s b) : ly_ent N n2 u2 I2 B2 D2 c2 m2 r k w s b := by
  obtain ⟨h1, h2, h3, h4, h5, h6, h7, ab, fi, h8, h9, h10, h11, h⟩ := h
  have d1 : ∀ p, p < n → D2 (p + 1) = D (p + 1) := fun p hp => (hn1 p hp).elim (fun z => hD _ z) id
  refine ⟨h1, by rw [hF.2.2 39 (by decide) (by decide)]; exact h2, h3, by rw [e 31 (by decide) (by decide)]; exact h4, by rw [g 63 (by decide) (by decide)]; exact h5, by rw [e 33 (by decide) (by decide)]; exact h6, by rw [g 67 (by decide) (by decide)]; exact h7, ab, fi, by rw [g 65 (by decide) (by decide)]; exact h8, by rw [g 66 (by decide) (by decide)]; exact h9, h10, h11, ?_⟩
  have i55 : ∀ q j, 55 ≤ q → q ≤ 59 → j < I → m2 q j = m q j := hF.2.1
  rcases h with h | h | h | h | h
  · obtain ⟨k1, k2, k3, k4, k5, k6⟩ := h
    refine Or.inl ⟨k1, k2, k3, k4, ?_, ?_⟩
    · rw [e 32 (by decide) (by decide), g 64 (by decide) (by decide)]
      exact ly_cy_mono hI hF k5
    · rw [e 32 (by decide) (by decide)]
      exact ly_up_mono hI hF k6
  · obtain ⟨k1, k2, k3, k4, k5⟩ := h
    refine Or.inr (Or.inl ⟨k1, k2, ?_, ?_, ?_⟩)
    · rw [e 32 (by decide) (by decide), g 64 (by decide) (by decide)]
      exact ly_cx_mono hI hF k3
    · rw [e 32 (by decide) (by decide)]
      exact ly_up_mono hI hF k4
    · rw [e 34 (by decide) (by decide), g 68 (by decide) (by decide), g 69 (by decide) (by decide)]
      rcases k5 with z | z | z | ⟨z1, z2, p, z3, z4, z5, z6, z7, z8⟩ | ⟨z1, z2, p, z3, z4, z5, z6, z7⟩
      · exact Or.inl z
      · exact Or.inr (Or.inl z)
      · exact Or.inr (Or.inr (Or.inl z))
      · exact Or.inr (Or.inr (Or.inr (Or.inl ⟨z1, z2, p, by omega, z4, z5, by rw [o p z3]; exact z6, by rw [hD p (by omega)]; exact z7, by rw [d1 p z3]; exact z8⟩)))
      · exact Or.inr (Or.inr (Or.inr (Or.inr ⟨z1, z2, p, by omega, z4, z5, by rw [o p z3]; exact z6, by rw [hD p (by omega)]; exact z7⟩)))
  · obtain ⟨k1, k2, k3, j, p, hj, k4, k5, k6, k7, k8, k9, k10, k11, k12, k13, k14, k15⟩ := h
    refine Or.inr (Or.inr (Or.inl ⟨k1, k2, k3, j, p, by omega, ?_⟩))
    rw [e 32 (by decide) (by decide), e 34 (by decide) (by decide), g 64 (by decide) (by decide), g 68 (by decide) (by decide), g 69 (by decide) (by decide), i55 55 j (by decide) (by decide) hj, i55 56 j (by decide) (by decide) hj, i55 57 j (by decide) (by decide) hj, i55 58 j (by decide) (by decide) hj, i55 59 j (by decide) (by decide) hj, hF.1 24 (j + 1) (by decide) (by decide) (by omega), hD p k14]
    exact ⟨k4, k5, k6, k7, k8, k9, k10, k11, k12, k13, by omega, k15⟩
  · obtain ⟨k1, k2, k3, k4, k5, x, s0, p0, a1, a3, a5, a6, a7⟩ := h
    refine Or.inr (Or.inr (Or.inr (Or.inl ⟨k1, k2, k3, by rw [e 32 (by decide) (by decide)]; exact k4, ?_, x, s0, p0, a1, by omega, ?_, a6, fun z => ?_⟩)))
    · rw [e 32 (by decide) (by decide), g 69 (by decide) (by decide)]
      exact ly_cx_mono hI hF k5
    · rw [g 64 (by decide) (by decide)]
      exact ly_cx_mono hI hF a5
    · obtain ⟨s1, p1, y1, y2, y3, y4⟩ := a7 z
      refine ⟨s1, p1, y1, by omega, ?_, ?_⟩
      · rw [e 32 (by decide) (by decide)]
        exact y3
      · rw [hF.1 26 s0 (by decide) (by decide) a3, hF.1 26 s1 (by decide) (by decide) y2]
        exact y4
  · obtain ⟨k1, k2, k3, j, hj, k4, k5, k6, k7, k8, k9, k10, k11⟩ := h
    refine Or.inr (Or.inr (Or.inr (Or.inr ⟨k1, k2, k3, j, by omega, ?_⟩)))
    rw [e 32 (by decide) (by decide), g 64 (by decide) (by decide), g 68 (by decide) (by decide), i55 55 j (by decide) (by decide) hj, i55 56 j (by decide) (by decide) hj, i55 57 j (by decide) (by decide) hj, i55 58 j (by decide) (by decide) hj, i55 59 j (by decide) (by decide) hj, hF.1 24 (j + 1) (by decide) (by decide) (by omega)]
    exact ⟨k4, k5, k6, k7, k8, k9, k10, k11⟩
end LayEnt
