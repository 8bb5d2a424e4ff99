/-! lay: the rows of one handler -/
def lc_row (c : um_S) (r : Nat) (f e tg lo hi : Int32) : um_S := um_up (um_up (um_up (um_up (um_up (um_up c 15 (r * 5) f) 15 (r * 5 + 1) e) 15 (r * 5 + 2) tg) 15 (r * 5 + 3) lo) 15 (r * 5 + 4) hi) 2 6 (nI (r + 1))
def lm_row (m : um_S) (r : Nat) (f e tg lo hi : Int32) : um_S := um_up (um_up (um_up (um_up (um_up (um_up m 49 r f) 50 r e) 51 r tg) 52 r lo) 53 r hi) 38 14 (nI (r + 1))
/-- r rows so far, over n instructions -/
def ly_rw (n r : Nat) (c m : um_S) : Prop := (c 2 5 = nI n ∧ m 38 10 = nI n ∧ n ≤ 1000) ∧ (c 2 6 = nI r ∧ m 38 14 = nI r ∧ r ≤ 300) ∧ um_rowsEq r c m ∧ c 3 8 = 0 ∧ m 38 35 = 0 ∧ m 38 36 = 0
/-- handler h of item j: its target, and what it takes -/
def ly_sf (N I n j h : Nat) (cat : Bool) (tg : Nat) (lo hi : Int32) (c m : um_S) : Prop :=
  (um_tree N c m ∧ I ≤ 2000 ∧ j < I ∧ h < 501 ∧ ¬ c 24 (j + 1) = -1 ∧ c 5 8 = nI (j + 1)) ∧ (∀ s, j + 1 < s → s < I + 1 → ly_pa m j (s - 1) (c 30 s) (m 56 (s - 1))) ∧ ly_its I c m ∧ (∀ p, p < n → ly_cy I (c 24) (m 56) (c 13 p) (m 48 p)) ∧ c 37 h = nI tg ∧
  ((cat = false ∧ c 36 h = -1 ∧ lo = -2147483648 ∧ hi = 2147483647) ∨ (cat = true ∧ ∃ kc, kc < N ∧ c 36 h = nI kc ∧ lo = m 40 kc ∧ hi = m 41 kc))
/-- only rows were added -/
def ly_rk (c m c1 m1 : um_S) : Prop :=
  (∀ q, ¬ (q = 2 ∨ q = 3 ∨ q = 15) → c1 q = c q) ∧ (∀ k, ¬ k = 6 → c1 2 k = c 2 k) ∧ (∀ k, ¬ k = 8 → c1 3 k = c 3 k) ∧ (∀ q, ¬ (q = 38 ∨ (49 ≤ q ∧ q ≤ 53)) → m1 q = m q) ∧ ∀ k, ¬ (k = 14 ∨ k = 35) → m1 38 k = m 38 k
section LayStretch
variable {N I n j hh r i tg : Nat} {cat : Bool} {lo hi f e : Int32} {c m c1 m1 c2 m2 b : um_S} {Q : um_S → Prop}
theorem ly_rk.rf : ly_rk c m c m := ⟨fun _ _ => rfl, fun _ _ => rfl, fun _ _ => rfl, fun _ _ => rfl, fun _ _ => rfl⟩
theorem ly_rk.trans (x : ly_rk c m c1 m1) (y : ly_rk c1 m1 c2 m2) : ly_rk c m c2 m2 :=
  ⟨fun q hq => (y.1 q hq).trans (x.1 q hq), fun k hk => (y.2.1 k hk).trans (x.2.1 k hk), fun k hk => (y.2.2.1 k hk).trans (x.2.2.1 k hk), fun q hq => (y.2.2.2.1 q hq).trans (x.2.2.2.1 q hq), fun k hk => (y.2.2.2.2 k hk).trans (x.2.2.2.2 k hk)⟩
theorem lc_row_q {q : Nat} {tg : Int32} (hq : ¬ (q = 2 ∨ q = 15)) : lc_row c r f e tg lo hi q = c q := by
  unfold lc_row
  rw [um_up_q (by omega), um_up_q (by omega), um_up_q (by omega), um_up_q (by omega), um_up_q (by omega), um_up_q (by omega)]
theorem lc_row_2 {k : Nat} {tg : Int32} (hk : ¬ k = 6) : lc_row c r f e tg lo hi 2 k = c 2 k := by
  unfold lc_row
  rw [um_up_ne (by omega), um_up_q (by decide), um_up_q (by decide), um_up_q (by decide), um_up_q (by decide), um_up_q (by decide)]
theorem lm_row_q {q : Nat} {tg : Int32} (hq : ¬ (q = 38 ∨ (49 ≤ q ∧ q ≤ 53))) : lm_row m r f e tg lo hi q = m q := by
  unfold lm_row
  rw [um_up_q (by omega), um_up_q (by omega), um_up_q (by omega), um_up_q (by omega), um_up_q (by omega), um_up_q (by omega)]
theorem lm_row_38 {k : Nat} {tg : Int32} (hk : ¬ k = 14) : lm_row m r f e tg lo hi 38 k = m 38 k := by
  unfold lm_row
  rw [um_up_ne (by omega), um_up_q (by decide), um_up_q (by decide), um_up_q (by decide), um_up_q (by decide), um_up_q (by decide)]
theorem lm_row_old {q k : Nat} {tg : Int32} (h1 : 49 ≤ q) (h2 : q ≤ 53) (hk : ¬ k = r) : lm_row m r f e tg lo hi q k = m q k := by
  unfold lm_row
  rw [um_up_ne (by omega), um_up_ne (by omega), um_up_ne (by omega), um_up_ne (by omega), um_up_ne (by omega), um_up_ne (by omega)]
theorem lm_row_at {tg : Int32} : lm_row m r f e tg lo hi 49 r = f ∧ lm_row m r f e tg lo hi 50 r = e ∧ lm_row m r f e tg lo hi 51 r = tg ∧ lm_row m r f e tg lo hi 52 r = lo ∧ lm_row m r f e tg lo hi 53 r = hi ∧ lm_row m r f e tg lo hi 38 14 = nI (r + 1) := by
  unfold lm_row
  refine ⟨?_, ?_, ?_, ?_, ?_, ?_⟩
  · rw [um_up_q (by decide), um_up_q (by decide), um_up_q (by decide), um_up_q (by decide), um_up_q (by decide), um_up_self]
  · rw [um_up_q (by decide), um_up_q (by decide), um_up_q (by decide), um_up_q (by decide), um_up_self]
  · rw [um_up_q (by decide), um_up_q (by decide), um_up_q (by decide), um_up_self]
  · rw [um_up_q (by decide), um_up_q (by decide), um_up_self]
  · rw [um_up_q (by decide), um_up_self]
  · rw [um_up_self]
theorem lc_row_old {k : Nat} {tg : Int32} (hk : k < r * 5) : lc_row c r f e tg lo hi 15 k = c 15 k := by
  unfold lc_row
  rw [um_up_q (by decide), um_up_ne (by omega), um_up_ne (by omega), um_up_ne (by omega), um_up_ne (by omega), um_up_ne (by omega)]
theorem lc_row_at {tg : Int32} : lc_row c r f e tg lo hi 15 (r * 5) = f ∧ lc_row c r f e tg lo hi 15 (r * 5 + 1) = e ∧ lc_row c r f e tg lo hi 15 (r * 5 + 2) = tg ∧ lc_row c r f e tg lo hi 15 (r * 5 + 3) = lo ∧ lc_row c r f e tg lo hi 15 (r * 5 + 4) = hi ∧ lc_row c r f e tg lo hi 2 6 = nI (r + 1) := by
  unfold lc_row
  refine ⟨?_, ?_, ?_, ?_, ?_, ?_⟩
  · rw [um_up_q (by decide), um_up_ne (by omega), um_up_ne (by omega), um_up_ne (by omega), um_up_ne (by omega), um_up_self]
  · rw [um_up_q (by decide), um_up_ne (by omega), um_up_ne (by omega), um_up_ne (by omega), um_up_self]
  · rw [um_up_q (by decide), um_up_ne (by omega), um_up_ne (by omega), um_up_self]
  · rw [um_up_q (by decide), um_up_ne (by omega), um_up_self]
  · rw [um_up_q (by decide), um_up_self]
  · rw [um_up_self]
theorem ly_rk_row {tg2 : Int32} : ly_rk c m (lc_row c r f e tg2 lo hi) (lm_row m r f e tg2 lo hi) :=
  ⟨fun q hq => lc_row_q (by omega), fun k hk => lc_row_2 hk, fun k hk => by rw [lc_row_q (by decide)], fun q hq => lm_row_q hq, fun k hk => lm_row_38 (by omega)⟩
theorem ly_rk_bad : ly_rk c m (um_up c 3 8 (-2)) (um_up m 38 35 1) :=
  ⟨fun q hq => um_up_q (by omega), fun k hk => by rw [um_up_q (by decide)], fun k hk => um_up_ne (by omega), fun q hq => um_up_q (by omega), fun k hk => um_up_ne (by omega)⟩
theorem ly_rw_row {tg2 : Int32} (h : ly_rw n r c m) (hr : r < 300) : ly_rw n (r + 1) (lc_row c r f e tg2 lo hi) (lm_row m r f e tg2 lo hi) := by
  obtain ⟨⟨h1, h2, h3⟩, ⟨h4, h5, h6⟩, h7, h8, h9, h10⟩ := h
  obtain ⟨c1, c2, c3, c4, c5, c6⟩ := lc_row_at (c := c) (r := r) (f := f) (e := e) (tg := tg2) (lo := lo) (hi := hi)
  obtain ⟨m1, m2, m3, m4, m5, m6⟩ := lm_row_at (m := m) (r := r) (f := f) (e := e) (tg := tg2) (lo := lo) (hi := hi)
  refine ⟨⟨by rw [lc_row_2 (by decide)]; exact h1, by rw [lm_row_38 (by decide)]; exact h2, h3⟩, ⟨c6, m6, by omega⟩, fun i hi2 => ?_, by rw [lc_row_q (by decide)]; exact h8, by rw [lm_row_38 (by decide)]; exact h9, by rw [lm_row_38 (by decide)]; exact h10⟩
  by_cases z : i = r
  · subst z
    rw [c1, c2, c3, c4, c5, m1, m2, m3, m4, m5]
    exact ⟨rfl, rfl, rfl, rfl, rfl⟩
  · rw [lc_row_old (by omega), lc_row_old (by omega), lc_row_old (by omega), lc_row_old (by omega), lc_row_old (by omega), lm_row_old (by decide) (by decide) z, lm_row_old (by decide) (by decide) z, lm_row_old (by decide) (by decide) z, lm_row_old (by decide) (by decide) z, lm_row_old (by decide) (by decide) z]
    exact h7 i (by omega)
/-- what the reference finds outwards hangs on its outers alone -/
theorem p_isA {v1 : Int32} {Q : Int32 → um_S → Prop} (h56 : m1 56 = m 56) : ∀ (fuel : Nat) (y : Int32), wp_Mo_isAround_7 (fun v _ => Q v (um_J b m1)) fuel v1 y (um_J b m) → wp_Mo_isAround_7 Q fuel v1 y (um_J b m1) := by
  intro fuel
  induction fuel with
  | zero => intro y h; exact h
  | succ fuel ih =>
    intro y h
    unfold wp_Mo_isAround_7 at h ⊢
    refine ⟨h.1, fun z => ⟨fun w => ⟨((h.2 z).1 w).1, ?_⟩, (h.2 z).2⟩⟩
    rintro x1 rfl
    have g := ((h.2 z).1 w).2 _ rfl
    rw [um_J_m (q := 56) (by decide)] at g
    rw [um_J_m (q := 56) (by decide), h56]
    exact ih _ g
theorem ly_pa_m {s : Nat} {P y : Int32} (h56 : m1 56 = m 56) (h : ly_pa m j s P y) : ly_pa m1 j s P y := by
  obtain ⟨a, h1, h2⟩ := h
  exact ⟨a, h1, fun b Q fuel hf hq => p_isA h56 fuel y (h2 b (fun v _ => Q v (um_J b m1)) fuel hf hq)⟩
theorem ly_sf_rk (h : ly_sf N I n j hh cat tg lo hi c m) (k : ly_rk c m c1 m1) : ly_sf N I n j hh cat tg lo hi c1 m1 := by
  obtain ⟨⟨h1, h2, h3, h4, h5, h6⟩, h7, h8, h9, h10, h11⟩ := h
  have E : ∀ q, ¬ (q = 2 ∨ q = 3 ∨ q = 15) → c1 q = c q := k.1
  have G : ∀ q, ¬ (q = 38 ∨ (49 ≤ q ∧ q ≤ 53)) → m1 q = m q := k.2.2.2.1
  refine ⟨⟨?_, h2, h3, h4, by rw [E 24 (by decide)]; exact h5, by rw [E 5 (by decide)]; exact h6⟩, fun s a1 a2 => ?_, fun i hi2 => ?_, fun p hp => ?_, by rw [E 37 (by decide)]; exact h10, ?_⟩
  · exact um_tree_of h1 (by rw [E 1 (by decide)]) (E 8 (by decide)) (E 9 (by decide)) (E 10 (by decide)) (by rw [E 26 (by decide)]) (by rw [E 27 (by decide)]) (by rw [E 28 (by decide)]) (k.2.2.2.2 1 (by decide)) (G 39 (by decide)) (G 40 (by decide)) (G 41 (by decide)) (G 42 (by decide)) (G 43 (by decide)) (G 44 (by decide)) (G 45 (by decide))
  · rw [E 30 (by decide), G 56 (by decide)]
    exact ly_pa_m (G 56 (by decide)) (h7 s a1 a2)
  · rw [E 24 (by decide), E 23 (by decide), G 56 (by decide)]
    exact h8 i hi2
  · rw [E 24 (by decide), G 56 (by decide), E 13 (by decide), G 48 (by decide)]
    exact h9 p hp
  · rw [E 36 (by decide), G 40 (by decide), G 41 (by decide)]
    exact h11
/-- whether handler h takes from instruction p -/
theorem p_takes {p : Nat} (h : ly_sf N I n j hh cat tg lo hi c m) (hp : p < n) (hn : n ≤ 1000) : ∃ t : Bool, (∀ (b : um_S) (R : Bool → um_S → Prop), R t (um_J c b) → wp_La_takesFrom (nI hh) (nI p) (um_J c b) R) ∧
    ∀ (b : um_S) (Q : um_S → Prop) (K6 : Int32 → Int32 → Int32 → Int32 → Int32 → Int32 → Int32 → um_S → Prop) (v3 v4 v5 v6 : Int32), (t = true → wp_Mo_stretches_60 Q K6 (nI j) (if cat then 1 else 0) v3 v4 v5 v6 (nI p) (um_J b m)) → (t = false → wp_Mo_stretches_64 Q K6 (nI j) (if cat then 1 else 0) v3 v4 v5 v6 (nI p) (um_J b m)) →
      wp_Mo_isAround (nI j) (nI p) (um_J b m) (fun x2 σ1 => wp_Mo_stretches_44 Q K6 (nI j) (if cat then 1 else 0) v3 v4 v5 v6 (nI p) x2 σ1) := by
  obtain ⟨⟨h1, h2, h3, h4, h5, h6⟩, h7, h8, h9, h10, h11⟩ := h
  have hcy := h9 p hp
  obtain ⟨s, pp, hpp, hs, hx⟩ : ∃ s pp : Nat, pp < 3 ∧ s ≤ I ∧ c 13 p = nI (4 * s + pp) := by
    rcases hcy with z | ⟨i, hi2, -, z, -⟩
    · exact ly_cx_sc z
    · exact ⟨i + 1, 0, by decide, by omega, z⟩
  obtain ⟨P, ⟨a, hr, ha⟩, hcl⟩ := p_look (i := I + 1) h2 h8 h3 h5 h6 (Nat.le_refl _) h7 hpp (by omega) hx hcy
  have cls : ∀ (t : Bool), ((P = 0 ∧ t = true) ∨ (P = 1 ∧ c 36 hh = -1 ∧ t = true) ∨ (P = 1 ∧ ¬ c 36 hh = -1 ∧ t = false) ∨ ((P = -1 ∨ P = 2) ∧ t = false)) → ∀ (b : um_S) (R : Bool → um_S → Prop), R t (um_J c b) → wp_La_takesFrom (nI hh) (nI p) (um_J c b) R := by
    intro t ht b R hR
    unfold wp_La_takesFrom
    rw [um_cl1 (show p < 2147483648 by omega), um_cl1 (show hh < 2147483648 by omega), um_J_c (q := 13) (by decide)]
    refine ⟨vp_in_nI (by omega) (by decide), hcl b _ ?_⟩
    rw [um_J_c (q := 36) (by decide)]
    rcases ht with ⟨rfl, rfl⟩ | ⟨rfl, z, rfl⟩ | ⟨rfl, z, rfl⟩ | ⟨z, rfl⟩
    · exact um_yes rfl hR
    · exact um_no (by decide) (um_yes' rfl ⟨vp_in_nI (by omega) (by decide), um_yes' z hR⟩)
    · exact um_no (by decide) (um_yes' rfl ⟨vp_in_nI (by omega) (by decide), um_no' z hR⟩)
    · rcases z with rfl | rfl
      · exact um_no (by decide) (um_no' (by decide) hR)
      · exact um_no (by decide) (um_no' (by decide) hR)
  have ref : ∀ (b : um_S) (Q : Int32 → um_S → Prop), Q (nI a) (um_J b m) → wp_Mo_isAround (nI j) (nI p) (um_J b m) Q := by
    intro b Q hq
    unfold wp_Mo_isAround
    rw [um_cl1 (show p < 2147483648 by omega), um_J_m (q := 48) (by decide)]
    refine ⟨vp_in_nI (by omega) (by decide), ?_⟩
    rintro x1 rfl
    exact ha b Q 100000 (by omega) hq
  rcases hr with ⟨e1, e2⟩ | ⟨e1, e2⟩ | ⟨e1, e2⟩
  · refine ⟨true, cls true (Or.inl ⟨e1, rfl⟩), fun b Q K6 v3 v4 v5 v6 k1 k2 => ref b _ ?_⟩
    rw [e2]
    unfold wp_Mo_stretches_44
    exact um_yes rfl (k1 rfl)
  · rcases h11 with ⟨z, z2, -⟩ | ⟨z, kc, z1, z2, -⟩
    · subst z
      refine ⟨true, cls true (Or.inr (Or.inl ⟨e1, z2, rfl⟩)), fun b Q K6 v3 v4 v5 v6 k1 k2 => ref b _ ?_⟩
      rw [e2]
      unfold wp_Mo_stretches_44
      exact um_no (by decide) (um_yes' rfl (um_yes' (by decide) (k1 rfl)))
    · subst z
      have hN := h1.1.1
      refine ⟨false, cls false (Or.inr (Or.inr (Or.inl ⟨e1, by rw [z2]; exact ly_ne (by omega), rfl⟩))), fun b Q K6 v3 v4 v5 v6 k1 k2 => ref b _ ?_⟩
      rw [e2]
      unfold wp_Mo_stretches_44
      exact um_no (by decide) (um_yes' rfl (um_no' (by decide) (k2 rfl)))
  · refine ⟨false, cls false (Or.inr (Or.inr (Or.inr ⟨e1, rfl⟩))), fun b Q K6 v3 v4 v5 v6 k1 k2 => ref b _ ?_⟩
    rw [e2]
    unfold wp_Mo_stretches_44
    exact um_no (by decide) (um_no' (by decide) (k2 rfl))
theorem p_addRow (h : ly_sf N I n j hh cat tg lo hi c m) (h6 : c 2 6 = nI r) (hr : r < 300) (hq : Q (um_J (lc_row c r f e (nI tg) lo hi) b)) : wp_La_addRow (nI hh) f e (um_J c b) Q := by
  obtain ⟨⟨h1, h2, h3, h4, h5, -⟩, h7, h8, h9, h10, h11⟩ := h
  have i1 : vp_in (nI hh) 501 := vp_in_nI (by omega) (by decide)
  have e5 : nI r * 5 = nI (r * 5) := pk_mul r 5
  have e1 : nI (r * 5) + 1 = nI (r * 5 + 1) := um_succ
  have e2 : nI (r * 5) + 2 = nI (r * 5 + 2) := nI_add (r * 5) 2
  have e3 : nI (r * 5) + 3 = nI (r * 5 + 3) := nI_add (r * 5) 3
  have e4 : nI (r * 5) + 4 = nI (r * 5 + 4) := nI_add (r * 5) 4
  have v : ∀ k, k < 1500 → vp_in (nI k) 1500 := fun k hk => vp_in_nI hk (by decide)
  have T : ∀ d : um_S, (∀ q, ¬ (q = 2 ∨ q = 15) → d q = c q) → um_tree N d m := fun d hd => ly_tree_item h1 (fun q hq => hd q (by omega)) (fun q a1 a2 => by rw [hd q (by omega)])
  unfold wp_La_addRow
  rw [um_cl1 (show hh < 2147483648 by omega), um_J_c (q := 2) (by decide), h6, um_J_c (q := 36) (by decide), e5]
  refine um_yes (nI_lt (b := 300) hr (by decide)) ⟨i1, ?_⟩
  rintro x1 rfl x2 rfl
  rw [e1, e2, e3, um_cl1 (show r * 5 < 2147483648 by omega), um_cl1 (show r * 5 + 1 < 2147483648 by omega), um_cl1 (show r * 5 + 2 < 2147483648 by omega), um_cl1 (show r * 5 + 3 < 2147483648 by omega), um_J_uc (by decide)]
  refine ⟨v _ (by omega), ?_⟩
  rintro σ3 rfl
  rw [um_J_uc (by decide)]
  refine ⟨v _ (by omega), ?_⟩
  rintro σ4 rfl
  rw [um_J_c (q := 37) (by decide), um_up_q (q := 15) (a := 37) (by decide), um_up_q (q := 15) (a := 37) (by decide), h10, um_J_uc (by decide)]
  refine ⟨i1, v _ (by omega), ?_⟩
  rintro σ5 rfl
  have last : ∀ d : um_S, d 2 6 = nI r → Q (um_J (um_up d 2 6 (nI (r + 1))) b) → wp_La_addRow_155 Q (um_J d b) := by
    intro d hd hq2
    unfold wp_La_addRow_155
    rw [um_J_c (q := 2) (by decide), hd, show nI r + 1 = nI (r + 1) from um_succ, um_J_uc (by decide)]
    rintro σ1 rfl
    exact hq2
  rcases h11 with ⟨-, z, rfl, rfl⟩ | ⟨-, kc, z1, z2, rfl, rfl⟩
  · rw [z]
    refine um_yes' rfl ⟨v _ (by omega), ?_⟩
    rw [um_J_uc (by decide)]
    rintro σ9 rfl
    unfold wp_La_addRow_121
    rw [e4, um_cl1 (show r * 5 + 4 < 2147483648 by omega), um_J_uc (by decide)]
    refine um_yes' rfl ⟨v _ (by omega), ?_⟩
    rintro σ4 rfl
    exact last _ (by rw [um_up_q (by decide), um_up_q (by decide), um_up_q (by decide), um_up_q (by decide), um_up_q (by decide)]; exact h6) hq
  · have hN := h1.1.1
    rw [z2]
    have t := h1.2.2.2.1 kc z1
    refine um_no' (ly_ne (by omega)) (p_part (i := 0) (T _ (fun q hq => by rw [um_up_q (by omega), um_up_q (by omega), um_up_q (by omega)])) z1 (by decide) ⟨v _ (by omega), ?_⟩)
    rw [um_up_q (q := 15) (a := 9) (by decide), um_up_q (q := 15) (a := 9) (by decide), um_up_q (q := 15) (a := 9) (by decide), show c 9 (kc * 5 + 0) = m 40 kc from t.2.1, um_J_uc (by decide)]
    rintro σ8 rfl
    unfold wp_La_addRow_121
    rw [e4, um_cl1 (show r * 5 + 4 < 2147483648 by omega)]
    refine um_no' (ly_ne (by omega)) (p_part (i := 1) (T _ (fun q hq => by rw [um_up_q (by omega), um_up_q (by omega), um_up_q (by omega), um_up_q (by omega)])) z1 (by decide) ⟨v _ (by omega), ?_⟩)
    rw [um_up_q (q := 15) (a := 9) (by decide), um_up_q (q := 15) (a := 9) (by decide), um_up_q (q := 15) (a := 9) (by decide), um_up_q (q := 15) (a := 9) (by decide), t.2.2.1, um_J_uc (by decide)]
    rintro σ3 rfl
    exact last _ (by rw [um_up_q (by decide), um_up_q (by decide), um_up_q (by decide), um_up_q (by decide), um_up_q (by decide)]; exact h6) hq
theorem p_addRowFull (h6 : c 2 6 = nI 300) {v1 : Int32} (hq : Q (um_J (um_up c 3 8 (-2)) b)) : wp_La_addRow v1 f e (um_J c b) Q := by
  unfold wp_La_addRow
  rw [um_J_c (q := 2) (by decide), h6, um_J_uc (by decide)]
  refine um_no (by decide) ?_
  rintro σ10 rfl
  exact hq
theorem p_Mrow {tg2 : Int32} (h14 : m 38 14 = nI r) (hr : r < 300) (hq : Q (um_J b (lm_row m r f e tg2 lo hi))) : wp_Mo_row_IIIII f e tg2 lo hi (um_J b m) Q := by
  have ir : vp_in (nI r) 300 := vp_in_nI hr (by decide)
  have cr : (nI r).toNatClampNeg = r := um_cl1 (by omega)
  unfold wp_Mo_row_IIIII
  rw [um_J_m (q := 38) (by decide), h14, cr, um_J_um (by decide)]
  refine um_no' (fun z => ?_) ⟨ir, ?_⟩
  · have := (nI_eq (a := r) (b := 300) (by omega) (by decide)).mp z
    omega
  rintro σ1 rfl
  rw [um_J_m (q := 38) (by decide), um_up_q (by decide), h14, cr, um_J_um (by decide)]
  refine ⟨ir, ?_⟩
  rintro σ2 rfl
  rw [um_J_m (q := 38) (by decide), um_up_q (by decide), um_up_q (by decide), h14, cr, um_J_um (by decide)]
  refine ⟨ir, ?_⟩
  rintro σ3 rfl
  rw [um_J_m (q := 38) (by decide), um_up_q (by decide), um_up_q (by decide), um_up_q (by decide), h14, cr, um_J_um (by decide)]
  refine ⟨ir, ?_⟩
  rintro σ4 rfl
  rw [um_J_m (q := 38) (by decide), um_up_q (by decide), um_up_q (by decide), um_up_q (by decide), um_up_q (by decide), h14, cr, um_J_um (by decide)]
  refine ⟨ir, ?_⟩
  rintro σ5 rfl
  rw [um_J_m (q := 38) (by decide), um_up_q (by decide), um_up_q (by decide), um_up_q (by decide), um_up_q (by decide), um_up_q (by decide), h14, show nI r + 1 = nI (r + 1) from um_succ, um_J_um (by decide)]
  rintro σ6 rfl
  exact hq
theorem p_MrowFull {tg2 : Int32} (h14 : m 38 14 = nI 300) (hq : Q (um_J b (um_up m 38 35 1))) : wp_Mo_row_IIIII f e tg2 lo hi (um_J b m) Q := by
  unfold wp_Mo_row_IIIII
  rw [um_J_m (q := 38) (by decide), h14]
  refine um_yes' rfl ?_
  rintro σ7 rfl
  rw [um_J_um (by decide)]
  exact hq
end LayStretch
