/-! lay: the table, on both sides -/
/-- from (c0, m0) on only rows were added, and TRYs looked at -/
def ly_rl (I : Nat) (c0 m0 c m : um_S) : Prop :=
  (∀ q, ¬ (q = 2 ∨ q = 3 ∨ q = 5 ∨ q = 15 ∨ q = 30) → c q = c0 q) ∧ (∀ k, ¬ k = 6 → c 2 k = c0 2 k) ∧ (∀ k, ¬ k = 8 → c 3 k = c0 3 k) ∧ (∀ k, ¬ k = 8 → c 5 k = c0 5 k) ∧ (∀ q, ¬ (q = 38 ∨ (49 ≤ q ∧ q ≤ 53)) → m q = m0 q) ∧ (∀ k, ¬ (k = 14 ∨ k = 35) → m 38 k = m0 38 k) ∧
  ∀ j, j < I → c 5 8 = nI (j + 1) → ∀ s, j + 1 < s → s < I + 1 → ly_pa m j (s - 1) (c 30 s) (m 56 (s - 1))
def ly_tg (n r : Nat) (D : Nat → Nat) (m : um_S) : Prop := ∀ i, i < r → ∃ t, t < n ∧ m 51 i = nI t ∧ D t = 1
def ly_ok (n I : Nat) (D : Nat → Nat) (c0 m0 c m : um_S) : Prop := ly_rl I c0 m0 c m ∧ ∃ r, ly_rw n r c m ∧ ly_tg n r D m
def ly_no (I : Nat) (c0 m0 c m : um_S) : Prop := ly_rl I c0 m0 c m ∧ c 3 8 = -2 ∧ m 38 35 = 1 ∧ m 38 36 = 0
/-- what a TRY's handlers say once all are there -/
def ly_bs (N n I : Nat) (D L : Nat → Nat) (C : Nat → Nat → Nat) (bs it ix hs nn : Nat → Nat) (c0 m0 : um_S) : Prop :=
  (um_tree N c0 m0 ∧ I ≤ 2000 ∧ n ≤ 1000 ∧ c0 5 9 = nI (I + 1) ∧ m0 38 23 = nI I ∧ ly_T bs 2001 ≤ 500) ∧ ly_its I c0 m0 ∧ (∀ p, p < n → ly_cy I (c0 24) (m0 56) (c0 13 p) (m0 48 p)) ∧ (∀ i, i < I → ∃ k o : Nat, k < 150 ∧ m0 55 i = nI k ∧ o ≤ 149 ∧ m0 57 i = nI o ∧ (m0 39 k = 18 → k < N ∧ c0 24 (i + 1) = nI k ∧ bs i = ly_nh m0 L k)) ∧ ly_cha N L C m0 ∧ ly_hd I n D L C bs it ix hs nn c0 m0
section LayTable
variable {N n I : Nat} {D L bs it ix hs nn : Nat → Nat} {C : Nat → Nat → Nat} {c0 m0 c m b : um_S} {j x k i : Nat}
/-- one handler -/
theorem ly_handler (hb : ly_bs N n I D L C bs it ix hs nn c0 m0) (hx : x < bs j) (hok : ly_ok n I D c0 m0 c m) :
    ∃ (c1 m1 : um_S) (tg : Nat), m0 61 (hs j + x) = nI tg ∧ (∀ (b : um_S) (Q : um_S → Prop), Q (um_J c1 b) → wp_La_addRows (nI (ly_at m0 bs j + x)) (um_J c b) Q) ∧
      (x < ly_nc m0 (L (nn j)) → ∀ (b : um_S) (Q : um_S → Prop), Q (um_J b m1) → wp_Mo_stretches (nI j) true (nI tg) (m0 40 (C (nn j) (L (nn j) - 1 - x))) (m0 41 (C (nn j) (L (nn j) - 1 - x))) (um_J b m) Q) ∧
      (¬ x < ly_nc m0 (L (nn j)) → ∀ (b : um_S) (Q : um_S → Prop), Q (um_J b m1) → wp_Mo_stretches (nI j) false (nI tg) (-2147483648) 2147483647 (um_J b m) Q) ∧
      (ly_ok n I D c0 m0 c1 m1 ∨ ly_no I c0 m0 c1 m1) := by
  obtain ⟨⟨hT, hI, hn, h59, -, hH⟩, hit, hcy, hitems, hcha, hhd⟩ := hb
  obtain ⟨⟨r1, r2, r3, r4, r5, r6, r7⟩, r, hrw, htg⟩ := hok
  obtain ⟨q1, -, q3, q4, q5, q6, q7, q8⟩ := hhd.2.1 j (by omega)
  obtain ⟨tg, t1, t2, t3, t4, t5, t6⟩ := hhd.2.2.2 j x hx
  have hall : ly_at m0 bs j + bs j ≤ ly_T bs 2001 := ly_bf_all (by omega)
  obtain ⟨k', o', k1, k2, -, -, k5⟩ := hitems j q1
  have ek : k' = nn j := (nI_eq (a := k') (b := nn j) (by omega) (by omega)).mp (k2.symm.trans q4)
  subst ek
  obtain ⟨kN, k24, kbs⟩ := k5 q5
  have hitc : ly_its I c m := by
    intro i2 hi2
    rw [r1 24 (by decide), r1 23 (by decide), r5 56 (by decide)]
    exact hit i2 hi2
  have hK : ¬ c 24 (j + 1) = -1 := by
    rw [r1 24 (by decide), k24]
    exact ly_ne (by omega)
  obtain ⟨cl, l1, l2, l3, l4, l5⟩ := p_lookAt hI hitc q1 hK (by rw [r4 9 (by decide)]; exact h59) (fun z => r7 j q1 z)
  have hrwl : ly_rw n r cl m := by
    obtain ⟨a1, a2, a3, a4, a5, a6⟩ := hrw
    refine ⟨by rw [l4 2 (by decide)]; exact a1, by rw [l4 2 (by decide)]; exact a2, ?_, by rw [l4 3 (by decide)]; exact a4, a5, a6⟩
    unfold um_rowsEq
    rw [l4 15 (by decide)]
    exact a3
  have base : ∀ (cat : Bool) (lo hi : Int32), ((cat = false ∧ c0 36 (ly_at m0 bs j + x) = -1 ∧ lo = -2147483648 ∧ hi = 2147483647) ∨ (cat = true ∧ ∃ kc, kc < N ∧ c0 36 (ly_at m0 bs j + x) = nI kc ∧ lo = m0 40 kc ∧ hi = m0 41 kc)) → ly_sf N I n j (ly_at m0 bs j + x) cat tg lo hi cl m := by
    intro cat lo hi hc
    have E : ∀ q, ¬ (q = 2 ∨ q = 3 ∨ q = 5 ∨ q = 15 ∨ q = 30) → cl q = c0 q := fun q hq => by rw [l4 q (by omega), r1 q hq]
    refine ⟨⟨?_, hI, q1, by omega, by rw [l4 24 (by decide)]; exact hK, l2⟩, l3, fun i2 hi2 => by rw [E 24 (by decide), E 23 (by decide), r5 56 (by decide)]; exact hit i2 hi2, fun p hp => by rw [E 24 (by decide), E 13 (by decide), r5 56 (by decide), r5 48 (by decide)]; exact hcy p hp, by rw [E 37 (by decide)]; exact t5, ?_⟩
    · exact um_tree_of hT (by rw [E 1 (by decide)]) (E 8 (by decide)) (E 9 (by decide)) (E 10 (by decide)) (by rw [E 26 (by decide)]) (by rw [E 27 (by decide)]) (by rw [E 28 (by decide)]) (r6 1 (by decide)) (r5 39 (by decide)) (r5 40 (by decide)) (r5 41 (by decide)) (r5 42 (by decide)) (r5 43 (by decide)) (r5 44 (by decide)) (r5 45 (by decide))
    · rw [E 36 (by decide), r5 40 (by decide), r5 41 (by decide)]
      exact hc
  have fin : ∀ (cat : Bool) (lo hi : Int32), ly_sf N I n j (ly_at m0 bs j + x) cat tg lo hi cl m → ∃ (c1 m1 : um_S), (∀ (b : um_S) (Q : um_S → Prop), Q (um_J c1 b) → wp_La_addRows (nI (ly_at m0 bs j + x)) (um_J c b) Q) ∧ (∀ (b : um_S) (Q : um_S → Prop), Q (um_J b m1) → wp_Mo_stretches (nI j) cat (nI tg) lo hi (um_J b m) Q) ∧ (ly_ok n I D c0 m0 c1 m1 ∨ ly_no I c0 m0 c1 m1) := by
    intro cat lo hi hsf
    obtain ⟨c1, m1, z1, z2, z3, z4⟩ := ly_stretch (n + 1) 0 r (-1) cl m (by omega) hsf hrwl
    obtain ⟨y1, y2, y3, y4, y5⟩ := id z3
    have hrl : ly_rl I c0 m0 c1 m1 := by
      refine ⟨fun q hq => by rw [y1 q (by omega), l4 q (by omega), r1 q hq], fun k hk => by rw [y2 k hk, l4 2 (by decide), r2 k hk], fun k hk => by rw [y3 k hk, l4 3 (by decide), r3 k hk], fun k hk => by rw [y1 5 (by decide), l5 k hk, r4 k hk], fun q hq => by rw [y4 q hq, r5 q hq], fun k hk => by rw [y5 k hk, r6 k hk], fun j2 hj2 e2 s a1 a2 => ?_⟩
      rw [y1 5 (by decide), l2] at e2
      have e3 : j = j2 := by
        have := (nI_eq (a := j + 1) (b := j2 + 1) (by omega) (by omega)).mp e2
        omega
      subst e3
      rw [y1 30 (by decide), y4 56 (by decide)]
      exact ly_pa_m (y4 56 (by decide)) (l3 s a1 a2)
    refine ⟨c1, m1, fun b Q hq => ?_, fun b Q hq => ?_, ?_⟩
    · unfold wp_La_addRows
      rw [um_cl1 (show ly_at m0 bs j + x < 2147483648 by omega), um_J_c (q := 35) (by decide), r1 35 (by decide), t3]
      exact ⟨vp_in_nI (by omega) (by decide), l1 b _ (z1 b Q 100000 (by omega) hq)⟩
    · unfold wp_Mo_stretches
      exact z2 b Q 100000 (by omega) hq
    · rcases z4 with ⟨r1', w1, w2, w3, w4⟩ | w
      · refine Or.inl ⟨hrl, r1', w1, fun i2 hi2 => ?_⟩
        by_cases e : i2 < r
        · rw [w3 i2 e]
          exact htg i2 e
        · rw [w4 i2 (by omega) hi2]
          exact ⟨tg, t1, rfl, t2⟩
      · exact Or.inr ⟨hrl, w⟩
  by_cases hnc : x < ly_nc m0 (L (nn j))
  · have hxl : x < L (nn j) := by
      unfold ly_nc at hnc
      by_cases z : m0 38 34 = 0
      · rw [if_pos z] at hnc
        exact hnc
      · rw [if_neg z] at hnc
        omega
    obtain ⟨hch, -⟩ := hcha (nn j) kN q5
    have hkc := (hch.2.2 (L (nn j) - 1 - x) (by omega)).1
    have e36 : c0 36 (ly_at m0 bs j + x) = nI (C (nn j) (L (nn j) - 1 - x)) := by
      rw [t4]
      unfold ly_hx
      rw [if_pos hnc]
    obtain ⟨c1, m1, z1, z2, z3⟩ := fin true _ _ (base true (m0 40 (C (nn j) (L (nn j) - 1 - x))) (m0 41 (C (nn j) (L (nn j) - 1 - x))) (Or.inr ⟨rfl, _, by omega, e36, rfl, rfl⟩))
    exact ⟨c1, m1, tg, t6, z1, fun _ => z2, fun w => absurd hnc w, z3⟩
  · have e36 : c0 36 (ly_at m0 bs j + x) = -1 := by
      rw [t4]
      unfold ly_hx
      rw [if_neg hnc]
    obtain ⟨c1, m1, z1, z2, z3⟩ := fin false _ _ (base false (-2147483648) 2147483647 (Or.inl ⟨rfl, e36, rfl, rfl⟩))
    exact ⟨c1, m1, tg, t6, z1, fun w => absurd w hnc, fun _ => z2, z3⟩
/-- the class goes from handler h to h1; or comes to the end of them -/
def ly_cl (h h1 : Nat) (c c1 : um_S) : Prop := h ≤ h1 ∧ ∀ (b : um_S) (Q : Int32 → um_S → Prop) (fuel : Nat), wp_La_layDown_68 Q fuel (nI h1) (um_J c1 b) → wp_La_layDown_68 Q (fuel + (h1 - h)) (nI h) (um_J c b)
def ly_clf (h : Nat) (c c1 : um_S) : Prop := ∀ (b : um_S) (Q : Int32 → um_S → Prop) (fuel : Nat), 503 ≤ fuel + h → wp_La_layDown_97 Q (um_J c1 b) → wp_La_layDown_68 Q fuel (nI h) (um_J c b)
theorem ly_cl.trans {h h1 h2 : Nat} {c1 c2 : um_S} (x : ly_cl h h1 c c1) (y : ly_cl h1 h2 c1 c2) : ly_cl h h2 c c2 := by
  refine ⟨by have := x.1; have := y.1; omega, fun b Q fuel hq => ?_⟩
  have g := x.2 b Q (fuel + (h2 - h1)) (y.2 b Q fuel hq)
  have e : fuel + (h2 - h) = fuel + (h2 - h1) + (h1 - h) := by have := x.1; have := y.1; omega
  rw [e]
  exact g
theorem ly_cl.clf {h h1 : Nat} {c1 c2 : um_S} (x : ly_cl h h1 c c1) (h5 : h1 ≤ 500) (y : ly_clf h1 c1 c2) : ly_clf h c c2 := by
  intro b Q fuel hf hq
  have hh := x.1
  have g := x.2 b Q (fuel - (h1 - h)) (y b Q _ (by omega) hq)
  rw [show fuel - (h1 - h) + (h1 - h) = fuel by omega] at g
  exact g
theorem ly_cl.rf {h : Nat} : ly_cl h h c c := ⟨Nat.le_refl _, fun b Q fuel hq => by rw [Nat.sub_self]; exact hq⟩
/-- one handler, seen from the class's loop -/
theorem ly_cl_one {h : Nat} {c1 : um_S} (h7 : c 7 3 = nI (ly_T bs 2001)) (h8 : c 3 8 = 0) (hT : ly_T bs 2001 ≤ 500) (hh : h < ly_T bs 2001) (hadd : ∀ (b : um_S) (Q : um_S → Prop), Q (um_J c1 b) → wp_La_addRows (nI h) (um_J c b) Q) : ly_cl h (h + 1) c c1 := by
  refine ⟨by omega, fun b Q fuel hq => ?_⟩
  rw [show fuel + (h + 1 - h) = fuel + 1 by omega]
  unfold wp_La_layDown_68
  rw [um_J_c (q := 7) (by decide), h7, um_J_c (q := 3) (by decide), h8, show nI h + 1 = nI (h + 1) from um_succ]
  exact um_no (nI_ge hh (by omega)) (um_yes' rfl (hadd b _ hq))
theorem ly_clf_bad {h : Nat} (h8 : ¬ c 3 8 = 0) (h5 : h ≤ 500) : ly_clf h c c := by
  intro b Q fuel hf hq
  obtain ⟨g, rfl⟩ : ∃ g, fuel = g + 1 := ⟨fuel - 1, by omega⟩
  unfold wp_La_layDown_68
  rw [um_J_c (q := 3) (by decide)]
  exact ⟨fun _ => hq, fun _ => um_no' h8 hq⟩
/-- too many rows: the reference passes the rest of an item -/
theorem p_tab79_bad {Q : um_S → Prop} {v : Nat} (hj : j < 2001) (hk : k < 150) (h55 : m 55 j = nI k) (h18 : m 39 k = 18) (hfin : ¬ m 42 k = -1 → ∃ h0, h0 + v < 2001 ∧ m 60 j = nI h0) (h35 : ¬ m 38 35 = 0) (hq : Q (um_J b m)) : wp_Mo_table_79 Q (nI j) (nI v) (um_J b m) := by
  unfold wp_Mo_table_79
  refine p_Mhas hj h55 hk h18 (fun _ => ⟨fun _ => hq, fun w => absurd w (by decide)⟩) (fun z => ⟨fun w => absurd w (by decide), fun _ => ?_⟩)
  obtain ⟨h0, e1, e2⟩ := hfin z
  rw [um_cl1 (show j < 2147483648 by omega), um_J_m (q := 60) (by decide), e2, nI_add]
  refine ⟨vp_in_nI hj (by decide), vp_in_nI (by omega) (by decide), ?_⟩
  unfold wp_Mo_stretches
  show wp_Mo_stretches_6 Q (99999 + 1) _ _ _ _ _ _ _ _
  unfold wp_Mo_stretches_6
  rw [um_J_m (q := 38) (by decide)]
  exact ⟨fun _ => hq, fun _ => um_no' h35 hq⟩
theorem p_tab16_bad {Q : um_S → Prop} {v v4 : Nat} {v2 : Int32} {fuel : Nat} (hj : j < 2001) (hk : k < 150) (h55 : m 55 j = nI k) (h18 : m 39 k = 18) (hfin : ¬ m 42 k = -1 → ∃ h0, h0 + v < 2001 ∧ m 60 j = nI h0) (h35 : ¬ m 38 35 = 0) (hq : Q (um_J b m)) : wp_Mo_table_16 Q (fuel + 1) (nI j) v2 (nI v) (nI v4) (um_J b m) := by
  have g := p_tab79_bad (b := b) (Q := Q) hj hk h55 h18 hfin h35 hq
  unfold wp_Mo_table_16
  rw [um_J_m (q := 38) (by decide)]
  exact ⟨fun _ => g, fun _ => um_no' h35 g⟩
/-- the handlers of one TRY -/
theorem ly_tab (hb : ly_bs N n I D L C bs it ix hs nn c0 m0) (hj : j < I) (hk : k < 150) (h55 : m0 55 j = nI k) (h18 : m0 39 k = 18) : ∀ (d x : Nat) (c m : um_S), x + d = ly_nc m0 (L k) → ly_ok n I D c0 m0 c m →
    ∃ c1 m1, (∀ (b : um_S) (Q : um_S → Prop) (fuel : Nat), d + 1 < fuel → Q (um_J b m1) → wp_Mo_table_16 Q fuel (nI j) (nI k) (nI (ly_nc m0 (L k))) (nI x) (um_J b m)) ∧
      ((ly_ok n I D c0 m0 c1 m1 ∧ ly_cl (ly_at m0 bs j + x) (ly_at m0 bs j + bs j) c c1) ∨ (ly_no I c0 m0 c1 m1 ∧ ly_clf (ly_at m0 bs j + x) c c1)) := by
  obtain ⟨⟨hT, hI, hn, h59, -, hH⟩, hit, hcy, hitems, hcha, hhd⟩ := id hb
  obtain ⟨k', o', k1, k2, -, -, k5⟩ := hitems j hj
  have ek : k' = k := (nI_eq (a := k') (b := k) (by omega) (by omega)).mp (k2.symm.trans h55)
  subst ek
  obtain ⟨kN, k24, kbs⟩ := k5 h18
  obtain ⟨hch, -⟩ := hcha k' kN h18
  have hlk := hch.1
  have hall : ly_at m0 bs j + bs j ≤ ly_T bs 2001 := ly_bf_all (by omega)
  have hncl : ly_nc m0 (L k') ≤ L k' := by
    unfold ly_nc
    by_cases z : m0 38 34 = 0
    · rw [if_pos z]
      exact Nat.le_refl _
    · rw [if_neg z]
      omega
  have hnn : 0 < bs j → nn j = k' := fun z => by
    obtain ⟨q1, -, q3, q4, -⟩ := hhd.2.1 j z
    exact (nI_eq (a := nn j) (b := k') (by omega) (by omega)).mp (q4.symm.trans h55)
  have hbs : (m0 42 k' = -1 → bs j = ly_nc m0 (L k')) ∧ (¬ m0 42 k' = -1 → bs j = ly_nc m0 (L k') + 1) := by
    rw [kbs]
    unfold ly_nh
    exact ⟨fun z => by rw [if_pos z]; rfl, fun z => by rw [if_neg z]⟩
  -- facts at any state on the way
  have facts : ∀ c m : um_S, ly_rl I c0 m0 c m → c 7 3 = nI (ly_T bs 2001) ∧ m 55 j = nI k' ∧ m 39 k' = 18 ∧ m 42 = m0 42 ∧ m 60 = m0 60 ∧ m 61 = m0 61 ∧ m 40 = m0 40 ∧ m 41 = m0 41 ∧ ly_chain m k' (m 41 k') (L k') (C k') ∧ ly_nc m (L k') = ly_nc m0 (L k') ∧ m 38 34 = m0 38 34 := by
    intro c m hr
    obtain ⟨r1, r2, r3, r4, r5, r6, r7⟩ := hr
    refine ⟨by rw [r1 7 (by decide)]; exact hhd.1.1, by rw [r5 55 (by decide)]; exact h55, by rw [r5 39 (by decide)]; exact h18, r5 42 (by decide), r5 60 (by decide), r5 61 (by decide), r5 40 (by decide), r5 41 (by decide), ?_, ly_nc_of (r6 34 (by decide)) _, r6 34 (by decide)⟩
    exact (ly_cha_of hcha (fun q a1 a2 => r5 q (by omega)) k' kN (by rw [r5 39 (by decide)]; exact h18)).1
  have hfinb : ∀ m : um_S, m 42 = m0 42 → m 60 = m0 60 → ¬ m 42 k' = -1 → ∃ h0, h0 + ly_nc m0 (L k') < 2001 ∧ m 60 j = nI h0 := by
    intro m e42 e60 z
    rw [e42] at z
    have hb1 := hbs.2 z
    obtain ⟨-, -, -, -, -, -, q7, q8⟩ := hhd.2.1 j (by omega)
    exact ⟨hs j, by omega, by rw [e60]; exact q7⟩
  intro d
  induction d with
  | zero =>
    intro x c m hx hok
    have hxe : x = ly_nc m0 (L k') := by omega
    obtain ⟨f7, f55, f39, f42, f60, f61, f40, f41, fch, fnc, f34⟩ := facts c m hok.1
    by_cases hz : m0 42 k' = -1
    · refine ⟨c, m, fun b Q fuel hf hq => ?_, Or.inl ⟨hok, ?_⟩⟩
      · obtain ⟨g, rfl⟩ : ∃ g, fuel = g + 1 := ⟨fuel - 1, by omega⟩
        unfold wp_Mo_table_16
        refine um_yes (nI_le (by omega) (by omega)) ?_
        unfold wp_Mo_table_79
        exact p_Mhas (by omega) f55 (by omega) f39 (fun _ => ⟨fun _ => hq, fun w => absurd w (by decide)⟩) (fun w => absurd (show m 42 k' = -1 by rw [f42]; exact hz) w)
      · rw [hbs.1 hz, hxe]
        exact ly_cl.rf
    · have hb1 := hbs.2 hz
      obtain ⟨r, hrw, -⟩ := hok.2
      obtain ⟨c1, m1, tg, e61, z1, -, z3, z4⟩ := ly_handler (x := x) (j := j) hb (by omega) hok
      rw [hnn (by omega)] at z3
      obtain ⟨-, -, -, -, -, -, q7, q8⟩ := hhd.2.1 j (by omega)
      have hcl := ly_cl_one (bs := bs) (h := ly_at m0 bs j + x) f7 hrw.2.2.2.1 hH (by omega) z1
      refine ⟨c1, m1, fun b Q fuel hf hq => ?_, ?_⟩
      · obtain ⟨g, rfl⟩ : ∃ g, fuel = g + 1 := ⟨fuel - 1, by omega⟩
        unfold wp_Mo_table_16
        refine um_yes (nI_le (by omega) (by omega)) ?_
        unfold wp_Mo_table_79
        refine p_Mhas (by omega) f55 (by omega) f39 (fun w => absurd (show m0 42 k' = -1 by rw [f42] at w; exact w) hz) (fun _ => ⟨fun w => absurd w (by decide), fun _ => ?_⟩)
        rw [um_cl1 (show j < 2147483648 by omega), um_J_m (q := 60) (by decide), f60, q7, nI_add, um_cl1 (show hs j + ly_nc m0 (L k') < 2147483648 by omega), um_J_m (q := 61) (by decide), f61]
        rw [hxe] at e61
        rw [e61]
        exact ⟨vp_in_nI (by omega) (by decide), vp_in_nI (by omega) (by decide), z3 (by omega) b Q hq⟩
      · rcases z4 with y | y
        · refine Or.inl ⟨y, ?_⟩
          rw [hb1, ← hxe, ← Nat.add_assoc]
          exact hcl
        · exact Or.inr ⟨y, hcl.clf (by omega) (ly_clf_bad (by rw [y.2.1]; decide) (by omega))⟩
  | succ d ih =>
    intro x c m hx hok
    have hxl : x < bs j := by
      by_cases hz : m0 42 k' = -1
      · have := hbs.1 hz
        omega
      · have := hbs.2 hz
        omega
    obtain ⟨f7, f55, f39, f42, f60, f61, f40, f41, fch, fnc, f34⟩ := facts c m hok.1
    obtain ⟨r, hrw, -⟩ := hok.2
    obtain ⟨c1, m1, tg, e61, z1, z2, -, z4⟩ := ly_handler (x := x) (j := j) hb hxl hok
    rw [hnn (by omega)] at z2
    obtain ⟨-, -, -, -, -, -, q7, q8⟩ := hhd.2.1 j (by omega)
    have hcl := ly_cl_one (bs := bs) (h := ly_at m0 bs j + x) f7 hrw.2.2.2.1 hH (by omega) z1
    have h34 : m 38 34 = 0 := by
      by_cases z : m0 38 34 = 0
      · rw [f34]
        exact z
      · unfold ly_nc at hx
        rw [if_neg z] at hx
        omega
    have hkc := (hch.2.2 (L k' - 1 - x) (by omega)).1
    have go : ∀ (b : um_S) (Q : um_S → Prop) (g : Nat), wp_Mo_table_16 Q g (nI j) (nI k') (nI (ly_nc m0 (L k'))) (nI (x + 1)) (um_J b m1) → wp_Mo_table_16 Q (g + 1) (nI j) (nI k') (nI (ly_nc m0 (L k'))) (nI x) (um_J b m) := by
      intro b Q g hq
      unfold wp_Mo_table_16
      rw [um_J_m (q := 38) (by decide), hrw.2.2.2.2.1, um_cl1 (show j < 2147483648 by omega), um_J_m (q := 60) (by decide), f60, q7, nI_add, um_cl1 (show hs j + x < 2147483648 by omega), um_J_m (q := 61) (by decide), f61, e61, show nI x + 1 = nI (x + 1) from um_succ]
      refine um_no (nI_ge (by omega) (by omega)) (um_yes' rfl ⟨vp_in_nI (by omega) (by decide), vp_in_nI (by omega) (by decide), p_catchAt (by omega) fch h34 (by omega) ⟨vp_in_nI (by omega) (by decide), p_catchAt (by omega) fch h34 (by omega) ⟨vp_in_nI (by omega) (by decide), ?_⟩⟩⟩)
      rw [um_cl1 (show C k' (L k' - 1 - x) < 2147483648 by omega), um_J_m (q := 40) (by decide), um_J_m (q := 41) (by decide), f40, f41]
      exact z2 (by omega) b _ hq
    rcases z4 with y | y
    · obtain ⟨c2, m2, w1, w2⟩ := ih (x + 1) c1 m1 (by omega) y
      refine ⟨c2, m2, fun b Q fuel hf hq => ?_, ?_⟩
      · obtain ⟨g, rfl⟩ : ∃ g, fuel = g + 1 := ⟨fuel - 1, by omega⟩
        exact go b Q g (w1 b Q g (by omega) hq)
      · rcases w2 with ⟨v1, v2⟩ | ⟨v1, v2⟩
        · rw [← Nat.add_assoc] at v2
          exact Or.inl ⟨v1, hcl.trans v2⟩
        · rw [← Nat.add_assoc] at v2
          exact Or.inr ⟨v1, hcl.clf (by omega) v2⟩
    · obtain ⟨-, g55, g39, g42, g60, -⟩ := facts c1 m1 y.1
      refine ⟨c1, m1, fun b Q fuel hf hq => ?_, Or.inr ⟨y, hcl.clf (by omega) (ly_clf_bad (by rw [y.2.1]; decide) (by omega))⟩⟩
      obtain ⟨g, rfl⟩ : ∃ g, fuel = g + 1 + 1 := ⟨fuel - 2, by omega⟩
      exact go b Q (g + 1) (p_tab16_bad (by omega) (by omega) g55 g39 (hfinb m1 g42 g60) (by rw [y.2.2.1]; decide) hq)
end LayTable
