/-! lay: a TRY has ended, and is set down -/
/-- is it worth the reference's queue? -/
def ly_wq (m : um_S) (k : Nat) : Bool := (decide (m 38 34 = 0) && !decide (m 41 k = -1)) || !decide (m 42 k = -1)
def ly_cnt (m : um_S) (tn : Nat → Nat) : Nat → Nat
  | 0 => 0
  | i + 1 => ly_cnt m tn i + (if ly_wq m (tn i) = true then 1 else 0)
/-- the dc TRYs that are set down in a function: items dn i, nodes tn i; v0 was the queue's length before it -/
def ly_dl (N v0 dc I : Nat) (dn tn : Nat → Nat) (c m : um_S) : Prop :=
  c 3 6 = nI dc ∧ m 38 32 = nI (v0 + ly_cnt m tn dc) ∧
  (∀ i, i < dc → c 16 i = nI (dn i + 1) ∧ dn i < I ∧ tn i < N ∧ m 39 (tn i) = 18 ∧ m 55 (dn i) = nI (tn i) ∧ ¬ m 59 (dn i) = -1 ∧ (ly_wq m (tn i) = true → m 62 (v0 + ly_cnt m tn i) = nI (dn i))) ∧
  ∀ i i2, i < i2 → i2 < dc → ¬ dn i = dn i2
/-- rows that no turn changes -/
def ly_kq (a : Nat) (c m c2 m2 : um_S) : Prop :=
  (∀ q, (q = 1 ∨ q = 4 ∨ (8 ≤ q ∧ q ≤ 10) ∨ (14 ≤ q ∧ q ≤ 22 ∧ ¬ q = 16) ∨ q = 30 ∨ (35 ≤ q ∧ q ≤ 37)) → c2 q = c q) ∧ (∀ k, ¬ (k = 5 ∨ k = 7) → c2 2 k = c 2 k) ∧ (∀ k, ¬ (k = 6 ∨ k = 8) → c2 3 k = c 3 k) ∧ (c2 5 8 = c 5 8 ∧ ∀ q, 26 ≤ q → q ≤ 28 → c2 q 0 = c q 0) ∧ c2 7 = c 7 ∧
  (∀ q, ((39 ≤ q ∧ q ≤ 45) ∨ (49 ≤ q ∧ q ≤ 54) ∨ (60 ≤ q ∧ q ≤ 61) ∨ 70 ≤ q) → m2 q = m q) ∧ (∀ k, ¬ (k = 10 ∨ k = 20 ∨ k = 23 ∨ k = 32 ∨ k = 35 ∨ k = 36 ∨ k = 37) → m2 38 k = m 38 k) ∧
  (∀ q k, 31 ≤ q → q ≤ 34 → k < a → c2 q k = c q k) ∧ ∀ q k, 63 ≤ q → q ≤ 69 → k < a → m2 q k = m q k
/-- the items after some turns -/
def ly_gx (I I1 dc dc1 : Nat) (dn1 : Nat → Nat) (m m1 : um_S) : Prop :=
  I ≤ I1 ∧ (∀ j, j < I → m1 55 j = m 55 j ∧ m1 57 j = m 57 j ∧ (¬ m 59 j = -1 → m1 59 j = m 59 j)) ∧
  (∀ j nd : Nat, j < I1 → nd < 150 → m1 55 j = nI nd → m 39 nd = 18 → ¬ m1 59 j = -1 → (j < I ∧ ¬ m 59 j = -1) ∨ ∃ i, dc ≤ i ∧ i < dc1 ∧ dn1 i = j) ∧
  ∀ i, dc ≤ i → i < dc1 → ¬ (dn1 i < I ∧ ¬ m 59 (dn1 i) = -1)
section LayDone
variable {N a n B r I I1 I2 v0 dc dc1 dc2 j : Nat} {D nd kd sd bd dn tn dn1 dn2 : Nat → Nat} {c m c1 m1 c2 m2 : um_S}
theorem ly_kq_of (h : ly_kp a c m c1 m1) : ly_kq a c m c1 m1 :=
  ⟨fun q hq => h.1 q (by omega), h.2.1, fun k hk => h.2.2.1 k (by omega), h.2.2.2.1, h.2.2.2.2.1, fun q hq => h.2.2.2.2.2.1 q (by omega), fun k hk => h.2.2.2.2.2.2.1 k (by omega), h.2.2.2.2.2.2.2.1, h.2.2.2.2.2.2.2.2⟩
theorem ly_kq.rf : ly_kq a c m c m := ly_kq_of ly_kp.rf
theorem ly_kq.trans (h : ly_kq a c m c1 m1) (g : ly_kq a c1 m1 c2 m2) : ly_kq a c m c2 m2 :=
  ⟨fun q hq => (g.1 q hq).trans (h.1 q hq), fun k hk => (g.2.1 k hk).trans (h.2.1 k hk), fun k hk => (g.2.2.1 k hk).trans (h.2.2.1 k hk), ⟨g.2.2.2.1.1.trans h.2.2.2.1.1, fun q a1 a2 => (g.2.2.2.1.2 q a1 a2).trans (h.2.2.2.1.2 q a1 a2)⟩, g.2.2.2.2.1.trans h.2.2.2.2.1, fun q hq => (g.2.2.2.2.2.1 q hq).trans (h.2.2.2.2.2.1 q hq), fun k hk => (g.2.2.2.2.2.2.1 k hk).trans (h.2.2.2.2.2.2.1 k hk), fun q k a1 a2 a3 => (g.2.2.2.2.2.2.2.1 q k a1 a2 a3).trans (h.2.2.2.2.2.2.2.1 q k a1 a2 a3), fun q k a1 a2 a3 => (g.2.2.2.2.2.2.2.2 q k a1 a2 a3).trans (h.2.2.2.2.2.2.2.2 q k a1 a2 a3)⟩
theorem ly_kq_uc {q k : Nat} {v : Int32} (hq : q = 6 ∨ q = 16 ∨ (11 ≤ q ∧ q ≤ 13) ∨ q = 29 ∨ (31 ≤ q ∧ q ≤ 34 ∧ a ≤ k) ∨ (q = 2 ∧ (k = 5 ∨ k = 7)) ∨ (q = 3 ∧ (k = 6 ∨ k = 8)) ∨ (q = 5 ∧ k = 9)) : ly_kq a c m (um_up c q k v) m :=
  ⟨fun i hi => um_up_q (by omega), fun i hi => um_up_ne (by omega), fun i hi => um_up_ne (by omega), ⟨um_up_ne (by omega), fun _ _ _ => um_up_ne (by omega)⟩, um_up_q (by omega), fun _ _ => rfl, fun _ _ => rfl, fun _ _ _ _ _ => um_up_ne (by omega), fun _ _ _ _ _ => rfl⟩
theorem ly_kq_um {q k : Nat} {v : Int32} (hq : (46 ≤ q ∧ q ≤ 48) ∨ (55 ≤ q ∧ q ≤ 59) ∨ q = 62 ∨ (63 ≤ q ∧ q ≤ 69 ∧ a ≤ k) ∨ (q = 38 ∧ (k = 10 ∨ k = 20 ∨ k = 23 ∨ k = 32 ∨ k = 35 ∨ k = 36 ∨ k = 37))) : ly_kq a c m c (um_up m q k v) :=
  ⟨fun _ _ => rfl, fun _ _ => rfl, fun _ _ => rfl, ⟨rfl, fun _ _ _ => rfl⟩, rfl, fun i hi => um_up_q (by omega), fun i hi => um_up_ne (by omega), fun _ _ _ _ _ => rfl, fun _ _ _ _ _ => um_up_ne (by omega)⟩
theorem ly_wq_of (e34 : m1 38 34 = m 38 34) (e41 : m1 41 = m 41) (e42 : m1 42 = m 42) (k : Nat) : ly_wq m1 k = ly_wq m k := by
  unfold ly_wq
  rw [e34, e41, e42]
theorem ly_cnt_of (e34 : m1 38 34 = m 38 34) (e41 : m1 41 = m 41) (e42 : m1 42 = m 42) : ∀ i, ly_cnt m1 tn i = ly_cnt m tn i
  | 0 => rfl
  | i + 1 => by
    show ly_cnt m1 tn i + _ = ly_cnt m tn i + _
    rw [ly_cnt_of e34 e41 e42 i, ly_wq_of e34 e41 e42]
theorem ly_cnt_g {f g : Nat → Nat} : ∀ i, (∀ k, k < i → f k = g k) → ly_cnt m f i = ly_cnt m g i
  | 0, _ => rfl
  | i + 1, h => by
    show ly_cnt m f i + _ = ly_cnt m g i + _
    rw [ly_cnt_g i (fun k hk => h k (by omega)), h i (by omega)]
theorem ly_cnt_le : ∀ i, ly_cnt m tn i ≤ i
  | 0 => Nat.le_refl _
  | i + 1 => by
    have := ly_cnt_le i
    show ly_cnt m tn i + (if ly_wq m (tn i) = true then 1 else 0) ≤ i + 1
    by_cases z : ly_wq m (tn i) = true
    · rw [if_pos z]
      omega
    · rw [if_neg z]
      omega
theorem ly_cnt_mono : ∀ d i, ly_cnt m tn i ≤ ly_cnt m tn (i + d)
  | 0, i => Nat.le_refl _
  | d + 1, i => Nat.le_trans (ly_cnt_mono d i) (Nat.le_add_right _ _)
theorem ly_cnt_lt {i k : Nat} (h : i < k) (hw : ly_wq m (tn i) = true) : ly_cnt m tn i < ly_cnt m tn k := by
  have h1 : ly_cnt m tn (i + 1) = ly_cnt m tn i + 1 := by
    show ly_cnt m tn i + (if ly_wq m (tn i) = true then 1 else 0) = _
    rw [if_pos hw]
  have h2 := ly_cnt_mono (m := m) (tn := tn) (k - (i + 1)) (i + 1)
  rw [show i + 1 + (k - (i + 1)) = k by omega] at h2
  omega
theorem ly_dl_kp (h : ly_dl N v0 dc I dn tn c m) (kp : ly_kp a c m c1 m1) (gw : ly_gw I I1 m m1) : ly_dl N v0 dc I1 dn tn c1 m1 := by
  obtain ⟨h1, h2, h3, h4⟩ := h
  have M : ∀ q, (39 ≤ q ∧ q ≤ 45) ∨ q = 62 → m1 q = m q := fun q hq => kp.2.2.2.2.2.1 q (by omega)
  have e34 : m1 38 34 = m 38 34 := kp.2.2.2.2.2.2.1 34 (by decide)
  have w := ly_wq_of e34 (M 41 (by decide)) (M 42 (by decide))
  have cn := ly_cnt_of (tn := tn) e34 (M 41 (by decide)) (M 42 (by decide))
  refine ⟨by rw [kp.2.2.1 6 (by decide)]; exact h1, by rw [kp.2.2.2.2.2.2.1 32 (by decide), cn]; exact h2, fun i hi => ?_, h4⟩
  obtain ⟨k1, k2, k3, k4, k5, k6, k7⟩ := h3 i hi
  obtain ⟨g1, g2, g3⟩ := gw.2.1 (dn i) k2
  refine ⟨by rw [kp.1 16 (by decide)]; exact k1, by have := gw.1; omega, k3, by rw [M 39 (by decide)]; exact k4, by rw [g1]; exact k5, by rw [g3 k6]; exact k6, fun z => ?_⟩
  rw [w] at z
  rw [cn, M 62 (by decide)]
  exact k7 z
theorem ly_gx_of (gw : ly_gw I I1 m m1) : ly_gx I I1 dc dc dn m m1 :=
  ⟨gw.1, gw.2.1, fun j nd a1 a2 a3 a4 a5 => Or.inl (gw.2.2 j nd a1 a2 a3 a4 a5), fun i a1 a2 => by omega⟩
theorem ly_gx.trans (h : ly_gx I I1 dc dc1 dn1 m m1) (g : ly_gx I1 I2 dc1 dc2 dn2 m1 m2) (e39 : m1 39 = m 39) (hd : ∀ i, i < dc1 → dn2 i = dn1 i) (hle : dc ≤ dc1 ∧ dc1 ≤ dc2) : ly_gx I I2 dc dc2 dn2 m m2 := by
  obtain ⟨h1, h2, h3, h4⟩ := h
  obtain ⟨g1, g2, g3, g4⟩ := g
  refine ⟨by omega, fun j hj => ?_, fun j nd a1 a2 a3 a4 a5 => ?_, fun i a1 a2 a3 => ?_⟩
  · obtain ⟨x1, x2, x3⟩ := h2 j hj
    obtain ⟨y1, y2, y3⟩ := g2 j (by omega)
    refine ⟨y1.trans x1, y2.trans x2, fun z => ?_⟩
    have e := x3 z
    rw [y3 (by rw [e]; exact z), e]
  · rcases g3 j nd a1 a2 a3 (by rw [e39]; exact a4) a5 with ⟨z1, z2⟩ | ⟨i, z1, z2, z3⟩
    · obtain ⟨y1, -⟩ := g2 j z1
      rcases h3 j nd z1 a2 (y1.symm.trans a3) a4 z2 with z | ⟨i, y1, y2, y3⟩
      · exact Or.inl z
      · exact Or.inr ⟨i, y1, by omega, by rw [hd i y2]; exact y3⟩
    · exact Or.inr ⟨i, by omega, z2, z3⟩
  · by_cases z : i < dc1
    · rw [hd i z] at a3
      exact h4 i a1 z a3
    · refine g4 i (by omega) a2 ⟨by omega, ?_⟩
      obtain ⟨-, -, x3⟩ := h2 (dn2 i) a3.1
      rw [x3 a3.2]
      exact a3.2
/-- TRY: it ends, and is set down -/
theorem ly_step_18c (h : ly_inv N a n B (r + 1) I D nd kd sd bd c m) (har : a ≤ r) (hk : kd r = 18) (hs : sd r = 2) (hdl : ly_dl N v0 dc I dn tn c m) (hb : v0 + dc + (r + 1) ≤ B + a) :
    ∃ c1 m1 j, ly_st c m c1 m1 ∧ ly_kq a c m c1 m1 ∧ ly_inv N a n B r I D nd kd sd bd c1 m1 ∧ ly_mu a B r kd sd < ly_mu a B (r + 1) kd sd ∧ ly_dl N v0 (dc + 1) I (ly_g dn dc j) (ly_g tn dc (nd r)) c1 m1 ∧ ly_gx I I dc (dc + 1) (ly_g dn dc j) m m1 := by
  obtain ⟨hr, hN⟩ := ly_bound h
  obtain ⟨e1, e2, e3, e4, e5, e6, e7, -⟩ := ly_inv_ent h har
  obtain ⟨ab, fi, j, e8, e9, e10, e11, f1, hDn, -, hj, k68, k32, k55, k24, k56, k57, k58, k59⟩ := ly_topT h har hk (by omega)
  obtain ⟨⟨⟨s1, s2, s3⟩, ⟨n1, n2, n3⟩, ⟨b1, b2', b3⟩, ⟨c59, m23, hIB⟩, -, h6, hitems, -⟩, ⟨t1, t2, t3, t4⟩, hd, -, ho⟩ := id h
  obtain ⟨l1, l2, l3, l4⟩ := hdl
  have hI : I ≤ 2000 := by omega
  have hT := ly_inv_tree h
  have m39 : m 39 (nd r) = 18 := by rw [e2, hk]; rfl
  have hcn := ly_cnt_le (m := m) (tn := tn) dc
  have hdc : dc < 2000 := by omega
  obtain ⟨l, ch, hch, hl0⟩ := ly_chain_try hT e1 m39
  have E : ∀ q, ¬ q = 33 → (um_up c 33 r (nI (sd r + 1))) q = c q := fun q hq => um_up_q hq
  have G : ∀ q, ¬ q = 67 → (um_up m 67 r (nI (sd r + 1))) q = m q := fun q hq => um_up_q hq
  have Ge : ∀ q, ¬ (q = 47 ∨ q = 59 ∨ q = 67) → (lm_ends (um_up m 67 r (nI (sd r + 1))) j n) q = m q := fun q hq => by rw [lm_ends_row (by omega), G q (by omega)]
  have hcl : ∀ (fuel v : Nat) (b : um_S) (Q : um_S → Prop), v < 1000000 → wp_La_takeTurns_2 Q fuel (nI (v + 1)) (um_J (um_up (um_up (um_up (um_up (um_up c 33 r (nI (sd r + 1))) 29 (j + 1) (nI n)) 16 dc (nI (j + 1))) 3 6 (nI (dc + 1))) 6 4 (nI r)) b) → wp_La_takeTurns_2 Q (fuel + 1) (nI v) (um_J c b) := by
    intro fuel v b Q hv hq
    refine p_turnT h har hk (by omega) hv ?_
    unfold wp_La_turnTry
    rw [um_cl1 (show r < 2147483648 by omega), um_J_c (q := 32) (by decide), E 32 (by decide)]
    refine um_no' (by rw [hs]; decide) ⟨vp_in_nI hr (by decide), ?_⟩
    have hsc : wp_Sc_scopeOf (c 32 r) = wp_Sc_scopeOf (nI (4 * (j + 1) + 0)) := by rw [k32]; rfl
    rw [hsc]
    refine p_scopeOf (s := j + 1) (p := 0) (by decide) (by omega) (um_no' (by rw [hs]; decide) ⟨vp_in_nI (by omega) (by decide), ?_⟩)
    rw [um_cl1 (show j + 1 < 2147483648 by omega), um_J_c (q := 2) (by decide), E 2 (by decide), n1, um_J_uc (by decide)]
    rintro σ3 rfl
    unfold wp_La_setDone
    rw [um_J_c (q := 3) (by decide), um_up_q (q := 29) (a := 3) (by decide), E 3 (by decide), l1]
    refine um_no (fun z => ?_) ⟨vp_in_nI (by omega) (by decide), ?_⟩
    · have := (nI_leI (a := 2000) (b := dc) (by decide) (by omega)).mp z
      omega
    rw [um_cl1 (show dc < 2147483648 by omega), um_J_uc (by decide)]
    rintro σ1 rfl
    rw [um_J_c (q := 3) (by decide), um_up_q (q := 16) (a := 3) (by decide), um_up_q (q := 29) (a := 3) (by decide), E 3 (by decide), l1, show nI dc + 1 = nI (dc + 1) from um_succ, um_J_uc (by decide)]
    rintro σ2 rfl
    refine p_Wpop (t := r) ?_ hr hq
    rw [um_up_q (by decide), um_up_q (by decide), um_up_q (by decide), E 6 (by decide)]
    exact t1
  have hmo : ∀ (b : um_S) (Q : um_S → Prop), (ly_wq m (nd r) = true → Q (um_J b (um_up (um_up (um_up (lm_ends (um_up m 67 r (nI (sd r + 1))) j n) 62 (v0 + ly_cnt m tn dc) (nI j)) 38 32 (nI (v0 + ly_cnt m tn dc + 1))) 38 37 (nI r)))) → (¬ ly_wq m (nd r) = true → Q (um_J b (um_up (lm_ends (um_up m 67 r (nI (sd r + 1))) j n) 38 37 (nI r)))) → wp_Mo_goesOn (um_J b m) Q := by
    intro b Q q1 q2
    refine p_goesT h har hk (by omega) ?_
    have no : ¬ ly_wq m (nd r) = true → wp_Mo_tries_181 Q (um_J b (lm_ends (um_up m 67 r (nI (sd r + 1))) j n)) := by
      intro z
      unfold wp_Mo_tries_181
      rw [um_J_m (q := 38) (by decide), Ge 38 (by decide), t2, show nI (r + 1) - 1 = nI r from um_pred (a := r + 1) (by omega), um_J_um (by decide)]
      rintro σ1 rfl
      exact q2 z
    have ok : ly_wq m (nd r) = true → wp_Mo_tries_156 Q (nI r) (um_J b (lm_ends (um_up m 67 r (nI (sd r + 1))) j n)) := by
      intro z
      unfold wp_Mo_tries_156 wp_Mo_tries_181
      rw [um_cl1 (show r < 2147483648 by omega), um_J_m (q := 38) (by decide), Ge 38 (by decide), l2, um_cl1 (show v0 + ly_cnt m tn dc < 2147483648 by omega), um_J_m (q := 68) (by decide), Ge 68 (by decide), k68, um_J_um (by decide)]
      refine ⟨vp_in_nI (by omega) (by decide), vp_in_nI (by omega) (by decide), ?_⟩
      rintro σ1 rfl
      rw [um_J_m (q := 38) (by decide), um_up_q (q := 62) (a := 38) (by decide), Ge 38 (by decide), l2, show nI (v0 + ly_cnt m tn dc) + 1 = nI (v0 + ly_cnt m tn dc + 1) from um_succ, um_J_um (by decide)]
      rintro σ2 rfl
      rw [um_J_m (q := 38) (by decide), um_up_ne (by decide), um_up_q (q := 62) (a := 38) (by decide), Ge 38 (by decide), t2, show nI (r + 1) - 1 = nI r from um_pred (a := r + 1) (by omega), um_J_um (by decide)]
      rintro σ3 rfl
      exact q1 z
    unfold wp_Mo_tries
    rw [um_cl1 (show r < 2147483648 by omega), um_J_m (q := 67) (by decide), um_up_self, um_J_m (q := 63) (by decide), G 63 (by decide), e5]
    refine ⟨vp_in_nI (by omega) (by decide), ?_⟩
    rintro x1 rfl
    refine ⟨vp_in_nI (by omega) (by decide), ?_⟩
    rintro x2 rfl
    refine um_no (by rw [hs]; decide) (um_no (by rw [hs]; decide) ⟨vp_in_nI (by omega) (by decide), ?_⟩)
    rw [um_J_m (q := 68) (by decide), G 68 (by decide), k68]
    refine p_Mends (n := n) (by rw [G 38 (by decide)]; exact n2) n3 (by omega) ?_
    have hch2 : ly_chain (lm_ends (um_up m 67 r (nI (sd r + 1))) j n) (nd r) ((lm_ends (um_up m 67 r (nI (sd r + 1))) j n) 41 (nd r)) l ch := by
      unfold ly_chain um_isS at *
      rw [Ge 41 (by decide), Ge 42 (by decide), Ge 43 (by decide), Ge 39 (by decide), Ge 44 (by decide)]
      exact hch
    refine p_catches (by omega) hch2 ⟨fun z => ok ?_, fun z => ⟨vp_in_nI (by omega) (by decide), ?_⟩⟩
    · unfold ly_nc at z
      rw [Ge 38 (by decide)] at z
      unfold ly_wq
      by_cases y : m 38 34 = 0
      · rw [if_pos y] at z
        have : ¬ m 41 (nd r) = -1 := by
          intro w
          rw [hl0.mpr w] at z
          exact absurd z (by decide)
        simp [y, this]
      · rw [if_neg y] at z
        exact absurd z (by decide)
    · have zc : ¬ (m 38 34 = 0 ∧ ¬ m 41 (nd r) = -1) := by
        rintro ⟨y1, y2⟩
        have l0 : ¬ l = 0 := fun w => y2 (hl0.mp w)
        have hlk := hch.1
        unfold ly_nc at z
        rw [Ge 38 (by decide), if_pos y1] at z
        exact z (nI_lt (a := 0) (b := l) (by omega) (by omega))
      rw [um_J_m (q := 68) (by decide), Ge 68 (by decide), k68]
      refine p_Mhas (k := nd r) (by omega) (by rw [Ge 55 (by decide)]; exact k55) (by omega) (by rw [Ge 39 (by decide)]; exact m39) (fun y => ⟨fun _ => no ?_, fun x => absurd x (by decide)⟩) (fun y => ⟨fun x => absurd x (by decide), fun _ => ok ?_⟩)
      · rw [Ge 42 (by decide)] at y
        unfold ly_wq
        by_cases y1 : m 38 34 = 0
        · have y2 : m 41 (nd r) = -1 := by
            by_cases y2 : m 41 (nd r) = -1
            · exact y2
            · exact absurd ⟨y1, y2⟩ zc
          simp [y1, y2, y]
        · simp [y1, y]
      · rw [Ge 42 (by decide)] at y
        unfold ly_wq
        simp [y]
  have hc0 := ly_core_up (v := nI (sd r + 1)) (v2 := nI (sd r + 1)) (ly_inv_core h) (q := 33) (k := r) (q2 := 67) (k2 := r) (Or.inl ⟨by decide, by decide, Nat.le_refl _⟩) (Or.inl ⟨by decide, by decide, Nat.le_refl _⟩)
  have hc1 := ly_core_ends (j := j) hc0 hI hj hDn (fun _ => by rw [G 59 (by decide)]; exact k59) (fun i a1 a2 a3 a4 => by rw [G 68 (by decide)]; exact ly_others h (Or.inr hk) (by omega) hj k68 i a1 a2 a3 a4)
  have hX : ∀ q, q < n → ly_X (r + 1) kd sd c q → ly_X r kd sd c q := by
    rintro q - ⟨i, a1, a2, a3, a4⟩
    by_cases e : i = r
    · subst e
      exact absurd (a2.symm.trans hk) (by decide)
    · exact ⟨i, by omega, a2, a3, a4⟩
  have done : ∀ m1 : um_S, (∀ q, ¬ (q = 38 ∨ q = 62) → m1 q = lm_ends (um_up m 67 r (nI (sd r + 1))) j n q) → (∀ k, ¬ (k = 32 ∨ k = 37) → m1 38 k = m 38 k) → m1 38 37 = nI r → m1 38 32 = nI (v0 + ly_cnt m (ly_g tn dc (nd r)) (dc + 1)) → (∀ k, ¬ k = v0 + ly_cnt m tn dc → m1 62 k = m 62 k) → (ly_wq m (nd r) = true → m1 62 (v0 + ly_cnt m tn dc) = nI j) → ly_kq a c m c m1 →
      ly_kq a c m (um_up (um_up (um_up (um_up (um_up c 33 r (nI (sd r + 1))) 29 (j + 1) (nI n)) 16 dc (nI (j + 1))) 3 6 (nI (dc + 1))) 6 4 (nI r)) m1 ∧ ly_inv N a n B r I D nd kd sd bd (um_up (um_up (um_up (um_up (um_up c 33 r (nI (sd r + 1))) 29 (j + 1) (nI n)) 16 dc (nI (j + 1))) 3 6 (nI (dc + 1))) 6 4 (nI r)) m1 ∧ ly_dl N v0 (dc + 1) I (ly_g dn dc j) (ly_g tn dc (nd r)) (um_up (um_up (um_up (um_up (um_up c 33 r (nI (sd r + 1))) 29 (j + 1) (nI n)) 16 dc (nI (j + 1))) 3 6 (nI (dc + 1))) 6 4 (nI r)) m1 ∧ ly_gx I I dc (dc + 1) (ly_g dn dc j) m m1 := by
    intro m1 g1 g2 g3 g4 g5 g6 g7
    have Em : ∀ q, ¬ (q = 38 ∨ q = 62 ∨ q = 47 ∨ q = 59 ∨ q = 67) → m1 q = m q := fun q hq => by rw [g1 q (by omega), Ge q (by omega)]
    have m59 : ∀ i, ¬ i = j → m1 59 i = m 59 i := fun i hi => by rw [g1 59 (by decide), lm_ends_59 hi, G 59 (by decide)]
    have m59j : m1 59 j = nI n := by rw [g1 59 (by decide), lm_ends_59j]
    have Ec : ∀ q, ¬ (q = 3 ∨ q = 6 ∨ q = 16 ∨ q = 29 ∨ q = 33) → (um_up (um_up (um_up (um_up (um_up c 33 r (nI (sd r + 1))) 29 (j + 1) (nI n)) 16 dc (nI (j + 1))) 3 6 (nI (dc + 1))) 6 4 (nI r)) q = c q := fun q hq => by rw [um_up_q (by omega), um_up_q (by omega), um_up_q (by omega), um_up_q (by omega), um_up_q (by omega)]
    have cn : ∀ i, i ≤ dc → ly_cnt m1 (ly_g tn dc (nd r)) i = ly_cnt m tn i := fun i hi => by
      rw [ly_cnt_of (g2 34 (by decide)) (Em 41 (by decide)) (Em 42 (by decide))]
      exact ly_cnt_g i (fun k hk => ly_g_ne (by omega))
    have wq := ly_wq_of (g2 34 (by decide)) (Em 41 (by decide)) (Em 42 (by decide))
    refine ⟨(((((ly_kq_uc (by omega)).trans (ly_kq_uc (by omega))).trans (ly_kq_uc (by omega))).trans (ly_kq_uc (by omega))).trans (ly_kq_uc (by omega))).trans ⟨fun _ _ => rfl, fun _ _ => rfl, fun _ _ => rfl, ⟨rfl, fun _ _ _ => rfl⟩, rfl, g7.2.2.2.2.2.1, g7.2.2.2.2.2.2.1, fun _ _ _ _ _ => rfl, g7.2.2.2.2.2.2.2.2⟩, ?_, ?_, ?_⟩
    · refine ly_downE h har hj hI k68 (ly_core_keep (X2 := ly_X r kd sd c) (B2 := B) hc1 ?_ ?_ ?_ ?_ ?_ ?_ hX ?_ ?_ ?_ ?_) ?_ ?_ g3 ?_ m59 ?_ ?_
      · exact ⟨by rw [um_up_q (by decide), um_up_ne (by decide), um_up_q (by decide), um_up_q (by decide), E 3 (by decide)]; exact s1, by rw [g2 35 (by decide)]; exact s2, by rw [g2 36 (by decide)]; exact s3⟩
      · exact ⟨by rw [Ec 2 (by decide)]; exact n1, by rw [g2 10 (by decide)]; exact n2⟩
      · exact ⟨by rw [Ec 2 (by decide)]; exact b1, by rw [g2 20 (by decide)]; exact b2', Nat.le_refl _, b3⟩
      · exact ⟨by rw [Ec 5 (by decide), um_up_q (by decide), E 5 (by decide)], by rw [g2 23 (by decide), Ge 38 (by decide)]⟩
      · exact um_tree_of hT (by rw [Ec 1 (by decide)]) (Ec 8 (by decide)) (Ec 9 (by decide)) (Ec 10 (by decide)) (by rw [Ec 26 (by decide)]) (by rw [Ec 27 (by decide)]) (by rw [Ec 28 (by decide)]) (g2 1 (by decide)) (Em 39 (by decide)) (Em 40 (by decide)) (Em 41 (by decide)) (Em 42 (by decide)) (Em 43 (by decide)) (Em 44 (by decide)) (Em 45 (by decide))
      · exact ⟨fun q s a1 a2 a3 => by rw [um_up_q (by omega), um_up_q (by omega), um_up_q (by omega)], fun q i a1 a2 a3 => by rw [g1 q (by omega)], fun q a1 a2 => g1 q (by omega)⟩
      · intro q p a1 a2 a3
        rw [Ec q (by omega), um_up_q (by omega), E q (by omega)]
      · intro q p a1 a2 a3
        rw [g1 q (by omega)]
      · intro q i a1 a2 a3
        rw [um_up_q (by omega), um_up_q (by omega), um_up_q (by omega)]
      · intro q i a1 a2 a3
        rw [g1 q (by omega)]
      · rintro q hq ⟨i, a1, a2, a3, a4⟩
        exact ⟨i, a1, a2, a3, by rw [Ec 34 (by decide)]; exact a4⟩
      · exact um_up_self
      · rw [hDn, f1, hk]
        rfl
      · rw [m59j]
        exact ly_ne (by omega)
      · intro i hi
        rw [Em 68 (by decide)]
    · refine ⟨by rw [um_up_q (by decide), um_up_self], ?_, fun i hi => ?_, fun i i2 a1 a2 => ?_⟩
      · rw [g4, ly_cnt_of (g2 34 (by decide)) (Em 41 (by decide)) (Em 42 (by decide))]
      · by_cases z : i = dc
        · subst z
          rw [ly_g_at, ly_g_at]
          refine ⟨?_, hj, e1, by rw [Em 39 (by decide)]; exact m39, by rw [Em 55 (by decide)]; exact k55, by rw [m59j]; exact ly_ne (by omega), fun y => ?_⟩
          · rw [um_up_q (by decide), um_up_q (by decide), um_up_self]
          · rw [cn i (Nat.le_refl _)]
            rw [wq] at y
            exact g6 y
        · rw [ly_g_ne z, ly_g_ne z]
          obtain ⟨y1, y2, y3, y4, y5, y6, y7⟩ := l3 i (by omega)
          have ne : ¬ dn i = j := by
            intro y
            rw [y] at y6
            exact y6 k59
          refine ⟨?_, y2, y3, by rw [Em 39 (by decide)]; exact y4, by rw [Em 55 (by decide)]; exact y5, by rw [m59 _ ne]; exact y6, fun y => ?_⟩
          · rw [um_up_q (by decide), um_up_q (by decide), um_up_ne (by omega), um_up_q (by decide), E 16 (by decide)]
            exact y1
          · rw [cn i (by omega)]
            rw [wq] at y
            have lt : ly_cnt m tn i < ly_cnt m tn dc := ly_cnt_lt (by omega) y
            rw [g5 _ (by omega)]
            exact y7 y
      · by_cases z : i2 = dc
        · subst z
          rw [ly_g_at, ly_g_ne (by omega)]
          intro y
          obtain ⟨-, -, -, -, -, y6, -⟩ := l3 i (by omega)
          rw [y] at y6
          exact y6 k59
        · rw [ly_g_ne z, ly_g_ne (by omega)]
          exact l4 i i2 a1 (by omega)
    · refine ⟨Nat.le_refl _, fun i hi => ⟨by rw [Em 55 (by decide)], by rw [Em 57 (by decide)], fun z => m59 i ?_⟩, fun i nd0 a1 a2 a3 a4 a5 => ?_, fun i a1 a2 a3 => ?_⟩
      · rintro rfl
        exact z k59
      · by_cases z : i = j
        · exact Or.inr ⟨dc, Nat.le_refl _, by omega, by rw [ly_g_at]; exact z.symm⟩
        · rw [m59 i z] at a5
          exact Or.inl ⟨a1, a5⟩
      · have z : i = dc := by omega
        subst z
        rw [ly_g_at] at a3
        exact a3.2 k59
  by_cases hw : ly_wq m (nd r) = true
  · obtain ⟨d1, d2, d3, d4⟩ := done (um_up (um_up (um_up (lm_ends (um_up m 67 r (nI (sd r + 1))) j n) 62 (v0 + ly_cnt m tn dc) (nI j)) 38 32 (nI (v0 + ly_cnt m tn dc + 1))) 38 37 (nI r)) (fun q hq => by rw [um_up_q (by omega), um_up_q (by omega), um_up_q (by omega)]) (fun k hk => by rw [um_up_ne (by omega), um_up_ne (by omega), um_up_q (by decide), Ge 38 (by decide)]) um_up_self (by
        rw [um_up_ne (by decide), um_up_self]
        show _ = nI (v0 + (ly_cnt m (ly_g tn dc (nd r)) dc + (if ly_wq m (ly_g tn dc (nd r) dc) = true then 1 else 0)))
        rw [ly_g_at, if_pos hw, ly_cnt_g (g := tn) dc (fun k hk => ly_g_ne (by omega)), Nat.add_assoc]) (fun k hk => by rw [um_up_q (by decide), um_up_q (by decide), um_up_ne (by omega), Ge 62 (by decide)]) (fun _ => by rw [um_up_q (by decide), um_up_q (by decide), um_up_self])
        ((((ly_kq_um (by omega)).trans (ly_kq_of ly_kp_ends)).trans ((ly_kq_um (by omega)).trans (ly_kq_um (by omega)))).trans (ly_kq_um (by omega)))
    exact ⟨_, _, j, ⟨fun fuel v b Q hv hq => hcl fuel v b Q hv hq, fun b Q hq => hmo b Q (fun _ => hq) (fun z => absurd hw z)⟩, d1, d2, ly_mu_pop har (by rw [hk, hs]; decide), d3, d4⟩
  · obtain ⟨d1, d2, d3, d4⟩ := done (um_up (lm_ends (um_up m 67 r (nI (sd r + 1))) j n) 38 37 (nI r)) (fun q hq => by rw [um_up_q (by omega)]) (fun k hk => by rw [um_up_ne (by omega), Ge 38 (by decide)]) um_up_self (by
        rw [um_up_ne (by decide), Ge 38 (by decide), l2]
        show _ = nI (v0 + (ly_cnt m (ly_g tn dc (nd r)) dc + (if ly_wq m (ly_g tn dc (nd r) dc) = true then 1 else 0)))
        rw [ly_g_at, if_neg hw, ly_cnt_g (g := tn) dc (fun k hk => ly_g_ne (by omega)), Nat.add_zero]) (fun k hk => by rw [um_up_q (by decide), Ge 62 (by decide)]) (fun z => absurd z hw)
        (((ly_kq_um (by omega)).trans (ly_kq_of ly_kp_ends)).trans (ly_kq_um (by omega)))
    exact ⟨_, _, j, ⟨fun fuel v b Q hv hq => hcl fuel v b Q hv hq, fun b Q hq => hmo b Q (fun z => absurd z hw) (fun _ => hq)⟩, d1, d2, ly_mu_pop har (by rw [hk, hs]; decide), d3, d4⟩
end LayDone
