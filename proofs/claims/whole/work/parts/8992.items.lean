/-! lay: all TRYs of a function are laid apart -/
def lm_sep (m : um_S) (j k H : Nat) : um_S := um_up (um_up (um_up (um_up (um_up (um_up (um_up m 60 j (nI H)) 63 0 (nI k)) 64 0 (m 56 j)) 67 0 100) 68 0 (nI j)) 69 0 0) 38 37 (nI 1)
section LayItems
variable {N v0 i0 ci f k j h0 n B I dc H i kk kr : Nat} {L : Nat → Nat} {C : Nat → Nat → Nat} {D bs it ix hs nn dn tn : Nat → Nat} {c m c1 m1 b : um_S} {Q : um_S → Prop} {v : Int32}
theorem p_sep (hj : j < 2001) (h30 : m 38 30 = nI H) (h37 : m 38 37 = nI 0) (h55 : m 55 j = nI k) (hq : Q (um_J b (lm_sep m j k H))) : wp_Mo_separates (nI j) (um_J b m) Q := by
  have ij : vp_in (nI j) 2001 := vp_in_nI hj (by decide)
  have i0' : vp_in (nI 0) 2002 := vp_in_nI (by omega) (by decide)
  have c0 : (nI 0).toNatClampNeg = 0 := um_cl1 (by omega)
  unfold wp_Mo_separates
  rw [um_cl1 (show j < 2147483648 by omega), um_J_m (q := 38) (by decide), h30, um_J_um (by decide)]
  refine ⟨ij, ?_⟩
  rintro σ1 rfl
  rw [um_J_m (q := 38) (by decide), um_up_q (q := 60) (a := 38) (by decide), h37, c0, um_J_m (q := 55) (by decide), um_up_q (q := 60) (a := 55) (by decide), h55, um_J_um (by decide)]
  refine ⟨ij, i0', ?_⟩
  rintro σ2 rfl
  rw [um_J_m (q := 38) (by decide), um_up_q (q := 63) (a := 38) (by decide), um_up_q (q := 60) (a := 38) (by decide), h37, c0, um_J_m (q := 56) (by decide), um_up_q (q := 63) (a := 56) (by decide), um_up_q (q := 60) (a := 56) (by decide), um_J_um (by decide)]
  refine ⟨ij, i0', ?_⟩
  rintro σ3 rfl
  rw [um_J_m (q := 38) (by decide), um_up_q (q := 64) (a := 38) (by decide), um_up_q (q := 63) (a := 38) (by decide), um_up_q (q := 60) (a := 38) (by decide), h37, c0, um_J_um (by decide)]
  refine ⟨i0', ?_⟩
  rintro σ4 rfl
  rw [um_J_m (q := 38) (by decide), um_up_q (q := 67) (a := 38) (by decide), um_up_q (q := 64) (a := 38) (by decide), um_up_q (q := 63) (a := 38) (by decide), um_up_q (q := 60) (a := 38) (by decide), h37, c0, um_J_um (by decide)]
  refine ⟨i0', ?_⟩
  rintro σ5 rfl
  rw [um_J_m (q := 38) (by decide), um_up_q (q := 68) (a := 38) (by decide), um_up_q (q := 67) (a := 38) (by decide), um_up_q (q := 64) (a := 38) (by decide), um_up_q (q := 63) (a := 38) (by decide), um_up_q (q := 60) (a := 38) (by decide), h37, c0, um_J_um (by decide)]
  refine ⟨i0', ?_⟩
  rintro σ6 rfl
  rw [um_J_m (q := 38) (by decide), um_up_q (q := 69) (a := 38) (by decide), um_up_q (q := 68) (a := 38) (by decide), um_up_q (q := 67) (a := 38) (by decide), um_up_q (q := 64) (a := 38) (by decide), um_up_q (q := 63) (a := 38) (by decide), um_up_q (q := 60) (a := 38) (by decide), h37, show nI 0 + 1 = nI 1 from um_succ, um_J_um (by decide)]
  rintro σ7 rfl
  exact hq
theorem lm_sep_row {q : Nat} (h : ¬ (q = 38 ∨ q = 60 ∨ (63 ≤ q ∧ q ≤ 69))) : lm_sep m j k H q = m q := by
  unfold lm_sep
  rw [um_up_q (by omega), um_up_q (by omega), um_up_q (by omega), um_up_q (by omega), um_up_q (by omega), um_up_q (by omega), um_up_q (by omega)]
theorem lm_sep_38 {q : Nat} (h : ¬ q = 37) : lm_sep m j k H 38 q = m 38 q := by
  unfold lm_sep
  rw [um_up_ne (by omega), um_up_q (by decide), um_up_q (by decide), um_up_q (by decide), um_up_q (by decide), um_up_q (by decide), um_up_q (by decide)]
theorem lm_sep_60 {q : Nat} (h : ¬ q = j) : lm_sep m j k H 60 q = m 60 q := by
  unfold lm_sep
  rw [um_up_q (by decide), um_up_q (by decide), um_up_q (by decide), um_up_q (by decide), um_up_q (by decide), um_up_q (by decide), um_up_ne (by omega)]
theorem lm_sep_at : lm_sep m j k H 60 j = nI H ∧ lm_sep m j k H 63 0 = nI k ∧ lm_sep m j k H 67 0 = nI 100 ∧ lm_sep m j k H 68 0 = nI j ∧ lm_sep m j k H 69 0 = nI 0 ∧ lm_sep m j k H 38 37 = nI 1 := by
  unfold lm_sep
  refine ⟨?_, ?_, ?_, ?_, ?_, ?_⟩
  · rw [um_up_q (by decide), um_up_q (by decide), um_up_q (by decide), um_up_q (by decide), um_up_q (by decide), um_up_q (by decide), um_up_self]
  · rw [um_up_q (by decide), um_up_q (by decide), um_up_q (by decide), um_up_q (by decide), um_up_q (by decide), um_up_self]
  · rw [um_up_q (by decide), um_up_q (by decide), um_up_q (by decide), um_up_self]
    rfl
  · rw [um_up_q (by decide), um_up_q (by decide), um_up_self]
  · rw [um_up_q (by decide), um_up_self]
    rfl
  · rw [um_up_self]
theorem lc_push_row {q t : Nat} {node ctx step : Int32} (h : ¬ (q = 6 ∨ (31 ≤ q ∧ q ≤ 34))) : lc_push c t node ctx step q = c q := by
  unfold lc_push
  rw [um_up_q (by omega), um_up_q (by omega), um_up_q (by omega), um_up_q (by omega), um_up_q (by omega)]
theorem lc_push_at {t : Nat} {node ctx step : Int32} : lc_push c t node ctx step 31 t = node ∧ lc_push c t node ctx step 32 t = ctx ∧ lc_push c t node ctx step 33 t = step ∧ lc_push c t node ctx step 34 t = -1 ∧ lc_push c t node ctx step 6 4 = nI (t + 1) := by
  unfold lc_push
  refine ⟨?_, ?_, ?_, ?_, ?_⟩
  · rw [um_up_q (by decide), um_up_q (by decide), um_up_q (by decide), um_up_q (by decide), um_up_self]
  · rw [um_up_q (by decide), um_up_q (by decide), um_up_q (by decide), um_up_self]
  · rw [um_up_q (by decide), um_up_q (by decide), um_up_self]
  · rw [um_up_q (by decide), um_up_self]
  · rw [um_up_self]
/-- the turns end when the pile is empty, or at a failure -/
theorem p_takeEnd {fuel : Nat} (he : c 6 4 = nI 0 ∨ ¬ c 3 8 = 0) (hq : Q (um_J c b)) : wp_La_takeTurns_2 Q (fuel + 1) v (um_J c b) := by
  unfold wp_La_takeTurns_2
  rw [um_J_c (q := 6) (by decide), um_J_c (q := 3) (by decide)]
  refine ⟨fun _ => hq, fun _ => ⟨fun _ => hq, fun z => ⟨fun _ => hq, fun w => ?_⟩⟩⟩
  rcases he with e | e
  · exfalso
    rw [e] at z
    exact z (by decide)
  · exact absurd w e
theorem p_take (st : ly_sts kk kr c m c1 m1) (hk : kk ≤ 50000) (he : c1 6 4 = nI 0 ∨ ¬ c1 3 8 = 0) (hq : Q (um_J c1 b)) : wp_La_takeTurns (um_J c b) Q := by
  unfold wp_La_takeTurns
  have h := st.1 (99999 - kk + 1) 0 b Q (by omega) (p_takeEnd he hq)
  rw [show 99999 - kk + 1 + kk = 100000 by omega] at h
  exact h
theorem p_lf56_bad {fuel : Nat} (he : ¬ c 3 8 = 0) (hq : Q (um_J c b)) : wp_La_layFunction_56 Q (fuel + 1) v (um_J c b) := by
  unfold wp_La_layFunction_56
  rw [um_J_c (q := 3) (by decide)]
  exact ⟨fun _ => hq, fun _ => ⟨fun _ => hq, fun _ => ⟨fun _ => hq, fun w => absurd w he⟩⟩⟩
theorem p_l67_bad {fuel : Nat} {K2 : Int32 → um_S → Prop} {v1 v2 v3 : Int32} (he : ly_fail c m) (hq : K2 (v1 + 1) (um_J b m)) : wp_Mo_laysAll_67 Q K2 (fuel + 1) v1 v2 v3 (um_J b m) := by
  unfold wp_Mo_laysAll_67
  rw [um_J_m (q := 38) (by decide)]
  refine ⟨fun _ => hq, fun z => ⟨fun _ => hq, fun w => ?_⟩⟩
  rcases he with ⟨-, e, -⟩ | ⟨-, e⟩
  · rw [e] at z
    exact absurd z (by decide)
  · rw [e] at w
    exact absurd w (by decide)
theorem ly_fail_c (he : ly_fail c m) : ¬ c 3 8 = 0 := by
  rcases he with ⟨e, -⟩ | ⟨e, -⟩ <;> rw [e] <;> decide
/-- the reference's first handler of item j is noted: it has none yet -/
theorem ly_hd_60 {v : Int32} (h : ly_hd I n D L C bs it ix hs nn c m) (hz : bs j = 0) : ly_hd I n D L C bs it ix hs nn c (um_up m 60 j v) := by
  obtain ⟨h1, h2, h3, h4⟩ := h
  have M : ∀ q, ¬ q = 60 → (um_up m 60 j v) q = m q := fun q hq => um_up_q hq
  have at' : ∀ bs i, ly_at (um_up m 60 j v) bs i = ly_at m bs i := fun bs i => by
    have e : ly_ov (um_up m 60 j v) = ly_ov m := by
      funext i
      unfold ly_ov
      rw [M 57 (by decide)]
    unfold ly_at
    rw [e]
  refine ⟨by rw [M 38 (by decide)]; exact h1, fun i hi => ?_, fun p hp => by rw [at']; exact h3 p hp, fun i x hx => ?_⟩
  · obtain ⟨k1, k2, k3, k4, k5, k6, k7, k8⟩ := h2 i hi
    refine ⟨k1, by rw [M 59 (by decide)]; exact k2, k3, by rw [M 55 (by decide)]; exact k4, by rw [M 39 (by decide)]; exact k5, by rw [ly_nh_of (by rw [M 38 (by decide)]) (M 42 (by decide))]; exact k6, ?_, k8⟩
    rw [um_up_ne (fun z => by rw [z.2] at hi; omega)]
    exact k7
  · obtain ⟨tg, k1, k2, k3, k4, k5, k6⟩ := h4 i x hx
    refine ⟨tg, k1, k2, ?_⟩
    rw [at', M 61 (by decide)]
    refine ⟨k3, ?_, k5, k6⟩
    unfold ly_hx ly_nc at *
    rw [M 38 (by decide)]
    exact k4
theorem ly_gl_next (h : ly_gl N v0 i ci f L C 2001 n B I dc D bs it ix hs nn dn tn c m) (hI : I ≤ 2000) (hi : i < dc) : ly_gl N v0 (i + 1) (ci + (if ly_wq m (tn i) = true then 1 else 0)) f L C (dn i) n B I dc D bs it ix hs nn dn tn c m := by
  obtain ⟨h1, h2, h3, h4, h5, h6, h7, h8⟩ := h
  refine ⟨h1, h2, h3, h4, ⟨h5.1, by omega, ?_⟩, fun y k a1 a2 a3 a4 a5 => ?_, fun q a1 a2 => ⟨(h7 q (by omega) a2).1, fun z => h2.2.2.2 i q (by omega) a2 z.symm⟩, h8⟩
  · show ly_cnt m tn i + _ = _
    rw [h5.2.2]
  · rcases h6 y k a1 a2 a3 a4 a5 with z | z | ⟨q, z1, z2, z3⟩
    · exact Or.inl z
    · omega
    · by_cases w : q = i
      · subst w
        exact Or.inr (Or.inl z3.symm)
      · exact Or.inr (Or.inr ⟨q, by omega, z2, z3⟩)
/-- a TRY is taken up -/
theorem ly_enter (hmid : ly_mid N 0 n B I D c m) (hgl : ly_gl N v0 i ci f L C 2001 n B I dc D bs it ix hs nn dn tn c m) (hi : i < dc) :
    ly_mid N 1 n B I D (lc_push c 0 (nI (tn i)) (nI (4 * (dn i + 1) + 1)) 3) (lm_sep m (dn i) (tn i) (ly_T bs 2001)) ∧
    ly_ap N v0 (i + 1) (ci + (if ly_wq m (tn i) = true then 1 else 0)) f L C (tn i) (dn i) (ly_T bs 2001) (ly_nc m (L (tn i))) (ly_nh m L (tn i)) 3 100 0 (ly_cv (L (tn i)) (C (tn i)) (L (tn i) - 0)) 0 n B I dc D bs it ix hs nn dn tn (lc_push c 0 (nI (tn i)) (nI (4 * (dn i + 1) + 1)) 3) (lm_sep m (dn i) (tn i) (ly_T bs 2001)) := by
  have hb := hmid.1 0
  obtain ⟨hI, hN, hn, hBB⟩ := ly_bare_I hb
  have hg1 := ly_gl_next hgl hI hi
  obtain ⟨k1, k2, k3, k4, k5, k6, k7⟩ := hgl.2.1.2.2.1 i hi
  obtain ⟨hz, -⟩ := hgl.2.2.2.2.2.2.1 i (Nat.le_refl _) hi
  obtain ⟨c1, c2, c3, c4, c5⟩ := lc_push_at (c := c) (t := 0) (node := nI (tn i)) (ctx := nI (4 * (dn i + 1) + 1)) (step := 3)
  obtain ⟨d1, d2, d3, d4, d5, d6⟩ := lm_sep_at (m := m) (j := dn i) (k := tn i) (H := ly_T bs 2001)
  have E : ∀ p, ¬ (p = 6 ∨ (31 ≤ p ∧ p ≤ 34)) → (lc_push c 0 (nI (tn i)) (nI (4 * (dn i + 1) + 1)) 3) p = c p := fun p hp => lc_push_row hp
  have G : ∀ p, ¬ (p = 38 ∨ p = 60 ∨ (63 ≤ p ∧ p ≤ 69)) → (lm_sep m (dn i) (tn i) (ly_T bs 2001)) p = m p := fun p hp => lm_sep_row hp
  have G38 : ∀ q, ¬ q = 37 → (lm_sep m (dn i) (tn i) (ly_T bs 2001)) 38 q = m 38 q := fun q hq => lm_sep_38 hq
  have hhd : ly_hd I n D L C bs it ix hs nn (lc_push c 0 (nI (tn i)) (nI (4 * (dn i + 1) + 1)) 3) (lm_sep m (dn i) (tn i) (ly_T bs 2001)) := by
    have h60 := ly_hd_60 (j := dn i) (v := nI (ly_T bs 2001)) hgl.1 hz
    have r60 : lm_sep m (dn i) (tn i) (ly_T bs 2001) 60 = um_up m 60 (dn i) (nI (ly_T bs 2001)) 60 := by
      unfold lm_sep
      rw [um_up_q (by decide), um_up_q (by decide), um_up_q (by decide), um_up_q (by decide), um_up_q (by decide), um_up_q (by decide)]
    refine ly_hd_of h60 (Nat.le_refl _) (Nat.le_refl _) (fun _ _ => rfl) (fun p a1 a2 => E p (by omega)) (by rw [E 7 (by decide)]) (fun p hp => ?_) ⟨by rw [G38 30 (by decide), um_up_q (by decide)], by rw [G38 34 (by decide), um_up_q (by decide)]⟩ (fun y hy => ⟨by rw [G 55 (by decide), um_up_q (by decide)], by rw [G 57 (by decide), um_up_q (by decide)], fun _ => by rw [G 59 (by decide), um_up_q (by decide)]⟩)
    by_cases z : p = 60
    · subst z
      exact r60
    · rw [G p (by omega), um_up_q (by omega)]
  refine ⟨ly_mid_row hmid (fun p hp => E p (by omega)) ⟨by rw [E 2 (by decide)], by rw [E 2 (by decide)]⟩ (fun p hp => G p (by omega)) (fun q hq => G38 q (by omega)) c5 d6, ?_, ?_, ?_, hz, d1, Nat.add_zero _, ?_, ?_⟩
  · exact ly_gl_of (B1 := B) hg1 hhd (fun _ _ => rfl) (Nat.le_refl _) (Nat.le_refl _) (fun _ _ => rfl) ⟨E 16 (by decide), E 14 (by decide)⟩ ⟨by rw [E 3 (by decide)], by rw [E 3 (by decide)]⟩ (by rw [E 2 (by decide), G38 21 (by decide)]; exact hgl.2.2.2.1.2) (fun p hp => G p (by omega)) ⟨G38 32 (by decide), G38 34 (by decide)⟩
  · refine ⟨⟨c1, c2, c3, c4.trans ?_⟩, d2, d3, d4, d5⟩
    unfold ly_cv
    rw [if_neg (by omega)]
  · exact ⟨k2, k3, by rw [G 55 (by decide)]; exact k5, by rw [G 39 (by decide)]; exact k4, by rw [G 59 (by decide)]; exact k6⟩
  · exact ly_nc_of (G38 34 (by decide)) _
  · exact ly_nh_of (G38 34 (by decide)) (G 42 (by decide)) _
/-- a TRY that has nothing to lay apart: the class passes it by -/
theorem ly_pass (hmid : ly_mid N 0 n B I D c m) (hgl : ly_gl N v0 i ci f L C 2001 n B I dc D bs it ix hs nn dn tn c m) (hi : i < dc) (hw : ¬ ly_wq m (tn i) = true) :
    ∃ c1, (∀ (b : um_S) (Q : um_S → Prop), Q (um_J c1 b) → wp_La_takeTurns (um_J (lc_push c 0 (nI (tn i)) (nI (4 * (dn i + 1) + 1)) 3) b) Q) ∧ ly_hi c m c1 m ∧ ly_mid N 0 n B I D c1 m ∧ ly_gl N v0 (i + 1) ci f L C 2001 n B I dc D bs it ix hs nn dn tn c1 m := by
  have hb := hmid.1 0
  obtain ⟨hI, hN, hn, hBB⟩ := ly_bare_I hb
  have hg1 := ly_gl_next hgl hI hi
  rw [if_neg hw, Nat.add_zero] at hg1
  obtain ⟨k1, k2, k3, k4, k5, k6, k7⟩ := hgl.2.1.2.2.1 i hi
  obtain ⟨hz, -⟩ := hgl.2.2.2.2.2.2.1 i (Nat.le_refl _) hi
  obtain ⟨⟨s1, s2, s3⟩, -, -, -, hT, -⟩ := id hb
  obtain ⟨ov, dp, o1, o2, o3, o4, o5, o6, o7, o8, -, -⟩ := ly_item_try hb k2 k5 k3 k4
  obtain ⟨hch, hl0⟩ := hgl.2.2.1 (tn i) k3 k4
  obtain ⟨c1, c2, c3, c4, c5⟩ := lc_push_at (c := c) (t := 0) (node := nI (tn i)) (ctx := nI (4 * (dn i + 1) + 1)) (step := 3)
  have E : ∀ p, ¬ (p = 6 ∨ (31 ≤ p ∧ p ≤ 34)) → (lc_push c 0 (nI (tn i)) (nI (4 * (dn i + 1) + 1)) 3) p = c p := fun p hp => lc_push_row hp
  have h42 : m 42 (tn i) = -1 := by
    by_cases z : m 42 (tn i) = -1
    · exact z
    · exfalso
      apply hw
      unfold ly_wq
      simp [z]
  have hnc : 0 = ly_nc m (L (tn i)) := by
    unfold ly_nc
    by_cases z : m 38 34 = 0
    · rw [if_pos z]
      by_cases y : m 41 (tn i) = -1
      · exact (hl0.mpr y).symm
      · exfalso
        apply hw
        unfold ly_wq
        simp [z, y]
    · rw [if_neg z]
  have hfull : bs (dn i) = ly_nh m L (tn i) := by
    unfold ly_nh
    rw [← hnc, if_pos h42, hz]
  have hT0 : um_tree N (lc_push c 0 (nI (tn i)) (nI (4 * (dn i + 1) + 1)) 3) m := ly_tree_item hT (fun p hp => E p (by omega)) (fun p a1 a2 => by rw [E p (by omega)])
  have E6 : ∀ p, ¬ (p = 6 ∨ (31 ≤ p ∧ p ≤ 34)) → (um_up (um_up (lc_push c 0 (nI (tn i)) (nI (4 * (dn i + 1) + 1)) 3) 33 0 (nI 4)) 33 0 6) p = c p := fun p hp => by rw [um_up_q (by omega), um_up_q (by omega), E p hp]
  have E7 : ∀ p, ¬ (p = 6 ∨ (31 ≤ p ∧ p ≤ 34)) → (um_up (um_up (um_up (um_up (lc_push c 0 (nI (tn i)) (nI (4 * (dn i + 1) + 1)) 3) 33 0 (nI 4)) 33 0 6) 33 0 (nI 7)) 6 4 (nI 0)) p = c p := fun p hp => by rw [um_up_q (by omega), um_up_q (by omega), E6 p hp]
  refine ⟨um_up (um_up (um_up (um_up (lc_push c 0 (nI (tn i)) (nI (4 * (dn i + 1) + 1)) 3) 33 0 (nI 4)) 33 0 6) 33 0 (nI 7)) 6 4 (nI 0), fun b Q hq => ?_, ly_hi_of (fun p hp => E7 p (by omega)) (fun _ _ => rfl) (fun _ _ => rfl) (by rw [E7 2 (by decide)]), ?_, ?_⟩
  · unfold wp_La_takeTurns
    show wp_La_takeTurns_2 Q (99999 + 1) (nI 0) _
    refine p_turn36 (L := L) (C := C) (x := 0) hT0 c5 (by rw [E 3 (by decide)]; exact s1) c1 c2 (c3.trans rfl) (c4.trans (by unfold ly_cv; rw [if_neg (by omega)])) k3 k4 (by omega) (by rw [E 24 (by decide)]; exact o7) (by rw [E 3 (by decide)]; exact hgl.2.2.2.1.1) hch hnc 99999 0 b Q (by omega) ?_
    show wp_La_takeTurns_2 Q (99998 + 1) (nI 1) _
    have hT6 : um_tree N (um_up (um_up (lc_push c 0 (nI (tn i)) (nI (4 * (dn i + 1) + 1)) 3) 33 0 (nI 4)) 33 0 6) m := um_tree_uc (um_tree_uc hT0 (by decide)) (by decide)
    refine p_turnA (s := 6) hT6 (by omega) (by rw [um_up_q (by decide), um_up_q (by decide)]; exact c5) (by rw [E6 3 (by decide)]; exact s1) (by rw [um_up_q (by decide), um_up_q (by decide)]; exact c1) k3 um_up_self (by omega) (by omega) k4 ?_
    unfold wp_La_turnApart
    rw [um_cl1 (show 0 < 2147483648 by omega), um_J_c (q := 32) (by decide), um_up_q (q := 33) (a := 32) (by decide), um_up_q (q := 33) (a := 32) (by decide), um_up_q (q := 33) (a := 32) (by decide), c2]
    refine ⟨vp_in_nI (by omega) (by decide), p_scopeOf (s := dn i + 1) (p := 1) (by decide) (by omega) (um_no (by decide) (um_no (by decide) (um_no (by decide) (um_yes rfl ?_))))⟩
    unfold wp_La_beginAny
    rw [um_cl1 (show dn i + 1 < 2147483648 by omega), um_J_c (q := 25) (by decide), um_up_q (q := 33) (a := 25) (by decide), E6 25 (by decide), o8]
    refine ⟨vp_in_nI (by omega) (by decide), um_yes' h42 (p_Wpop (t := 0) ?_ (by decide) (p_takeEnd (fuel := 99997) (Or.inl um_up_self) hq))⟩
    rw [um_up_q (by decide), um_up_q (by decide), um_up_q (by decide)]
    exact c5
  · exact ly_mid_row hmid (fun p hp => E7 p (by omega)) ⟨by rw [E7 2 (by decide)], by rw [E7 2 (by decide)]⟩ (fun _ _ => rfl) (fun _ _ => rfl) um_up_self hmid.2.1.2
  · exact ly_gl_row (ly_gl_full hg1 hI (by omega) k5 hfull) (fun p hp => E7 p (by omega)) (fun _ _ => rfl) (fun _ _ => rfl)
/-- all that are set down -/
theorem ly_items : ∀ (d i ci n B I dc : Nat) (D bs it ix hs nn dn tn : Nat → Nat) (c m : um_S), i + d = 2001 → ly_mid N 0 n B I D c m → ly_gl N v0 i ci f L C 2001 n B I dc D bs it ix hs nn dn tn c m → 2 * ly_T bs 2001 ≤ n →
    ∃ c1 m1, (∀ (b : um_S) (Q : um_S → Prop) (fuel : Nat), d < fuel → Q (um_J c1 b) → wp_La_layFunction_56 Q fuel (nI i) (um_J c b)) ∧
      (∀ (b : um_S) (Q : um_S → Prop) (K2 : Int32 → um_S → Prop) (fuel : Nat) (v1 : Int32), 10 * (2000 - B) + 8 * d < fuel → K2 (v1 + 1) (um_J b m1) → wp_Mo_laysAll_67 Q K2 fuel v1 (nI (v0 + ci)) 1 (um_J b m)) ∧ ly_hi c m c1 m1 ∧
      ((∃ n1 B1 I1 dc1 ci1 D1 bs1 it1 ix1 hs1 nn1 dn1 tn1, ly_mid N 0 n1 B1 I1 D1 c1 m1 ∧ ly_gl N v0 dc1 ci1 f L C 2001 n1 B1 I1 dc1 D1 bs1 it1 ix1 hs1 nn1 dn1 tn1 c1 m1 ∧ 2 * ly_T bs1 2001 ≤ n1) ∨ ly_fail c1 m1) := by
  intro d
  induction d with
  | zero =>
    intro i ci n B I dc D bs it ix hs nn dn tn c m hd hmid hgl h2
    exfalso
    obtain ⟨hI, hN, hn, hBB⟩ := ly_bare_I (hmid.1 0)
    have := hgl.2.2.2.2.1
    omega
  | succ d ih =>
    intro i ci n B I dc D bs it ix hs nn dn tn c m hd hmid hgl h2
    have hb := hmid.1 0
    obtain ⟨hI, hN, hn, hBB⟩ := ly_bare_I hb
    obtain ⟨⟨s1, s2, s3⟩, -, -, -, hT, -⟩ := id hb
    obtain ⟨l1, l2, l3, l4⟩ := id hgl.2.1
    obtain ⟨gb1, gb2, gb3⟩ := id hgl.2.2.2.2.1
    have hci : ci ≤ i := by
      rw [← gb3]
      exact ly_cnt_le i
    have hcd := ly_cnt_le (m := m) (tn := tn) dc
    obtain ⟨-, ⟨t1, t2⟩, -⟩ := id hmid
    by_cases hid : i = dc
    · subst hid
      refine ⟨c, m, fun b Q fuel hf hq => ?_, fun b Q K2 fuel v1 hf hq => ?_, ly_hi.rf, Or.inl ⟨n, B, I, i, ci, D, bs, it, ix, hs, nn, dn, tn, hmid, hgl, h2⟩⟩
      · obtain ⟨g, rfl⟩ : ∃ g, fuel = g + 1 := ⟨fuel - 1, by omega⟩
        unfold wp_La_layFunction_56
        rw [um_J_c (q := 3) (by decide), l1]
        exact ⟨fun _ => hq, fun _ => um_yes (nI_le (Nat.le_refl _) (by omega)) hq⟩
      · obtain ⟨g, rfl⟩ : ∃ g, fuel = g + 1 := ⟨fuel - 1, by omega⟩
        unfold wp_Mo_laysAll_67
        rw [um_J_m (q := 38) (by decide), s2, s3, t2, l2, gb3]
        exact um_yes' rfl (um_yes' rfl (um_no (by decide) (um_no (by decide) (um_yes (nI_le (Nat.le_refl _) (by omega)) hq))))
    · have hi : i < dc := by omega
      obtain ⟨k1, k2, k3, k4, k5, k6, k7⟩ := l3 i hi
      obtain ⟨ov, dp, o1, o2, o3, o4, o5, o6, o7, o8, -, -⟩ := ly_item_try hb k2 k5 k3 k4
      -- the class comes to the turns
      have hcl : ∀ (b : um_S) (Q : um_S → Prop) (fuel : Nat), wp_La_takeTurns (um_J (lc_push c 0 (nI (tn i)) (nI (4 * (dn i + 1) + 1)) 3) b) (fun σ5 => wp_La_layFunction_56 Q fuel (nI (i + 1)) σ5) → wp_La_layFunction_56 Q (fuel + 1) (nI i) (um_J c b) := by
        intro b Q fuel hq
        unfold wp_La_layFunction_56
        rw [um_cl1 (show i < 2147483648 by omega), um_J_c (q := 3) (by decide), l1, s1, um_J_c (q := 16) (by decide), k1]
        refine um_no (fun z => ?_) (um_no (nI_ge hi (by omega)) (um_yes' rfl ⟨vp_in_nI (by omega) (by decide), ?_⟩))
        · have := (nI_leI (a := 2000) (b := i) (by decide) (by omega)).mp z
          omega
        rintro x1 rfl
        rw [um_cl1 (show dn i + 1 < 2147483648 by omega), um_J_c (q := 24) (by decide), o7, show nI i + 1 = nI (i + 1) from um_succ]
        exact ⟨vp_in_nI (by omega) (by decide), p_within (s := dn i + 1) (p := 1) (by decide) (by omega) (p_Wpush (t := 0) t1 (by decide) hq)⟩
      by_cases hw : ly_wq m (tn i) = true
      · obtain ⟨e1, e2⟩ := ly_enter hmid hgl hi
        rw [if_pos hw] at e2
        have hlt := ly_cnt_lt (m := m) (tn := tn) hi hw
        have hnn : ly_nh m L (tn i) = ly_nc m (L (tn i)) ∨ ly_nh m L (tn i) = ly_nc m (L (tn i)) + 1 := by
          unfold ly_nh
          by_cases z : m 42 (tn i) = -1
          · rw [if_pos z]
            exact Or.inl rfl
          · rw [if_neg z]
            exact Or.inr rfl
        obtain ⟨c1, m1, kk, kr, st, hh1, hres⟩ := ly_apLoop (ly_nc m (L (tn i))) 0 n B I dc D bs it ix hs nn dn tn _ _ (by omega) hnn e1 e2 h2
        have hh0 : ly_hi c m (lc_push c 0 (nI (tn i)) (nI (4 * (dn i + 1) + 1)) 3) (lm_sep m (dn i) (tn i) (ly_T bs 2001)) := ly_hi_of (fun p hp => lc_push_row (by omega)) (fun p hp => lm_sep_row (by omega)) (fun q hq => lm_sep_38 (by omega)) (by rw [lc_push_row (by decide)])
        have hmo : ∀ (b : um_S) (Q : um_S → Prop) (K2 : Int32 → um_S → Prop) (fuel : Nat) (v1 : Int32), wp_Mo_laysAll_67 Q K2 fuel v1 (nI (v0 + (ci + 1))) 1 (um_J b m1) → wp_Mo_laysAll_67 Q K2 (fuel + kr + 1) v1 (nI (v0 + ci)) 1 (um_J b m) := by
          intro b Q K2 fuel v1 hq
          have h := st.2 fuel b Q K2 v1 (nI (v0 + (ci + 1))) 1 hq
          rw [gb3] at hlt
          have e62 := k7 hw
          rw [gb3] at e62
          unfold wp_Mo_laysAll_67 wp_Mo_laysAll_100
          rw [um_J_m (q := 38) (by decide), s2, s3, t2, l2, um_cl1 (show v0 + ci < 2147483648 by omega), um_J_m (q := 62) (by decide), e62, show nI (v0 + ci) + 1 = nI (v0 + (ci + 1)) from um_succ]
          exact um_yes' rfl (um_yes' rfl (um_no (by decide) (um_no (by decide) (um_no (nI_ge (by omega) (by omega)) (um_yes (by decide) (um_no' (by decide) ⟨vp_in_nI (by omega) (by decide), p_sep (by omega) hgl.1.1.2 t2 k5 h⟩))))))
        rcases hres with ⟨B1, y1, y2, n1, I1, dc1, D1, bs1, it1, ix1, hs1, nn1, dn1, tn1, y3, y4, y5⟩ | ⟨y1, y2, y3⟩
        · obtain ⟨c2, m2, z1, z2, z0, z3⟩ := ih (i + 1) (ci + 1) n1 B1 I1 dc1 D1 bs1 it1 ix1 hs1 nn1 dn1 tn1 c1 m1 (by omega) y3 y4 y5
          refine ⟨c2, m2, fun b Q fuel hf hq => ?_, fun b Q K2 fuel v1 hf hq => ?_, (hh0.trans hh1).trans z0, z3⟩
          · obtain ⟨g, rfl⟩ : ∃ g, fuel = g + 1 := ⟨fuel - 1, by omega⟩
            exact hcl b Q g (p_take st (by omega) (Or.inl y3.2.1.1) (z1 b Q g (by omega) hq))
          · obtain ⟨g, hg⟩ : ∃ g, fuel = g + kr + 1 := ⟨fuel - kr - 1, by omega⟩
            rw [hg]
            exact hmo b Q K2 g v1 (z2 b Q K2 g v1 (by omega) hq)
        · refine ⟨c1, m1, fun b Q fuel hf hq => ?_, fun b Q K2 fuel v1 hf hq => ?_, hh0.trans hh1, Or.inr y1⟩
          · obtain ⟨g, rfl⟩ : ∃ g, fuel = g + 1 + 1 := ⟨fuel - 2, by omega⟩
            exact hcl b Q (g + 1) (p_take st (by omega) (Or.inr (ly_fail_c y1)) (p_lf56_bad (ly_fail_c y1) hq))
          · obtain ⟨g, hg⟩ : ∃ g, fuel = g + 1 + kr + 1 := ⟨fuel - kr - 2, by omega⟩
            rw [hg]
            exact hmo b Q K2 (g + 1) v1 (p_l67_bad y1 hq)
      · obtain ⟨c1, x1, x2, x3, x4⟩ := ly_pass hmid hgl hi hw
        obtain ⟨c2, m2, z1, z2, z0, z3⟩ := ih (i + 1) ci n B I dc D bs it ix hs nn dn tn c1 m (by omega) x3 x4 h2
        refine ⟨c2, m2, fun b Q fuel hf hq => ?_, fun b Q K2 fuel v1 hf hq => z2 b Q K2 fuel v1 (by omega) hq, x2.trans z0, z3⟩
        obtain ⟨g, rfl⟩ : ∃ g, fuel = g + 1 := ⟨fuel - 1, by omega⟩
        exact hcl b Q g (x1 b _ (z1 b Q g (by omega) hq))
end LayItems
