/-! lay: a catch is laid apart -/
section LayCatch
variable {N v0 i0 ci f k j h0 nc nh q qr x y n B I dc s : Nat} {L : Nat → Nat} {C : Nat → Nat → Nat} {D bs it ix hs nn dn tn : Nat → Nat} {mk : Int32} {c m : um_S}
/-- what a TRY's item holds -/
theorem ly_item_try (hb : ly_bare N n B I D c m) (hj : j < I) (h55 : m 55 j = nI k) (hk : k < N) (h18 : m 39 k = 18) : ∃ ov dp : Nat, m 57 j = nI ov ∧ c 27 (j + 1) = nI ov ∧ m 58 j = nI dp ∧ c 28 (j + 1) = nI dp ∧ ov + k ≤ 149 ∧ dp + k ≤ 149 ∧ c 24 (j + 1) = nI k ∧ c 25 (j + 1) = m 42 k ∧ ly_cx I (c 24) (m 56) (c 23 (j + 1)) (m 56 j) ∧ (m 59 j = -1 ∨ ∃ e, e < n + 1 ∧ D e = 0 ∧ m 59 j = nI e ∧ c 29 (j + 1) = nI e) := by
  obtain ⟨-, -, -, -, hT, -, hitems, -⟩ := id hb
  obtain ⟨nd0, ov, dp, i1, i2, i3, i4, i5, i6, i7, i8, i9, i10, i11⟩ := hitems j hj
  have hN := hT.1.1
  have en : nd0 = k := (nI_eq (a := nd0) (b := k) (by omega) (by omega)).mp (i2.symm.trans h55)
  subst en
  rcases i10 with ⟨z, -⟩ | ⟨z1, z2, z3, -⟩
  · rw [h18] at z
    exact absurd z (by decide)
  · exact ⟨ov, dp, i3, i4, i5, i6, i7, i8, z2, z3, ly_cx_mono (I := j) (by omega) ly_fr.rf i9, i11⟩
theorem ly_ovs (hb : ly_bare N n B I D c m) : ∀ i, i < I → ∃ o, o ≤ 149 ∧ m 57 i = nI o ∧ c 27 (i + 1) = nI o := by
  intro i hi
  obtain ⟨nd0, ov, dp, i1, i2, i3, i4, i5, i6, i7, -⟩ := hb.2.2.2.2.2.2.1 i hi
  exact ⟨ov, by omega, i3, i4⟩
theorem ly_bare_I (hb : ly_bare N n B I D c m) : I ≤ 2000 ∧ N ≤ 150 ∧ n ≤ 1000 ∧ B ≤ 2000 := by
  obtain ⟨-, ⟨-, -, h2⟩, ⟨-, -, h3⟩, ⟨-, -, h4⟩, hT, -⟩ := id hb
  exact ⟨by omega, hT.1.1, h2, h3⟩
theorem ly_apA (hmid : ly_mid N 1 n B I D c m) (hap : ly_ap N v0 i0 ci f L C k j h0 nc nh 3 100 x (ly_cv (L k) (C k) (L k - x)) x n B I dc D bs it ix hs nn dn tn c m) (hx : x < nc) (h2 : 2 * ly_T bs 2001 ≤ n) :
    ly_oc (10 * (2000 - B)) 4 c m (fun B1 c1 m1 => ∃ n1 I1 dc1 D1 bs1 it1 ix1 hs1 nn1 dn1 tn1, ly_sit N 1 n1 B1 I1 D1 c1 m1 ∧ ly_ap N v0 i0 ci f L C k j h0 nc nh 4 101 x (ly_cv (L k) (C k) (L k - (x + 1))) (x + 1) n1 B1 I1 dc1 D1 bs1 it1 ix1 hs1 nn1 dn1 tn1 c1 m1 ∧ 2 * ly_T bs1 2001 ≤ n1 + 1) := by
  obtain ⟨hfree, ⟨t1, t2⟩, hIB, hend⟩ := hmid
  obtain ⟨hgl, he0, ⟨p1, p2, p3, p4, p5⟩, p6, p7, p8, p9, p10⟩ := hap
  obtain ⟨hhd, hdl, hcha, ⟨g37, g28⟩, ⟨gvb, -⟩, -⟩ := id hgl
  obtain ⟨⟨a31, a32, a33, a34⟩, b63, b67, b68, b69⟩ := id he0
  rw [← p9] at hx
  have hb1 := hfree 1
  obtain ⟨hI, hN, hn, hBB⟩ := ly_bare_I hb1
  obtain ⟨⟨s1, s2, s3⟩, ⟨n1, n2, n3⟩, ⟨b1, b2', b3⟩, -, hT, -⟩ := id hb1
  obtain ⟨ov, dp, o1, o2, o3, o4, o5, o6, o7, o8, -, -⟩ := ly_item_try hb1 p1 p3 p2 p4
  obtain ⟨hch, -⟩ := hcha k p2 p4
  have hlk := hch.1
  obtain ⟨h34, hxl⟩ : m 38 34 = 0 ∧ x < L k := by
    unfold ly_nc at hx
    by_cases z : m 38 34 = 0
    · rw [if_pos z] at hx
      exact ⟨z, hx⟩
    · rw [if_neg z] at hx
      omega
  obtain ⟨kc, hkc⟩ : ∃ kc, kc = C k (L k - 1 - x) := ⟨_, rfl⟩
  obtain ⟨c1', -, ⟨vv, hvv, evv⟩, ⟨k2, w2, hk2, hx2, hv2, hw2, hw2'⟩, -⟩ := hch.2.2 (L k - 1 - x) (by omega)
  rw [← hkc] at c1' evv hk2 hx2
  have hTn : ∀ i, i < N → c 9 (i * 5 + 2) = m 42 i ∧ c 9 (i * 5 + 3) = m 43 i := fun i hi => ⟨(hT.2.2.2.1 i hi).2.2.2.1, (hT.2.2.2.1 i hi).2.2.2.2.1⟩
  have hmk : ly_cv (L k) (C k) (L k - (x + 1)) = nI kc := by
    unfold ly_cv
    rw [if_pos (by omega), hkc, show L k - (x + 1) = L k - 1 - x by omega]
  -- the states on the way
  have E0 : ∀ p, ¬ (p = 33 ∨ p = 34) → (um_up (um_up c 33 0 (nI 4)) 34 0 (nI kc)) p = c p := fun p hp => by rw [um_up_q (by omega), um_up_q (by omega)]
  have G0 : ∀ p, ¬ p = 67 → (um_up m 67 0 (nI 101)) p = m p := fun p hp => um_up_q hp
  have hxe : ly_hx (um_up m 67 0 (nI 101)) L C k (bs j) = nI kc := by
    unfold ly_hx ly_nc at *
    rw [G0 38 (by decide), p6, if_pos hx, hkc]
  have hhd0 : ly_hd I n (ly_g D n 1) L C bs it ix hs nn (um_up (um_up c 33 0 (nI 4)) 34 0 (nI kc)) (um_up m 67 0 (nI 101)) := ly_hd_of hhd (Nat.le_refl _) (Nat.le_refl _) (fun i hi => ly_g_ne (by omega)) (fun p a1 a2 => E0 p (by omega)) (by rw [E0 7 (by decide)]) (fun p hp => G0 p (by omega)) ⟨by rw [G0 38 (by decide)], by rw [G0 38 (by decide)]⟩ (fun i hi => ⟨by rw [G0 55 (by decide)], by rw [G0 57 (by decide)], fun _ => by rw [G0 59 (by decide)]⟩)
  obtain ⟨hadd, it1, ix1, hhd1⟩ := ly_hd_add (j0 := j) (k := k) (h0 := h0) hhd0 hI (by omega) (fun i hi => by rw [G0 57 (by decide), E0 27 (by decide)]; exact ly_ovs hb1 i hi) p1 (by rw [G0 59 (by decide)]; exact p5) (by omega) (by rw [G0 55 (by decide)]; exact p3) (by rw [G0 39 (by decide)]; exact p4) (by
    rw [p6]
    unfold ly_nh ly_nc at *
    rw [G0 38 (by decide)]
    omega) (by rw [G0 60 (by decide)]; exact p7) (by rw [p6]; exact p8) ly_g_at
  rw [hxe] at hadd hhd1
  have R2 : ∀ p, ¬ (p = 7 ∨ p = 33 ∨ p = 34 ∨ (35 ≤ p ∧ p ≤ 37)) → (lc_add (um_up (um_up c 33 0 (nI 4)) 34 0 (nI kc)) (ly_at (um_up m 67 0 (nI 101)) bs j + bs j) (ly_T bs 2001) (nI (j + 1)) (nI kc) (nI n)) p = c p := fun p hp => by rw [lc_add_row (by omega), E0 p (by omega)]
  have R33 : (lc_add (um_up (um_up c 33 0 (nI 4)) 34 0 (nI kc)) (ly_at (um_up m 67 0 (nI 101)) bs j + bs j) (ly_T bs 2001) (nI (j + 1)) (nI kc) (nI n)) 33 0 = nI 4 := by rw [lc_add_row (by decide), um_up_q (by decide), um_up_self]
  have R34 : (lc_add (um_up (um_up c 33 0 (nI 4)) 34 0 (nI kc)) (ly_at (um_up m 67 0 (nI 101)) bs j + bs j) (ly_T bs 2001) (nI (j + 1)) (nI kc) (nI n)) 34 0 = nI kc := by rw [lc_add_row (by decide), um_up_self]
  generalize hc2 : lc_add (um_up (um_up c 33 0 (nI 4)) 34 0 (nI kc)) (ly_at (um_up m 67 0 (nI 101)) bs j + bs j) (ly_T bs 2001) (nI (j + 1)) (nI kc) (nI n) = c2 at hadd hhd1 R2 R33 R34
  have S2 : ∀ p, ¬ (p = 38 ∨ p = 61 ∨ p = 67) → (um_up (um_up (um_up m 67 0 (nI 101)) 61 (ly_T bs 2001) (nI n)) 38 30 (nI (ly_T bs 2001 + 1))) p = m p := fun p hp => by rw [um_up_q (by omega), um_up_q (by omega), G0 p (by omega)]
  have S38 : ∀ i, ¬ i = 30 → (um_up (um_up (um_up m 67 0 (nI 101)) 61 (ly_T bs 2001) (nI n)) 38 30 (nI (ly_T bs 2001 + 1))) 38 i = m 38 i := fun i hi => by rw [um_up_ne (by omega), um_up_q (by decide), G0 38 (by decide)]
  have S67 : (um_up (um_up (um_up m 67 0 (nI 101)) 61 (ly_T bs 2001) (nI n)) 38 30 (nI (ly_T bs 2001 + 1))) 67 0 = nI 101 := by rw [um_up_q (by decide), um_up_q (by decide), um_up_self]
  have hmo0 : ∀ (b : um_S) (Q : um_S → Prop), wp_Mo_put 8 (m 42 kc) (nI (2 * j + 1)) (um_J b (um_up (um_up (um_up m 67 0 (nI 101)) 61 (ly_T bs 2001) (nI n)) 38 30 (nI (ly_T bs 2001 + 1)))) (fun σ9 => vp_in (nI kc) 150 ∧ vp_in (nI j) 2001 ∧ vp_in (nI j) 2001 ∧ wp_Mo_hasFinally (nI j) σ9 (fun t11 σ10 => (t11 = false → wp_Mo_begin (σ9 43 kc) (nI (2 * j + 1)) ((σ9 57 j) + 1) ((σ9 58 j) + 0) σ10 (fun σ12 => Q σ12)) ∧ (t11 = true → wp_Mo_begin (σ9 43 kc) (nI (2 * j + 1)) ((σ9 57 j) + 1) ((σ9 58 j) + 1) σ10 (fun σ13 => Q σ13)))) → wp_Mo_goesOn (um_J b m) Q := by
    intro b Q hq
    refine p_goesA (s := 100) t2 b63 (by omega) b67 (by omega) (by omega) p4 ?_
    have two : (2 : Int32) * nI j + 1 = nI (2 * j + 1) := by rw [show (2 : Int32) * nI j = nI (2 * j) from pk_mul 2 j, um_succ]
    have cha0 : ly_chain (um_up m 67 0 (nI (100 + 1))) k ((um_up m 67 0 (nI (100 + 1))) 41 k) (L k) (C k) := (ly_cha_of hcha (fun p a1 a2 => G0 p (by omega)) k p2 (by rw [G0 39 (by decide)]; exact p4)).1
    unfold wp_Mo_apart
    rw [um_cl1 (show 0 < 2147483648 by omega), um_J_m (q := 68) (by decide), um_J_m (q := 63) (by decide), um_J_m (q := 67) (by decide), um_up_self, um_up_q (q := 67) (a := 68) (by decide), um_up_q (q := 67) (a := 63) (by decide), b68, b63]
    refine ⟨vp_in_nI (by omega) (by decide), ?_⟩
    rintro x1 rfl
    refine ⟨vp_in_nI (by omega) (by decide), ?_⟩
    rintro x2 rfl
    refine ⟨vp_in_nI (by omega) (by decide), um_yes' rfl ⟨vp_in_nI (by omega) (by decide), ?_⟩⟩
    refine p_catches (by omega) cha0 ?_
    rw [um_J_m (q := 69) (by decide), um_up_q (q := 67) (a := 69) (by decide), b69]
    refine um_no (fun z => ?_) ⟨vp_in_nI (by omega) (by decide), ?_⟩
    · have e : ly_nc (um_up m 67 0 (nI (100 + 1))) (L k) = L k := by
        unfold ly_nc
        rw [um_up_q (by decide), if_pos h34]
      rw [e] at z
      have := (nI_leI (a := L k) (b := x) (by omega) (by omega)).mp z
      omega
    refine p_catchAt (by omega) cha0 (by rw [um_up_q (by decide)]; exact h34) hxl ?_
    rw [← hkc, um_J_m (q := 38) (by decide), um_up_q (q := 67) (a := 38) (by decide), hhd.1.2, n2, um_cl1 (show ly_T bs 2001 < 2147483648 by omega), um_cl1 (show kc < 2147483648 by omega), um_cl1 (show j < 2147483648 by omega), um_J_um (by decide)]
    refine ⟨vp_in_nI (by omega) (by decide), ?_⟩
    rintro σ7 rfl
    rw [um_J_m (q := 38) (by decide), um_up_q (q := 61) (a := 38) (by decide), um_up_q (q := 67) (a := 38) (by decide), hhd.1.2, show nI (ly_T bs 2001) + 1 = nI (ly_T bs 2001 + 1) from um_succ, um_J_um (by decide)]
    rintro σ8 rfl
    refine ⟨vp_in_nI (by omega) (by decide), ?_⟩
    rw [um_J_m (q := 42) (by decide), S2 42 (by decide), two]
    exact hq
  have hcl0 : ∀ (fuel v : Nat) (b : um_S) (Q : um_S → Prop), v + 1 ≤ 1000000 → wp_La_emit 8 (m 42 kc) (nI (4 * (j + 1) + 1)) (um_J c2 b) (fun σ5 => wp_Tr_part (nI kc) 3 σ5 (fun x7 σ6 => vp_in (nI 0) 2001 ∧ wp_La_begin x7 (σ6 32 0) σ6 (fun σ8 => wp_La_takeTurns_2 Q fuel (nI (v + 1)) σ8))) → wp_La_takeTurns_2 Q (fuel + 1) (nI v) (um_J c b) := by
    intro fuel v b Q hv hq
    refine p_turnA (s := 3) hT (by omega) t1 s1 a31 p2 a33 (by omega) (by omega) p4 ?_
    have hT3 : um_tree N (um_up c 33 0 (nI (3 + 1))) m := um_tree_uc hT (by decide)
    unfold wp_La_turnApart
    rw [um_cl1 (show 0 < 2147483648 by omega), um_J_c (q := 32) (by decide), um_up_q (q := 33) (a := 32) (by decide), a32]
    refine ⟨vp_in_nI (by omega) (by decide), p_scopeOf (s := j + 1) (p := 1) (by decide) (by omega) (um_yes rfl ?_)⟩
    unfold wp_La_beginCatch
    rw [um_cl1 (show 0 < 2147483648 by omega), um_cl1 (show j + 1 < 2147483648 by omega), um_J_c (q := 3) (by decide), um_up_q (q := 33) (a := 3) (by decide), um_J_c (q := 24) (by decide), um_up_q (q := 33) (a := 24) (by decide), o7, um_J_c (q := 34) (by decide), um_up_q (q := 33) (a := 34) (by decide), a34]
    refine um_yes (g37.trans h34) ⟨vp_in_nI (by omega) (by decide), vp_in_nI (by omega) (by decide), p_catchAfter (i := x) hT3 p2 hch (by omega) ?_⟩
    rw [if_pos hxl, ← hkc]
    unfold wp_La_beginCatch_37
    rw [um_cl1 (show 0 < 2147483648 by omega)]
    refine um_no' (ly_ne (by omega)) ⟨vp_in_nI (by omega) (by decide), ?_⟩
    rw [um_J_uc (by decide)]
    rintro σ1 rfl
    rw [um_J_c (q := 2) (by decide), E0 2 (by decide), n1]
    refine hadd b _ (p_part (i := 2) (ly_tree_item hT (fun p hp => R2 p (by omega)) (fun p a1 a2 => by rw [R2 p (by omega)])) (by omega) (by decide) ⟨vp_in_nI (by omega) (by decide), ?_⟩)
    rw [R2 9 (by decide), (hTn kc (by omega)).1, um_J_c (q := 32) (by decide), R2 32 (by decide), a32]
    exact hq
  refine ly_child_e (n := n) (k0 := 1) (k2 := k2) (ab := ov + 1) (fi := dp + (if m 42 k = -1 then 0 else 1)) (cx := nI (4 * (j + 1) + 1)) (my := nI (2 * j + 1)) (cg := lc_emit c2 n 8 (m 42 kc) (nI (4 * (j + 1) + 1))) (cb := um_up c2 3 8 (-2)) (mg := lm_put (um_up (um_up (um_up m 67 0 (nI 101)) 61 (ly_T bs 2001) (nI n)) 38 30 (nI (ly_T bs 2001 + 1))) n 8 (m 42 kc) (nI (2 * j + 1))) (mb := um_up (um_up (um_up (um_up m 67 0 (nI 101)) 61 (ly_T bs 2001) (nI n)) 38 30 (nI (ly_T bs 2001 + 1))) 38 35 1) (by omega) (by omega) hn hBB ⟨um_up_self, by rw [um_up_q (by decide), R2 2 (by decide)]; exact b1, by rw [um_up_q (by decide), R2 6 (by decide)]; exact t1⟩ ⟨um_up_self, by rw [um_up_ne (by decide), S38 36 (by decide)]; exact s3⟩ ⟨s2, s3, t2⟩ (ly_hi_of (fun p hp => by rw [um_up_q (by omega), R2 p (by omega)]) (fun p hp => by rw [um_up_q (by omega), S2 p (by omega)]) (fun i hi => by rw [um_up_ne (by omega), S38 i (by omega)]) (by rw [um_up_q (by decide), R2 2 (by decide)])) ?_ ?_ ?_
  · intro fuel v b Q hv q1 q2
    refine hcl0 fuel v b Q hv (p_emits (n := n) (by rw [R2 3 (by decide)]; exact s1) (by rw [R2 2 (by decide)]; exact n1) n3 (fun z => ?_) (fun z => ?_))
    · refine p_part (i := 3) (ly_tree_item hT (fun p hp => by rw [lc_emit_row (by omega), R2 p (by omega)]) (fun p a1 a2 => by rw [lc_emit_row (by omega), R2 p (by omega)])) (by omega) (by decide) ⟨vp_in_nI (by omega) (by decide), ?_⟩
      rw [lc_emit_row (q := 9) (by decide), R2 9 (by decide), (hTn kc (by omega)).2, hx2, um_J_c (q := 32) (by decide), lc_emit_row (q := 32) (by decide), R2 32 (by decide), a32]
      exact q1 z
    · refine p_part (i := 3) (ly_tree_item hT (fun p hp => by rw [um_up_q (by omega), R2 p (by omega)]) (fun p a1 a2 => by rw [um_up_q (by omega), R2 p (by omega)])) (by omega) (by decide) ⟨vp_in_nI (by omega) (by decide), ?_⟩
      rw [um_up_q (q := 3) (a := 9) (by decide), R2 9 (by decide), (hTn kc (by omega)).2, hx2, um_J_c (q := 32) (by decide), um_up_q (q := 3) (a := 32) (by decide), R2 32 (by decide), a32]
      exact q2 z
  · intro b Q q1 q2
    refine hmo0 b Q (p_puts (n := n) (by rw [S38 35 (by decide)]; exact s2) (by rw [S38 10 (by decide)]; exact n2) n3 (fun z => ⟨vp_in_nI (by omega) (by decide), vp_in_nI (by omega) (by decide), vp_in_nI (by omega) (by decide), ?_⟩) (fun z => ⟨vp_in_nI (by omega) (by decide), vp_in_nI (by omega) (by decide), vp_in_nI (by omega) (by decide), ?_⟩))
    · rw [um_J_m (q := 43) (by decide), um_J_m (q := 57) (by decide), um_J_m (q := 58) (by decide), lm_put_row (q := 43) (by decide), lm_put_row (q := 57) (by decide), lm_put_row (q := 58) (by decide), S2 43 (by decide), S2 57 (by decide), S2 58 (by decide), hx2, o1, o3, show nI ov + 1 = nI (ov + 1) from um_succ]
      refine p_Mhas (k := k) (by omega) (by rw [lm_put_row (by decide), S2 55 (by decide)]; exact p3) (by omega) (by rw [lm_put_row (by decide), S2 39 (by decide)]; exact p4) (fun w => ⟨fun _ => ?_, fun u => absurd u (by decide)⟩) (fun w => ⟨fun u => absurd u (by decide), fun _ => ?_⟩)
      · rw [lm_put_row (by decide), S2 42 (by decide)] at w
        have := q1 z
        rw [if_pos w] at this
        rw [Int32.add_zero]
        exact this
      · rw [lm_put_row (by decide), S2 42 (by decide)] at w
        have := q1 z
        rw [if_neg w] at this
        rw [show nI dp + 1 = nI (dp + 1) from um_succ]
        exact this
    · rw [um_J_m (q := 43) (by decide), um_J_m (q := 57) (by decide), um_J_m (q := 58) (by decide), um_up_q (q := 38) (a := 43) (by decide), um_up_q (q := 38) (a := 57) (by decide), um_up_q (q := 38) (a := 58) (by decide), um_up_q (q := 38) (a := 43) (by decide), um_up_q (q := 38) (a := 57) (by decide), um_up_q (q := 38) (a := 58) (by decide), um_up_q (q := 61) (a := 43) (by decide), um_up_q (q := 61) (a := 57) (by decide), um_up_q (q := 61) (a := 58) (by decide), G0 43 (by decide), G0 57 (by decide), G0 58 (by decide), hx2, o1, o3, show nI ov + 1 = nI (ov + 1) from um_succ]
      refine p_Mhas (k := k) (by omega) (by rw [um_up_q (by decide), S2 55 (by decide)]; exact p3) (by omega) (by rw [um_up_q (by decide), S2 39 (by decide)]; exact p4) (fun w => ⟨fun _ => ?_, fun u => absurd u (by decide)⟩) (fun w => ⟨fun u => absurd u (by decide), fun _ => ?_⟩)
      · rw [um_up_q (by decide), S2 42 (by decide)] at w
        have := q2 z
        rw [if_pos w] at this
        rw [Int32.add_zero]
        exact this
      · rw [um_up_q (by decide), S2 42 (by decide)] at w
        have := q2 z
        rw [if_neg w] at this
        rw [show nI dp + 1 = nI (dp + 1) from um_succ]
        exact this
  · intro hlt gcl gmo
    have hb2 : ly_bare N n B I (ly_g D n 1) c2 (um_up (um_up (um_up m 67 0 (nI 101)) 61 (ly_T bs 2001) (nI n)) 38 30 (nI (ly_T bs 2001 + 1))) := ly_bare_row hb1 (fun p hp => R2 p (by omega)) (by rw [R2 3 (by decide)]) ⟨by rw [R2 2 (by decide)], by rw [R2 2 (by decide)]⟩ (fun p hp => S2 p (by omega)) (fun i hi => S38 i (by omega))
    have hcxj : ly_cx I (c2 24) ((um_up (um_up (um_up m 67 0 (nI 101)) 61 (ly_T bs 2001) (nI n)) 38 30 (nI (ly_T bs 2001 + 1))) 56) (nI (4 * (j + 1) + 1)) (nI (2 * j + 1)) := Or.inr ⟨j, p1, Or.inr (Or.inl ⟨rfl, rfl⟩)⟩
    have hb3 := ly_bare_emit (op := 8) (arg := m 42 kc) (D2 := ly_g (ly_g D n 1) (n + 1) 0) hb2 hlt (Or.inl hcxj) (by
      refine Or.inr (Or.inr (Or.inr (Or.inl ⟨rfl, ?_, by omega, ?_, vv, hvv, evv⟩)))
      · rw [ly_g_ne (by omega), ly_g_at]
        omega
      · rw [ly_g_ne (by omega), ly_g_at, ly_g_at]) (fun i hi => ly_g_ne (by omega))
    have CG : ∀ p, ¬ (p = 2 ∨ p = 7 ∨ (11 ≤ p ∧ p ≤ 13) ∨ p = 33 ∨ p = 34 ∨ (35 ≤ p ∧ p ≤ 37)) → (lc_emit c2 n 8 (m 42 kc) (nI (4 * (j + 1) + 1))) p = c p := fun p hp => by rw [lc_emit_row (by omega), R2 p (by omega)]
    have MG : ∀ p, ¬ (p = 38 ∨ (46 ≤ p ∧ p ≤ 48) ∨ p = 61 ∨ p = 67) → (lm_put (um_up (um_up (um_up m 67 0 (nI 101)) 61 (ly_T bs 2001) (nI n)) 38 30 (nI (ly_T bs 2001 + 1))) n 8 (m 42 kc) (nI (2 * j + 1))) p = m p := fun p hp => by rw [lm_put_row (by omega), S2 p (by omega)]
    have MG38 : ∀ i, ¬ (i = 10 ∨ i = 30) → (lm_put (um_up (um_up (um_up m 67 0 (nI 101)) 61 (ly_T bs 2001) (nI n)) 38 30 (nI (ly_T bs 2001 + 1))) n 8 (m 42 kc) (nI (2 * j + 1))) 38 i = m 38 i := fun i hi => by rw [lm_put_38 (by omega), S38 i (by omega)]
    have hhd2 := ly_hd_of (I1 := I) (n1 := n + 1) (D1 := ly_g (ly_g D n 1) (n + 1) 0) (c1 := lc_emit c2 n 8 (m 42 kc) (nI (4 * (j + 1) + 1))) (m1 := lm_put (um_up (um_up (um_up m 67 0 (nI 101)) 61 (ly_T bs 2001) (nI n)) 38 30 (nI (ly_T bs 2001 + 1))) n 8 (m 42 kc) (nI (2 * j + 1))) hhd1 (Nat.le_refl _) (Nat.le_refl _) (fun i hi => ly_g_ne (by omega)) (fun p a1 a2 => lc_emit_row (by omega)) (by rw [lc_emit_row (by decide)]) (fun p hp => lm_put_row (by omega)) ⟨lm_put_38 (by decide), lm_put_38 (by decide)⟩ (fun i hi => ⟨by rw [lm_put_row (by decide)], by rw [lm_put_row (by decide)], fun _ => by rw [lm_put_row (by decide)]⟩)
    have hgl2 := ly_gl_of (B1 := B) hgl hhd2 (fun i hi => ly_g_ne hi) (by omega) (Nat.le_refl _) (fun i hi => by rw [ly_g_ne (by omega), ly_g_ne (by omega)]) ⟨CG 16 (by decide), CG 14 (by decide)⟩ ⟨by rw [CG 3 (by decide)], by rw [CG 3 (by decide)]⟩ (by rw [lc_emit_2 (by decide), R2 2 (by decide), MG38 21 (by decide)]; exact g28) (fun p hp => MG p (by omega)) ⟨MG38 32 (by decide), MG38 34 (by decide)⟩
    have hm39 : (lm_put (um_up (um_up (um_up m 67 0 (nI 101)) 61 (ly_T bs 2001) (nI n)) 38 30 (nI (ly_T bs 2001 + 1))) n 8 (m 42 kc) (nI (2 * j + 1))) 39 k2 = nI w2 := by rw [MG 39 (by decide)]; exact hv2
    refine ly_oc_weak (ly_child (k0 := 1) (by omega) (by omega) gcl gmo ⟨s2, s3, t2⟩ (ly_hi_of (fun p hp => CG p (by omega)) (fun p hp => MG p (by omega)) (fun i hi => MG38 i (by omega)) (by rw [lc_emit_2 (by decide), R2 2 (by decide)])) ⟨hb3, ly_g_at, hIB, fun i hi => by rw [MG 59 (by decide)]; exact hend i hi, by rw [CG 6 (by decide)]; exact t1, by rw [MG38 37 (by decide)]; exact t2⟩ (nc := nc) (nh := nh) (q := 4) (qr := 101) (x := x) (mk := nI kc) (y := x + 1) (h0 := h0) (k := k) (j := j) ⟨hgl2, ⟨⟨by rw [CG 31 (by decide)]; exact a31, by rw [CG 32 (by decide)]; exact a32, by rw [lc_emit_row (by decide)]; exact R33, by rw [lc_emit_row (by decide)]; exact R34⟩, by rw [MG 63 (by decide)]; exact b63, by rw [lm_put_row (by decide)]; exact S67, by rw [MG 68 (by decide)]; exact b68, by rw [MG 69 (by decide)]; exact b69⟩, ⟨p1, p2, by rw [MG 55 (by decide)]; exact p3, by rw [MG 39 (by decide)]; exact p4, by rw [MG 59 (by decide)]; exact p5⟩, by rw [ly_g_at, p6], by rw [MG 60 (by decide)]; exact p7, ?_, by rw [ly_nc_of (MG38 34 (by decide))]; exact p9, by rw [ly_nh_of (MG38 34 (by decide)) (MG 42 (by decide))]; exact p10⟩ (by omega) hm39 hw2 hw2' ?_ ?_ ⟨?_, ?_⟩) (Nat.le_refl _) (Nat.le_refl _) ?_
    · rw [p6, ly_T_at (i := j) (d := 1) (f := ly_g bs j (x + 1)) (g := bs) 2001 (by omega) (fun i _ hi => ly_g_ne hi) (by rw [ly_g_at, p6])]
      omega
    · rw [CG 24 (by decide), MG 56 (by decide)]
      exact Or.inr ⟨j, p1, Or.inr (Or.inl ⟨rfl, rfl⟩)⟩
    · rw [CG 24 (by decide), CG 25 (by decide), CG 27 (by decide), CG 28 (by decide)]
      exact Or.inr ⟨j, 1, ov, dp, p1, by decide, rfl, o2, o4, by rw [if_neg (by rw [o7]; exact ly_ne (by omega))], by rw [o8]⟩
    · omega
    · by_cases z : m 42 k = -1
      · rw [if_pos z]
        omega
      · rw [if_neg z]
        omega
    · rintro B1 c3 m3 ⟨n3', I3, dc3, D3, dn3, tn3, z1, z2, z3⟩
      refine ⟨n3', I3, dc3, D3, _, _, _, _, _, dn3, tn3, z1, by rw [hmk]; exact z2, ?_⟩
      rw [p6, ly_T_at (i := j) (d := 1) (f := ly_g bs j (x + 1)) (g := bs) 2001 (by omega) (fun i _ hi => ly_g_ne hi) (by rw [ly_g_at, p6])]
      omega
end LayCatch
