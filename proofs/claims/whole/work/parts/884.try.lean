/-! lay: TRY, its first two turns -/
section LayTry
variable {N a n B r I j s : Nat} {D nd kd sd bd : Nat → Nat} {c m : um_S}
theorem ly_mu_inc (har : a ≤ r) (h : ly_rs (kd r) s < ly_rs (kd r) (sd r)) : ly_mu a B (r + 1) kd (ly_g sd r s) < ly_mu a B (r + 1) kd sd := by
  unfold ly_mu
  show 10 * (2000 - B) + (ly_sum (fun q => ly_rs (kd q) (ly_g sd r s q)) a r + (if a ≤ r then ly_rs (kd r) (ly_g sd r s r) else 0)) < 10 * (2000 - B) + (ly_sum (fun q => ly_rs (kd q) (sd q)) a r + (if a ≤ r then ly_rs (kd r) (sd r) else 0))
  have e : ly_sum (fun q => ly_rs (kd q) (ly_g sd r s q)) a r = ly_sum (fun q => ly_rs (kd q) (sd q)) a r := ly_sum_le r (fun q hq => by
    show ly_rs (kd q) (ly_g sd r s q) = ly_rs (kd q) (sd q)
    rw [ly_g_ne (by omega)])
  rw [e, if_pos har, if_pos har, ly_g_at]
  omega
theorem ly_step_18a (h : ly_inv N a n B (r + 1) I D nd kd sd bd c m) (har : a ≤ r) (hk : kd r = 18) (hs : sd r = 0) : ly_to N a n B (r + 1) I D kd sd c m := by
  obtain ⟨hr, hN⟩ := ly_bound h
  obtain ⟨e1, e2, e3, e4, e5, e6, e7, -⟩ := ly_inv_ent h har
  obtain ⟨ab, fi, e8, e9, e10, e11, f1, f3, f4, hDn⟩ := ly_top0 h har (Or.inr hk) hs
  obtain ⟨⟨⟨s1, s2, s3⟩, ⟨n1, n2, n3⟩, ⟨b1, b2', b3⟩, ⟨c59, m23, hIB⟩, -, h6, hitems, -⟩, ⟨t1, t2, t3, t4⟩, hd, -, ho⟩ := id h
  have hI : I + 1 ≤ 2000 := by omega
  have hT := ly_inv_tree h
  obtain ⟨⟨j1, w1, hj1, hx1, hv1, hw1, hw1'⟩, -⟩ := (ly_node h har).2.2.2.2.2.2.2 hk
  obtain ⟨sc, pc, hpc, hsc, hxc, u1, u2, u3, u4⟩ := ly_up_sc f4 h6 hT
  have E : ∀ q, ¬ q = 33 → (um_up c 33 r (nI (sd r + 1))) q = c q := fun q hq => um_up_q hq
  have G : ∀ q, ¬ q = 67 → (um_up m 67 r (nI (sd r + 1))) q = m q := fun q hq => um_up_q hq
  have m39 : m 39 (nd r) = 18 := by rw [e2, hk]; rfl
  have a40 : c 9 (nd r * 5 + 0) = m 40 (nd r) := (hT.2.2.2.1 (nd r) e1).2.1
  have a42 : c 9 (nd r * 5 + 2) = m 42 (nd r) := (hT.2.2.2.1 (nd r) e1).2.2.2.1
  have hT2 : um_tree N (um_up c 33 r (nI (sd r + 1))) m := um_tree_uc hT (by decide)
  have idc : ∀ (σ : um_S) (v : Int32), σ 34 r = v → um_up σ 34 r v = σ := by
    rintro σ v rfl
    exact um_up_id
  have idm : ∀ (σ : um_S) (v : Int32), σ 69 r = v → um_up σ 69 r v = σ := by
    rintro σ v rfl
    exact um_up_id
  have two : (2 : Int32) * nI I = nI (2 * I) := pk_mul 2 I
  refine ly_to_item (tn := nI (nd r)) (fn := m 42 (nd r)) (lp := c 26 sc) (v34 := c 34 r) (v69 := m 69 r) (k2 := j1) (w2 := w1) (ab2 := ab + 1) (fi2 := fi + (if m 42 (nd r) = -1 then 0 else 1)) (y := nI (2 * I)) h har (Or.inr hk) hs e8 e9 e10 e11 f1 f3 hDn (Or.inr ⟨m39, rfl, rfl, sc, pc, hpc, hsc, hxc, rfl⟩) (Or.inr ⟨hk, rfl⟩) hj1 hv1 hw1' (Or.inr ⟨hk, hw1, rfl, ly_ne (by omega), rfl, rfl⟩) (fun fuel v b Q hv hq => p_turnT h har hk (by omega) hv ?_) (fun b Q hq => p_goesT h har hk (by omega) ?_)
  · rw [idc _ _ (by rw [um_up_q (by decide), lc_item_row (by decide), um_up_q (by decide)])] at hq
    unfold wp_La_turnTry
    rw [um_cl1 (show r < 2147483648 by omega), um_J_c (q := 32) (by decide), E 32 (by decide)]
    refine um_yes' (by rw [hs]; rfl) ⟨vp_in_nI hr (by decide), p_part (i := 2) hT2 e1 (by decide) ?_⟩
    rw [E 9 (by decide), a42]
    refine p_openTry (s := sc) (by rw [E 5 (by decide)]; exact c59) hI hpc hsc hxc (by rw [E 24 (by decide), E 27 (by decide)]; exact u1) (by rw [E 24 (by decide), E 27 (by decide)]; exact u2) (by rw [E 25 (by decide), E 28 (by decide)]; exact u3) (by rw [E 25 (by decide), E 28 (by decide)]; exact u4) ?_
    rw [E 26 (by decide)]
    refine p_within (s := I + 1) (p := 0) (by decide) (by omega) ⟨vp_in_nI hr (by decide), ?_⟩
    rw [um_J_uc (by decide)]
    rintro σ16 rfl
    refine p_part (i := 0) (ly_tree_item hT (fun q hq => by rw [um_up_q (by omega), lc_item_row (by omega), E q (by omega)]) (fun q a1 a2 => by rw [um_up_q (by omega), lc_item_old (by omega), E q (by omega)])) e1 (by decide) ⟨vp_in_nI hr (by decide), ?_⟩
    rw [um_up_q (q := 32) (a := 9) (by decide), lc_item_row (q := 9) (by decide), E 9 (by decide), a40, hx1, um_J_c (q := 32) (by decide), um_up_self]
    exact hq
  · rw [idm _ _ (by rw [lm_item_row (by decide), um_up_q (by decide)])] at hq
    unfold wp_Mo_tries
    rw [um_cl1 (show r < 2147483648 by omega), um_J_m (q := 67) (by decide), um_up_self, um_J_m (q := 63) (by decide), G 63 (by decide), e5]
    refine ⟨vp_in_nI (by omega) (by decide), ?_⟩
    rintro x1 rfl
    refine ⟨vp_in_nI (by omega) (by decide), ?_⟩
    rintro x2 rfl
    refine um_yes (by rw [hs]; rfl) (p_Mitem (I := I) (by rw [G 38 (by decide)]; exact m23) (by omega) (by omega) ⟨vp_in_nI (by omega) (by decide), vp_in_nI (by omega) (by decide), vp_in_nI (by omega) (by decide), vp_in_nI (by omega) (by decide), vp_in_nI (by omega) (by decide), ?_⟩)
    rw [G 63 (by decide), G 64 (by decide), G 65 (by decide), G 66 (by decide)]
    obtain ⟨o1, o2, o3, o4, o5, o6, o7⟩ := lm_item_at (m := um_up m 67 r (nI (sd r + 1))) (I := I) (r := r) (k := m 63 r) (y := m 64 r) (x := m 65 r) (tn := m 66 r)
    rw [um_cl1 (show nd r < 2147483648 by omega), um_J_m (q := 68) (by decide), o7, um_J_m (q := 40) (by decide), um_J_m (q := 65) (by decide), um_J_m (q := 66) (by decide), lm_item_row (q := 40) (by decide), lm_item_row (q := 65) (by decide), lm_item_row (q := 66) (by decide), G 40 (by decide), G 65 (by decide), G 66 (by decide), hx1, two]
    refine p_Mhas (k := nd r) (by omega) (o2.trans e5) (by omega) (by rw [lm_item_row (by decide), G 39 (by decide)]; exact m39) (fun z => ⟨fun _ => ?_, fun y => absurd y (by decide)⟩) (fun z => ⟨fun y => absurd y (by decide), fun _ => ?_⟩)
    · rw [lm_item_row (by decide), G 42 (by decide)] at z
      rw [if_pos z] at hq
      rw [e8, e9, show nI ab + 1 = nI (ab + 1) from um_succ, Int32.add_zero]
      rw [e8, e9] at hq
      exact hq
    · rw [lm_item_row (by decide), G 42 (by decide)] at z
      rw [if_neg z] at hq
      rw [e8, e9, show nI ab + 1 = nI (ab + 1) from um_succ, show nI fi + 1 = nI (fi + 1) from um_succ]
      rw [e8, e9] at hq
      exact hq
/-- TRY: its body is laid down; its finally is next -/
theorem ly_step_18b (h : ly_inv N a n B (r + 1) I D nd kd sd bd c m) (har : a ≤ r) (hk : kd r = 18) (hs : sd r = 1) : ly_to N a n B (r + 1) I D kd sd c m := by
  obtain ⟨hr, hN⟩ := ly_bound h
  obtain ⟨e1, e2, e3, e4, e5, e6, e7, -⟩ := ly_inv_ent h har
  obtain ⟨ab, fi, j, e8, e9, e10, e11, f1, hDn, -, hj, k68, k32, k55, k24, k56, k57, k58, k59⟩ := ly_topT h har hk (by omega)
  obtain ⟨⟨⟨s1, s2, s3⟩, ⟨n1, n2, n3⟩, ⟨b1, b2', b3⟩, ⟨c59, m23, hIB⟩, -, h6, hitems, -⟩, ⟨t1, t2, t3, t4⟩, hd, -, ho⟩ := id h
  have hI : I ≤ 2000 := by omega
  have hT := ly_inv_tree h
  have m39 : m 39 (nd r) = 18 := by rw [e2, hk]; rfl
  obtain ⟨nd0, ov, dp, i1, i2, i3, i4, i5, i6, i7, i8, i9, i10, i11⟩ := hitems j hj
  have en : nd0 = nd r := (nI_eq (a := nd0) (b := nd r) (by omega) (by omega)).mp (i2.symm.trans k55)
  subst en
  have k25 : c 25 (j + 1) = m 42 (nd r) := by
    rcases i10 with ⟨z, -⟩ | ⟨-, -, z, -⟩
    · rw [m39] at z
      exact absurd z (by decide)
    · exact z
  have k27 : c 27 (j + 1) = nI ab := (i4.trans i3.symm).trans k57
  have k28 : c 28 (j + 1) = nI fi := (i6.trans i5.symm).trans k58
  have E : ∀ q, ¬ q = 33 → (um_up c 33 r (nI (sd r + 1))) q = c q := fun q hq => um_up_q hq
  have G : ∀ q, ¬ q = 67 → (um_up m 67 r (nI (sd r + 1))) q = m q := fun q hq => um_up_q hq
  have hent : ly_ent N n (n + 1) I B D (um_up c 33 r (nI (sd r + 1))) (um_up m 67 r (nI (sd r + 1))) r (nd r) (kd r) (sd r + 1) (bd r) := by
    refine ⟨e1, by rw [G 39 (by decide)]; exact e2, e3, by rw [E 31 (by decide)]; exact e4, by rw [G 63 (by decide)]; exact e5, um_up_self, um_up_self, ab, fi, by rw [G 65 (by decide)]; exact e8, by rw [G 66 (by decide)]; exact e9, e10, e11, Or.inr (Or.inr (Or.inr (Or.inr ⟨f1, hk, by omega, j, hj, ?_⟩)))⟩
    rw [G 68 (by decide), E 32 (by decide), G 55 (by decide), E 24 (by decide), G 56 (by decide), G 64 (by decide), G 57 (by decide), G 58 (by decide), G 59 (by decide)]
    exact ⟨k68, k32, k55, k24, k56, k57, k58, k59⟩
  have hcl : ∀ (fuel v : Nat) (b : um_S) (Q : um_S → Prop), v < 1000000 → wp_La_beginFinally (nI (j + 1)) (um_J (um_up c 33 r (nI (sd r + 1))) b) (fun σ => wp_La_takeTurns_2 Q fuel (nI (v + 1)) σ) → wp_La_takeTurns_2 Q (fuel + 1) (nI v) (um_J c b) := by
    intro fuel v b Q hv hq
    refine p_turnT h har hk (by omega) hv ?_
    unfold wp_La_turnTry
    rw [um_cl1 (show r < 2147483648 by omega), um_J_c (q := 32) (by decide), E 32 (by decide)]
    refine um_no' (by rw [hs]; decide) ⟨vp_in_nI hr (by decide), ?_⟩
    have hsc : wp_Sc_scopeOf (c 32 r) = wp_Sc_scopeOf (nI (4 * (j + 1) + 0)) := by rw [k32]; rfl
    rw [hsc]
    exact p_scopeOf (s := j + 1) (p := 0) (by decide) (by omega) (um_yes' (by rw [hs]; rfl) hq)
  have hmo : ∀ (b : um_S) (Q : um_S → Prop), (m 42 (nd r) = -1 → Q (um_J b (um_up m 67 r (nI (sd r + 1))))) → (¬ m 42 (nd r) = -1 → wp_Mo_last (nI j) (um_J b (um_up m 67 r (nI (sd r + 1)))) Q) → wp_Mo_goesOn (um_J b m) Q := by
    intro b Q q1 q2
    refine p_goesT h har hk (by omega) ?_
    unfold wp_Mo_tries
    rw [um_cl1 (show r < 2147483648 by omega), um_J_m (q := 67) (by decide), um_up_self, um_J_m (q := 63) (by decide), G 63 (by decide), e5]
    refine ⟨vp_in_nI (by omega) (by decide), ?_⟩
    rintro x1 rfl
    refine ⟨vp_in_nI (by omega) (by decide), ?_⟩
    rintro x2 rfl
    refine um_no (by rw [hs]; decide) (um_yes (by rw [hs]; rfl) ⟨vp_in_nI (by omega) (by decide), ?_⟩)
    rw [um_J_m (q := 68) (by decide), G 68 (by decide), k68]
    refine p_Mhas (k := nd r) (by omega) (by rw [G 55 (by decide)]; exact k55) (by omega) (by rw [G 39 (by decide)]; exact m39) (fun z => ⟨fun _ => q1 ?_, fun y => absurd y (by decide)⟩) (fun z => ⟨fun y => absurd y (by decide), fun _ => ⟨vp_in_nI (by omega) (by decide), ?_⟩⟩)
    · rw [G 42 (by decide)] at z
      exact z
    · rw [G 42 (by decide)] at z
      rw [um_J_m (q := 68) (by decide), G 68 (by decide), k68]
      exact q2 z
  by_cases hz : m 42 (nd r) = -1
  · refine ⟨um_up c 33 r (nI (sd r + 1)), um_up m 67 r (nI (sd r + 1)), ⟨fun fuel v b Q hv hq => hcl fuel v b Q hv ?_, fun b Q hq => hmo b Q (fun _ => hq) (fun z => absurd hz z)⟩, (ly_kp_uc (by omega)).trans (ly_kp_um (by omega)), Or.inl ⟨n, B, r + 1, I, D, nd, kd, ly_g sd r (sd r + 1), bd, ⟨ly_inc (s := sd r + 1) h (fun z => absurd z (by omega)) (fun _ => hent), ⟨by rw [E 6 (by decide)]; exact t1, by rw [G 38 (by decide)]; exact t2, t3, t4⟩, fun _ => ⟨?_, (hd (by omega)).2⟩, fun z => by omega, ly_open_inc ho (fun _ => ⟨by omega, by omega⟩)⟩, ly_mu_inc har (by rw [hk, hs]; decide), Nat.le_refl _, ly_gw_id (G 55 (by decide)) (G 57 (by decide)) (G 59 (by decide)), by omega, fun _ _ => rfl⟩⟩
    · unfold wp_La_beginFinally
      rw [um_cl1 (show j + 1 < 2147483648 by omega), um_J_c (q := 25) (by decide), E 25 (by decide), k25]
      exact ⟨vp_in_nI (by omega) (by decide), fun _ => hq, fun z => absurd hz z⟩
    · rw [Nat.add_sub_cancel, ly_g_at, hDn, f1, hk, hs]
      rfl
  · obtain ⟨-, -, hfin⟩ := (ly_node h har).2.2.2.2.2.2.2 hk
    obtain ⟨k2, w2, hk2, hx2, hv2, hw2, hw2'⟩ : um_isS m (nd r) (m 42 (nd r)) := by
      rcases hfin with z | z
      · exact absurd z hz
      · exact z
    have hup : ly_up I (c 24) (c 25) (c 27) (c 28) (nI (4 * (j + 1) + 2)) (ab + 1) (fi + 1) := Or.inr ⟨j, 2, ab, fi, hj, by decide, rfl, k27, k28, by rw [if_neg (by rw [k24]; exact ly_ne (by omega))], by rw [if_neg (by rw [k25]; exact hz)]⟩
    have hcx : ly_cx I (c 24) (m 56) (nI (4 * (j + 1) + 2)) (m 56 j) := Or.inr ⟨j, hj, Or.inr (Or.inr ⟨by rw [k24]; exact ly_ne (by omega), rfl, rfl⟩)⟩
    refine ly_to_child (k2 := k2) (w2 := w2) (b2 := 0) (x := nI (4 * (j + 1) + 2)) (y := m 56 j) (ab := ab + 1) (fi := fi + 1) h har (fun z => absurd z (by omega)) (fun _ => by omega) hent (by omega) hv2 hw2' (Or.inr ⟨hw2, rfl, hcx⟩) hup ⟨by omega, by omega⟩ hDn ?_ (fun fuel v b Q hv hq => hcl fuel v b Q hv ?_) (fun b Q hq => hmo b Q (fun z => absurd z hz) (fun _ => ?_))
    · rw [f1, hk, hs]
      unfold ly_isE
      rw [if_neg (by omega)]
      rfl
    · unfold wp_La_beginFinally
      rw [um_cl1 (show j + 1 < 2147483648 by omega), um_J_c (q := 25) (by decide), E 25 (by decide), k25, hx2]
      exact ⟨vp_in_nI (by omega) (by decide), fun z => absurd z (ly_ne (by omega)), fun _ => ⟨vp_in_nI (by omega) (by decide), p_within (s := j + 1) (p := 2) (by decide) (by omega) hq⟩⟩
    · unfold wp_Mo_last
      rw [um_cl1 (show j < 2147483648 by omega), um_J_m (q := 55) (by decide), G 55 (by decide), k55, um_cl1 (show nd r < 2147483648 by omega), um_J_m (q := 42) (by decide), G 42 (by decide), um_J_m (q := 56) (by decide), G 56 (by decide), um_J_m (q := 57) (by decide), G 57 (by decide), um_J_m (q := 58) (by decide), G 58 (by decide), k57, k58, hx2, show nI ab + 1 = nI (ab + 1) from um_succ, show nI fi + 1 = nI (fi + 1) from um_succ]
      exact ⟨vp_in_nI (by omega) (by decide), vp_in_nI (by omega) (by decide), vp_in_nI (by omega) (by decide), vp_in_nI (by omega) (by decide), vp_in_nI (by omega) (by decide), hq⟩
end LayTry
