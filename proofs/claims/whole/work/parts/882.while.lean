/-! lay: WHILE -/
section LayWhile
variable {N a n n2 B r I T j i : Nat} {D D2 nd kd sd bd : Nat → Nat} {c m c2 m2 b : um_S} {Q : um_S → Prop} {X : Nat → Prop}
theorem ly_step_13a (h : ly_inv N a n B (r + 1) I D nd kd sd bd c m) (har : a ≤ r) (hk : kd r = 13) (hs : sd r = 0) : ly_to N a n B (r + 1) I D kd sd c m := by
  obtain ⟨hr, hN⟩ := ly_bound h
  obtain ⟨e1, e2, e3, e4, e5, e6, e7, -⟩ := ly_inv_ent h har
  obtain ⟨ab, fi, e8, e9, e10, e11, f1, f3, f4, hDn⟩ := ly_top0 h har (Or.inl hk) hs
  obtain ⟨⟨⟨s1, s2, s3⟩, ⟨n1, n2, n3⟩, ⟨b1, b2', b3⟩, ⟨c59, m23, hIB⟩, -, h6, hitems, -⟩, ⟨t1, t2, t3, t4⟩, hd, -, ho⟩ := id h
  have hI : I + 1 ≤ 2000 := by omega
  have hT := ly_inv_tree h
  obtain ⟨⟨j1, w1, hj1, hx1, hv1, hw1⟩, -⟩ := (ly_node h har).2.2.2.2.2.1 hk
  obtain ⟨sc, pc, hpc, hsc, hxc, u1, u2, u3, u4⟩ := ly_up_sc f4 h6 hT
  have E : ∀ q, ¬ q = 33 → (um_up c 33 r (nI (sd r + 1))) q = c q := fun q hq => um_up_q hq
  have G : ∀ q, ¬ q = 67 → (um_up m 67 r (nI (sd r + 1))) q = m q := fun q hq => um_up_q hq
  have m39 : m 39 (nd r) = 13 := by rw [e2, hk]; rfl
  have a40 : c 9 (nd r * 5 + 0) = m 40 (nd r) := (hT.2.2.2.1 (nd r) e1).2.1
  refine ly_to_item (tn := -1) (fn := -1) (lp := nI (I + 1)) (v34 := nI n) (v69 := nI n) (k2 := j1) (w2 := w1) (ab2 := ab) (fi2 := fi) (y := m 64 r) h har (Or.inl hk) hs e8 e9 e10 e11 f1 f3 hDn (Or.inl ⟨m39, rfl, rfl, rfl⟩) (Or.inl ⟨hk, rfl, rfl, rfl⟩) hj1 hv1 (by omega) (Or.inl ⟨hk, hw1, rfl, rfl, rfl, rfl, rfl⟩) (fun fuel v b Q hv hq => p_turnW h har hk (by omega) hv ?_) (fun b Q hq => p_goesW h har hk (by omega) ?_)
  · unfold wp_La_turnWhile
    rw [um_cl1 (show r < 2147483648 by omega), um_J_c (q := 32) (by decide), E 32 (by decide)]
    refine um_yes' (by rw [hs]; rfl) ⟨vp_in_nI hr (by decide), ?_⟩
    refine p_openLoop (by rw [E 5 (by decide)]; exact c59) hI hpc hsc hxc (by rw [E 24 (by decide), E 27 (by decide)]; exact u1) (by rw [E 24 (by decide), E 27 (by decide)]; exact u2) (by rw [E 25 (by decide), E 28 (by decide)]; exact u3) (by rw [E 25 (by decide), E 28 (by decide)]; exact u4) ?_
    refine p_within (s := I + 1) (p := 0) (by decide) (by omega) ⟨vp_in_nI hr (by decide), ?_⟩
    rw [um_J_uc (by decide)]
    rintro σ16 rfl
    refine ⟨vp_in_nI hr (by decide), ?_⟩
    rw [um_J_c (q := 2) (by decide), um_up_q (q := 32) (a := 2) (by decide), lc_item_row (q := 2) (by decide), E 2 (by decide), n1, um_J_uc (by decide)]
    rintro σ17 rfl
    refine p_part (i := 0) (ly_tree_item hT (fun q hq => by rw [um_up_q (by omega), um_up_q (by omega), lc_item_row (by omega), E q (by omega)]) (fun q a1 a2 => by rw [um_up_q (by omega), um_up_q (by omega), lc_item_old (by omega), E q (by omega)])) e1 (by decide) ⟨vp_in_nI hr (by decide), ?_⟩
    rw [um_up_q (q := 34) (a := 9) (by decide), um_up_q (q := 32) (a := 9) (by decide), lc_item_row (q := 9) (by decide), E 9 (by decide), a40, hx1, um_J_c (q := 32) (by decide), um_up_q (q := 34) (a := 32) (by decide), um_up_self]
    exact hq
  · unfold wp_Mo_repeats
    rw [um_cl1 (show r < 2147483648 by omega), um_J_m (q := 67) (by decide), um_up_self]
    refine ⟨vp_in_nI (by omega) (by decide), ?_⟩
    rintro x1 rfl
    refine um_yes (by rw [hs]; rfl) (p_Mitem (I := I) (by rw [G 38 (by decide)]; exact m23) (by omega) (by omega) ⟨vp_in_nI (by omega) (by decide), ?_⟩)
    rw [G 63 (by decide), G 64 (by decide), G 65 (by decide), G 66 (by decide), um_J_m (q := 38) (by decide), lm_item_38 (by decide), G 38 (by decide), n2, um_J_um (by decide)]
    rintro σ3 rfl
    refine ⟨vp_in_nI (by omega) (by decide), ?_⟩
    rw [um_cl1 (show nd r < 2147483648 by omega), um_J_m (q := 40) (by decide), um_up_q (q := 69) (a := 40) (by decide), lm_item_row (q := 40) (by decide), G 40 (by decide), hx1]
    refine p_Mpart (by omega) ?_
    rw [um_up_q (q := 69) (a := 64) (by decide), um_up_q (q := 69) (a := 65) (by decide), um_up_q (q := 69) (a := 66) (by decide), lm_item_row (q := 64) (by decide), lm_item_row (q := 65) (by decide), lm_item_row (q := 66) (by decide), G 64 (by decide), G 65 (by decide), G 66 (by decide)]
    rw [e8, e9] at hq ⊢
    exact hq
/-- WHILE: ZERO, then its body -/
theorem ly_step_13b (h : ly_inv N a n B (r + 1) I D nd kd sd bd c m) (har : a ≤ r) (hk : kd r = 13) (hs : sd r = 1) : ly_to N a n B (r + 1) I D kd sd c m := by
  obtain ⟨hr, hN⟩ := ly_bound h
  obtain ⟨e1, e2, e3, e4, e5, e6, e7, -⟩ := ly_inv_ent h har
  obtain ⟨ab, fi, j, p, e8, e9, e10, e11, f1, hDn, -, hj, k68, k32, k55, k24, k56, k57, k58, k59, k34, k69, hp, hDp⟩ := ly_topW h har hk (by omega)
  obtain ⟨⟨⟨s1, s2, s3⟩, ⟨n1, n2, n3⟩, ⟨b1, b2', b3⟩, ⟨c59, m23, hIB⟩, -, h6, hitems, -⟩, ⟨t1, t2, t3, t4⟩, hd, -, ho⟩ := id h
  have hI : I ≤ 2000 := by omega
  have hDn1 : D n = 1 := by rw [hDn, hs]; rfl
  have hT := ly_inv_tree h
  obtain ⟨-, ⟨j1, w1, hj1, hx1, hv1, hw1, hw1'⟩⟩ := (ly_node h har).2.2.2.2.2.1 hk
  have a41 : c 9 (nd r * 5 + 1) = m 41 (nd r) := (hT.2.2.2.1 (nd r) e1).2.2.1
  obtain ⟨nd0, ov, dp, i1, i2, i3, i4, i5, i6, i7, i8, i9, i10, i11⟩ := hitems j hj
  have k25 : c 25 (j + 1) = -1 := by
    rcases i10 with ⟨-, -, z, -⟩ | ⟨-, z, -⟩
    · exact z
    · rw [k24] at z
      exact absurd z.symm (ly_ne (by omega))
  have k27 : c 27 (j + 1) = nI ab := (i4.trans i3.symm).trans k57
  have k28 : c 28 (j + 1) = nI fi := (i6.trans i5.symm).trans k58
  have hup : ly_up I (c 24) (c 25) (c 27) (c 28) (c 32 r) ab fi := Or.inr ⟨j, 0, ab, fi, hj, by decide, k32, k27, k28, by rw [if_pos k24]; rfl, by rw [if_pos k25]; rfl⟩
  have E : ∀ q, ¬ q = 33 → (um_up c 33 r (nI (sd r + 1))) q = c q := fun q hq => um_up_q hq
  have G : ∀ q, ¬ q = 67 → (um_up m 67 r (nI (sd r + 1))) q = m q := fun q hq => um_up_q hq
  have hlm : ∀ q, ¬ (q = 2 ∨ q = 11 ∨ q = 12 ∨ q = 13 ∨ q = 33) → (lc_emit (um_up c 33 r (nI (sd r + 1))) n 10 (-(nI (j + 1))) (c 32 r)) q = c q := fun q hq => by rw [lc_emit_row (by omega), E q (by omega)]
  have hlp : ∀ q, ¬ (q = 38 ∨ q = 46 ∨ q = 47 ∨ q = 48 ∨ q = 67) → (lm_put (um_up m 67 r (nI (sd r + 1))) n 10 (-(nI (j + 1))) (m 64 r)) q = m q := fun q hq => by rw [lm_put_row (by omega), G q (by omega)]
  have two : (2 : Int32) * nI j = nI (2 * j) := pk_mul 2 j
  refine ly_to_eb (t := r + 1) (k2 := j1) (ab := ab) (fi := fi) (cg := lc_emit (um_up c 33 r (nI (sd r + 1))) n 10 (-(nI (j + 1))) (c 32 r)) (cb := um_up (um_up c 33 r (nI (sd r + 1))) 3 8 (-2)) (mg := lm_put (um_up m 67 r (nI (sd r + 1))) n 10 (-(nI (j + 1))) (m 64 r)) (mb := um_up (um_up m 67 r (nI (sd r + 1))) 38 35 1) (x := c 32 r) (y := nI (2 * j)) (by omega) n3 b3 ?_ ?_ ?_ ?_ ?_ ?_ ?_ ?_ ?_
  · exact ⟨by rw [lc_emit_2 (by decide), E 2 (by decide)]; exact b1, by rw [hlm 6 (by decide)]; exact t1⟩
  · exact ⟨by rw [lm_put_38 (by decide), G 38 (by decide)]; exact s2, by rw [lm_put_38 (by decide), G 38 (by decide)]; exact s3, by rw [lm_put_38 (by decide), G 38 (by decide)]; exact b2', by rw [lm_put_38 (by decide), G 38 (by decide)]; exact t2⟩
  · exact ⟨um_up_self, by rw [um_up_q (by decide), E 2 (by decide)]; exact b1, by rw [um_up_q (by decide), E 6 (by decide)]; exact t1⟩
  · exact ⟨um_up_self, by rw [um_up_ne (by decide), G 38 (by decide)]; exact s3⟩
  · exact ((ly_kp_uc (by omega)).trans ly_kp_emit).trans ((ly_kp_um (by omega)).trans ly_kp_put)
  · exact ((ly_kp_uc (by omega)).trans (ly_kp_uc (by omega))).trans ((ly_kp_um (by omega)).trans (ly_kp_um (by omega)))
  · intro hlt hB
    have hc0 := ly_core_up (v := nI (sd r + 1)) (v2 := nI (sd r + 1)) (ly_inv_core h) (q := 33) (k := r) (q2 := 67) (k2 := r) (Or.inl ⟨by decide, by decide, Nat.le_refl _⟩) (Or.inl ⟨by decide, by decide, Nat.le_refl _⟩)
    have hX : ∀ q, q < n → ly_X (r + 1) kd sd c q → ly_X (r + 1) kd (ly_g sd r (sd r + 1)) (lc_emit (um_up c 33 r (nI (sd r + 1))) n 10 (-(nI (j + 1))) (c 32 r)) q := by
      rintro q - ⟨i, a1, a2, a3, a4⟩
      by_cases e : i = r
      · subst e
        exact absurd (a2.symm.trans hk) (by decide)
      · exact ⟨i, a1, a2, by rw [ly_g_ne e]; exact a3, by rw [hlm 34 (by decide)]; exact a4⟩
    have hc1 := ly_core_emitJ (op := 10) (vm := -(nI (j + 1))) (cx := c 32 r) (my := m 64 r) (j := j) (D2 := ly_g D (n + 1) 0) (X2 := ly_X (r + 1) kd (ly_g sd r (sd r + 1)) (lc_emit (um_up c 33 r (nI (sd r + 1))) n 10 (-(nI (j + 1))) (c 32 r))) hc0 hlt (fun k hk => ly_g_ne (by omega)) (by rw [E 24 (by decide), G 56 (by decide)]; exact Or.inr ⟨j, hj, k24, k32, k56.symm⟩) (Or.inl ⟨rfl, hDn1, ly_g_at⟩) hj (by rw [E 24 (by decide)]; exact k24) (by rw [G 59 (by decide)]; exact Or.inl ⟨k59, rfl⟩) hX
    have hc2 := ly_core_gh (nd2 := nd) (kd2 := kd) (sd2 := ly_g sd r (sd r + 1)) (bd2 := bd) hc1 (fun i hi => ⟨rfl, rfl, ly_g_ne (by omega), rfl⟩)
    have hent : ly_ent N (n + 1) (n + 1 + 1) I B (ly_g D (n + 1) 0) (lc_emit (um_up c 33 r (nI (sd r + 1))) n 10 (-(nI (j + 1))) (c 32 r)) (lm_put (um_up m 67 r (nI (sd r + 1))) n 10 (-(nI (j + 1))) (m 64 r)) r (nd r) (kd r) (sd r + 1) (bd r) := by
      refine ⟨e1, by rw [hlp 39 (by decide)]; exact e2, e3, by rw [hlm 31 (by decide)]; exact e4, by rw [hlp 63 (by decide)]; exact e5, by rw [lc_emit_row (by decide), um_up_self], by rw [lm_put_row (by decide), um_up_self], ab, fi, by rw [hlp 65 (by decide)]; exact e8, by rw [hlp 66 (by decide)]; exact e9, e10, e11, Or.inr (Or.inr (Or.inl ⟨f1, hk, by omega, j, p, hj, ?_⟩))⟩
      rw [hlp 68 (by decide), hlm 32 (by decide), hlp 55 (by decide), hlm 24 (by decide), hlp 56 (by decide), hlp 64 (by decide), hlp 57 (by decide), hlp 58 (by decide), hlp 59 (by decide), hlm 34 (by decide), hlp 69 (by decide), ly_g_ne (by omega)]
      exact ⟨k68, k32, k55, k24, k56, k57, k58, k59, k34, k69, by omega, hDp⟩
    have hc3 := ly_core_top hc2 (fun _ => by rw [ly_g_at]; exact hent) (fun h0 => by rw [ly_g_ne (by omega)]; exact ly_inv_link h h0)
    have ho2 : ly_open a (r + 1) I kd (ly_g sd r (sd r + 1)) (lm_put (um_up m 67 r (nI (sd r + 1))) n 10 (-(nI (j + 1))) (m 64 r)) := ly_open_row (ly_open_inc (s := sd r + 1) (v := nI (sd r + 1)) ho (fun _ => ⟨by omega, by omega⟩)) (lm_put_row (by decide)) (lm_put_row (by decide))
    refine ⟨_, _, _, _, I, ly_g D (n + 1) 0, ly_begin_inv hc3 (by omega) t4 hB t3 (by omega) (by rw [hlp 39 (by decide)]; exact hv1) hw1' (Or.inr ⟨hw1, rfl, by rw [hlm 24 (by decide), hlp 56 (by decide)]; exact Or.inr ⟨j, hj, Or.inl ⟨k32, rfl⟩⟩⟩) (by rw [hlm 24 (by decide), hlm 25 (by decide), hlm 27 (by decide), hlm 28 (by decide)]; exact hup) ⟨by omega, by omega⟩ ly_g_at (fun _ => ?_) (fun e => by omega) (fun _ => (hd (by omega)).2) ho2, ?_, ly_gw_id (hlp 55 (by decide)) (hlp 57 (by decide)) (hlp 59 (by decide)), fun k hk => ly_g_ne (by omega)⟩
    · rw [Nat.add_sub_cancel, ly_g_at, f1, hk, hs]
      unfold ly_isE
      rw [if_neg (by omega)]
      rfl
    · refine ly_mu_begin hB (by omega) (fun i hi => ?_) ly_g_at
      rw [ly_g_ne (by omega), ly_g_ne (show ¬ i = r + 1 by omega)]
      by_cases e : i = r
      · subst e
        rw [ly_g_at, hk, hs]
        decide
      · rw [ly_g_ne e]
        exact Nat.le_refl _
  · intro fuel v b Q hv q1 q2
    refine p_turnW h har hk (by omega) hv ?_
    unfold wp_La_turnWhile wp_La_behind
    rw [um_cl1 (show r < 2147483648 by omega), um_J_c (q := 32) (by decide), E 32 (by decide)]
    refine um_no' (by rw [hs]; decide) ⟨vp_in_nI hr (by decide), ?_⟩
    rintro x1 rfl
    have hsc : wp_Sc_scopeOf (c 32 r) = wp_Sc_scopeOf (nI (4 * (j + 1) + 0)) := by rw [k32]; rfl
    rw [hsc]
    refine p_scopeOf (s := j + 1) (p := 0) (by decide) (by omega) (um_yes' (by rw [hs]; rfl) ?_)
    refine p_emits (n := n) (by rw [E 3 (by decide)]; exact s1) (by rw [E 2 (by decide)]; exact n1) n3 (fun z => ?_) (fun z => ?_)
    · refine p_part (i := 1) (ly_tree_item hT (fun q hq => hlm q (by omega)) (fun q a1 a2 => by rw [hlm q (by omega)])) e1 (by decide) ?_
      rw [hlm 9 (by decide), a41, hx1]
      exact q1 z
    · refine p_part (i := 1) (ly_tree_item hT (fun q hq => by rw [um_up_q (by omega), E q (by omega)]) (fun q a1 a2 => by rw [um_up_q (by omega), E q (by omega)])) e1 (by decide) ?_
      rw [um_up_q (q := 3) (a := 9) (by decide), E 9 (by decide), a41, hx1]
      exact q2 z
  · intro b Q q1 q2
    refine p_goesW h har hk (by omega) ?_
    unfold wp_Mo_repeats
    rw [um_cl1 (show r < 2147483648 by omega), um_J_m (q := 67) (by decide), um_up_self]
    refine ⟨vp_in_nI (by omega) (by decide), ?_⟩
    rintro x1 rfl
    refine um_no (by rw [hs]; decide) (um_yes (by rw [hs]; rfl) ⟨vp_in_nI (by omega) (by decide), vp_in_nI (by omega) (by decide), ?_⟩)
    rw [um_J_m (q := 68) (by decide), G 68 (by decide), k68, ly_neg, um_J_m (q := 64) (by decide), G 64 (by decide)]
    refine p_puts (n := n) (by rw [G 38 (by decide)]; exact s2) (by rw [G 38 (by decide)]; exact n2) n3 (fun z => ⟨vp_in_nI (by omega) (by decide), vp_in_nI (by omega) (by decide), vp_in_nI (by omega) (by decide), vp_in_nI (by omega) (by decide), ?_⟩) (fun z => ⟨vp_in_nI (by omega) (by decide), vp_in_nI (by omega) (by decide), vp_in_nI (by omega) (by decide), vp_in_nI (by omega) (by decide), ?_⟩)
    · rw [um_cl1 (show nd r < 2147483648 by omega), um_J_m (q := 41) (by decide), um_J_m (q := 68) (by decide), um_J_m (q := 65) (by decide), um_J_m (q := 66) (by decide), hlp 41 (by decide), hlp 68 (by decide), hlp 65 (by decide), hlp 66 (by decide), hx1, k68, two, e8, e9]
      exact q1 z
    · rw [um_cl1 (show nd r < 2147483648 by omega), um_J_m (q := 41) (by decide), um_J_m (q := 68) (by decide), um_J_m (q := 65) (by decide), um_J_m (q := 66) (by decide), um_up_q (q := 38) (a := 41) (by decide), um_up_q (q := 38) (a := 68) (by decide), um_up_q (q := 38) (a := 65) (by decide), um_up_q (q := 38) (a := 66) (by decide), G 41 (by decide), G 68 (by decide), G 65 (by decide), G 66 (by decide), hx1, k68, two, e8, e9]
      exact q2 z
theorem lm_ends_59 (h : ¬ i = j) : lm_ends m j n 59 i = m 59 i := by
  unfold lm_ends
  rw [lm_endk_row (by decide), um_up_ne (by omega)]
theorem lm_ends_59j : lm_ends m j n 59 j = nI n := by
  unfold lm_ends
  rw [lm_endk_row (by decide), um_up_self]
theorem ly_kp_ends : ly_kp a c m c (lm_ends m j n) :=
  ⟨fun _ _ => rfl, fun _ _ => rfl, fun _ _ => rfl, ⟨rfl, fun _ _ _ => rfl⟩, rfl, fun q hq => lm_ends_row (by omega), fun k hk => by rw [lm_ends_row (by decide)], fun _ _ _ _ _ => rfl, fun q k a1 a2 a3 => by rw [lm_ends_row (by omega)]⟩
/-- the topmost entry is gone, and its item has ended -/
theorem ly_downE (h : ly_inv N a n B (r + 1) I D nd kd sd bd c m) (har : a ≤ r) (hj : j < I) (hI : I ≤ 2000) (h68 : m 68 r = nI j) (hc : ly_core N a n2 B r I D2 nd kd sd bd X c2 m2) (hX : ∀ p, p < n2 → X p → ly_X r kd sd c2 p) (t1 : c2 6 4 = nI r) (t2 : m2 38 37 = nI r) (hD : D2 n2 = bd r + ly_isE (kd r)) (g59 : ∀ i, ¬ i = j → m2 59 i = m 59 i) (g59j : ¬ m2 59 j = -1) (g68 : ∀ i, i < r → m2 68 i = m 68 i) :
    ly_inv N a n2 B r I D2 nd kd sd bd c2 m2 := by
  obtain ⟨-, ⟨u1, u2, u3, u4⟩, hd, -, ho1, ho2⟩ := id h
  refine ⟨ly_core_X hc hX, ⟨t1, t2, by omega, u4⟩, ?_, ?_, ?_, ?_⟩
  · intro h0
    have := ly_inv_link h h0
    exact ⟨by rw [hD]; exact this, (hd (by omega)).2⟩
  · intro e
    obtain ⟨-, b0, k0⟩ := hd (by omega)
    subst e
    rw [hD, b0, ly_isE, if_neg (by omega)]
  · intro i hi hi2
    have ne : ¬ i = j := by
      rintro rfl
      exact g59j hi2
    rw [g59 i ne] at hi2
    obtain ⟨q, a1, a2, a3, a4, a5⟩ := ho1 i hi hi2
    have nr : ¬ q = r := by
      rintro rfl
      exact ne ((nI_eq (a := i) (b := j) (by omega) (by omega)).mp (a5.symm.trans h68))
    exact ⟨q, a1, by omega, a3, a4, by rw [g68 q (by omega)]; exact a5⟩
  · intro i i2 j j2 a1 a2 a3 a4 a5 a6 a7 a8 a9
    rw [g68 i (by omega)] at a8
    rw [g68 i2 (by omega)] at a9
    exact ho2 i i2 j j2 a1 a2 (by omega) a4 a5 a6 a7 a8 a9
/-- WHILE: JUMP, and its end -/
theorem ly_step_13c (h : ly_inv N a n B (r + 1) I D nd kd sd bd c m) (har : a ≤ r) (hk : kd r = 13) (hs : sd r = 2) : ly_to N a n B (r + 1) I D kd sd c m := by
  obtain ⟨hr, hN⟩ := ly_bound h
  obtain ⟨e1, e2, e3, e4, e5, e6, e7, -⟩ := ly_inv_ent h har
  obtain ⟨ab, fi, j, p, e8, e9, e10, e11, f1, hDn, -, hj, k68, k32, k55, k24, k56, k57, k58, k59, k34, k69, hp, hDp⟩ := ly_topW h har hk (by omega)
  obtain ⟨⟨⟨s1, s2, s3⟩, ⟨n1, n2, n3⟩, ⟨b1, b2', b3⟩, ⟨c59, m23, hIB⟩, -, h6, hitems, -⟩, ⟨t1, t2, t3, t4⟩, hd, -, ho⟩ := id h
  have hI : I ≤ 2000 := by omega
  have hDn0 : D n = 0 := by rw [hDn, hs]; rfl
  have E : ∀ q, ¬ q = 33 → (um_up c 33 r (nI (sd r + 1))) q = c q := fun q hq => um_up_q hq
  have G : ∀ q, ¬ q = 67 → (um_up m 67 r (nI (sd r + 1))) q = m q := fun q hq => um_up_q hq
  have hcl : ∀ (fuel v : Nat) (b : um_S) (Q : um_S → Prop), v < 1000000 → (n < 1000 → wp_La_takeTurns_2 Q fuel (nI (v + 1)) (um_J (um_up (um_up (lc_emit (um_up c 33 r (nI (sd r + 1))) n 11 (nI p) (c 32 r)) 6 4 (nI r)) 29 (j + 1) (nI (n + 1))) b)) → (n = 1000 → wp_La_takeTurns_2 Q fuel (nI (v + 1)) (um_J (um_up (um_up (um_up (um_up c 33 r (nI (sd r + 1))) 3 8 (-2)) 6 4 (nI r)) 29 (j + 1) (nI n)) b)) → wp_La_takeTurns_2 Q (fuel + 1) (nI v) (um_J c b) := by
    intro fuel v b Q hv q1 q2
    refine p_turnW h har hk (by omega) hv ?_
    unfold wp_La_turnWhile
    rw [um_cl1 (show r < 2147483648 by omega), um_J_c (q := 32) (by decide), E 32 (by decide)]
    refine um_no' (by rw [hs]; decide) ⟨vp_in_nI hr (by decide), ?_⟩
    rintro x1 rfl
    have hsc : wp_Sc_scopeOf (c 32 r) = wp_Sc_scopeOf (nI (4 * (j + 1) + 0)) := by rw [k32]; rfl
    rw [hsc]
    refine p_scopeOf (s := j + 1) (p := 0) (by decide) (by omega) (um_no' (by rw [hs]; decide) ⟨vp_in_nI hr (by decide), ?_⟩)
    rw [um_J_c (q := 34) (by decide), E 34 (by decide), k34]
    refine p_finish hr (by rw [E 6 (by decide)]; exact t1) (by rw [E 3 (by decide)]; exact s1) (n := n) (by rw [E 2 (by decide)]; exact n1) n3 (fun z => ⟨vp_in_nI (by omega) (by decide), ?_⟩) (fun z => ⟨vp_in_nI (by omega) (by decide), ?_⟩)
    · rw [um_cl1 (show j + 1 < 2147483648 by omega), um_J_c (q := 2) (by decide), um_up_q (q := 6) (a := 2) (by decide), lc_emit_n, um_J_uc (by decide), E 32 (by decide)]
      rintro σ5 rfl
      exact q1 z
    · rw [um_cl1 (show j + 1 < 2147483648 by omega), um_J_c (q := 2) (by decide), um_up_q (q := 6) (a := 2) (by decide), um_up_q (q := 3) (a := 2) (by decide), E 2 (by decide), n1, um_J_uc (by decide)]
      rintro σ5 rfl
      exact q2 z
  have hmo : ∀ (b : um_S) (Q : um_S → Prop), (n < 1000 → Q (um_J b (um_up (lm_ends (lm_put (um_up m 67 r (nI (sd r + 1))) n 11 (nI p) (m 64 r)) j (n + 1)) 38 37 (nI r)))) → (n = 1000 → Q (um_J b (um_up (lm_ends (um_up (um_up m 67 r (nI (sd r + 1))) 38 35 1) j n) 38 37 (nI r)))) → wp_Mo_goesOn (um_J b m) Q := by
    intro b Q q1 q2
    refine p_goesW h har hk (by omega) ?_
    unfold wp_Mo_repeats
    rw [um_cl1 (show r < 2147483648 by omega), um_J_m (q := 67) (by decide), um_up_self]
    refine ⟨vp_in_nI (by omega) (by decide), ?_⟩
    rintro x1 rfl
    refine um_no (by rw [hs]; decide) (um_no (by rw [hs]; decide) ⟨vp_in_nI (by omega) (by decide), vp_in_nI (by omega) (by decide), ?_⟩)
    rw [um_J_m (q := 69) (by decide), G 69 (by decide), k69, um_J_m (q := 64) (by decide), G 64 (by decide)]
    refine p_puts (n := n) (by rw [G 38 (by decide)]; exact s2) (by rw [G 38 (by decide)]; exact n2) n3 (fun z => ⟨vp_in_nI (by omega) (by decide), ?_⟩) (fun z => ⟨vp_in_nI (by omega) (by decide), ?_⟩)
    · rw [um_J_m (q := 68) (by decide), lm_put_row (by decide), G 68 (by decide), k68]
      refine p_Mends (n := n + 1) lm_put_n (by omega) (by omega) ?_
      rw [um_J_m (q := 38) (by decide), lm_ends_row (q := 38) (by decide), lm_put_38 (by decide), G 38 (by decide), t2, show nI (r + 1) - 1 = nI r from um_pred (a := r + 1) (by omega), um_J_um (by decide)]
      rintro σ9 rfl
      exact q1 z
    · rw [um_J_m (q := 68) (by decide), um_up_q (q := 38) (a := 68) (by decide), G 68 (by decide), k68]
      refine p_Mends (n := n) (by rw [um_up_ne (by decide), G 38 (by decide)]; exact n2) n3 (by omega) ?_
      rw [um_J_m (q := 38) (by decide), lm_ends_row (q := 38) (by decide), um_up_ne (by decide), G 38 (by decide), t2, show nI (r + 1) - 1 = nI r from um_pred (a := r + 1) (by omega), um_J_um (by decide)]
      rintro σ9 rfl
      exact q2 z
  by_cases hlt : n < 1000
  · have hc0 := ly_core_up (v := nI (sd r + 1)) (v2 := nI (sd r + 1)) (ly_inv_core h) (q := 33) (k := r) (q2 := 67) (k2 := r) (Or.inl ⟨by decide, by decide, Nat.le_refl _⟩) (Or.inl ⟨by decide, by decide, Nat.le_refl _⟩)
    have hX : ∀ q, q < n → ly_X (r + 1) kd sd c q → ly_X r kd sd c q := by
      rintro q - ⟨i, a1, a2, a3, a4⟩
      by_cases e : i = r
      · subst e
        exact absurd (a2.symm.trans hk) (by decide)
      · exact ⟨i, by omega, a2, a3, a4⟩
    have hc1 := ly_core_emit (op := 11) (arg := nI p) (cx := c 32 r) (my := m 64 r) (D2 := ly_g D (n + 1) 0) (X2 := ly_X r kd sd c) (d1 := 0) (ly_core_X hc0 hX) hlt (fun k hk => ly_g_ne (by omega)) (by rw [E 24 (by decide), G 56 (by decide)]; exact Or.inr ⟨j, hj, k24, k32, k56.symm⟩) (Or.inl (Or.inr (Or.inr (Or.inr (Or.inr (Or.inr (Or.inr (Or.inl ⟨rfl, p, by omega, rfl, by rw [ly_g_ne (by omega), ly_g_ne (by omega)]; omega⟩)))))))) (fun _ _ x => x)
    have hc2 := ly_core_upc (v := nI r) hc1 (q := 6) (k := 4) (Or.inr rfl)
    have hc3 := ly_core_ends (j := j) hc2 hI hj ly_g_at (fun _ => by rw [lm_put_row (by decide), G 59 (by decide)]; exact k59) (fun i a1 a2 a3 a4 => by rw [lm_put_row (by decide), G 68 (by decide)]; exact ly_others h (Or.inl hk) (by omega) hj k68 i a1 a2 a3 a4)
    have hc4 := ly_core_upm (v2 := nI r) hc3 (q2 := 38) (k2 := 37) (Or.inr ⟨rfl, rfl⟩)
    have g59 : ∀ i, ¬ i = j → (um_up (lm_ends (lm_put (um_up m 67 r (nI (sd r + 1))) n 11 (nI p) (m 64 r)) j (n + 1)) 38 37 (nI r)) 59 i = m 59 i := fun i hi => by rw [um_up_q (by decide), lm_ends_59 hi, lm_put_row (by decide), G 59 (by decide)]
    have gr : ∀ q, q = 55 ∨ q = 57 ∨ q = 68 → (um_up (lm_ends (lm_put (um_up m 67 r (nI (sd r + 1))) n 11 (nI p) (m 64 r)) j (n + 1)) 38 37 (nI r)) q = m q := fun q hq => by rw [um_up_q (by omega), lm_ends_row (by omega), lm_put_row (by omega), G q (by omega)]
    refine ⟨_, _, ⟨fun fuel v b Q hv hq => hcl fuel v b Q hv (fun _ => hq) (fun z => absurd hlt (by omega)), fun b Q hq => hmo b Q (fun _ => hq) (fun z => absurd hlt (by omega))⟩, ?_, Or.inl ⟨n + 1, B, r, I, ly_g D (n + 1) 0, nd, kd, sd, bd, ly_downE h har hj hI k68 hc4 ?_ ?_ um_up_self (by rw [ly_g_at, f1, hk]; rfl) g59 ?_ (fun i hi => by rw [gr 68 (by decide)]), ly_mu_pop har (by rw [hk, hs]; decide), by omega, ?_, by omega, fun k hk => ly_g_ne (by omega)⟩⟩
    · exact ((((ly_kp_uc (by omega)).trans ly_kp_emit).trans (ly_kp_uc (by omega))).trans (ly_kp_uc (by omega))).trans ((((ly_kp_um (by omega)).trans ly_kp_put).trans ly_kp_ends).trans (ly_kp_um (by omega)))
    · rintro q hq ⟨i, a1, a2, a3, a4⟩
      exact ⟨i, a1, a2, a3, by rw [um_up_q (by decide), um_up_q (by decide), lc_emit_row (by decide), E 34 (by decide)]; exact a4⟩
    · rw [um_up_q (by decide), um_up_self]
    · rw [um_up_q (by decide), lm_ends_59j]
      exact ly_ne (by omega)
    · refine ⟨Nat.le_refl _, fun i hi => ⟨by rw [gr 55 (by decide)], by rw [gr 57 (by decide)], fun z => g59 i ?_⟩, fun i nd0 hi hnd z1 z2 z3 => ⟨hi, ?_⟩⟩
      · rintro rfl
        exact z k59
      · have ne : ¬ i = j := by
          rintro rfl
          rw [gr 55 (by decide), k55] at z1
          have e0 : nd r = nd0 := (nI_eq (a := nd r) (b := nd0) (by omega) (by omega)).mp z1
          rw [← e0, e2, hk] at z2
          exact absurd z2 (by decide)
        rw [g59 i ne] at z3
        exact z3
  · have e : n = 1000 := by omega
    refine ⟨_, _, ⟨fun fuel v b Q hv hq => hcl fuel v b Q hv (fun z => absurd z hlt) (fun _ => hq), fun b Q hq => hmo b Q (fun z => absurd z hlt) (fun _ => hq)⟩, ?_, Or.inr (Or.inl ⟨?_, ?_, ?_⟩)⟩
    · exact ((((ly_kp_uc (by omega)).trans (ly_kp_uc (by omega))).trans (ly_kp_uc (by omega))).trans (ly_kp_uc (by omega))).trans ((((ly_kp_um (by omega)).trans (ly_kp_um (by omega))).trans ly_kp_ends).trans (ly_kp_um (by omega)))
    · rw [um_up_q (by decide), um_up_q (by decide), um_up_self]
    · rw [um_up_ne (by decide), lm_ends_row (by decide), um_up_self]
    · rw [um_up_ne (by decide), lm_ends_row (by decide), um_up_ne (by decide), G 38 (by decide)]
      exact s3
end LayWhile
