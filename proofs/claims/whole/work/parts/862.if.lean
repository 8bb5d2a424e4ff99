/-! lay: IF's second arm -/
section LayIf2
variable {N a n B r I T : Nat} {D nd kd sd bd : Nat → Nat} {c m b : um_S} {Q : um_S → Prop} {X : Nat → Prop}
theorem ly_core_upc (h : ly_core N a n B r I D nd kd sd bd X c m) {q k : Nat} {v : Int32} (hq : (31 ≤ q ∧ q ≤ 34 ∧ r ≤ k) ∨ q = 6) : ly_core N a n B r I D nd kd sd bd X (um_up c q k v) m := by
  obtain ⟨h1, h2, h3, h4, h5, h6, h7, h8, h9, h10⟩ := id h
  exact ly_core_keep h ⟨by rw [um_up_q (by omega)]; exact h1.1, h1.2.1, h1.2.2⟩ ⟨by rw [um_up_q (by omega)]; exact h2.1, h2.2.1⟩ ⟨by rw [um_up_q (by omega)]; exact h3.1, h3.2.1, Nat.le_refl _, h3.2.2⟩ ⟨by rw [um_up_q (by omega)], rfl⟩ (um_tree_uc h5 (by omega)) ⟨fun q s a1 a2 a3 => by rw [um_up_q (by omega)], fun q j a1 a2 a3 => rfl, fun q a1 a2 => rfl⟩ (fun _ _ x => x) (fun q p a1 a2 a3 => by rw [um_up_q (by omega)]) (fun q p a1 a2 a3 => rfl) (fun q i a1 a2 a3 => um_up_ne (by omega)) (fun q i a1 a2 a3 => rfl)
theorem ly_core_upm (h : ly_core N a n B r I D nd kd sd bd X c m) {q2 k2 : Nat} {v2 : Int32} (hq2 : (63 ≤ q2 ∧ q2 ≤ 69 ∧ r ≤ k2) ∨ (q2 = 38 ∧ k2 = 37)) : ly_core N a n B r I D nd kd sd bd X c (um_up m q2 k2 v2) := by
  obtain ⟨h1, h2, h3, h4, h5, h6, h7, h8, h9, h10⟩ := id h
  exact ly_core_keep h ⟨h1.1, by rw [um_up_ne (by omega)]; exact h1.2.1, by rw [um_up_ne (by omega)]; exact h1.2.2⟩ ⟨h2.1, by rw [um_up_ne (by omega)]; exact h2.2.1⟩ ⟨h3.1, by rw [um_up_ne (by omega)]; exact h3.2.1, Nat.le_refl _, h3.2.2⟩ ⟨rfl, by rw [um_up_ne (by omega)]⟩ (um_tree_um h5 (by omega)) ⟨fun q s a1 a2 a3 => rfl, fun q j a1 a2 a3 => by rw [um_up_q (by omega)], fun q a1 a2 => um_up_q (by omega)⟩ (fun _ _ x => x) (fun q p a1 a2 a3 => rfl) (fun q p a1 a2 a3 => by rw [um_up_q (by omega)]) (fun q i a1 a2 a3 => rfl) (fun q i a1 a2 a3 => um_up_ne (by omega))
/-- an item's rows are left alone, and so are the marks of what is open: the topmost entry is no item -/
theorem ly_open_keep {m2 : um_S} {s : Nat} (ho : ly_open a (r + 1) I kd sd m) (hk : ¬ kd r = 13 ∧ ¬ kd r = 18) (g59 : m2 59 = m 59) (g68 : ∀ i, ¬ i = r → m2 68 i = m 68 i) : ly_open a (r + 1) I kd (ly_g sd r s) m2 := by
  have nr : ∀ i, (kd i = 13 ∨ kd i = 18) → ¬ i = r := by
    rintro i z rfl
    exact z.elim hk.1 hk.2
  refine ⟨fun j hj hj2 => ?_, fun i i2 j j2 a1 a2 a3 a4 a5 a6 a7 a8 a9 => ?_⟩
  · rw [g59] at hj2
    obtain ⟨i, a1, a2, a3, a4, a5⟩ := ho.1 j hj hj2
    exact ⟨i, a1, a2, a3, by rw [ly_g_ne (nr i a3)]; exact a4, by rw [g68 i (nr i a3)]; exact a5⟩
  · rw [ly_g_ne (nr i a4)] at a5
    rw [ly_g_ne (nr i2 a6)] at a7
    rw [g68 i (nr i a4)] at a8
    rw [g68 i2 (nr i2 a6)] at a9
    exact ho.2 i i2 j j2 a1 a2 a3 a4 a5 a6 a7 a8 a9
theorem ly_step_12c (h : ly_inv N a n B (r + 1) I D nd kd sd bd c m) (har : a ≤ r) (hk : kd r = 12) (hs : sd r = 2) : ly_to N a n B (r + 1) I D kd sd c m := by
  obtain ⟨hr, hN⟩ := ly_bound h
  obtain ⟨e1, e2, e3, e4, e5, e6, e7, -⟩ := ly_inv_ent h har
  obtain ⟨ab, fi, e8, e9, e10, e11, ⟨f1, f2, f3, f4, f5⟩, hDn⟩ := ly_topS h har (by rw [hk]; decide)
  obtain ⟨⟨⟨s1, s2, s3⟩, ⟨n1, n2, n3⟩, ⟨b1, b2', b3⟩, -⟩, ⟨t1, t2, t3, t4⟩, hd, -, ho⟩ := id h
  have hDn0 : D n = 0 := by rw [hDn, hk, hs]; rfl
  obtain ⟨p, p1, p2, p3, p4, p5, p6⟩ : ∃ p, p < n ∧ c 34 r = nI p ∧ m 68 r = nI p ∧ m 46 p = 10 ∧ D p = 1 ∧ D (p + 1) = 0 := by
    rcases f5 with z | ⟨z, -⟩ | ⟨-, z⟩ | ⟨-, -, z⟩ | ⟨-, z, -⟩
    · omega
    · omega
    · exact absurd (hk.symm.trans z) (by decide)
    · exact z
    · omega
  obtain ⟨-, -, ⟨j1, w1, hj1, hx1, hv1, hw1, hw1'⟩⟩ := (ly_node h har).2.2.2.2.1 hk
  have hT := ly_inv_tree h
  have E : ∀ q, ¬ q = 33 → (um_up c 33 r (nI (sd r + 1))) q = c q := fun q hq => um_up_q hq
  have G : ∀ q, ¬ (q = 67 ∨ q = 69) → (um_up (um_up m 67 r (nI (sd r + 1))) 69 r (nI n)) q = m q := fun q hq => by rw [um_up_q (by omega), um_up_q (by omega)]
  have hlm : ∀ q, ¬ (q = 2 ∨ q = 11 ∨ q = 12 ∨ q = 13 ∨ q = 33 ∨ q = 34) → (um_up (um_up (lc_emit (um_up c 33 r (nI (sd r + 1))) n 11 0 (c 32 r)) 12 p (nI (n + 1))) 34 r (nI n)) q = c q := fun q hq => by rw [um_up_q (by omega), um_up_q (by omega), lc_emit_row (by omega), E q (by omega)]
  have hlp : ∀ q, ¬ (q = 38 ∨ q = 46 ∨ q = 47 ∨ q = 48 ∨ q = 67 ∨ q = 69) → (um_up (lm_put (um_up (um_up m 67 r (nI (sd r + 1))) 69 r (nI n)) n 11 0 (m 64 r)) 47 p (nI (n + 1))) q = m q := fun q hq => by rw [um_up_q (by omega), lm_put_row (by omega), G q (by omega)]
  refine ly_to_eb (t := r + 1) (k2 := j1) (ab := ab) (fi := fi) (cg := um_up (um_up (lc_emit (um_up c 33 r (nI (sd r + 1))) n 11 0 (c 32 r)) 12 p (nI (n + 1))) 34 r (nI n)) (cb := um_up (um_up (um_up (um_up c 33 r (nI (sd r + 1))) 3 8 (-2)) 12 p (nI n)) 34 r (nI n)) (mg := um_up (lm_put (um_up (um_up m 67 r (nI (sd r + 1))) 69 r (nI n)) n 11 0 (m 64 r)) 47 p (nI (n + 1))) (mb := um_up (um_up (um_up m 67 r (nI (sd r + 1))) 69 r (nI n)) 38 35 1) (x := c 32 r) (y := m 64 r) (by omega) n3 b3 ?_ ?_ ?_ ?_ ?_ ?_ ?_ ?_ ?_
  · exact ⟨by rw [um_up_q (by decide), um_up_q (by decide), lc_emit_2 (by decide), E 2 (by decide)]; exact b1, by rw [hlm 6 (by decide)]; exact t1⟩
  · have x38 : ∀ k, ¬ k = 10 → (um_up (lm_put (um_up (um_up m 67 r (nI (sd r + 1))) 69 r (nI n)) n 11 0 (m 64 r)) 47 p (nI (n + 1))) 38 k = m 38 k := fun k hk => by rw [um_up_q (by decide), lm_put_38 hk, G 38 (by decide)]
    exact ⟨by rw [x38 _ (by decide)]; exact s2, by rw [x38 _ (by decide)]; exact s3, by rw [x38 _ (by decide)]; exact b2', by rw [x38 _ (by decide)]; exact t2⟩
  · exact ⟨by rw [um_up_q (by decide), um_up_q (by decide), um_up_self], by rw [um_up_q (by decide), um_up_q (by decide), um_up_q (by decide), E 2 (by decide)]; exact b1, by rw [um_up_q (by decide), um_up_q (by decide), um_up_q (by decide), E 6 (by decide)]; exact t1⟩
  · exact ⟨um_up_self, by rw [um_up_ne (by decide), G 38 (by decide)]; exact s3⟩
  · exact ((((ly_kp_uc (by omega)).trans ly_kp_emit).trans (ly_kp_uc (by omega))).trans (ly_kp_uc (by omega))).trans ((((ly_kp_um (by omega)).trans (ly_kp_um (by omega))).trans ly_kp_put).trans (ly_kp_um (by omega)))
  · exact ((((ly_kp_uc (by omega)).trans (ly_kp_uc (by omega))).trans (ly_kp_uc (by omega))).trans (ly_kp_uc (by omega))).trans (((ly_kp_um (by omega)).trans (ly_kp_um (by omega))).trans (ly_kp_um (by omega)))
  · intro hlt hB
    have hc0 := ly_core_upm (v2 := nI n) (ly_core_up (v := nI (sd r + 1)) (v2 := nI (sd r + 1)) (ly_inv_core h) (q := 33) (k := r) (q2 := 67) (k2 := r) (Or.inl ⟨by decide, by decide, Nat.le_refl _⟩) (Or.inl ⟨by decide, by decide, Nat.le_refl _⟩)) (q2 := 69) (k2 := r) (Or.inl ⟨by decide, by decide, Nat.le_refl _⟩)
    have hc1 := ly_core_emit (op := 11) (arg := 0) (cx := c 32 r) (my := m 64 r) (D2 := ly_g D (n + 1) 0) (X2 := fun q => ly_X (r + 1) kd sd c q ∨ q = n) (d1 := 0) hc0 hlt (fun k hk => ly_g_ne (by omega)) (by rw [E 24 (by decide), G 56 (by decide)]; exact Or.inl f3) (Or.inr ⟨Or.inr ⟨rfl, hDn0⟩, Or.inl ⟨Or.inr rfl, rfl⟩⟩) (fun q _ z => Or.inl z)
    have hpatch : um_ins (n + 1 + 1) (ly_g D (n + 1) 0) p ((lm_put (um_up (um_up m 67 r (nI (sd r + 1))) 69 r (nI n)) n 11 0 (m 64 r)) 46 p) (nI (n + 1)) := by
      rw [lm_put_old (by decide) (by decide) p1, G 46 (by decide), p4]
      have d1 : ly_g D (n + 1) 0 p = 1 := by rw [ly_g_ne (by omega)]; exact p5
      have d2 : ly_g D (n + 1) 0 (p + 1) = 0 := by rw [ly_g_ne (by omega)]; exact p6
      have d3 : ly_g D (n + 1) 0 (n + 1) = 0 := ly_g_at
      exact Or.inr (Or.inr (Or.inr (Or.inr (Or.inr (Or.inl ⟨rfl, by omega, by omega, by omega, n + 1, by omega, rfl, by omega⟩)))))
    have hc2 := ly_core_upc (v := nI n) (ly_core_patch (v := nI (n + 1)) hc1 (by omega) hpatch) (q := 34) (k := r) (Or.inl ⟨by decide, by decide, Nat.le_refl _⟩)
    have h34 : ∀ i, ¬ i = r → (um_up (um_up (lc_emit (um_up c 33 r (nI (sd r + 1))) n 11 0 (c 32 r)) 12 p (nI (n + 1))) 34 r (nI n)) 34 i = c 34 i := fun i hi => by rw [um_up_ne (by omega), um_up_q (by decide), lc_emit_row (by decide), um_up_q (by decide)]
    have hc3 := ly_core_X (X2 := ly_X (r + 1) kd (ly_g sd r (sd r + 1)) (um_up (um_up (lc_emit (um_up c 33 r (nI (sd r + 1))) n 11 0 (c 32 r)) 12 p (nI (n + 1))) 34 r (nI n))) hc2 (by
      rintro q hq ⟨z | z, zp⟩
      · obtain ⟨i, a1, a2, a3, a4⟩ := z
        by_cases e : i = r
        · subst e
          exfalso
          have := (nI_eq (a := p) (b := q) (by omega) (by omega)).mp (p2.symm.trans a4)
          exact zp this.symm
        · exact ⟨i, a1, a2, by rw [ly_g_ne e]; exact a3, by rw [h34 i e]; exact a4⟩
      · exact ⟨r, by omega, hk, by rw [ly_g_at]; omega, by rw [um_up_self, z]⟩)
    have hc4 := ly_core_gh (nd2 := nd) (kd2 := kd) (sd2 := ly_g sd r (sd r + 1)) (bd2 := bd) hc3 (fun i hi => ⟨rfl, rfl, ly_g_ne (by omega), rfl⟩)
    have hF : ly_fr I c m (um_up (um_up (lc_emit (um_up c 33 r (nI (sd r + 1))) n 11 0 (c 32 r)) 12 p (nI (n + 1))) 34 r (nI n)) (um_up (lm_put (um_up (um_up m 67 r (nI (sd r + 1))) 69 r (nI n)) n 11 0 (m 64 r)) 47 p (nI (n + 1))) := ⟨fun q s a1 a2 a3 => by rw [hlm q (by omega)], fun q j a1 a2 a3 => by rw [hlp q (by omega)], fun q a1 a2 => hlp q (by omega)⟩
    have hent : ly_ent N (n + 1) (n + 1 + 1) I B (ly_g D (n + 1) 0) (um_up (um_up (lc_emit (um_up c 33 r (nI (sd r + 1))) n 11 0 (c 32 r)) 12 p (nI (n + 1))) 34 r (nI n)) (um_up (lm_put (um_up (um_up m 67 r (nI (sd r + 1))) 69 r (nI n)) n 11 0 (m 64 r)) 47 p (nI (n + 1))) r (nd r) (kd r) (sd r + 1) (bd r) := by
      refine ly_mkS (ly_inv_ent h har) (by rw [hk]; decide) hF (fun q hq => by rw [hlm q (by omega)]) (fun q a1 a2 => by rw [hlp q (by omega)]) (by rw [um_up_q (by decide), um_up_q (by decide), lc_emit_row (by decide), um_up_self]) (by rw [um_up_q (by decide), lm_put_row (by decide), um_up_q (by decide), um_up_self]) (Or.inr (Or.inr (Or.inr (Or.inr ⟨hk, by omega, n, by omega, um_up_self, ?_, ?_, ?_⟩))))
      · rw [um_up_q (by decide), lm_put_row (by decide), um_up_self]
      · rw [um_up_q (by decide), lm_put_at.1]
      · rw [ly_g_ne (by omega)]
        exact hDn0
    have hc5 := ly_core_top hc4 (fun _ => by rw [ly_g_at]; exact hent) (fun h0 => by rw [ly_g_ne (by omega)]; exact ly_inv_link h h0)
    refine ⟨_, _, _, _, I, ly_g D (n + 1) 0, ly_begin_inv hc5 (by omega) t4 hB t3 (by omega) (by rw [hlp 39 (by decide)]; exact hv1) hw1' (Or.inr ⟨hw1, rfl, by rw [hlm 24 (by decide), hlp 56 (by decide)]; exact f3⟩) (by rw [hlm 24 (by decide), hlm 25 (by decide), hlm 27 (by decide), hlm 28 (by decide)]; exact f4) ⟨by omega, by omega⟩ ly_g_at (fun _ => ?_) (fun e => by omega) (fun _ => (hd (by omega)).2) (ly_open_keep ho (by rw [hk]; decide) (hlp 59 (by decide)) (fun i _ => by rw [hlp 68 (by decide)])), ?_, ly_gw_id (hlp 55 (by decide)) (hlp 57 (by decide)) (hlp 59 (by decide)), fun k hk => ly_g_ne (by omega)⟩
    · rw [Nat.add_sub_cancel, ly_g_at, f1, hk, hs]
      unfold ly_isE
      rw [if_neg (by omega)]
      rfl
    · refine ly_mu_begin hB (by omega) (fun i hi => ?_) ly_g_at
      rw [ly_g_ne (by omega), ly_g_ne (show ¬ i = r + 1 by omega)]
      by_cases e : i = r
      · subst e
        rw [ly_g_at, hk, hs]
        decide
      · rw [ly_g_ne e]
        exact Nat.le_refl _
  · intro fuel v b Q hv q1 q2
    refine p_turnI h har hk (by omega) hv ?_
    have hTx : ∀ d : um_S, (∀ q, q = 1 ∨ (8 ≤ q ∧ q ≤ 10) ∨ (26 ≤ q ∧ q ≤ 28) → d q = c q) → um_tree N d m := fun d hd' => um_tree_of hT (by rw [hd' 1 (by omega)]) (hd' 8 (by omega)) (hd' 9 (by omega)) (hd' 10 (by omega)) (by rw [hd' 26 (by omega)]) (by rw [hd' 27 (by omega)]) (by rw [hd' 28 (by omega)]) rfl rfl rfl rfl rfl rfl rfl rfl
    have a42 := (hT.2.2.2.1 (nd r) e1).2.2.2.1
    unfold wp_La_turnIf
    rw [um_cl1 (by omega), um_J_c (q := 32) (by decide), E 32 (by decide), um_J_c (q := 2) (by decide), E 2 (by decide), n1]
    refine ⟨vp_in_nI hr (by decide), ?_⟩
    rintro x1 rfl x2 rfl
    refine um_no (by rw [hs]; decide) (um_no (by rw [hs]; decide) (um_yes (by rw [hs]; rfl) ?_))
    refine p_emits (n := n) (by rw [E 3 (by decide)]; exact s1) (by rw [E 2 (by decide)]; exact n1) n3 (fun z => ⟨vp_in_nI hr (by decide), ?_⟩) (fun z => ⟨vp_in_nI hr (by decide), ?_⟩)
    · rw [um_J_c (q := 34) (by decide), lc_emit_row (by decide), E 34 (by decide), p2, um_J_c (q := 2) (by decide), lc_emit_n]
      refine p_setGoal (n := n + 1) lc_emit_n (by omega) (by omega) ⟨vp_in_nI hr (by decide), ?_⟩
      rw [um_J_uc (by decide)]
      rintro σ13 rfl
      refine p_part (i := 2) (hTx _ (fun q hq => hlm q (by omega))) e1 (by decide) ?_
      rw [hlm 9 (by decide), a42, hx1]
      exact q1 z
    · rw [um_J_c (q := 34) (by decide), um_up_q (q := 3) (a := 34) (by decide), E 34 (by decide), p2, um_J_c (q := 2) (by decide), um_up_q (q := 3) (a := 2) (by decide), E 2 (by decide), n1]
      refine p_setGoal (n := n) (by rw [um_up_q (by decide), E 2 (by decide)]; exact n1) p1 n3 ⟨vp_in_nI hr (by decide), ?_⟩
      rw [um_J_uc (by decide)]
      rintro σ13 rfl
      refine p_part (i := 2) (hTx _ (fun q hq => by rw [um_up_q (by omega), um_up_q (by omega), um_up_q (by omega), E q (by omega)])) e1 (by decide) ?_
      rw [um_up_q (q := 34) (a := 9) (by decide), um_up_q (q := 12) (a := 9) (by decide), um_up_q (q := 3) (a := 9) (by decide), E 9 (by decide), a42, hx1]
      exact q2 z
  · intro b Q q1 q2
    refine p_goesI h har hk (by omega) ?_
    unfold wp_Mo_decides
    rw [um_cl1 (by omega), um_J_m (q := 67) (by decide), um_up_self]
    refine ⟨vp_in_nI (by omega) (by decide), ?_⟩
    rintro x1 rfl
    refine um_no (by rw [hs]; decide) (um_no (by rw [hs]; decide) (um_yes (by rw [hs]; rfl) ⟨vp_in_nI (by omega) (by decide), ?_⟩))
    rw [um_J_m (q := 38) (by decide), um_up_q (q := 67) (a := 38) (by decide), n2, um_J_um (by decide)]
    rintro σ3 rfl
    refine ⟨vp_in_nI (by omega) (by decide), ?_⟩
    rw [um_J_m (q := 64) (by decide), G 64 (by decide)]
    refine p_puts (n := n) (by rw [G 38 (by decide)]; exact s2) (by rw [G 38 (by decide)]; exact n2) n3 (fun z => ?_) (fun z => ?_)
    · refine um_yes' (by rw [um_J_m (by decide), lm_put_38 (by decide), G 38 (by decide)]; exact s2) ⟨vp_in_nI (by omega) (by decide), ?_⟩
      rw [um_J_m (q := 68) (by decide), lm_put_row (by decide), G 68 (by decide), p3, um_J_m (q := 38) (by decide), lm_put_n]
      refine ⟨vp_in_nI (by omega) (by decide), ?_⟩
      rw [um_cl1 (by omega), um_J_um (by decide)]
      rintro σ8 rfl
      unfold wp_Mo_decides_128
      refine ⟨vp_in_nI (by omega) (by decide), ?_⟩
      rw [um_cl1 (by omega), um_J_m (q := 42) (by decide), hlp 42 (by decide), hx1]
      refine p_Mpart (by omega) ?_
      rw [hlp 64 (by decide), hlp 65 (by decide), hlp 66 (by decide), e8, e9]
      exact q1 z
    · refine um_no' (by rw [um_J_m (by decide), um_up_self]; decide) ?_
      unfold wp_Mo_decides_128
      refine ⟨vp_in_nI (by omega) (by decide), ?_⟩
      rw [um_cl1 (by omega), um_J_m (q := 42) (by decide), um_up_q (q := 38) (a := 42) (by decide), G 42 (by decide), hx1]
      refine p_Mpart (by omega) ?_
      rw [um_up_q (q := 38) (a := 64) (by decide), um_up_q (q := 38) (a := 65) (by decide), um_up_q (q := 38) (a := 66) (by decide), G 64 (by decide), G 65 (by decide), G 66 (by decide), e8, e9]
      exact q2 z
end LayIf2
