/-! lay: an instruction, then a node is begun; IF's arms -/
section LayEb
variable {N a n B r I t k2 ab fi : Nat} {D nd kd sd bd : Nat → Nat} {c m b : um_S} {Q : um_S → Prop}
theorem ly_to_eb {cg cb mg mb : um_S} {x y : Int32} (ht : t ≤ B + 1 ∧ t ≤ r + 1 ∧ a ≤ t) (hn : n ≤ 1000) (b3 : B ≤ 2000) (g1 : cg 2 7 = nI B ∧ cg 6 4 = nI t) (g2 : mg 38 35 = 0 ∧ mg 38 36 = 0 ∧ mg 38 20 = nI B ∧ mg 38 37 = nI t) (d1 : cb 3 8 = -2 ∧ cb 2 7 = nI B ∧ cb 6 4 = nI t) (d2 : mb 38 35 = 1 ∧ mb 38 36 = 0)
    (kg : ly_kp a c m cg mg) (kb : ly_kp a c m cb mb)
    (hinv : n < 1000 → B < 2000 → ∃ nd1 kd1 sd1 bd1 I1 D1, ly_inv N a (n + 1) (B + 1) (t + 1) I1 D1 nd1 kd1 sd1 bd1 (lc_begin cg t B (nI k2) x) (lm_begin mg t B (nI k2) y (nI ab) (nI fi)) ∧ ly_mu a (B + 1) (t + 1) kd1 sd1 < ly_mu a B (r + 1) kd sd ∧ ly_gw I I1 m mg ∧ ∀ k, k < n + 1 → D1 k = D k)
    (hcl : ∀ (fuel v : Nat) (b : um_S) (Q : um_S → Prop), v < 1000000 → (n < 1000 → wp_La_begin (nI k2) x (um_J cg b) (fun σ => wp_La_takeTurns_2 Q fuel (nI (v + 1)) σ)) → (n = 1000 → wp_La_begin (nI k2) x (um_J cb b) (fun σ => wp_La_takeTurns_2 Q fuel (nI (v + 1)) σ)) → wp_La_takeTurns_2 Q (fuel + 1) (nI v) (um_J c b))
    (hmo : ∀ (b : um_S) (Q : um_S → Prop), (n < 1000 → wp_Mo_begin (nI k2) y (nI ab) (nI fi) (um_J b mg) Q) → (n = 1000 → wp_Mo_begin (nI k2) y (nI ab) (nI fi) (um_J b mb) Q) → wp_Mo_goesOn (um_J b m) Q) : ly_to N a n B (r + 1) I D kd sd c m := by
  by_cases hlt : n < 1000
  · have z : ¬ n = 1000 := by omega
    by_cases hB : B < 2000
    · obtain ⟨nd1, kd1, sd1, bd1, I1, D1, h1, h2, h4, h3⟩ := hinv hlt hB
      exact ⟨_, _, ⟨fun fuel v b Q hv hq => hcl fuel v b Q hv (fun _ => p_begin g1.1 hB g1.2 (by omega) hq) (fun q => absurd q z), fun b Q hq => hmo b Q (fun _ => p_Mbegin g2.1 g2.2.2.1 hB g2.2.2.2 (by omega) hq) (fun q => absurd q z)⟩, (kg.trans (ly_kp_cb (by omega))).trans (ly_kp_mb (by omega)), Or.inl ⟨n + 1, B + 1, t + 1, I1, D1, nd1, kd1, sd1, bd1, h1, h2, by omega, ly_gw_row h4 (lm_begin_row (by decide)) (lm_begin_row (by decide)) (lm_begin_row (by decide)), by omega, h3⟩⟩
    · have e : B = 2000 := by omega
      refine ⟨um_up cg 3 8 (-2), um_up mg 38 35 1, ⟨fun fuel v b Q hv hq => hcl fuel v b Q hv (fun _ => p_beginFull (by rw [g1.1, e]) hq) (fun q => absurd q z), fun b Q hq => hmo b Q (fun _ => p_MbeginFull (by rw [g2.2.2.1, e]) hq) (fun q => absurd q z)⟩, (kg.trans (ly_kp_uc (by omega))).trans (ly_kp_um (by omega)), Or.inr (Or.inl ⟨um_up_self, um_up_self, ?_⟩)⟩
      rw [um_up_ne (by decide)]
      exact g2.2.1
  · have e1 : n = 1000 := by omega
    have hm : ∀ (b : um_S) (Q : um_S → Prop), Q (um_J b (um_up mb 38 35 1)) → wp_Mo_goesOn (um_J b m) Q := fun b Q hq => hmo b Q (fun q => absurd q hlt) (fun _ => p_MbeginBad (by rw [d2.1]; decide) hq)
    have m36 : um_up mb 38 35 1 38 36 = 0 := by rw [um_up_ne (by decide)]; exact d2.2
    by_cases hB : B < 2000
    · refine ⟨_, um_up mb 38 35 1, ⟨fun fuel v b Q hv hq => hcl fuel v b Q hv (fun q => absurd q hlt) (fun _ => p_begin d1.2.1 hB d1.2.2 (by omega) hq), hm⟩, (kb.trans (ly_kp_cb (by omega))).trans (ly_kp_um (by omega)), Or.inr (Or.inl ⟨?_, um_up_self, m36⟩)⟩
      rw [lc_begin_row (by decide)]
      exact d1.1
    · have e : B = 2000 := by omega
      exact ⟨um_up cb 3 8 (-2), um_up mb 38 35 1, ⟨fun fuel v b Q hv hq => hcl fuel v b Q hv (fun q => absurd q hlt) (fun _ => p_beginFull (by rw [d1.2.1, e]) hq), hm⟩, (kb.trans (ly_kp_uc (by omega))).trans (ly_kp_um (by omega)), Or.inr (Or.inl ⟨um_up_self, um_up_self, m36⟩)⟩
theorem p_emits {op arg ctx : Int32} (hv : c 3 8 = 0) (hn : c 2 5 = nI n) (hn2 : n ≤ 1000) (ok : n < 1000 → Q (um_J (lc_emit c n op arg ctx) b)) (no : n = 1000 → Q (um_J (um_up c 3 8 (-2)) b)) : wp_La_emit op arg ctx (um_J c b) Q := by
  by_cases h : n < 1000
  · exact p_emit hv hn h (ok h)
  · have e : n = 1000 := by omega
    exact p_emitFull hv (by rw [hn, e]) (no e)
theorem p_puts {op arg ctx : Int32} (hv : m 38 35 = 0) (hn : m 38 10 = nI n) (hn2 : n ≤ 1000) (ok : n < 1000 → Q (um_J b (lm_put m n op arg ctx))) (no : n = 1000 → Q (um_J b (um_up m 38 35 1))) : wp_Mo_put op arg ctx (um_J b m) Q := by
  by_cases h : n < 1000
  · exact p_put hv hn h (ok h)
  · have e : n = 1000 := by omega
    exact p_putFull (by rw [hn, e]) (no e)
/-- IF: ZERO, then its first arm -/
theorem ly_step_12b (h : ly_inv N a n B (r + 1) I D nd kd sd bd c m) (har : a ≤ r) (hk : kd r = 12) (hs : sd r = 1) : ly_to N a n B (r + 1) I D kd sd c m := by
  obtain ⟨hr, hN⟩ := ly_bound h
  obtain ⟨e1, e2, e3, e4, e5, e6, e7, -⟩ := ly_inv_ent h har
  obtain ⟨ab, fi, e8, e9, e10, e11, ⟨f1, f2, f3, f4, f5⟩, hDn⟩ := ly_topS h har (by rw [hk]; decide)
  obtain ⟨⟨⟨s1, s2, s3⟩, ⟨n1, n2, n3⟩, ⟨b1, b2', b3⟩, -⟩, ⟨t1, t2, t3, t4⟩, hd, -, ho⟩ := id h
  have hDn1 : D n = 1 := by rw [hDn, hk, hs]; rfl
  obtain ⟨-, ⟨j1, w1, hj1, hx1, hv1, hw1, hw1'⟩, -⟩ := (ly_node h har).2.2.2.2.1 hk
  have hT := ly_inv_tree h
  have E : ∀ q, ¬ (q = 33 ∨ q = 34) → (um_up (um_up c 33 r (nI (sd r + 1))) 34 r (nI n)) q = c q := fun q hq => by rw [um_up_q (by omega), um_up_q (by omega)]
  have G : ∀ q, ¬ (q = 67 ∨ q = 68) → (um_up (um_up m 67 r (nI (sd r + 1))) 68 r (nI n)) q = m q := fun q hq => by rw [um_up_q (by omega), um_up_q (by omega)]
  have hlm : ∀ q, ¬ (q = 2 ∨ q = 11 ∨ q = 12 ∨ q = 13 ∨ q = 33 ∨ q = 34) → (lc_emit (um_up (um_up c 33 r (nI (sd r + 1))) 34 r (nI n)) n 10 0 (c 32 r)) q = c q := fun q hq => by rw [lc_emit_row (by omega), E q (by omega)]
  have hlp : ∀ q, ¬ (q = 38 ∨ q = 46 ∨ q = 47 ∨ q = 48 ∨ q = 67 ∨ q = 68) → (lm_put (um_up (um_up m 67 r (nI (sd r + 1))) 68 r (nI n)) n 10 0 (m 64 r)) q = m q := fun q hq => by rw [lm_put_row (by omega), G q (by omega)]
  refine ly_to_eb (t := r + 1) (k2 := j1) (ab := ab) (fi := fi) (cg := lc_emit (um_up (um_up c 33 r (nI (sd r + 1))) 34 r (nI n)) n 10 0 (c 32 r)) (cb := um_up (um_up (um_up c 33 r (nI (sd r + 1))) 34 r (nI n)) 3 8 (-2)) (mg := lm_put (um_up (um_up m 67 r (nI (sd r + 1))) 68 r (nI n)) n 10 0 (m 64 r)) (mb := um_up (um_up (um_up m 67 r (nI (sd r + 1))) 68 r (nI n)) 38 35 1) (x := c 32 r) (y := m 64 r) (by omega) n3 b3 ?_ ?_ ?_ ?_ ?_ ?_ ?_ ?_ ?_
  · exact ⟨by rw [lc_emit_2 (by decide), E 2 (by decide)]; exact b1, by rw [hlm 6 (by decide)]; exact t1⟩
  · exact ⟨by rw [lm_put_38 (by decide), G 38 (by decide)]; exact s2, by rw [lm_put_38 (by decide), G 38 (by decide)]; exact s3, by rw [lm_put_38 (by decide), G 38 (by decide)]; exact b2', by rw [lm_put_38 (by decide), G 38 (by decide)]; exact t2⟩
  · exact ⟨um_up_self, by rw [um_up_q (by decide), E 2 (by decide)]; exact b1, by rw [um_up_q (by decide), E 6 (by decide)]; exact t1⟩
  · exact ⟨um_up_self, by rw [um_up_ne (by decide), G 38 (by decide)]; exact s3⟩
  · exact (((ly_kp_uc (by omega)).trans (ly_kp_uc (by omega))).trans ly_kp_emit).trans (((ly_kp_um (by omega)).trans (ly_kp_um (by omega))).trans ly_kp_put)
  · exact (((ly_kp_uc (by omega)).trans (ly_kp_uc (by omega))).trans (ly_kp_uc (by omega))).trans (((ly_kp_um (by omega)).trans (ly_kp_um (by omega))).trans (ly_kp_um (by omega)))
  · intro hlt hB
    have hc0 := ly_core_up (v := nI n) (v2 := nI n) (ly_core_up (v := nI (sd r + 1)) (v2 := nI (sd r + 1)) (ly_inv_core h) (q := 33) (k := r) (q2 := 67) (k2 := r) (Or.inl ⟨by decide, by decide, Nat.le_refl _⟩) (Or.inl ⟨by decide, by decide, Nat.le_refl _⟩)) (q := 34) (k := r) (q2 := 68) (k2 := r) (Or.inl ⟨by decide, by decide, Nat.le_refl _⟩) (Or.inl ⟨by decide, by decide, Nat.le_refl _⟩)
    have h34 : ∀ i, ¬ i = r → (lc_emit (um_up (um_up c 33 r (nI (sd r + 1))) 34 r (nI n)) n 10 0 (c 32 r)) 34 i = c 34 i := fun i hi => by rw [lc_emit_row (by decide), um_up_ne (by omega), um_up_q (by decide)]
    have h34r : (lc_emit (um_up (um_up c 33 r (nI (sd r + 1))) 34 r (nI n)) n 10 0 (c 32 r)) 34 r = nI n := by rw [lc_emit_row (by decide), um_up_self]
    have hX : ∀ p, p < n → ly_X (r + 1) kd sd c p → ly_X (r + 1) kd (ly_g sd r (sd r + 1)) (lc_emit (um_up (um_up c 33 r (nI (sd r + 1))) 34 r (nI n)) n 10 0 (c 32 r)) p := by
      rintro p - ⟨i, a1, a2, a3, a4⟩
      by_cases e : i = r
      · subst e
        omega
      · exact ⟨i, a1, a2, by rw [ly_g_ne e]; exact a3, by rw [h34 i e]; exact a4⟩
    have hXn : ly_X (r + 1) kd (ly_g sd r (sd r + 1)) (lc_emit (um_up (um_up c 33 r (nI (sd r + 1))) 34 r (nI n)) n 10 0 (c 32 r)) n := ⟨r, by omega, hk, by rw [ly_g_at]; omega, h34r⟩
    have hc1 := ly_core_emit (op := 10) (arg := 0) (cx := c 32 r) (my := m 64 r) (D2 := ly_g D (n + 1) 0) (X2 := ly_X (r + 1) kd (ly_g sd r (sd r + 1)) (lc_emit (um_up (um_up c 33 r (nI (sd r + 1))) 34 r (nI n)) n 10 0 (c 32 r))) (d1 := 0) hc0 hlt (fun k hk => ly_g_ne (by omega)) (by rw [E 24 (by decide), G 56 (by decide)]; exact Or.inl f3) (Or.inr ⟨Or.inl ⟨rfl, hDn1, ly_g_at⟩, Or.inl ⟨hXn, rfl⟩⟩) hX
    have hc2 := ly_core_gh (nd2 := nd) (kd2 := kd) (sd2 := ly_g sd r (sd r + 1)) (bd2 := bd) hc1 (fun i hi => ⟨rfl, rfl, ly_g_ne (by omega), rfl⟩)
    have hF : ly_fr I c m (lc_emit (um_up (um_up c 33 r (nI (sd r + 1))) 34 r (nI n)) n 10 0 (c 32 r)) (lm_put (um_up (um_up m 67 r (nI (sd r + 1))) 68 r (nI n)) n 10 0 (m 64 r)) := ⟨fun q s a1 a2 a3 => by rw [hlm q (by omega)], fun q j a1 a2 a3 => by rw [hlp q (by omega)], fun q a1 a2 => hlp q (by omega)⟩
    have hent : ly_ent N (n + 1) (n + 1 + 1) I B (ly_g D (n + 1) 0) (lc_emit (um_up (um_up c 33 r (nI (sd r + 1))) 34 r (nI n)) n 10 0 (c 32 r)) (lm_put (um_up (um_up m 67 r (nI (sd r + 1))) 68 r (nI n)) n 10 0 (m 64 r)) r (nd r) (kd r) (sd r + 1) (bd r) := by
      refine ly_mkS (ly_inv_ent h har) (by rw [hk]; decide) hF (fun q hq => by rw [hlm q (by omega)]) (fun q a1 a2 => by rw [hlp q (by omega)]) (by rw [lc_emit_row (by decide), um_up_q (by decide), um_up_self]) (by rw [lm_put_row (by decide), um_up_q (by decide), um_up_self]) (Or.inr (Or.inr (Or.inr (Or.inl ⟨hk, by omega, n, by omega, h34r, ?_, lm_put_at.1, ?_, ly_g_at⟩))))
      · rw [lm_put_row (by decide), um_up_self]
      · rw [ly_g_ne (by omega)]
        exact hDn1
    have hc3 := ly_core_top hc2 (fun _ => by rw [ly_g_at]; exact hent) (fun h0 => by rw [ly_g_ne (by omega)]; exact ly_inv_link h h0)
    have ho2 : ly_open a (r + 1) I kd (ly_g sd r (sd r + 1)) (lm_put (um_up (um_up m 67 r (nI (sd r + 1))) 68 r (nI n)) n 10 0 (m 64 r)) := by
      have e68 : ∀ i, ¬ i = r → (lm_put (um_up (um_up m 67 r (nI (sd r + 1))) 68 r (nI n)) n 10 0 (m 64 r)) 68 i = m 68 i := fun i hi => by rw [lm_put_row (by decide), um_up_ne (by omega), um_up_q (by decide)]
      have nr : ∀ i, (kd i = 13 ∨ kd i = 18) → ¬ i = r := by
        rintro i z rfl
        rcases z with z | z <;> exact absurd (hk.symm.trans z) (by decide)
      refine ⟨fun j hj hj2 => ?_, fun i i2 j j2 a1 a2 a3 a4 a5 a6 a7 a8 a9 => ?_⟩
      · rw [hlp 59 (by decide)] at hj2
        obtain ⟨i, a1, a2, a3, a4, a5⟩ := ho.1 j hj hj2
        exact ⟨i, a1, a2, a3, by rw [ly_g_ne (nr i a3)]; exact a4, by rw [e68 i (nr i a3)]; exact a5⟩
      · rw [ly_g_ne (nr i a4)] at a5
        rw [ly_g_ne (nr i2 a6)] at a7
        rw [e68 i (nr i a4)] at a8
        rw [e68 i2 (nr i2 a6)] at a9
        exact ho.2 i i2 j j2 a1 a2 a3 a4 a5 a6 a7 a8 a9
    refine ⟨_, _, _, _, I, ly_g D (n + 1) 0, ly_begin_inv hc3 (by omega) t4 hB t3 (by omega) (by rw [hlp 39 (by decide)]; exact hv1) hw1' (Or.inr ⟨hw1, rfl, by rw [hlm 24 (by decide), hlp 56 (by decide)]; exact f3⟩) (by rw [hlm 24 (by decide), hlm 25 (by decide), hlm 27 (by decide), hlm 28 (by decide)]; exact f4) ⟨by omega, by omega⟩ ly_g_at (fun _ => ?_) (fun e => by omega) (fun _ => (hd (by omega)).2) ho2, ?_, ly_gw_id (hlp 55 (by decide)) (hlp 57 (by decide)) (hlp 59 (by decide)), fun k hk => ly_g_ne (by omega)⟩
    · rw [Nat.add_sub_cancel, ly_g_at, f1, hk, hs]
      unfold ly_isE
      rw [if_neg (by omega)]
      rfl
    · refine ly_mu_begin hB (by omega) (fun i hi => ?_) ly_g_at
      rw [ly_g_ne (by omega), ly_g_ne (show ¬ i = r + 1 by omega)]
      by_cases e : i = r
      · subst e
        rw [ly_g_at, hk, hs]
        decide
      · rw [ly_g_ne e]
        exact Nat.le_refl _
  · intro fuel v b Q hv q1 q2
    refine p_turnI h har hk (by omega) hv ?_
    have hTx : ∀ d : um_S, (∀ q, q = 1 ∨ (8 ≤ q ∧ q ≤ 10) ∨ (26 ≤ q ∧ q ≤ 28) → d q = c q) → um_tree N d m := fun d hd' => um_tree_of hT (by rw [hd' 1 (by omega)]) (hd' 8 (by omega)) (hd' 9 (by omega)) (hd' 10 (by omega)) (by rw [hd' 26 (by omega)]) (by rw [hd' 27 (by omega)]) (by rw [hd' 28 (by omega)]) rfl rfl rfl rfl rfl rfl rfl rfl
    have a41 := (hT.2.2.2.1 (nd r) e1).2.2.1
    unfold wp_La_turnIf
    rw [um_cl1 (by omega), um_J_c (q := 32) (by decide), um_up_q (q := 33) (a := 32) (by decide), um_J_c (q := 2) (by decide), um_up_q (q := 33) (a := 2) (by decide), n1]
    refine ⟨vp_in_nI hr (by decide), ?_⟩
    rintro x1 rfl x2 rfl
    refine um_no (by rw [hs]; decide) (um_yes (by rw [hs]; rfl) ⟨vp_in_nI hr (by decide), ?_⟩)
    rw [um_J_uc (by decide)]
    rintro σ6 rfl
    refine p_emits (n := n) (by rw [E 3 (by decide)]; exact s1) (by rw [E 2 (by decide)]; exact n1) n3 (fun z => ?_) (fun z => ?_)
    · refine p_part (i := 1) (hTx _ (fun q hq => hlm q (by omega))) e1 (by decide) ?_
      rw [hlm 9 (by decide), a41, hx1]
      exact q1 z
    · refine p_part (i := 1) (hTx _ (fun q hq => by rw [um_up_q (by omega), E q (by omega)])) e1 (by decide) ?_
      rw [um_up_q (q := 3) (a := 9) (by decide), E 9 (by decide), a41, hx1]
      exact q2 z
  · intro b Q q1 q2
    refine p_goesI h har hk (by omega) ?_
    unfold wp_Mo_decides
    rw [um_cl1 (by omega), um_J_m (q := 67) (by decide), um_up_self]
    refine ⟨vp_in_nI (by omega) (by decide), ?_⟩
    rintro x1 rfl
    refine um_no (by rw [hs]; decide) (um_yes (by rw [hs]; rfl) ⟨vp_in_nI (by omega) (by decide), ?_⟩)
    rw [um_J_m (q := 38) (by decide), um_up_q (q := 67) (a := 38) (by decide), n2, um_J_um (by decide)]
    rintro σ3 rfl
    refine ⟨vp_in_nI (by omega) (by decide), ?_⟩
    rw [um_J_m (q := 64) (by decide), G 64 (by decide)]
    refine p_puts (n := n) (by rw [G 38 (by decide)]; exact s2) (by rw [G 38 (by decide)]; exact n2) n3 (fun z => ⟨vp_in_nI (by omega) (by decide), ?_⟩) (fun z => ⟨vp_in_nI (by omega) (by decide), ?_⟩)
    · rw [um_cl1 (by omega), um_J_m (q := 41) (by decide), hlp 41 (by decide), hx1]
      refine p_Mpart (by omega) ?_
      rw [hlp 64 (by decide), hlp 65 (by decide), hlp 66 (by decide), e8, e9]
      exact q1 z
    · rw [um_cl1 (by omega), um_J_m (q := 41) (by decide), um_up_q (q := 38) (a := 41) (by decide), G 41 (by decide), hx1]
      refine p_Mpart (by omega) ?_
      rw [um_up_q (q := 38) (a := 64) (by decide), um_up_q (q := 38) (a := 65) (by decide), um_up_q (q := 38) (a := 66) (by decide), G 64 (by decide), G 65 (by decide), G 66 (by decide), e8, e9]
      exact q2 z
end LayEb
