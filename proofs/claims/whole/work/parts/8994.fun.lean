/-! lay: a function, and all six -/
def ly_idle (N f : Nat) (L : Nat → Nat) (C : Nat → Nat → Nat) (B : Nat) (c m : um_S) : Prop :=
  ∃ n I v0 dc ci D bs it ix hs nn dn tn, ly_mid N 0 n B I D c m ∧ ly_gl N v0 dc ci f L C 2001 n B I dc D bs it ix hs nn dn tn c m ∧ 2 * ly_T bs 2001 ≤ n
section LayFun
variable {N v0 i0 ci f n B I dc t : Nat} {L : Nat → Nat} {C : Nat → Nat → Nat} {D bs it ix hs nn dn tn : Nat → Nat} {c m b : um_S} {Q : um_S → Prop}
theorem ly_gl_entry {j : Nat} (h : ly_gl N v0 i0 ci f L C j n B I dc D bs it ix hs nn dn tn c m) (ht : t < n) (e1 : c 14 f = nI t) (e2 : m 54 f = nI t) (e3 : D t = 0) : ly_gl N v0 i0 ci (f + 1) L C j n B I dc D bs it ix hs nn dn tn c m := by
  obtain ⟨h1, h2, h3, h4, h5, h6, h7, h8⟩ := h
  refine ⟨h1, h2, h3, h4, h5, h6, h7, fun g hg => ?_⟩
  by_cases z : g = f
  · subst z
    exact ⟨t, ht, e1, e2, e3⟩
  · exact h8 g (by omega)
theorem p_l46_bad (he : ¬ c 3 8 = 0) (hq : Q (um_J c b)) : wp_La_layFunction_46 Q (um_J c b) := by
  unfold wp_La_layFunction_46
  exact p_emitBad he (p_lf56_bad (fuel := 99999) he hq)
/-- RET, and what is laid apart -/
theorem ly_ret (hsit : ly_sit N 0 n B I D c m) (hgl : ly_gl N v0 0 0 f L C 2001 n B I dc D bs it ix hs nn dn tn c m) (h2 : 2 * ly_T bs 2001 ≤ n) (ht : t < n + 1) (e1 : c 14 f = nI t) (e2 : m 54 f = nI t) (e3 : D t = 0) :
    ∃ c1 m1, (∀ (b : um_S) (Q : um_S → Prop), Q (um_J c1 b) → wp_La_layFunction_46 Q (um_J c b)) ∧
      (∀ (b : um_S) (Q : um_S → Prop) (K2 : Int32 → um_S → Prop) (fuel : Nat) (v1 : Int32), 10 * (2000 - B) + 16020 < fuel → K2 (v1 + 1) (um_J b m1) → wp_Mo_laysAll_67 Q K2 fuel v1 (nI v0) 0 (um_J b m)) ∧ ly_hi c m c1 m1 ∧
      ((∃ B1, ly_idle N (f + 1) L C B1 c1 m1) ∨ ly_fail c1 m1) := by
  obtain ⟨hb, hDn, hIB, hend, t1, t2⟩ := id hsit
  obtain ⟨hI, hN, hn, hBB⟩ := ly_bare_I hb
  obtain ⟨⟨s1, s2, s3⟩, ⟨n1, n2, n3⟩, ⟨b1, b2', b3⟩, -, hT, -⟩ := id hb
  have go : ∀ (b : um_S) (Q : um_S → Prop) (K2 : Int32 → um_S → Prop) (fuel : Nat) (v1 : Int32), wp_Mo_put 14 0 (-1) (um_J b m) (fun σ2 => wp_Mo_laysAll_67 Q K2 fuel v1 (nI v0) 1 σ2) → wp_Mo_laysAll_67 Q K2 (fuel + 1) v1 (nI v0) 0 (um_J b m) := by
    intro b Q K2 fuel v1 hq
    unfold wp_Mo_laysAll_67 wp_Mo_laysAll_100
    rw [um_J_m (q := 38) (by decide), s2, s3, t2]
    exact um_yes' rfl (um_yes' rfl (um_no (by decide) (um_yes rfl (um_yes (by decide) (um_yes' rfl hq)))))
  by_cases hlt : n < 1000
  · have hmid : ly_mid N 0 (n + 1) B I D (lc_emit c n 14 0 0) (lm_put m n 14 0 (-1)) := ly_mid_emit (cx := 0) (my := -1) (op := 14) (arg := 0) hb hlt hIB hend (Or.inl (Or.inl ⟨rfl, rfl⟩)) (fun d => Or.inr (Or.inr (Or.inr (Or.inr (Or.inr (Or.inr (Or.inr (Or.inr (Or.inr (Or.inl ⟨rfl, by rw [ly_g_ne (by omega)]; exact hDn⟩)))))))))) (fun _ _ => rfl) (fun _ _ => rfl) (fun _ _ => rfl) (by rw [lc_emit_row (by decide)]; exact t1) (by rw [lm_put_38 (by decide)]; exact t2)
    have hgl2 : ly_gl N v0 0 0 (f + 1) L C 2001 (n + 1) B I dc D bs it ix hs nn dn tn (lc_emit c n 14 0 0) (lm_put m n 14 0 (-1)) := ly_gl_entry (t := t) (ly_gl_emit hgl (fun _ _ => rfl) (fun _ _ => rfl) (fun _ _ => rfl)) ht (by rw [lc_emit_row (by decide)]; exact e1) (by rw [lm_put_row (by decide)]; exact e2) e3
    obtain ⟨c1, m1, z1, z2, z0, z3⟩ := ly_items 2001 0 0 (n + 1) B I dc D bs it ix hs nn dn tn _ _ (by omega) hmid hgl2 (by omega)
    have hh : ly_hi c m (lc_emit c n 14 0 0) (lm_put m n 14 0 (-1)) := ly_hi_of (fun p hp => lc_emit_row (by omega)) (fun p hp => lm_put_row (by omega)) (fun i hi => lm_put_38 (by omega)) (lc_emit_2 (by decide))
    refine ⟨c1, m1, fun b Q hq => ?_, fun b Q K2 fuel v1 hf hq => ?_, hh.trans z0, ?_⟩
    · unfold wp_La_layFunction_46
      exact p_emit s1 n1 hlt (z1 b Q 100000 (by omega) hq)
    · obtain ⟨g, rfl⟩ : ∃ g, fuel = g + 1 := ⟨fuel - 1, by omega⟩
      exact go b Q K2 g v1 (p_put s2 n2 hlt (z2 b Q K2 g v1 (by omega) hq))
    · rcases z3 with ⟨n3', B1, I1, dc1, ci1, D1, bs1, it1, ix1, hs1, nn1, dn1, tn1, y1, y2, y3⟩ | y
      · exact Or.inl ⟨B1, n3', I1, v0, dc1, ci1, D1, bs1, it1, ix1, hs1, nn1, dn1, tn1, y1, y2, y3⟩
      · exact Or.inr y
  · have e : n = 1000 := by omega
    have hf : ly_fail (um_up c 3 8 (-2)) (um_up m 38 35 1) := Or.inl ⟨um_up_self, um_up_self, by rw [um_up_ne (by decide)]; exact s3⟩
    refine ⟨um_up c 3 8 (-2), um_up m 38 35 1, fun b Q hq => ?_, fun b Q K2 fuel v1 hff hq => ?_, ly_hi_of (fun p hp => um_up_q (by omega)) (fun p hp => um_up_q (by omega)) (fun i hi => um_up_ne (by omega)) (by rw [um_up_q (by decide)]), Or.inr hf⟩
    · unfold wp_La_layFunction_46
      exact p_emitFull s1 (by rw [n1, e]) (p_lf56_bad (fuel := 99999) (ly_fail_c hf) hq)
    · obtain ⟨g, rfl⟩ : ∃ g, fuel = g + 1 + 1 := ⟨fuel - 2, by omega⟩
      exact go b Q K2 (g + 1) v1 (p_putFull (by rw [n2, e]) (p_l67_bad hf hq))
/-- a function -/
theorem ly_fun (hf : f < 6) (h : ly_idle N f L C B c m) : ∃ c1 m1, (∀ (b : um_S) (Q : um_S → Prop), Q (um_J c1 b) → wp_La_layFunction (nI f) (um_J c b) Q) ∧ (∀ (b : um_S) (Q : um_S → Prop) (fuel : Nat), wp_Mo_laysAll_2 Q fuel (nI (f + 1)) (um_J b m1) → wp_Mo_laysAll_2 Q (fuel + 1) (nI f) (um_J b m)) ∧ ly_hi c m c1 m1 ∧ ((∃ B1, ly_idle N (f + 1) L C B1 c1 m1) ∨ ly_fail c1 m1) := by
  obtain ⟨n, I, v0, dc, ci, D, bs, it, ix, hs, nn, dn, tn, hmid, hgl, h2⟩ := h
  have hb := hmid.1 0
  obtain ⟨hI, hN, hn, hBB⟩ := ly_bare_I hb
  obtain ⟨⟨s1, s2, s3⟩, ⟨n1, n2, n3⟩, ⟨b1, b2', b3⟩, -, hT, -⟩ := id hb
  obtain ⟨-, ⟨t1, t2⟩, hIB, hend⟩ := id hmid
  obtain ⟨g1, ⟨l1, l2, -, -⟩, g3, ⟨g4, g4'⟩, ⟨g5, g5', g5''⟩, g6, g7, g8⟩ := hgl
  have hci : ci ≤ dc := by
    rw [← g5'']
    exact ly_cnt_le dc
  rw [g5''] at l2
  have E : ∀ p, ¬ (p = 3 ∨ p = 14) → (um_up (um_up c 14 f (nI n)) 3 6 0) p = c p := fun p hp => by rw [um_up_q (by omega), um_up_q (by omega)]
  have E3 : ∀ i, ¬ i = 6 → (um_up (um_up c 14 f (nI n)) 3 6 0) 3 i = c 3 i := fun i hi => by rw [um_up_ne (by omega), um_up_q (by decide)]
  have G : ∀ p, ¬ (p = 38 ∨ p = 54) → (um_up (um_up m 54 f (nI n)) 38 37 0) p = m p := fun p hp => by rw [um_up_q (by omega), um_up_q (by omega)]
  have G38 : ∀ i, ¬ i = 37 → (um_up (um_up m 54 f (nI n)) 38 37 0) 38 i = m 38 i := fun i hi => by rw [um_up_ne (by omega), um_up_q (by decide)]
  have hh0 : ly_hi c m (um_up (um_up c 14 f (nI n)) 3 6 0) (um_up (um_up m 54 f (nI n)) 38 37 0) := ly_hi_of (fun p hp => E p (by omega)) (fun p hp => G p (by omega)) (fun i hi => G38 i (by omega)) (by rw [E 2 (by decide)])
  have hsit0 : ly_sit N 0 n B I (ly_g D n 0) (um_up (um_up c 14 f (nI n)) 3 6 0) (um_up (um_up m 54 f (nI n)) 38 37 0) := by
    refine ⟨ly_bare_row hb (fun p hp => E p (by omega)) (E3 8 (by decide)) ⟨by rw [E 2 (by decide)], by rw [E 2 (by decide)]⟩ (fun p hp => G p (by omega)) (fun i hi => G38 i (by omega)), ly_g_at, hIB, fun i hi => by rw [G 59 (by decide)]; exact hend i hi, by rw [E 6 (by decide)]; exact t1, ?_⟩
    rw [um_up_self]
    rfl
  have hgl0 : ly_gl N (v0 + ci) 0 0 f L C 2001 n B I 0 (ly_g D n 0) bs it ix hs nn dn tn (um_up (um_up c 14 f (nI n)) 3 6 0) (um_up (um_up m 54 f (nI n)) 38 37 0) := by
    refine ⟨ly_hd_of g1 (Nat.le_refl _) (Nat.le_refl _) (fun i hi => ly_g_ne (by omega)) (fun p a1 a2 => E p (by omega)) (by rw [E 7 (by decide)]) (fun p hp => G p (by omega)) ⟨G38 30 (by decide), G38 34 (by decide)⟩ (fun i hi => ⟨by rw [G 55 (by decide)], by rw [G 57 (by decide)], fun _ => by rw [G 59 (by decide)]⟩), ⟨?_, ?_, fun i hi => by omega, fun i i2 a1 a2 => by omega⟩, ly_cha_of g3 (fun p a1 a2 => G p (by omega)), ⟨by rw [E3 7 (by decide), G38 34 (by decide)]; exact g4, by rw [E 2 (by decide), G38 21 (by decide)]; exact g4'⟩, ⟨by omega, Nat.le_refl _, rfl⟩, fun i k a1 a2 a3 a4 a5 => ?_, fun q a1 a2 => by omega, fun g hg => ?_⟩
    · rw [um_up_self]
      rfl
    · rw [G38 32 (by decide), l2]
      rfl
    · rw [G 55 (by decide)] at a3
      rw [G 39 (by decide)] at a4
      rw [G 59 (by decide)] at a5
      rw [ly_nh_of (G38 34 (by decide)) (G 42 (by decide))]
      rcases g6 i k a1 a2 a3 a4 a5 with z | z | ⟨q, z1, z2, -⟩
      · exact Or.inl z
      · exact Or.inr (Or.inl z)
      · omega
    · obtain ⟨y, y1, y2, y3, y4⟩ := g8 g hg
      exact ⟨y, y1, by rw [um_up_q (by decide), um_up_ne (by omega)]; exact y2, by rw [um_up_q (by decide), um_up_ne (by omega)]; exact y3, by rw [ly_g_ne (by omega)]; exact y4⟩
  have x14 : (um_up (um_up c 14 f (nI n)) 3 6 0) 14 f = nI n := by rw [um_up_q (by decide), um_up_self]
  have x54 : (um_up (um_up m 54 f (nI n)) 38 37 0) 54 f = nI n := by rw [um_up_q (by decide), um_up_self]
  obtain ⟨hbody, hbody2⟩ := hT.2.2.2.2 f hf
  have hcl : ∀ (b : um_S) (Q : um_S → Prop), (m 45 f = -1 → wp_La_layFunction_46 Q (um_J (um_up (um_up c 14 f (nI n)) 3 6 0) b)) → (¬ m 45 f = -1 → wp_La_begin (m 45 f) 0 (um_J (um_up (um_up c 14 f (nI n)) 3 6 0) b) (fun σ4 => wp_La_takeTurns σ4 (fun σ5 => wp_La_layFunction_46 Q σ5))) → wp_La_layFunction (nI f) (um_J c b) Q := by
    intro b Q q1 q2
    have i6 : vp_in (nI f) 6 := vp_in_nI hf (by decide)
    unfold wp_La_layFunction
    rw [um_cl1 (show f < 2147483648 by omega), um_J_c (q := 2) (by decide), n1]
    refine ⟨i6, ?_⟩
    rintro σ1 rfl σ2 rfl
    rw [um_J_uc (by decide), um_J_uc (by decide), um_J_c (q := 10) (by decide), E 10 (by decide), hbody]
    refine ⟨i6, ?_⟩
    rintro x3 rfl
    exact ⟨q1, q2⟩
  have hmo : ∀ (b : um_S) (Q : um_S → Prop) (fuel : Nat), (m 45 f = -1 → wp_Mo_laysAll_67 Q (fun v1 σ => wp_Mo_laysAll_2 Q fuel v1 σ) 100000 (nI f) (nI (v0 + ci)) 0 (um_J b (um_up (um_up m 54 f (nI n)) 38 37 0))) → (¬ m 45 f = -1 → wp_Mo_begin (m 45 f) (-1) 0 0 (um_J b (um_up (um_up m 54 f (nI n)) 38 37 0)) (fun σ4 => wp_Mo_laysAll_67 Q (fun v1 σ => wp_Mo_laysAll_2 Q fuel v1 σ) 100000 (nI f) (nI (v0 + ci)) 0 σ4)) → wp_Mo_laysAll_2 Q (fuel + 1) (nI f) (um_J b m) := by
    intro b Q fuel q1 q2
    have i6 : vp_in (nI f) 6 := vp_in_nI hf (by decide)
    unfold wp_Mo_laysAll_2
    rw [um_cl1 (show f < 2147483648 by omega), um_J_m (q := 38) (by decide), s2, s3, n2]
    refine um_no (fun z => ?_) (um_yes' rfl (um_yes' rfl ⟨i6, ?_⟩))
    · have := (nI_leI (a := 6) (b := f) (by decide) (by omega)).mp z
      omega
    rintro σ1 rfl σ2 rfl
    rw [um_J_um (by decide), um_J_um (by decide), um_J_m (q := 38) (by decide), G38 32 (by decide), l2, um_J_m (q := 45) (by decide), G 45 (by decide)]
    rintro x3 rfl
    exact ⟨i6, q1, fun z => ⟨i6, q2 z⟩⟩
  by_cases hz : m 45 f = -1
  · obtain ⟨c1, m1, z1, z2, z0, z3⟩ := ly_ret (t := n) hsit0 hgl0 h2 (by omega) x14 x54 ly_g_at
    refine ⟨c1, m1, fun b Q hq => hcl b Q (fun _ => z1 b Q hq) (fun w => absurd hz w), fun b Q fuel hq => hmo b Q fuel (fun _ => z2 b Q _ 100000 (nI f) (by omega) ?_) (fun w => absurd hz w), hh0.trans z0, z3⟩
    rw [show nI f + 1 = nI (f + 1) from um_succ]
    exact hq
  · obtain ⟨k2, w2, hk2, hx2, hv2, hw2, hw2'⟩ : um_isS m N (m 45 f) := by
      rcases hbody2 with z | z
      · exact absurd z hz
      · exact z
    rw [hx2] at hcl hmo
    by_cases hB : B < 2000
    · have hinv := ly_bare_begin (a := 0) (k2 := k2) (w2 := w2) (ab := 0) (fi := 0) (x := 0) (y := -1) hsit0.1 (by decide) hB hIB hsit0.2.2.2.1 hk2 (by rw [G 39 (by decide)]; exact hv2) hw2 hw2' (Or.inl ⟨rfl, rfl⟩) (Or.inl ⟨rfl, rfl, rfl⟩) ⟨by omega, by omega⟩ ly_g_at
      have hmu : ly_mu 0 (B + 1) 1 (ly_g ly_z 0 w2) (ly_g ly_z 0 0) ≤ 10 * (2000 - (B + 1)) + 4 := ly_mu_one (a := 0) (B := B) (w := w2)
      have kp : ly_kp 0 (um_up (um_up c 14 f (nI n)) 3 6 0) (um_up (um_up m 54 f (nI n)) 38 37 0) (lc_begin (um_up (um_up c 14 f (nI n)) 3 6 0) 0 B (nI k2) 0) (lm_begin (um_up (um_up m 54 f (nI n)) 38 37 0) 0 B (nI k2) (-1) (nI 0) (nI 0)) := (ly_kp_cb (Nat.le_refl _)).trans (ly_kp_mb (Nat.le_refl _))
      have hgw : ly_gw I I (um_up (um_up m 54 f (nI n)) 38 37 0) (lm_begin (um_up (um_up m 54 f (nI n)) 38 37 0) 0 B (nI k2) (-1) (nI 0) (nI 0)) := ly_gw_id (lm_begin_row (by decide)) (lm_begin_row (by decide)) (lm_begin_row (by decide))
      have hdl := ly_dl_kp hgl0.2.1 kp hgw
      have hg1 := ly_gl_run (B1 := B) hgl0 (ly_kq_of kp) (ly_gx_of (dc := 0) (dn := dn) hgw) hdl (Nat.le_refl _) (fun _ _ => rfl) (fun _ _ => rfl) (Nat.le_refl n) (fun _ _ => rfl) (by omega) (Or.inr (by omega))
      obtain ⟨c2, m2, kk, x1, x2, x3, x4⟩ := ly_run (N := N) (a := 0) (v0 := v0 + ci) _ n (B + 1) 1 I 0 (ly_g D n 0) dn tn _ _ _ _ _ _ rfl (by decide) hinv hdl (by omega)
      have hcl2 : ∀ (b : um_S) (Q : um_S → Prop), (c2 6 4 = nI 0 ∨ ¬ c2 3 8 = 0) → wp_La_layFunction_46 Q (um_J c2 b) → wp_La_layFunction (nI f) (um_J c b) Q := fun b Q he hq => hcl b Q (fun w => absurd w (ly_ne (by omega))) (fun _ => p_begin (by rw [E 2 (by decide)]; exact b1) hB hsit0.2.2.2.2.1 (by decide) (p_take x1 (by omega) he hq))
      have hmo2 : ∀ (b : um_S) (Q : um_S → Prop) (fuel : Nat), wp_Mo_laysAll_67 Q (fun v1 σ => wp_Mo_laysAll_2 Q fuel v1 σ) (100000 - kk) (nI f) (nI (v0 + ci)) 0 (um_J b m2) → wp_Mo_laysAll_2 Q (fuel + 1) (nI f) (um_J b m) := by
        intro b Q fuel hq
        have h := x1.2 (100000 - kk) b Q (fun v1 σ => wp_Mo_laysAll_2 Q fuel v1 σ) (nI f) (nI (v0 + ci)) 0 hq
        rw [show 100000 - kk + kk = 100000 by omega] at h
        exact hmo b Q fuel (fun w => absurd w (ly_ne (by omega))) (fun _ => p_Mbegin (by rw [G38 35 (by decide)]; exact s2) (by rw [G38 20 (by decide)]; exact b2') hB hsit0.2.2.2.2.2 (by decide) h)
      have hh2 : ly_hi c m c2 m2 := (hh0.trans (ly_hi_kq (ly_kq_of kp))).trans (ly_hi_kq x2)
      rcases x4 with ⟨n1', B1, I1, dc1, D1, dn1, tn1, nd1, kd1, sd1, bd1, y1, y2, y3, y4, y5, y6, y7, y8, y9⟩ | hbad
      · obtain ⟨w1, w2', w3, w4, w5, w6⟩ := ly_inv_bare y1
        obtain ⟨hI1, -⟩ := ly_bare_I w1
        have hg2 := ly_gl_run (B1 := B1) hg1 x2 y5 y2 y6 (fun i hi => (y7 i hi).1) (fun i hi => (y7 i hi).2) y3 (fun i hi => y9 i (by omega)) (by omega) (Or.inr (by omega))
        obtain ⟨c1, m1, z1, z2, z0, z3⟩ := ly_ret (t := n) ⟨w1, w2', w3, w4, w5, w6⟩ hg2 (by omega) (by omega) (by rw [x2.1 14 (by decide), lc_begin_row (by decide)]; exact x14) (by rw [x2.2.2.2.2.2.1 54 (by decide), lm_begin_row (by decide)]; exact x54) (by rw [y9 n (by omega)]; exact ly_g_at)
        refine ⟨c1, m1, fun b Q hq => hcl2 b Q (Or.inl w5) (z1 b Q hq), fun b Q fuel hq => hmo2 b Q fuel (z2 b Q _ (100000 - kk) (nI f) (by omega) ?_), hh2.trans z0, z3⟩
        rw [show nI f + 1 = nI (f + 1) from um_succ]
        exact hq
      · refine ⟨c2, m2, fun b Q hq => hcl2 b Q (Or.inr (ly_fail_c hbad)) (p_l46_bad (ly_fail_c hbad) hq), fun b Q fuel hq => hmo2 b Q fuel ?_, hh2, Or.inr hbad⟩
        rw [show 100000 - kk = 99999 - kk + 1 by omega]
        refine p_l67_bad hbad ?_
        rw [show nI f + 1 = nI (f + 1) from um_succ]
        exact hq
    · have e : B = 2000 := by omega
      have hbad : ly_fail (um_up (um_up (um_up c 14 f (nI n)) 3 6 0) 3 8 (-2)) (um_up (um_up (um_up m 54 f (nI n)) 38 37 0) 38 35 1) := Or.inl ⟨um_up_self, um_up_self, by rw [um_up_ne (by decide), G38 36 (by decide)]; exact s3⟩
      refine ⟨um_up (um_up (um_up c 14 f (nI n)) 3 6 0) 3 8 (-2), um_up (um_up (um_up m 54 f (nI n)) 38 37 0) 38 35 1, fun b Q hq => hcl b Q (fun w => absurd w (ly_ne (by omega))) (fun _ => p_beginFull (by rw [E 2 (by decide), b1, e]) ?_), fun b Q fuel hq => hmo b Q fuel (fun w => absurd w (ly_ne (by omega))) (fun _ => p_MbeginFull (by rw [G38 20 (by decide), b2', e]) (p_l67_bad (fuel := 99999) hbad ?_)), hh0.trans (ly_hi_of (fun p hp => um_up_q (by omega)) (fun p hp => um_up_q (by omega)) (fun i hi => um_up_ne (by omega)) (by rw [um_up_q (by decide)])), Or.inr hbad⟩
      · unfold wp_La_takeTurns
        exact p_takeEnd (fuel := 99999) (Or.inr (ly_fail_c hbad)) (p_l46_bad (ly_fail_c hbad) hq)
      · rw [show nI f + 1 = nI (f + 1) from um_succ]
        exact hq
/-- all functions -/
theorem ly_funs : ∀ (d f B : Nat) (c m : um_S), f + d = 6 → ly_idle N f L C B c m →
    ∃ c1 m1, (∀ (b : um_S) (Q : Int32 → um_S → Prop) (fuel : Nat), d < fuel → wp_La_layDown_68 Q 100000 0 (um_J c1 b) → wp_La_layDown_42 Q fuel (nI f) (um_J c b)) ∧ (∀ (b : um_S) (Q : um_S → Prop) (fuel : Nat), d < fuel → Q (um_J b m1) → wp_Mo_laysAll_2 Q fuel (nI f) (um_J b m)) ∧ ly_hi c m c1 m1 ∧ ((∃ B1, ly_idle N 6 L C B1 c1 m1) ∨ ly_fail c1 m1) := by
  intro d
  induction d with
  | zero =>
    intro f B c m hf h
    have e : f = 6 := by omega
    subst e
    refine ⟨c, m, fun b Q fuel hfu hq => ?_, fun b Q fuel hfu hq => ?_, ly_hi.rf, Or.inl ⟨B, h⟩⟩
    · obtain ⟨g, rfl⟩ : ∃ g, fuel = g + 1 := ⟨fuel - 1, by omega⟩
      unfold wp_La_layDown_42
      exact um_yes (by decide) hq
    · obtain ⟨g, rfl⟩ : ∃ g, fuel = g + 1 := ⟨fuel - 1, by omega⟩
      unfold wp_Mo_laysAll_2
      exact um_yes (by decide) hq
  | succ d ih =>
    intro f B c m hf h
    obtain ⟨c1, m1, z1, z2, z0, z3⟩ := ly_fun (by omega) h
    have s1 : c 3 8 = 0 := by
      obtain ⟨n, I, v0, dc, ci, D, bs, it, ix, hs, nn, dn, tn, hmid, -⟩ := h
      exact (hmid.1 0).1.1
    have hcl : ∀ (b : um_S) (Q : Int32 → um_S → Prop) (fuel : Nat), wp_La_layDown_42 Q fuel (nI (f + 1)) (um_J c1 b) → wp_La_layDown_42 Q (fuel + 1) (nI f) (um_J c b) := by
      intro b Q fuel hq
      unfold wp_La_layDown_42
      rw [um_J_c (q := 3) (by decide), s1, show nI f + 1 = nI (f + 1) from um_succ]
      refine um_no (fun z => ?_) (um_yes' rfl (z1 b _ hq))
      have := (nI_leI (a := 6) (b := f) (by decide) (by omega)).mp z
      omega
    rcases z3 with ⟨B1, y⟩ | y
    · obtain ⟨c2, m2, w1, w2, w0, w3⟩ := ih (f + 1) B1 c1 m1 (by omega) y
      refine ⟨c2, m2, fun b Q fuel hfu hq => ?_, fun b Q fuel hfu hq => ?_, z0.trans w0, w3⟩
      · obtain ⟨g, rfl⟩ : ∃ g, fuel = g + 1 := ⟨fuel - 1, by omega⟩
        exact hcl b Q g (w1 b Q g (by omega) hq)
      · obtain ⟨g, rfl⟩ : ∃ g, fuel = g + 1 := ⟨fuel - 1, by omega⟩
        exact z2 b Q g (w2 b Q g (by omega) hq)
    · refine ⟨c1, m1, fun b Q fuel hfu hq => ?_, fun b Q fuel hfu hq => ?_, z0, Or.inr y⟩
      · obtain ⟨g, rfl⟩ : ∃ g, fuel = g + 1 + 1 := ⟨fuel - 2, by omega⟩
        refine hcl b Q (g + 1) ?_
        unfold wp_La_layDown_42
        rw [um_J_c (q := 3) (by decide)]
        exact ⟨fun _ => hq, fun _ => um_no' (ly_fail_c y) hq⟩
      · obtain ⟨g, rfl⟩ : ∃ g, fuel = g + 1 + 1 := ⟨fuel - 2, by omega⟩
        refine z2 b Q (g + 1) ?_
        unfold wp_Mo_laysAll_2
        rw [um_J_m (q := 38) (by decide)]
        refine ⟨fun _ => hq, fun _ => ⟨fun _ => hq, fun z => ⟨fun _ => hq, fun w => ?_⟩⟩⟩
        rcases y with ⟨-, e, -⟩ | ⟨-, e⟩
        · rw [e] at z
          exact absurd z (by decide)
        · rw [e] at w
          exact absurd w (by decide)
end LayFun
