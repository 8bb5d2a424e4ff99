/-! lay: a TRY is laid apart: the entry 0, and a node begun above it -/
/-- the depth at n is 0 -/
def ly_sit (N t n B I : Nat) (D : Nat → Nat) (c m : um_S) : Prop :=
  ly_bare N n B I D c m ∧ D n = 0 ∧ (I + 1 ≤ B ∨ I = 0) ∧ (∀ j, j < I → ¬ m 59 j = -1) ∧ c 6 4 = nI t ∧ m 38 37 = nI t
/-- entry 0: node k, item j; the class's step q and mark mk, the reference's state qr and count x -/
def ly_e0 (k j q qr x : Nat) (mk : Int32) (c m : um_S) : Prop :=
  (c 31 0 = nI k ∧ c 32 0 = nI (4 * (j + 1) + 1) ∧ c 33 0 = nI q ∧ c 34 0 = mk) ∧ m 63 0 = nI k ∧ m 67 0 = nI qr ∧ m 68 0 = nI j ∧ m 69 0 = nI x
/-- item j is laid apart: y handlers so far -/
def ly_ap (N v0 i0 ci f : Nat) (L : Nat → Nat) (C : Nat → Nat → Nat) (k j h0 nc nh q qr x : Nat) (mk : Int32) (y n B I dc : Nat) (D bs it ix hs nn dn tn : Nat → Nat) (c m : um_S) : Prop :=
  ly_gl N v0 i0 ci f L C j n B I dc D bs it ix hs nn dn tn c m ∧ ly_e0 k j q qr x mk c m ∧ (j < I ∧ k < N ∧ m 55 j = nI k ∧ m 39 k = 18 ∧ ¬ m 59 j = -1) ∧ bs j = y ∧ m 60 j = nI h0 ∧ h0 + y = ly_T bs 2001 ∧ ly_nc m (L k) = nc ∧ ly_nh m L k = nh
section LayApart
variable {N v0 i0 ci f k j h0 nc nh q qr x y n B I dc s : Nat} {L : Nat → Nat} {C : Nat → Nat → Nat} {D bs it ix hs nn dn tn : Nat → Nat} {mk : Int32} {c m c' m' b : um_S} {Q : um_S → Prop}
theorem ly_e0_of {c1 m1 : um_S} (h : ly_e0 k j q qr x mk c m) (e : ∀ p, 31 ≤ p → p ≤ 34 → c1 p 0 = c p 0) (g : ∀ p, 63 ≤ p → p ≤ 69 → m1 p 0 = m p 0) : ly_e0 k j q qr x mk c1 m1 := by
  obtain ⟨⟨h1, h2, h3, h4⟩, h5, h6, h7, h8⟩ := h
  exact ⟨⟨by rw [e 31 (by decide) (by decide)]; exact h1, by rw [e 32 (by decide) (by decide)]; exact h2, by rw [e 33 (by decide) (by decide)]; exact h3, by rw [e 34 (by decide) (by decide)]; exact h4⟩, by rw [g 63 (by decide) (by decide)]; exact h5, by rw [g 67 (by decide) (by decide)]; exact h6, by rw [g 68 (by decide) (by decide)]; exact h7, by rw [g 69 (by decide) (by decide)]; exact h8⟩
theorem p_turnA {fuel v : Nat} (hT : um_tree N c m) (hv : v < 1000000) (ht : c 6 4 = nI 1) (h8 : c 3 8 = 0) (hk : c 31 0 = nI k) (hkN : k < N) (hs : c 33 0 = nI s) (h3 : 3 ≤ s) (hs2 : s < 1000) (hw : m 39 k = 18)
    (hp : wp_La_turnApart (nI 0) (nI s) (um_J (um_up c 33 0 (nI (s + 1))) b) (fun σ => wp_La_takeTurns_2 Q fuel (nI (v + 1)) σ)) : wp_La_takeTurns_2 Q (fuel + 1) (nI v) (um_J c b) :=
  p_turn (r := 0) (w := 18) hT hv ht (by decide) h8 hk hkN hs (by omega) hw (by decide) (fun z => absurd z (by decide)) (fun z => absurd z (by decide)) (fun z => absurd z (by decide)) (fun z => absurd z (by decide)) (fun _ _ => hp) (fun _ z => absurd h3 z) (fun _ _ _ _ z => absurd rfl z)
theorem p_goesA (ht : m 38 37 = nI 1) (hk : m 63 0 = nI k) (hkN : k < 150) (hs : m 67 0 = nI s) (h3 : 100 ≤ s) (hs2 : s < 1000) (hw : m 39 k = 18)
    (hp : wp_Mo_apart (nI 0) (um_J b (um_up m 67 0 (nI (s + 1)))) Q) : wp_Mo_goesOn (um_J b m) Q :=
  p_goes (r := 0) (w := 18) ht (by decide) hk hkN hs (by omega) hw (by decide) (fun z => absurd z (by decide)) (fun _ _ => hp) (fun _ z => absurd (show 100 < s + 1 by omega) z) (fun z => absurd z (by decide)) (fun _ _ _ z => absurd rfl z)
theorem p_l67 {K2 : Int32 → um_S → Prop} {fuel : Nat} {v1 v2 v3 : Int32} (h35 : m 38 35 = 0) (h36 : m 38 36 = 0) (h37 : m 38 37 = nI 1) (hq : wp_Mo_goesOn (um_J b m) (fun σ => wp_Mo_laysAll_67 Q K2 fuel v1 v2 v3 σ)) : wp_Mo_laysAll_67 Q K2 (fuel + 1) v1 v2 v3 (um_J b m) := by
  unfold wp_Mo_laysAll_67 wp_Mo_laysAll_100
  rw [um_J_m (q := 38) (by decide), h35, h36, h37]
  exact um_yes' rfl (um_yes' rfl (um_yes (nI_lt (a := 0) (b := 1) (by omega) (by omega)) (um_no (nI_nle (by omega) (by omega)) hq)))
/-- a node is begun above entry 0, and the turns go on until it has ended -/
theorem ly_child {k0 k2 w2 ab fi : Nat} {cx my : Int32} (hk0 : 1 ≤ k0) (hk02 : k0 ≤ 2)
    (hcl : ∀ (fuel v : Nat) (b : um_S) (Q : um_S → Prop), v + k0 ≤ 1000000 → wp_La_begin (nI k2) cx (um_J c' b) (fun σ => wp_La_takeTurns_2 Q fuel (nI (v + k0)) σ) → wp_La_takeTurns_2 Q (fuel + k0) (nI v) (um_J c b))
    (hmo : ∀ (b : um_S) (Q : um_S → Prop), wp_Mo_begin (nI k2) my (nI ab) (nI fi) (um_J b m') Q → wp_Mo_goesOn (um_J b m) Q) (hm : m 38 35 = 0 ∧ m 38 36 = 0 ∧ m 38 37 = nI 1) (hh : ly_hi c m c' m')
    (hsit : ly_sit N 1 n B I D c' m') (hap : ly_ap N v0 i0 ci f L C k j h0 nc nh q qr x mk y n B I dc D bs it ix hs nn dn tn c' m') (hk2 : k2 < N) (hw : m' 39 k2 = nI w2) (hw8 : 8 ≤ w2) (hw2 : w2 ≤ 18) (hcx : ly_cx I (c' 24) (m' 56) cx my) (hup : ly_up I (c' 24) (c' 25) (c' 27) (c' 28) cx ab fi) (h149 : ab + k2 ≤ 149 ∧ fi + k2 ≤ 149) :
    ly_oc (10 * (2000 - B)) 4 c m (fun B1 c1 m1 => ∃ n1 I1 dc1 D1 dn1 tn1, ly_sit N 1 n1 B1 I1 D1 c1 m1 ∧ ly_ap N v0 i0 ci f L C k j h0 nc nh q qr x mk y n1 B1 I1 dc1 D1 bs it ix hs nn dn1 tn1 c1 m1 ∧ n ≤ n1) := by
  obtain ⟨hb, hDn, hIB, hend, t1, t2⟩ := hsit
  obtain ⟨hgl, he0, ⟨p1, p2, p3, p4, p5⟩, p6, p7, p8, p9, p10⟩ := hap
  obtain ⟨⟨s1, s2, s3⟩, ⟨n1, n2, n3⟩, ⟨b1, b2', b3⟩, -⟩ := id hb
  by_cases hB : B < 2000
  · have hinv := ly_bare_begin (a := 1) hb (by decide) hB hIB hend hk2 hw hw8 hw2 hcx hup h149 hDn
    have hmu : ly_mu 1 (B + 1) 2 (ly_g ly_z 1 w2) (ly_g ly_z 1 0) ≤ 10 * (2000 - (B + 1)) + 4 := ly_mu_one (a := 1) (B := B) (w := w2)
    have st : ly_sts k0 1 c m (lc_begin c' 1 B (nI k2) cx) (lm_begin m' 1 B (nI k2) my (nI ab) (nI fi)) := ⟨fun fuel v b Q hv hq => hcl fuel v b Q hv (p_begin b1 hB t1 (by decide) hq), fun fuel b Q K2 v1 v2 v3 hq => p_l67 hm.1 hm.2.1 hm.2.2 (hmo b _ (p_Mbegin s2 b2' hB t2 (by decide) hq))⟩
    have kp : ly_kp 1 c' m' (lc_begin c' 1 B (nI k2) cx) (lm_begin m' 1 B (nI k2) my (nI ab) (nI fi)) := (ly_kp_cb (Nat.le_refl _)).trans (ly_kp_mb (Nat.le_refl _))
    have hgw : ly_gw I I m' (lm_begin m' 1 B (nI k2) my (nI ab) (nI fi)) := ly_gw_id (lm_begin_row (by decide)) (lm_begin_row (by decide)) (lm_begin_row (by decide))
    have hdl := ly_dl_kp hgl.2.1 kp hgw
    have hg1 := ly_gl_run (B1 := B) hgl (ly_kq_of kp) (ly_gx_of (dc := dc) (dn := dn) hgw) hdl (Nat.le_refl _) (fun _ _ => rfl) (fun _ _ => rfl) (Nat.le_refl n) (fun _ _ => rfl) hgl.2.2.2.2.1.1 (Or.inl ⟨p1, p5⟩)
    have hvb := hgl.2.2.2.2.1.1
    obtain ⟨c2, m2, kk, x1, x2, x3, x4⟩ := ly_run (N := N) (a := 1) (v0 := v0) _ n (B + 1) 2 I dc D dn tn _ _ _ _ _ _ rfl (by decide) hinv hdl (by omega)
    refine ⟨c2, m2, k0 + kk, 1 + kk, st.trans x1, (hh.trans (ly_hi_kq (ly_kq_of kp))).trans (ly_hi_kq x2), ?_⟩
    rcases x4 with ⟨n1', B1, I1, dc1, D1, dn1, tn1, nd1, kd1, sd1, bd1, y1, y2, y3, y4, y5, y6, y7, y8, y9⟩ | hf
    · obtain ⟨z1, z2, z3, z4, z5, z6⟩ := ly_inv_bare y1
      have hg2 := ly_gl_run (B1 := B1) hg1 x2 y5 y2 y6 (fun i hi => (y7 i hi).1) (fun i hi => (y7 i hi).2) y3 (fun i hi => y9 i (by omega)) (by omega) (Or.inl ⟨p1, by rw [lm_begin_row (by decide)]; exact p5⟩)
      refine Or.inl ⟨B1, by omega, by omega, n1', I1, dc1, D1, dn1, tn1, ⟨z1, z2, z3, z4, z5, z6⟩, ⟨hg2, ?_, ?_, p6, ?_, p8, ?_, ?_⟩, y3⟩
      · refine ly_e0_of he0 (fun p a1 a2 => ?_) (fun p a1 a2 => ?_)
        · rw [x2.2.2.2.2.2.2.2.1 p 0 a1 a2 (by decide), lc_begin_old a1 a2 (by decide)]
        · rw [x2.2.2.2.2.2.2.2.2 p 0 a1 a2 (by decide), lm_begin_old a1 a2 (by decide)]
      · obtain ⟨g1, g2, g3⟩ := y5.2.1 j p1
        have e59 : lm_begin m' 1 B (nI k2) my (nI ab) (nI fi) 59 = m' 59 := lm_begin_row (by decide)
        refine ⟨by have := y5.1; omega, p2, by rw [g1, lm_begin_row (by decide)]; exact p3, by rw [x2.2.2.2.2.2.1 39 (by decide), lm_begin_row (by decide)]; exact p4, ?_⟩
        rw [g3 (by rw [e59]; exact p5), e59]
        exact p5
      · rw [x2.2.2.2.2.2.1 60 (by decide), lm_begin_row (by decide)]
        exact p7
      · rw [ly_nc_of (m := m') (by rw [x2.2.2.2.2.2.2.1 34 (by decide), lm_begin_38 (by decide)])]
        exact p9
      · rw [ly_nh_of (m := m') (by rw [x2.2.2.2.2.2.2.1 34 (by decide), lm_begin_38 (by decide)]) (by rw [x2.2.2.2.2.2.1 42 (by decide), lm_begin_row (by decide)])]
        exact p10
    · exact Or.inr ⟨hf, by omega, by omega⟩
  · have e : B = 2000 := by omega
    have st : ly_sts k0 1 c m (um_up c' 3 8 (-2)) (um_up m' 38 35 1) := ⟨fun fuel v b Q hv hq => hcl fuel v b Q hv (p_beginFull (by rw [b1, e]) hq), fun fuel b Q K2 v1 v2 v3 hq => p_l67 hm.1 hm.2.1 hm.2.2 (hmo b _ (p_MbeginFull (by rw [b2', e]) hq))⟩
    exact ly_oc_bad st (hh.trans (ly_hi_of (fun p hp => um_up_q (by omega)) (fun p hp => um_up_q (by omega)) (fun i hi => um_up_ne (by omega)) (by rw [um_up_q (by decide)]))) (Or.inl ⟨um_up_self, um_up_self, by rw [um_up_ne (by decide)]; exact s3⟩) (by omega) (by omega)
/-- an instruction, then such a node -/
theorem ly_child_e {k0 k2 ab fi : Nat} {cx my : Int32} {cg cb mg mb : um_S} {P : Nat → um_S → um_S → Prop} (hk0 : 1 ≤ k0) (hk02 : k0 ≤ 2) (hn : n ≤ 1000) (hB2 : B ≤ 2000) (d1 : cb 3 8 = -2 ∧ cb 2 7 = nI B ∧ cb 6 4 = nI 1) (d2 : mb 38 35 = 1 ∧ mb 38 36 = 0) (hm : m 38 35 = 0 ∧ m 38 36 = 0 ∧ m 38 37 = nI 1) (hh : ly_hi c m cb mb)
    (hcl : ∀ (fuel v : Nat) (b : um_S) (Q : um_S → Prop), v + k0 ≤ 1000000 → (n < 1000 → wp_La_begin (nI k2) cx (um_J cg b) (fun σ => wp_La_takeTurns_2 Q fuel (nI (v + k0)) σ)) → (n = 1000 → wp_La_begin (nI k2) cx (um_J cb b) (fun σ => wp_La_takeTurns_2 Q fuel (nI (v + k0)) σ)) → wp_La_takeTurns_2 Q (fuel + k0) (nI v) (um_J c b))
    (hmo : ∀ (b : um_S) (Q : um_S → Prop), (n < 1000 → wp_Mo_begin (nI k2) my (nI ab) (nI fi) (um_J b mg) Q) → (n = 1000 → wp_Mo_begin (nI k2) my (nI ab) (nI fi) (um_J b mb) Q) → wp_Mo_goesOn (um_J b m) Q)
    (good : n < 1000 → (∀ (fuel v : Nat) (b : um_S) (Q : um_S → Prop), v + k0 ≤ 1000000 → wp_La_begin (nI k2) cx (um_J cg b) (fun σ => wp_La_takeTurns_2 Q fuel (nI (v + k0)) σ) → wp_La_takeTurns_2 Q (fuel + k0) (nI v) (um_J c b)) → (∀ (b : um_S) (Q : um_S → Prop), wp_Mo_begin (nI k2) my (nI ab) (nI fi) (um_J b mg) Q → wp_Mo_goesOn (um_J b m) Q) → ly_oc (10 * (2000 - B)) 4 c m P) : ly_oc (10 * (2000 - B)) 4 c m P := by
  by_cases hlt : n < 1000
  · have z : ¬ n = 1000 := by omega
    exact good hlt (fun fuel v b Q hv hq => hcl fuel v b Q hv (fun _ => hq) (fun w => absurd w z)) (fun b Q hq => hmo b Q (fun _ => hq) (fun w => absurd w z))
  · have e1 : n = 1000 := by omega
    have hmm : ∀ (fuel : Nat) (b : um_S) (Q : um_S → Prop) (K2 : Int32 → um_S → Prop) (v1 v2 v3 : Int32), wp_Mo_laysAll_67 Q K2 fuel v1 v2 v3 (um_J b (um_up mb 38 35 1)) → wp_Mo_laysAll_67 Q K2 (fuel + 1) v1 v2 v3 (um_J b m) := fun fuel b Q K2 v1 v2 v3 hq => p_l67 hm.1 hm.2.1 hm.2.2 (hmo b _ (fun w => absurd w hlt) (fun _ => p_MbeginBad (by rw [d2.1]; decide) hq))
    have m36 : um_up mb 38 35 1 38 36 = 0 := by rw [um_up_ne (by decide)]; exact d2.2
    by_cases hB : B < 2000
    · refine ly_oc_bad (k := k0) (kr := 1) (c1 := lc_begin cb 1 B (nI k2) cx) (m1 := um_up mb 38 35 1) ⟨fun fuel v b Q hv hq => hcl fuel v b Q hv (fun w => absurd w hlt) (fun _ => p_begin d1.2.1 hB d1.2.2 (by decide) hq), hmm⟩ (hh.trans (ly_hi_of (fun p hp => lc_begin_row (by omega)) (fun p hp => um_up_q (by omega)) (fun i hi => um_up_ne (by omega)) (lc_begin_2 (by decide)))) (Or.inl ⟨?_, um_up_self, m36⟩) (by omega) (by omega)
      rw [lc_begin_row (by decide)]
      exact d1.1
    · have e : B = 2000 := by omega
      exact ly_oc_bad (k := k0) (kr := 1) (c1 := um_up cb 3 8 (-2)) (m1 := um_up mb 38 35 1) ⟨fun fuel v b Q hv hq => hcl fuel v b Q hv (fun w => absurd w hlt) (fun _ => p_beginFull (by rw [d1.2.1, e]) hq), hmm⟩ (hh.trans (ly_hi_of (fun p hp => um_up_q (by omega)) (fun p hp => um_up_q (by omega)) (fun i hi => um_up_ne (by omega)) (by rw [um_up_q (by decide)]))) (Or.inl ⟨um_up_self, um_up_self, m36⟩) (by omega) (by omega)
end LayApart
