/-! lay: the other turns of what is laid apart -/
section LayApart2
variable {N v0 i0 ci f k j h0 nc nh q qr x y n B I dc s : Nat} {L : Nat → Nat} {C : Nat → Nat → Nat} {D bs it ix hs nn dn tn : Nat → Nat} {mk : Int32} {c m : um_S}
/-- rows of entry 0 change -/
theorem ly_ap_e0 {q2 qr2 x2 : Nat} {mk2 : Int32} {c1 m1 : um_S} (h : ly_ap N v0 i0 ci f L C k j h0 nc nh q qr x mk y n B I dc D bs it ix hs nn dn tn c m) (he : ly_e0 k j q2 qr2 x2 mk2 c1 m1) (e : ∀ p, ¬ (p = 6 ∨ (31 ≤ p ∧ p ≤ 34)) → c1 p = c p) (g : ∀ p, ¬ (p = 38 ∨ (63 ≤ p ∧ p ≤ 69)) → m1 p = m p) (g38 : ∀ i, ¬ i = 37 → m1 38 i = m 38 i) : ly_ap N v0 i0 ci f L C k j h0 nc nh q2 qr2 x2 mk2 y n B I dc D bs it ix hs nn dn tn c1 m1 := by
  obtain ⟨hgl, -, ⟨p1, p2, p3, p4, p5⟩, p6, p7, p8, p9, p10⟩ := h
  have hhd := ly_hd_of (I1 := I) (n1 := n) (D1 := D) (c1 := c1) (m1 := m1) hgl.1 (Nat.le_refl _) (Nat.le_refl _) (fun _ _ => rfl) (fun p a1 a2 => e p (by omega)) (by rw [e 7 (by decide)]) (fun p hp => g p (by omega)) ⟨g38 30 (by decide), g38 34 (by decide)⟩ (fun i hi => ⟨by rw [g 55 (by decide)], by rw [g 57 (by decide)], fun _ => by rw [g 59 (by decide)]⟩)
  refine ⟨ly_gl_of (B1 := B) hgl hhd (fun _ _ => rfl) (Nat.le_refl _) (Nat.le_refl _) (fun _ _ => rfl) ⟨e 16 (by decide), e 14 (by decide)⟩ ⟨by rw [e 3 (by decide)], by rw [e 3 (by decide)]⟩ (by rw [e 2 (by decide), g38 21 (by decide)]; exact hgl.2.2.2.1.2) (fun p hp => g p (by omega)) ⟨g38 32 (by decide), g38 34 (by decide)⟩, he, ⟨p1, p2, by rw [g 55 (by decide)]; exact p3, by rw [g 39 (by decide)]; exact p4, by rw [g 59 (by decide)]; exact p5⟩, p6, by rw [g 60 (by decide)]; exact p7, p8, by rw [ly_nc_of (g38 34 (by decide))]; exact p9, by rw [ly_nh_of (g38 34 (by decide)) (g 42 (by decide))]; exact p10⟩
theorem ly_sit_row {t : Nat} {c1 m1 : um_S} (h : ly_sit N t n B I D c m) (e : ∀ p, ¬ (31 ≤ p ∧ p ≤ 34) → c1 p = c p) (g : ∀ p, ¬ (63 ≤ p ∧ p ≤ 69) → m1 p = m p) : ly_sit N t n B I D c1 m1 := by
  obtain ⟨hb, h1, h2, h3, h4, h5⟩ := h
  exact ⟨ly_bare_row hb (fun p hp => e p (by omega)) (by rw [e 3 (by decide)]) ⟨by rw [e 2 (by decide)], by rw [e 2 (by decide)]⟩ (fun p hp => g p (by omega)) (fun i hi => by rw [g 38 (by decide)]), h1, h2, fun i hi => by rw [g 59 (by decide)]; exact h3 i hi, by rw [e 6 (by decide)]; exact h4, by rw [g 38 (by decide)]; exact h5⟩
/-- the finally behind a catch -/
theorem ly_apB (hsit : ly_sit N 1 n B I D c m) (hap : ly_ap N v0 i0 ci f L C k j h0 nc nh 4 101 x mk y n B I dc D bs it ix hs nn dn tn c m) :
    ly_oc (10 * (2000 - B) + 1) 0 c m (fun B1 c1 m1 => ∃ n1 I1 dc1 D1 dn1 tn1, ly_sit N 1 n1 B1 I1 D1 c1 m1 ∧ ly_ap N v0 i0 ci f L C k j h0 nc nh 5 102 x mk y n1 B1 I1 dc1 D1 bs it ix hs nn dn1 tn1 c1 m1 ∧ n ≤ n1) := by
  obtain ⟨hb, hDn, hIB, hend, t1, t2⟩ := id hsit
  obtain ⟨hgl, he0, ⟨p1, p2, p3, p4, p5⟩, p6, p7, p8, p9, p10⟩ := id hap
  obtain ⟨⟨a31, a32, a33, a34⟩, b63, b67, b68, b69⟩ := id he0
  obtain ⟨hI, hN, hn, hBB⟩ := ly_bare_I hb
  obtain ⟨⟨s1, s2, s3⟩, ⟨n1, n2, n3⟩, ⟨b1, b2', b3⟩, -, hT, -⟩ := id hb
  obtain ⟨ov, dp, o1, o2, o3, o4, o5, o6, o7, o8, -, -⟩ := ly_item_try hb p1 p3 p2 p4
  have E : ∀ p, ¬ p = 33 → (um_up c 33 0 (nI 5)) p = c p := fun p hp => um_up_q hp
  have G : ∀ p, ¬ p = 67 → (um_up m 67 0 (nI 102)) p = m p := fun p hp => um_up_q hp
  have hcl : ∀ (fuel v : Nat) (b : um_S) (Q : um_S → Prop), v + 1 ≤ 1000000 → wp_La_beginFinally (nI (j + 1)) (um_J (um_up c 33 0 (nI 5)) b) (fun σ => wp_La_takeTurns_2 Q fuel (nI (v + 1)) σ) → wp_La_takeTurns_2 Q (fuel + 1) (nI v) (um_J c b) := by
    intro fuel v b Q hv hq
    refine p_turnA (s := 4) hT (by omega) t1 s1 a31 p2 a33 (by omega) (by omega) p4 ?_
    unfold wp_La_turnApart
    rw [um_cl1 (show 0 < 2147483648 by omega), um_J_c (q := 32) (by decide), um_up_q (q := 33) (a := 32) (by decide), a32]
    exact ⟨vp_in_nI (by omega) (by decide), p_scopeOf (s := j + 1) (p := 1) (by decide) (by omega) (um_no (by decide) (um_yes rfl hq))⟩
  have hmo : ∀ (b : um_S) (Q : um_S → Prop), (m 42 k = -1 → Q (um_J b (um_up m 67 0 (nI 102)))) → (¬ m 42 k = -1 → wp_Mo_last (nI j) (um_J b (um_up m 67 0 (nI 102))) Q) → wp_Mo_goesOn (um_J b m) Q := by
    intro b Q q1 q2
    refine p_goesA (s := 101) t2 b63 (by omega) b67 (by omega) (by omega) p4 ?_
    unfold wp_Mo_apart wp_Mo_apart_140 wp_Mo_apart_247
    rw [um_cl1 (show 0 < 2147483648 by omega), um_J_m (q := 68) (by decide), um_J_m (q := 63) (by decide), um_J_m (q := 67) (by decide), um_up_self, um_up_q (q := 67) (a := 68) (by decide), um_up_q (q := 67) (a := 63) (by decide), b68, b63]
    have i0' : vp_in (nI 0) 2002 := vp_in_nI (by omega) (by decide)
    refine ⟨i0', ?_⟩
    rintro x1 rfl
    refine ⟨i0', ?_⟩
    rintro x2 rfl
    refine ⟨i0', um_no' (by decide) ⟨i0', um_no' (by decide) ⟨i0', um_no' (by decide) ⟨i0', um_yes' rfl ?_⟩⟩⟩⟩
    refine p_Mhas (k := k) (by omega) (by rw [um_up_q (by decide)]; exact p3) (by omega) (by rw [um_up_q (by decide)]; exact p4) (fun w => ⟨fun _ => q1 ?_, fun u => absurd u (by decide)⟩) (fun w => ⟨fun u => absurd u (by decide), fun _ => q2 ?_⟩)
    · rw [um_up_q (by decide)] at w
      exact w
    · rw [um_up_q (by decide)] at w
      exact w
  have he1 : ly_e0 k j 5 102 x mk (um_up c 33 0 (nI 5)) (um_up m 67 0 (nI 102)) := ⟨⟨by rw [E 31 (by decide)]; exact a31, by rw [E 32 (by decide)]; exact a32, um_up_self, by rw [E 34 (by decide)]; exact a34⟩, by rw [G 63 (by decide)]; exact b63, um_up_self, by rw [G 68 (by decide)]; exact b68, by rw [G 69 (by decide)]; exact b69⟩
  have hap1 := ly_ap_e0 hap he1 (fun p hp => E p (by omega)) (fun p hp => G p (by omega)) (fun i hi => by rw [G 38 (by decide)])
  have hsit1 : ly_sit N 1 n B I D (um_up c 33 0 (nI 5)) (um_up m 67 0 (nI 102)) := ly_sit_row hsit (fun p hp => E p (by omega)) (fun p hp => G p (by omega))
  by_cases hz : m 42 k = -1
  · refine ly_oc_one (k := 1) (kr := 1) (B := B) (c1 := um_up c 33 0 (nI 5)) (m1 := um_up m 67 0 (nI 102)) ⟨fun fuel v b Q hv hq => hcl fuel v b Q hv ?_, fun fuel b Q K2 v1 v2 v3 hq => p_l67 s2 s3 t2 (hmo b _ (fun _ => hq) (fun z => absurd hz z))⟩ (ly_hi_of (fun p hp => E p (by omega)) (fun p hp => G p (by omega)) (fun i hi => by rw [G 38 (by decide)]) (by rw [E 2 (by decide)])) ⟨n, I, dc, D, dn, tn, hsit1, hap1, Nat.le_refl _⟩ (by omega) (by omega)
    unfold wp_La_beginFinally
    rw [um_cl1 (show j + 1 < 2147483648 by omega), um_J_c (q := 25) (by decide), E 25 (by decide), o8]
    exact ⟨vp_in_nI (by omega) (by decide), fun _ => hq, fun z => absurd hz z⟩
  · obtain ⟨w, y1, y2, -, -, -, -, -, -, -, -, y11, -⟩ := (hT.2.2.2.1 k p2).2.2.2.2.2.2.2
    have hw : w = 18 := (nI_eq (a := w) (b := 18) (by omega) (by decide)).mp (y2.symm.trans p4)
    obtain ⟨k2, w2, hk2, hx2, hv2, hw2, hw2'⟩ : um_isS m k (m 42 k) := by
      rcases (y11 hw).2.2 with z | z
      · exact absurd z hz
      · exact z
    refine ly_oc_weak (ly_child (k0 := 1) (k2 := k2) (w2 := w2) (ab := ov + 1) (fi := dp + 1) (cx := nI (4 * (j + 1) + 2)) (my := m 56 j) (by omega) (by omega) (fun fuel v b Q hv hq => hcl fuel v b Q hv ?_) (fun b Q hq => hmo b Q (fun z => absurd z hz) (fun _ => ?_)) ⟨s2, s3, t2⟩ (ly_hi_of (fun p hp => E p (by omega)) (fun p hp => G p (by omega)) (fun i hi => by rw [G 38 (by decide)]) (by rw [E 2 (by decide)])) hsit1 hap1 (by omega) (by rw [G 39 (by decide)]; exact hv2) hw2 hw2' ?_ ?_ ⟨by omega, by omega⟩) (by omega) (by omega) (fun _ _ _ z => z)
    · unfold wp_La_beginFinally
      rw [um_cl1 (show j + 1 < 2147483648 by omega), um_J_c (q := 25) (by decide), E 25 (by decide), o8, hx2]
      exact ⟨vp_in_nI (by omega) (by decide), fun z => absurd z (ly_ne (by omega)), fun _ => ⟨vp_in_nI (by omega) (by decide), p_within (s := j + 1) (p := 2) (by decide) (by omega) hq⟩⟩
    · unfold wp_Mo_last
      rw [um_cl1 (show j < 2147483648 by omega), um_J_m (q := 55) (by decide), G 55 (by decide), p3, um_cl1 (show k < 2147483648 by omega), um_J_m (q := 42) (by decide), G 42 (by decide), um_J_m (q := 56) (by decide), G 56 (by decide), um_J_m (q := 57) (by decide), G 57 (by decide), um_J_m (q := 58) (by decide), G 58 (by decide), o1, o3, hx2, show nI ov + 1 = nI (ov + 1) from um_succ, show nI dp + 1 = nI (dp + 1) from um_succ]
      exact ⟨vp_in_nI (by omega) (by decide), vp_in_nI (by omega) (by decide), vp_in_nI (by omega) (by decide), vp_in_nI (by omega) (by decide), vp_in_nI (by omega) (by decide), hq⟩
    · rw [E 24 (by decide), G 56 (by decide)]
      exact Or.inr ⟨j, p1, Or.inr (Or.inr ⟨by rw [o7]; exact ly_ne (by omega), rfl, rfl⟩)⟩
    · rw [E 24 (by decide), E 25 (by decide), E 27 (by decide), E 28 (by decide)]
      exact Or.inr ⟨j, 2, ov, dp, p1, by decide, rfl, o2, o4, by rw [if_neg (by rw [o7]; exact ly_ne (by omega))], by rw [if_neg (by rw [o8]; exact hz)]⟩
/-- an instruction behind which what follows is free -/
theorem ly_mid_emit {t : Nat} {op arg cx my : Int32} {c1 m1 : um_S} (hb : ly_bare N n B I D c m) (hlt : n < 1000) (hIB : I + 1 ≤ B ∨ I = 0) (hend : ∀ j, j < I → ¬ m 59 j = -1) (hcx : ly_cy I (c 24) (m 56) cx my) (hins : ∀ d, um_ins (n + 2) (ly_g D (n + 1) d) n op arg)
    (e : ∀ p, ¬ (p = 6 ∨ (31 ≤ p ∧ p ≤ 34)) → c1 p = lc_emit c n op arg cx p) (g : ∀ p, ¬ (p = 38 ∨ (63 ≤ p ∧ p ≤ 69)) → m1 p = lm_put m n op arg my p) (g38 : ∀ i, ¬ i = 37 → m1 38 i = lm_put m n op arg my 38 i) (t1 : c1 6 4 = nI t) (t2 : m1 38 37 = nI t) : ly_mid N t (n + 1) B I D c1 m1 := by
  refine ⟨fun d => ?_, ⟨t1, t2⟩, hIB, fun i hi => ?_⟩
  · have h1 := ly_bare_emit (op := op) (arg := arg) (D2 := ly_g D (n + 1) d) hb hlt hcx (hins d) (fun i hi => ly_g_ne (by omega))
    exact ly_bare_row h1 (fun p hp => e p (by omega)) (by rw [e 3 (by decide)]) ⟨by rw [e 2 (by decide)], by rw [e 2 (by decide)]⟩ (fun p hp => g p (by omega)) (fun i hi => g38 i (by omega))
  · rw [g 59 (by decide), lm_put_row (by decide)]
    exact hend i hi
/-- the handlers and the rest, behind an instruction -/
theorem ly_gl_emit {op arg cx my : Int32} {c1 m1 : um_S} (h : ly_gl N v0 i0 ci f L C j n B I dc D bs it ix hs nn dn tn c m) (e : ∀ p, ¬ (p = 6 ∨ (31 ≤ p ∧ p ≤ 34)) → c1 p = lc_emit c n op arg cx p) (g : ∀ p, ¬ (p = 38 ∨ (63 ≤ p ∧ p ≤ 69)) → m1 p = lm_put m n op arg my p) (g38 : ∀ i, ¬ i = 37 → m1 38 i = lm_put m n op arg my 38 i) : ly_gl N v0 i0 ci f L C j (n + 1) B I dc D bs it ix hs nn dn tn c1 m1 := by
  have E : ∀ p, ¬ (p = 2 ∨ p = 6 ∨ (11 ≤ p ∧ p ≤ 13) ∨ (31 ≤ p ∧ p ≤ 34)) → c1 p = c p := fun p hp => by rw [e p (by omega), lc_emit_row (by omega)]
  have G : ∀ p, ¬ (p = 38 ∨ (46 ≤ p ∧ p ≤ 48) ∨ (63 ≤ p ∧ p ≤ 69)) → m1 p = m p := fun p hp => by rw [g p (by omega), lm_put_row (by omega)]
  have G38 : ∀ i, ¬ (i = 10 ∨ i = 37) → m1 38 i = m 38 i := fun i hi => by rw [g38 i (by omega), lm_put_38 (by omega)]
  have hhd := ly_hd_of (I1 := I) (n1 := n + 1) (D1 := D) (c1 := c1) (m1 := m1) h.1 (Nat.le_refl _) (by omega) (fun _ _ => rfl) (fun p a1 a2 => E p (by omega)) (by rw [E 7 (by decide)]) (fun p hp => G p (by omega)) ⟨G38 30 (by decide), G38 34 (by decide)⟩ (fun i hi => ⟨by rw [G 55 (by decide)], by rw [G 57 (by decide)], fun _ => by rw [G 59 (by decide)]⟩)
  exact ly_gl_of (B1 := B) h hhd (fun _ _ => rfl) (by omega) (Nat.le_refl _) (fun _ _ => rfl) ⟨E 16 (by decide), E 14 (by decide)⟩ ⟨by rw [E 3 (by decide)], by rw [E 3 (by decide)]⟩ (by rw [e 2 (by decide), lc_emit_2 (by decide), G38 21 (by decide)]; exact h.2.2.2.1.2) (fun p hp => G p (by omega)) ⟨G38 32 (by decide), G38 34 (by decide)⟩
/-- JUMP to the TRY's end -/
theorem ly_apC (hsit : ly_sit N 1 n B I D c m) (hap : ly_ap N v0 i0 ci f L C k j h0 nc nh 5 102 x mk y n B I dc D bs it ix hs nn dn tn c m) :
    ly_oc (10 * (2000 - B) + 1) 0 c m (fun B1 c1 m1 => B1 = B ∧ ly_mid N 1 (n + 1) B I D c1 m1 ∧ ly_ap N v0 i0 ci f L C k j h0 nc nh 3 100 (x + 1) mk y (n + 1) B I dc D bs it ix hs nn dn tn c1 m1) := by
  obtain ⟨hb, hDn, hIB, hend, t1, t2⟩ := id hsit
  obtain ⟨hgl, he0, ⟨p1, p2, p3, p4, p5⟩, p6, p7, p8, p9, p10⟩ := id hap
  obtain ⟨⟨a31, a32, a33, a34⟩, b63, b67, b68, b69⟩ := id he0
  obtain ⟨hI, hN, hn, hBB⟩ := ly_bare_I hb
  obtain ⟨⟨s1, s2, s3⟩, ⟨n1, n2, n3⟩, ⟨b1, b2', b3⟩, -, hT, -⟩ := id hb
  obtain ⟨ov, dp, o1, o2, o3, o4, o5, o6, o7, o8, o9, o10⟩ := ly_item_try hb p1 p3 p2 p4
  obtain ⟨en, en1, en2, en3, en4⟩ : ∃ e, e < n + 1 ∧ D e = 0 ∧ m 59 j = nI e ∧ c 29 (j + 1) = nI e := by
    rcases o10 with z | z
    · exact absurd z p5
    · exact z
  have E : ∀ p, ¬ p = 33 → (um_up c 33 0 (nI 6)) p = c p := fun p hp => um_up_q hp
  have G : ∀ p, ¬ p = 67 → (um_up m 67 0 (nI 103)) p = m p := fun p hp => um_up_q hp
  have hcl : ∀ (fuel v : Nat) (b : um_S) (Q : um_S → Prop), v + 1 ≤ 1000000 → (n < 1000 → wp_La_takeTurns_2 Q fuel (nI (v + 1)) (um_J (um_up (lc_emit (um_up c 33 0 (nI 6)) n 11 (nI en) (c 23 (j + 1))) 33 0 3) b)) → (n = 1000 → wp_La_takeTurns_2 Q fuel (nI (v + 1)) (um_J (um_up (um_up (um_up c 33 0 (nI 6)) 3 8 (-2)) 33 0 3) b)) → wp_La_takeTurns_2 Q (fuel + 1) (nI v) (um_J c b) := by
    intro fuel v b Q hv q1 q2
    refine p_turnA (s := 5) hT (by omega) t1 s1 a31 p2 a33 (by omega) (by omega) p4 ?_
    unfold wp_La_turnApart
    rw [um_cl1 (show 0 < 2147483648 by omega), um_J_c (q := 32) (by decide), um_up_q (q := 33) (a := 32) (by decide), a32]
    refine ⟨vp_in_nI (by omega) (by decide), p_scopeOf (s := j + 1) (p := 1) (by decide) (by omega) (um_no (by decide) (um_no (by decide) (um_yes rfl ⟨vp_in_nI (by omega) (by decide), vp_in_nI (by omega) (by decide), ?_⟩)))⟩
    rw [um_cl1 (show j + 1 < 2147483648 by omega), um_J_c (q := 29) (by decide), um_J_c (q := 23) (by decide), um_up_q (q := 33) (a := 29) (by decide), um_up_q (q := 33) (a := 23) (by decide), en4]
    refine p_emits (n := n) (by rw [um_up_q (by decide)]; exact s1) (by rw [um_up_q (by decide)]; exact n1) n3 (fun z => ⟨vp_in_nI (by omega) (by decide), ?_⟩) (fun z => ⟨vp_in_nI (by omega) (by decide), ?_⟩)
    · rw [um_J_uc (by decide)]
      rintro σ6 rfl
      exact q1 z
    · rw [um_J_uc (by decide)]
      rintro σ6 rfl
      exact q2 z
  have hmo : ∀ (b : um_S) (Q : um_S → Prop), (n < 1000 → Q (um_J b (um_up (um_up (lm_put (um_up m 67 0 (nI 103)) n 11 (nI en) (m 56 j)) 69 0 (nI (x + 1))) 67 0 100))) → (n = 1000 → Q (um_J b (um_up (um_up (um_up (um_up m 67 0 (nI 103)) 38 35 1) 69 0 (nI (x + 1))) 67 0 100))) → wp_Mo_goesOn (um_J b m) Q := by
    intro b Q q1 q2
    refine p_goesA (s := 102) t2 b63 (by omega) b67 (by omega) (by omega) p4 ?_
    unfold wp_Mo_apart wp_Mo_apart_140 wp_Mo_apart_247
    rw [um_cl1 (show 0 < 2147483648 by omega), um_J_m (q := 68) (by decide), um_J_m (q := 63) (by decide), um_J_m (q := 67) (by decide), um_up_self, um_up_q (q := 67) (a := 68) (by decide), um_up_q (q := 67) (a := 63) (by decide), b68, b63]
    have i0' : vp_in (nI 0) 2002 := vp_in_nI (by omega) (by decide)
    have ij : vp_in (nI j) 2001 := vp_in_nI (by omega) (by decide)
    refine ⟨i0', ?_⟩
    rintro x1 rfl
    refine ⟨i0', ?_⟩
    rintro x2 rfl
    refine ⟨i0', um_no' (by decide) ⟨i0', um_no' (by decide) ⟨i0', um_no' (by decide) ⟨i0', um_no' (by decide) ⟨i0', um_yes' rfl ⟨ij, ij, ?_⟩⟩⟩⟩⟩⟩
    rw [um_cl1 (show j < 2147483648 by omega), um_J_m (q := 59) (by decide), um_J_m (q := 56) (by decide), um_up_q (q := 67) (a := 59) (by decide), um_up_q (q := 67) (a := 56) (by decide), en3]
    refine p_puts (n := n) (by rw [um_up_q (by decide)]; exact s2) (by rw [um_up_q (by decide)]; exact n2) n3 (fun z => ⟨i0', i0', ?_⟩) (fun z => ⟨i0', i0', ?_⟩)
    · rw [um_J_m (q := 69) (by decide), lm_put_row (q := 69) (by decide), um_up_q (q := 67) (a := 69) (by decide), b69, show nI x + 1 = nI (x + 1) from um_succ, um_J_um (by decide)]
      rintro σ4 rfl
      refine ⟨i0', ?_⟩
      rw [um_J_um (by decide)]
      rintro σ5 rfl
      exact q1 z
    · rw [um_J_m (q := 69) (by decide), um_up_q (q := 38) (a := 69) (by decide), um_up_q (q := 67) (a := 69) (by decide), b69, show nI x + 1 = nI (x + 1) from um_succ, um_J_um (by decide)]
      rintro σ4 rfl
      refine ⟨i0', ?_⟩
      rw [um_J_um (by decide)]
      rintro σ5 rfl
      exact q2 z
  by_cases hlt : n < 1000
  · have z0 : ¬ n = 1000 := by omega
    have hsit1 : ly_sit N 1 n B I D (um_up c 33 0 (nI 6)) (um_up m 67 0 (nI 103)) := ly_sit_row hsit (fun p hp => E p (by omega)) (fun p hp => G p (by omega))
    have hgl1 := (ly_ap_e0 (q2 := 6) (qr2 := 103) (x2 := x) (mk2 := mk) (c1 := um_up c 33 0 (nI 6)) (m1 := um_up m 67 0 (nI 103)) hap ⟨⟨by rw [E 31 (by decide)]; exact a31, by rw [E 32 (by decide)]; exact a32, um_up_self, by rw [E 34 (by decide)]; exact a34⟩, by rw [G 63 (by decide)]; exact b63, um_up_self, by rw [G 68 (by decide)]; exact b68, by rw [G 69 (by decide)]; exact b69⟩ (fun p hp => E p (by omega)) (fun p hp => G p (by omega)) (fun i hi => by rw [G 38 (by decide)])).1
    have e1 : ∀ p, ¬ (p = 6 ∨ (31 ≤ p ∧ p ≤ 34)) → (um_up (lc_emit (um_up c 33 0 (nI 6)) n 11 (nI en) (c 23 (j + 1))) 33 0 3) p = lc_emit (um_up c 33 0 (nI 6)) n 11 (nI en) (c 23 (j + 1)) p := fun p hp => um_up_q (by omega)
    have g1 : ∀ p, ¬ (p = 38 ∨ (63 ≤ p ∧ p ≤ 69)) → (um_up (um_up (lm_put (um_up m 67 0 (nI 103)) n 11 (nI en) (m 56 j)) 69 0 (nI (x + 1))) 67 0 100) p = lm_put (um_up m 67 0 (nI 103)) n 11 (nI en) (m 56 j) p := fun p hp => by rw [um_up_q (by omega), um_up_q (by omega)]
    have g2 : ∀ i, ¬ i = 37 → (um_up (um_up (lm_put (um_up m 67 0 (nI 103)) n 11 (nI en) (m 56 j)) 69 0 (nI (x + 1))) 67 0 100) 38 i = lm_put (um_up m 67 0 (nI 103)) n 11 (nI en) (m 56 j) 38 i := fun i hi => by rw [um_up_q (by omega), um_up_q (by omega)]
    have CE : ∀ p, ¬ (p = 2 ∨ (11 ≤ p ∧ p ≤ 13) ∨ p = 33) → (um_up (lc_emit (um_up c 33 0 (nI 6)) n 11 (nI en) (c 23 (j + 1))) 33 0 3) p = c p := fun p hp => by rw [um_up_q (by omega), lc_emit_row (by omega), um_up_q (by omega)]
    have ME : ∀ p, ¬ (p = 38 ∨ (46 ≤ p ∧ p ≤ 48) ∨ p = 67 ∨ p = 69) → (um_up (um_up (lm_put (um_up m 67 0 (nI 103)) n 11 (nI en) (m 56 j)) 69 0 (nI (x + 1))) 67 0 100) p = m p := fun p hp => by rw [um_up_q (by omega), um_up_q (by omega), lm_put_row (by omega), um_up_q (by omega)]
    refine ly_oc_one (k := 1) (kr := 1) (B := B) (c1 := um_up (lc_emit (um_up c 33 0 (nI 6)) n 11 (nI en) (c 23 (j + 1))) 33 0 3) (m1 := um_up (um_up (lm_put (um_up m 67 0 (nI 103)) n 11 (nI en) (m 56 j)) 69 0 (nI (x + 1))) 67 0 100) ⟨fun fuel v b Q hv hq => hcl fuel v b Q hv (fun _ => hq) (fun w => absurd w z0), fun fuel b Q K2 v1 v2 v3 hq => p_l67 s2 s3 t2 (hmo b _ (fun _ => hq) (fun w => absurd w z0))⟩ (ly_hi_of (fun p hp => CE p (by omega)) (fun p hp => ME p (by omega)) (fun i hi => by rw [g2 i (by omega), lm_put_38 (by omega), G 38 (by decide)]) (by rw [um_up_q (by decide), lc_emit_2 (by decide), E 2 (by decide)])) ⟨rfl, ?_, ?_, ?_, ?_, ?_⟩ (by omega) (by omega)
    · refine ly_mid_emit (D := D) (cx := c 23 (j + 1)) (my := m 56 j) (op := 11) (arg := nI en) hsit1.1 hlt hIB (fun i hi => by rw [G 59 (by decide)]; exact hend i hi) (by rw [E 24 (by decide), G 56 (by decide)]; exact Or.inl o9) (fun d => Or.inr (Or.inr (Or.inr (Or.inr (Or.inr (Or.inr (Or.inl ⟨rfl, en, by omega, rfl, by rw [ly_g_ne (by omega), ly_g_ne (by omega)]; omega⟩))))))) e1 g1 g2 (by rw [CE 6 (by decide)]; exact t1) (by rw [um_up_q (by decide), um_up_q (by decide), lm_put_38 (by decide), G 38 (by decide)]; exact t2)
    · exact ly_gl_emit hgl1 e1 g1 g2
    · exact ⟨⟨by rw [CE 31 (by decide)]; exact a31, by rw [CE 32 (by decide)]; exact a32, um_up_self, by rw [CE 34 (by decide)]; exact a34⟩, by rw [ME 63 (by decide)]; exact b63, um_up_self, by rw [ME 68 (by decide)]; exact b68, by rw [um_up_q (by decide), um_up_self]⟩
    · exact ⟨p1, p2, by rw [ME 55 (by decide)]; exact p3, by rw [ME 39 (by decide)]; exact p4, by rw [ME 59 (by decide)]; exact p5⟩
    · exact ⟨p6, by rw [ME 60 (by decide)]; exact p7, p8, by rw [ly_nc_of (by rw [g2 34 (by decide), lm_put_38 (by decide), G 38 (by decide)])]; exact p9, by rw [ly_nh_of (by rw [g2 34 (by decide), lm_put_38 (by decide), G 38 (by decide)]) (ME 42 (by decide))]; exact p10⟩
  · have z0 : n = 1000 := by omega
    refine ly_oc_bad (k := 1) (kr := 1) (c1 := um_up (um_up (um_up c 33 0 (nI 6)) 3 8 (-2)) 33 0 3) (m1 := um_up (um_up (um_up (um_up m 67 0 (nI 103)) 38 35 1) 69 0 (nI (x + 1))) 67 0 100) ⟨fun fuel v b Q hv hq => hcl fuel v b Q hv (fun w => absurd w hlt) (fun _ => hq), fun fuel b Q K2 v1 v2 v3 hq => p_l67 s2 s3 t2 (hmo b _ (fun w => absurd w hlt) (fun _ => hq))⟩ (ly_hi_of (fun p hp => by rw [um_up_q (by omega), um_up_q (by omega), E p (by omega)]) (fun p hp => by rw [um_up_q (by omega), um_up_q (by omega), um_up_q (by omega), G p (by omega)]) (fun i hi => by rw [um_up_q (by decide), um_up_q (by decide), um_up_ne (by omega), G 38 (by decide)]) (by rw [um_up_q (by decide), um_up_q (by decide), E 2 (by decide)])) (Or.inl ⟨?_, ?_, ?_⟩) (by omega) (by omega)
    · rw [um_up_q (by decide), um_up_self]
    · rw [um_up_q (by decide), um_up_q (by decide), um_up_self]
    · rw [um_up_q (by decide), um_up_q (by decide), um_up_ne (by decide), G 38 (by decide)]
      exact s3
end LayApart2
