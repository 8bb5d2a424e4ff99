/-! lay: no catch is left: the finally that takes all, or nothing -/
section LayLast
variable {N v0 i0 ci f k j h0 nc nh q qr x y n B I dc s : Nat} {L : Nat → Nat} {C : Nat → Nat → Nat} {D bs it ix hs nn dn tn : Nat → Nat} {mk : Int32} {c m : um_S}
/-- the class's turn that finds no catch left -/
theorem p_turn36 (hT : um_tree N c m) (t1 : c 6 4 = nI 1) (s1 : c 3 8 = 0) (a31 : c 31 0 = nI k) (a32 : c 32 0 = nI (4 * (j + 1) + 1)) (a33 : c 33 0 = nI 3) (a34 : c 34 0 = ly_cv (L k) (C k) (L k - x)) (hk : k < N) (h18 : m 39 k = 18) (hj : j < 2000) (o7 : c 24 (j + 1) = nI k) (g37 : c 3 7 = m 38 34) (hch : ly_chain m k (m 41 k) (L k) (C k)) (hx : x = ly_nc m (L k)) :
    ∀ (fuel v : Nat) (b : um_S) (Q : um_S → Prop), v < 1000000 → wp_La_takeTurns_2 Q fuel (nI (v + 1)) (um_J (um_up (um_up c 33 0 (nI 4)) 33 0 6) b) → wp_La_takeTurns_2 Q (fuel + 1) (nI v) (um_J c b) := by
  intro fuel v b Q hv hq
  refine p_turnA (s := 3) hT hv t1 s1 a31 hk a33 (by omega) (by omega) h18 ?_
  have hT3 : um_tree N (um_up c 33 0 (nI (3 + 1))) m := um_tree_uc hT (by decide)
  have fin : wp_La_beginCatch_37 (fun σ => wp_La_takeTurns_2 Q fuel (nI (v + 1)) σ) (nI 0) (nI (j + 1)) (-1) (um_J (um_up c 33 0 (nI (3 + 1))) b) := by
    unfold wp_La_beginCatch_37
    rw [um_cl1 (show 0 < 2147483648 by omega)]
    refine um_yes' rfl ⟨vp_in_nI (by omega) (by decide), ?_⟩
    rw [um_J_uc (by decide)]
    rintro σ9 rfl
    exact hq
  unfold wp_La_turnApart
  rw [um_cl1 (show 0 < 2147483648 by omega), um_J_c (q := 32) (by decide), um_up_q (q := 33) (a := 32) (by decide), a32]
  refine ⟨vp_in_nI (by omega) (by decide), p_scopeOf (s := j + 1) (p := 1) (by decide) (by omega) (um_yes rfl ?_)⟩
  unfold wp_La_beginCatch
  rw [um_cl1 (show 0 < 2147483648 by omega), um_cl1 (show j + 1 < 2147483648 by omega), um_J_c (q := 3) (by decide), um_up_q (q := 33) (a := 3) (by decide), um_J_c (q := 24) (by decide), um_up_q (q := 33) (a := 24) (by decide), o7, um_J_c (q := 34) (by decide), um_up_q (q := 33) (a := 34) (by decide), a34]
  refine ⟨fun z => ⟨vp_in_nI (by omega) (by decide), vp_in_nI (by omega) (by decide), ?_⟩, fun _ => fin⟩
  have e : x = L k := by
    rw [hx]
    unfold ly_nc
    rw [if_pos (g37.symm.trans z)]
  refine p_catchAfter (i := x) hT3 hk hch (by omega) ?_
  rw [if_neg (by omega)]
  exact fin
/-- what holds when item j is done -/
theorem ly_gl_full (h : ly_gl N v0 i0 ci f L C j n B I dc D bs it ix hs nn dn tn c m) (hI : I ≤ 2000) (hk : k < 150) (h55 : m 55 j = nI k) (hf : bs j = ly_nh m L k) : ly_gl N v0 i0 ci f L C 2001 n B I dc D bs it ix hs nn dn tn c m := by
  obtain ⟨h1, h2, h3, h4, h5, h6, h7, h8⟩ := h
  refine ⟨h1, h2, h3, h4, h5, fun i k2 a1 a2 a3 a4 a5 => ?_, fun q a1 a2 => ⟨(h7 q a1 a2).1, ?_⟩, h8⟩
  · rcases h6 i k2 a1 a2 a3 a4 a5 with z | z | z
    · exact Or.inl z
    · subst z
      have e : k2 = k := (nI_eq (a := k2) (b := k) (by omega) (by omega)).mp (a3.symm.trans h55)
      subst e
      exact Or.inl hf
    · exact Or.inr (Or.inr z)
  · have := (h2.2.2.1 q a2).2.1
    omega
/-- other rows change -/
theorem ly_gl_row {c1 m1 : um_S} (h : ly_gl N v0 i0 ci f L C j n B I dc D bs it ix hs nn dn tn c m) (e : ∀ p, p = 2 ∨ p = 3 ∨ p = 7 ∨ p = 14 ∨ p = 16 ∨ (35 ≤ p ∧ p ≤ 37) → c1 p = c p) (g : ∀ p, (39 ≤ p ∧ p ≤ 44) ∨ p = 54 ∨ p = 55 ∨ p = 57 ∨ p = 59 ∨ (60 ≤ p ∧ p ≤ 62) → m1 p = m p) (g38 : ∀ i, i = 21 ∨ i = 30 ∨ i = 32 ∨ i = 34 → m1 38 i = m 38 i) : ly_gl N v0 i0 ci f L C j n B I dc D bs it ix hs nn dn tn c1 m1 := by
  have hhd := ly_hd_of (I1 := I) (n1 := n) (D1 := D) (c1 := c1) (m1 := m1) h.1 (Nat.le_refl _) (Nat.le_refl _) (fun _ _ => rfl) (fun p a1 a2 => e p (by omega)) (by rw [e 7 (by decide)]) (fun p hp => g p (by omega)) ⟨g38 30 (by decide), g38 34 (by decide)⟩ (fun i hi => ⟨by rw [g 55 (by decide)], by rw [g 57 (by decide)], fun _ => by rw [g 59 (by decide)]⟩)
  exact ly_gl_of (B1 := B) h hhd (fun _ _ => rfl) (Nat.le_refl _) (Nat.le_refl _) (fun _ _ => rfl) ⟨e 16 (by decide), e 14 (by decide)⟩ ⟨by rw [e 3 (by decide)], by rw [e 3 (by decide)]⟩ (by rw [e 2 (by decide), g38 21 (by decide)]; exact h.2.2.2.1.2) (fun p hp => g p (by omega)) ⟨g38 32 (by decide), g38 34 (by decide)⟩
theorem ly_mid_row {t t2 : Nat} {c1 m1 : um_S} (h : ly_mid N t n B I D c m) (e : ∀ p, ¬ (p = 2 ∨ p = 6 ∨ p = 7 ∨ (31 ≤ p ∧ p ≤ 37)) → c1 p = c p) (e2 : c1 2 5 = c 2 5 ∧ c1 2 7 = c 2 7) (g : ∀ p, (39 ≤ p ∧ p ≤ 48) ∨ (55 ≤ p ∧ p ≤ 59) → m1 p = m p) (g38 : ∀ i, i = 1 ∨ i = 10 ∨ i = 20 ∨ i = 23 ∨ i = 35 ∨ i = 36 → m1 38 i = m 38 i) (x1 : c1 6 4 = nI t2) (x2 : m1 38 37 = nI t2) : ly_mid N t2 n B I D c1 m1 :=
  ⟨fun d => ly_bare_row (h.1 d) (fun p hp => e p (by omega)) (by rw [e 3 (by decide)]) e2 g g38, ⟨x1, x2⟩, h.2.2.1, fun i hi => by rw [g 59 (by decide)]; exact h.2.2.2 i hi⟩
/-- no finally: the TRY is done -/
theorem ly_apD1 (hmid : ly_mid N 1 n B I D c m) (hap : ly_ap N v0 i0 ci f L C k j h0 nc nh 3 100 x (ly_cv (L k) (C k) (L k - x)) x n B I dc D bs it ix hs nn dn tn c m) (hx : x = nc) (hz : nh = nc) :
    ly_oc (10 * (2000 - B) + 2) 0 c m (fun B1 c1 m1 => B1 = B ∧ ly_mid N 0 n B I D c1 m1 ∧ ly_gl N v0 i0 ci f L C 2001 n B I dc D bs it ix hs nn dn tn c1 m1) := by
  obtain ⟨hfree, ⟨t1, t2⟩, hIB, hend⟩ := id hmid
  obtain ⟨hgl, he0, ⟨p1, p2, p3, p4, p5⟩, p6, p7, p8, p9, p10⟩ := hap
  rw [← p9] at hx
  replace hz : m 42 k = -1 := by
    by_cases w : m 42 k = -1
    · exact w
    · unfold ly_nh at p10
      rw [if_neg w] at p10
      omega
  obtain ⟨hhd, hdl, hcha, ⟨g37, g28⟩, ⟨gvb, -⟩, -⟩ := id hgl
  obtain ⟨⟨a31, a32, a33, a34⟩, b63, b67, b68, b69⟩ := id he0
  have hb1 := hfree 1
  obtain ⟨hI, hN, hn, hBB⟩ := ly_bare_I hb1
  obtain ⟨⟨s1, s2, s3⟩, ⟨n1, n2, n3⟩, ⟨b1, b2', b3⟩, -, hT, -⟩ := id hb1
  obtain ⟨ov, dp, o1, o2, o3, o4, o5, o6, o7, o8, -, -⟩ := ly_item_try hb1 p1 p3 p2 p4
  obtain ⟨hch, -⟩ := hcha k p2 p4
  have E : ∀ p, ¬ (p = 6 ∨ p = 33) → (um_up (um_up (um_up (um_up c 33 0 (nI 4)) 33 0 6) 33 0 (nI 7)) 6 4 (nI 0)) p = c p := fun p hp => by rw [um_up_q (by omega), um_up_q (by omega), um_up_q (by omega), um_up_q (by omega)]
  have G : ∀ p, ¬ (p = 38 ∨ p = 67) → (um_up (um_up m 67 0 (nI 101)) 38 37 (nI 0)) p = m p := fun p hp => by rw [um_up_q (by omega), um_up_q (by omega)]
  have G38 : ∀ i, ¬ i = 37 → (um_up (um_up m 67 0 (nI 101)) 38 37 (nI 0)) 38 i = m 38 i := fun i hi => by rw [um_up_ne (by omega), um_up_q (by omega)]
  have E6 : ∀ p, ¬ p = 33 → (um_up (um_up c 33 0 (nI 4)) 33 0 6) p = c p := fun p hp => by rw [um_up_q hp, um_up_q hp]
  refine ly_oc_one (k := 2) (kr := 1) (B := B) (c1 := um_up (um_up (um_up (um_up c 33 0 (nI 4)) 33 0 6) 33 0 (nI 7)) 6 4 (nI 0)) (m1 := um_up (um_up m 67 0 (nI 101)) 38 37 (nI 0)) ⟨fun fuel v b Q hv hq => ?_, fun fuel b Q K2 v1 v2 v3 hq => p_l67 s2 s3 t2 ?_⟩ (ly_hi_of (fun p hp => E p (by omega)) (fun p hp => G p (by omega)) (fun i hi => G38 i (by omega)) (by rw [E 2 (by decide)])) ⟨rfl, ?_, ?_⟩ (by omega) (by omega)
  · refine p_turn36 hT t1 s1 a31 a32 a33 a34 p2 p4 (by omega) o7 g37 hch hx (fuel + 1) v b Q (by omega) ?_
    have hT6 : um_tree N (um_up (um_up c 33 0 (nI 4)) 33 0 6) m := um_tree_uc (um_tree_uc hT (by decide)) (by decide)
    refine p_turnA (s := 6) hT6 (by omega) (by rw [E6 6 (by decide)]; exact t1) (by rw [E6 3 (by decide)]; exact s1) (by rw [E6 31 (by decide)]; exact a31) p2 um_up_self (by omega) (by omega) p4 ?_
    unfold wp_La_turnApart
    rw [um_cl1 (show 0 < 2147483648 by omega), um_J_c (q := 32) (by decide), um_up_q (q := 33) (a := 32) (by decide), E6 32 (by decide), a32]
    refine ⟨vp_in_nI (by omega) (by decide), p_scopeOf (s := j + 1) (p := 1) (by decide) (by omega) (um_no (by decide) (um_no (by decide) (um_no (by decide) (um_yes rfl ?_))))⟩
    unfold wp_La_beginAny
    rw [um_cl1 (show j + 1 < 2147483648 by omega), um_J_c (q := 25) (by decide), um_up_q (q := 33) (a := 25) (by decide), E6 25 (by decide), o8]
    refine ⟨vp_in_nI (by omega) (by decide), um_yes' hz (p_Wpop (t := 0) ?_ (by decide) hq)⟩
    rw [um_up_q (by decide), E6 6 (by decide)]
    exact t1
  · refine p_goesA (s := 100) t2 b63 (by omega) b67 (by omega) (by omega) p4 ?_
    have cha0 : ly_chain (um_up m 67 0 (nI (100 + 1))) k ((um_up m 67 0 (nI (100 + 1))) 41 k) (L k) (C k) := (ly_cha_of hcha (fun p a1 a2 => um_up_q (by omega)) k p2 (by rw [um_up_q (by decide)]; exact p4)).1
    have i0' : vp_in (nI 0) 2002 := vp_in_nI (by omega) (by decide)
    unfold wp_Mo_apart
    rw [um_cl1 (show 0 < 2147483648 by omega), um_J_m (q := 68) (by decide), um_J_m (q := 63) (by decide), um_J_m (q := 67) (by decide), um_up_self, um_up_q (q := 67) (a := 68) (by decide), um_up_q (q := 67) (a := 63) (by decide), b68, b63]
    refine ⟨i0', ?_⟩
    rintro x1 rfl
    refine ⟨i0', ?_⟩
    rintro x2 rfl
    refine ⟨i0', um_yes' rfl ⟨i0', p_catches (by omega) cha0 ?_⟩⟩
    rw [um_J_m (q := 69) (by decide), um_up_q (q := 67) (a := 69) (by decide), b69]
    have enc : ly_nc (um_up m 67 0 (nI (100 + 1))) (L k) = x := by
      rw [hx]
      unfold ly_nc
      rw [um_up_q (by decide)]
    rw [enc]
    have hlk := hch.1
    have hxl : x ≤ L k := by
      rw [hx]
      unfold ly_nc
      by_cases z : m 38 34 = 0
      · rw [if_pos z]
        exact Nat.le_refl _
      · rw [if_neg z]
        omega
    refine um_yes (nI_le (Nat.le_refl _) (by omega)) ?_
    unfold wp_Mo_apart_140 wp_Mo_apart_247
    rw [um_cl1 (show 0 < 2147483648 by omega), um_J_m (q := 67) (by decide), um_up_self]
    refine ⟨i0', um_yes' rfl ?_⟩
    refine p_Mhas (k := k) (by omega) (by rw [um_up_q (by decide)]; exact p3) (by omega) (by rw [um_up_q (by decide)]; exact p4) (fun w => ⟨fun _ => ⟨i0', um_yes' ?_ ?_⟩, fun u => absurd u (by decide)⟩) (fun w => absurd (show (um_up m 67 0 (nI (100 + 1))) 42 k = -1 by rw [um_up_q (by decide)]; exact hz) w)
    · rw [um_J_m (q := 67) (by decide), um_up_self]
      rfl
    · rw [um_J_m (q := 38) (by decide), um_up_q (q := 67) (a := 38) (by decide), t2, show nI 1 - 1 = nI 0 from um_pred (a := 1) (by omega), um_J_um (by decide)]
      rintro σ9 rfl
      exact hq
  · exact ly_mid_row hmid (fun p hp => E p (by omega)) ⟨by rw [E 2 (by decide)], by rw [E 2 (by decide)]⟩ (fun p hp => G p (by omega)) (fun i hi => G38 i (by omega)) um_up_self um_up_self
  · refine ly_gl_row (ly_gl_full hgl hI (by omega) p3 ?_) (fun p hp => E p (by omega)) (fun p hp => G p (by omega)) (fun i hi => G38 i (by omega))
    unfold ly_nh
    rw [if_pos hz, p6, hx]
    rfl
/-- a finally: KEEP, and it is begun -/
theorem ly_apD2 (hmid : ly_mid N 1 n B I D c m) (hap : ly_ap N v0 i0 ci f L C k j h0 nc nh 3 100 x (ly_cv (L k) (C k) (L k - x)) x n B I dc D bs it ix hs nn dn tn c m) (hx : x = nc) (hz : ¬ nh = nc) (h2 : 2 * ly_T bs 2001 ≤ n) :
    ly_oc (10 * (2000 - B)) 4 c m (fun B1 c1 m1 => ∃ n1 I1 dc1 D1 bs1 it1 ix1 hs1 nn1 dn1 tn1, ly_sit N 1 n1 B1 I1 D1 c1 m1 ∧ ly_ap N v0 i0 ci f L C k j h0 nc nh 7 201 x (ly_cv (L k) (C k) (L k - x)) (x + 1) n1 B1 I1 dc1 D1 bs1 it1 ix1 hs1 nn1 dn1 tn1 c1 m1 ∧ 2 * ly_T bs1 2001 ≤ n1 + 1) := by
  obtain ⟨hfree, ⟨t1, t2⟩, hIB, hend⟩ := hmid
  obtain ⟨hgl, he0, ⟨p1, p2, p3, p4, p5⟩, p6, p7, p8, p9, p10⟩ := hap
  rw [← p9] at hx
  replace hz : ¬ m 42 k = -1 := by
    intro w
    unfold ly_nh at p10
    rw [if_pos w] at p10
    omega
  obtain ⟨hhd, hdl, hcha, ⟨g37, g28⟩, ⟨gvb, -⟩, -⟩ := id hgl
  obtain ⟨⟨a31, a32, a33, a34⟩, b63, b67, b68, b69⟩ := id he0
  have hb1 := hfree 1
  obtain ⟨hI, hN, hn, hBB⟩ := ly_bare_I hb1
  obtain ⟨⟨s1, s2, s3⟩, ⟨n1, n2, n3⟩, ⟨b1, b2', b3⟩, -, hT, -⟩ := id hb1
  obtain ⟨ov, dp, o1, o2, o3, o4, o5, o6, o7, o8, o9, -⟩ := ly_item_try hb1 p1 p3 p2 p4
  obtain ⟨hch, -⟩ := hcha k p2 p4
  have hlk := hch.1
  have hxl : x ≤ L k := by
    rw [hx]
    unfold ly_nc
    by_cases z : m 38 34 = 0
    · rw [if_pos z]
      exact Nat.le_refl _
    · rw [if_neg z]
      omega
  obtain ⟨k2, w2, hk2, hx2, hv2, hw2, hw2'⟩ : um_isS m k (m 42 k) := by
    obtain ⟨w, y1, y2, -, -, -, -, -, -, -, -, y11, -⟩ := (hT.2.2.2.1 k p2).2.2.2.2.2.2.2
    have hw : w = 18 := (nI_eq (a := w) (b := 18) (by omega) (by decide)).mp (y2.symm.trans p4)
    rcases (y11 hw).2.2 with z | z
    · exact absurd z hz
    · exact z
  have E6 : ∀ p, ¬ p = 33 → (um_up (um_up c 33 0 (nI 4)) 33 0 6) p = c p := fun p hp => by rw [um_up_q hp, um_up_q hp]
  have E0 : ∀ p, ¬ p = 33 → (um_up (um_up (um_up c 33 0 (nI 4)) 33 0 6) 33 0 (nI 7)) p = c p := fun p hp => by rw [um_up_q hp, E6 p hp]
  have G0 : ∀ p, ¬ p = 67 → (um_up (um_up m 67 0 (nI 101)) 67 0 201) p = m p := fun p hp => by rw [um_up_q hp, um_up_q hp]
  have hxe : ly_hx (um_up (um_up m 67 0 (nI 101)) 67 0 201) L C k (bs j) = -1 := by
    unfold ly_hx ly_nc
    rw [G0 38 (by decide), p6, if_neg]
    unfold ly_nc at hx
    omega
  have hhd0 : ly_hd I n (ly_g D n 1) L C bs it ix hs nn (um_up (um_up (um_up c 33 0 (nI 4)) 33 0 6) 33 0 (nI 7)) (um_up (um_up m 67 0 (nI 101)) 67 0 201) := ly_hd_of hhd (Nat.le_refl _) (Nat.le_refl _) (fun i hi => ly_g_ne (by omega)) (fun p a1 a2 => E0 p (by omega)) (by rw [E0 7 (by decide)]) (fun p hp => G0 p (by omega)) ⟨by rw [G0 38 (by decide)], by rw [G0 38 (by decide)]⟩ (fun i hi => ⟨by rw [G0 55 (by decide)], by rw [G0 57 (by decide)], fun _ => by rw [G0 59 (by decide)]⟩)
  have hnh : x + 1 = ly_nh m L k := by
    unfold ly_nh
    rw [if_neg hz, hx]
  obtain ⟨hadd, it1, ix1, hhd1⟩ := ly_hd_add (j0 := j) (k := k) (h0 := h0) hhd0 hI (by omega) (fun i hi => by rw [G0 57 (by decide), E0 27 (by decide)]; exact ly_ovs hb1 i hi) p1 (by rw [G0 59 (by decide)]; exact p5) (by omega) (by rw [G0 55 (by decide)]; exact p3) (by rw [G0 39 (by decide)]; exact p4) (by
    rw [ly_nh_of (by rw [G0 38 (by decide)]) (G0 42 (by decide)), p6]
    omega) (by rw [G0 60 (by decide)]; exact p7) (by rw [p6]; exact p8) ly_g_at
  rw [hxe] at hadd hhd1
  have R2 : ∀ p, ¬ (p = 7 ∨ p = 33 ∨ (35 ≤ p ∧ p ≤ 37)) → (lc_add (um_up (um_up (um_up c 33 0 (nI 4)) 33 0 6) 33 0 (nI 7)) (ly_at (um_up (um_up m 67 0 (nI 101)) 67 0 201) bs j + bs j) (ly_T bs 2001) (nI (j + 1)) (-1) (nI n)) p = c p := fun p hp => by rw [lc_add_row (by omega), E0 p (by omega)]
  have R33 : (lc_add (um_up (um_up (um_up c 33 0 (nI 4)) 33 0 6) 33 0 (nI 7)) (ly_at (um_up (um_up m 67 0 (nI 101)) 67 0 201) bs j + bs j) (ly_T bs 2001) (nI (j + 1)) (-1) (nI n)) 33 0 = nI 7 := by rw [lc_add_row (by decide), um_up_self]
  generalize hc2 : lc_add (um_up (um_up (um_up c 33 0 (nI 4)) 33 0 6) 33 0 (nI 7)) (ly_at (um_up (um_up m 67 0 (nI 101)) 67 0 201) bs j + bs j) (ly_T bs 2001) (nI (j + 1)) (-1) (nI n) = c2 at hadd hhd1 R2 R33
  obtain ⟨wd, hwd⟩ : ∃ wd, wd = if c 2 8 < nI dp then nI dp else c 2 8 := ⟨_, rfl⟩
  have S2 : ∀ p, ¬ (p = 38 ∨ p = 61 ∨ p = 67) → (um_up (um_up (um_up (um_up (um_up m 67 0 (nI 101)) 67 0 201) 61 (ly_T bs 2001) (nI n)) 38 30 (nI (ly_T bs 2001 + 1))) 38 21 wd) p = m p := fun p hp => by rw [um_up_q (by omega), um_up_q (by omega), um_up_q (by omega), G0 p (by omega)]
  have S38 : ∀ i, ¬ (i = 21 ∨ i = 30) → (um_up (um_up (um_up (um_up (um_up m 67 0 (nI 101)) 67 0 201) 61 (ly_T bs 2001) (nI n)) 38 30 (nI (ly_T bs 2001 + 1))) 38 21 wd) 38 i = m 38 i := fun i hi => by rw [um_up_ne (by omega), um_up_ne (by omega), um_up_q (by decide), G0 38 (by decide)]
  have hcl0 : ∀ (fuel v : Nat) (b : um_S) (Q : um_S → Prop), v + 2 ≤ 1000000 → (n < 1000 → wp_La_begin (nI k2) (nI (4 * (j + 1) + 2)) (um_J (um_up (lc_emit c2 n 15 (nI dp) (c 23 (j + 1))) 2 8 wd) b) (fun σ => wp_La_takeTurns_2 Q fuel (nI (v + 2)) σ)) → (n = 1000 → wp_La_begin (nI k2) (nI (4 * (j + 1) + 2)) (um_J (um_up (um_up c2 3 8 (-2)) 2 8 wd) b) (fun σ => wp_La_takeTurns_2 Q fuel (nI (v + 2)) σ)) → wp_La_takeTurns_2 Q (fuel + 2) (nI v) (um_J c b) := by
    intro fuel v b Q hv q1 q2
    refine p_turn36 hT t1 s1 a31 a32 a33 a34 p2 p4 (by omega) o7 g37 hch hx (fuel + 1) v b Q (by omega) ?_
    have hT6 : um_tree N (um_up (um_up c 33 0 (nI 4)) 33 0 6) m := um_tree_uc (um_tree_uc hT (by decide)) (by decide)
    refine p_turnA (s := 6) hT6 (by omega) (by rw [E6 6 (by decide)]; exact t1) (by rw [E6 3 (by decide)]; exact s1) (by rw [E6 31 (by decide)]; exact a31) p2 um_up_self (by omega) (by omega) p4 ?_
    unfold wp_La_turnApart
    rw [um_cl1 (show 0 < 2147483648 by omega), um_J_c (q := 32) (by decide), um_up_q (q := 33) (a := 32) (by decide), E6 32 (by decide), a32]
    refine ⟨vp_in_nI (by omega) (by decide), p_scopeOf (s := j + 1) (p := 1) (by decide) (by omega) (um_no (by decide) (um_no (by decide) (um_no (by decide) (um_yes rfl ?_))))⟩
    have ij : vp_in (nI (j + 1)) 2001 := vp_in_nI (by omega) (by decide)
    unfold wp_La_beginAny
    rw [um_cl1 (show j + 1 < 2147483648 by omega), um_J_c (q := 25) (by decide), um_up_q (q := 33) (a := 25) (by decide), E6 25 (by decide), o8, um_J_c (q := 28) (by decide), um_up_q (q := 33) (a := 28) (by decide), E6 28 (by decide), o4, um_J_c (q := 2) (by decide), um_up_q (q := 33) (a := 2) (by decide), E6 2 (by decide), n1]
    refine ⟨ij, um_no' hz ⟨ij, ?_⟩⟩
    rintro x1 rfl
    refine hadd b _ ⟨ij, ?_⟩
    rw [um_J_c (q := 23) (by decide), R2 23 (by decide)]
    refine p_emits (n := n) (by rw [R2 3 (by decide)]; exact s1) (by rw [R2 2 (by decide)]; exact n1) n3 (fun z => ?_) (fun z => ?_)
    · rw [um_J_c (q := 2) (by decide), lc_emit_2 (by decide), R2 2 (by decide), ← hwd, um_J_uc (by decide)]
      rintro σ4 rfl
      refine ⟨ij, p_within (s := j + 1) (p := 2) (by decide) (by omega) ?_⟩
      rw [um_J_c (q := 25) (by decide), um_up_q (q := 2) (a := 25) (by decide), lc_emit_row (q := 25) (by decide), R2 25 (by decide), o8, hx2]
      exact q1 z
    · rw [um_J_c (q := 2) (by decide), um_up_q (q := 3) (a := 2) (by decide), R2 2 (by decide), ← hwd, um_J_uc (by decide)]
      rintro σ4 rfl
      refine ⟨ij, p_within (s := j + 1) (p := 2) (by decide) (by omega) ?_⟩
      rw [um_J_c (q := 25) (by decide), um_up_q (q := 2) (a := 25) (by decide), um_up_q (q := 3) (a := 25) (by decide), R2 25 (by decide), o8, hx2]
      exact q2 z
  have hmo0 : ∀ (b : um_S) (Q : um_S → Prop), (n < 1000 → wp_Mo_begin (nI k2) (m 56 j) (nI (ov + 1)) (nI (dp + 1)) (um_J b (lm_put (um_up (um_up (um_up (um_up (um_up m 67 0 (nI 101)) 67 0 201) 61 (ly_T bs 2001) (nI n)) 38 30 (nI (ly_T bs 2001 + 1))) 38 21 wd) n 15 (nI dp) (m 56 j))) Q) → (n = 1000 → wp_Mo_begin (nI k2) (m 56 j) (nI (ov + 1)) (nI (dp + 1)) (um_J b (um_up (um_up (um_up (um_up (um_up (um_up m 67 0 (nI 101)) 67 0 201) 61 (ly_T bs 2001) (nI n)) 38 30 (nI (ly_T bs 2001 + 1))) 38 21 wd) 38 35 1)) Q) → wp_Mo_goesOn (um_J b m) Q := by
    intro b Q q1 q2
    refine p_goesA (s := 100) t2 b63 (by omega) b67 (by omega) (by omega) p4 ?_
    have cha0 : ly_chain (um_up m 67 0 (nI (100 + 1))) k ((um_up m 67 0 (nI (100 + 1))) 41 k) (L k) (C k) := (ly_cha_of hcha (fun p a1 a2 => um_up_q (by omega)) k p2 (by rw [um_up_q (by decide)]; exact p4)).1
    have i0' : vp_in (nI 0) 2002 := vp_in_nI (by omega) (by decide)
    have ij : vp_in (nI j) 2001 := vp_in_nI (by omega) (by decide)
    have f221 : wp_Mo_apart_221 Q (nI j) (um_J b (um_up (um_up (um_up (um_up (um_up m 67 0 (nI 101)) 67 0 201) 61 (ly_T bs 2001) (nI n)) 38 30 (nI (ly_T bs 2001 + 1))) 38 21 wd)) := by
      unfold wp_Mo_apart_221 wp_Mo_last
      rw [um_cl1 (show j < 2147483648 by omega), um_J_m (q := 58) (by decide), um_J_m (q := 56) (by decide), S2 58 (by decide), S2 56 (by decide), o3]
      refine ⟨ij, ij, p_puts (n := n) (by rw [S38 35 (by decide)]; exact s2) (by rw [S38 10 (by decide)]; exact n2) n3 (fun z => ?_) (fun z => ?_)⟩
      · rw [um_J_m (q := 55) (by decide), lm_put_row (q := 55) (by decide), S2 55 (by decide), p3, um_cl1 (show k < 2147483648 by omega), um_J_m (q := 42) (by decide), um_J_m (q := 56) (by decide), um_J_m (q := 57) (by decide), um_J_m (q := 58) (by decide), lm_put_row (q := 42) (by decide), lm_put_row (q := 56) (by decide), lm_put_row (q := 57) (by decide), lm_put_row (q := 58) (by decide), S2 42 (by decide), S2 56 (by decide), S2 57 (by decide), S2 58 (by decide), o1, o3, hx2, show nI ov + 1 = nI (ov + 1) from um_succ, show nI dp + 1 = nI (dp + 1) from um_succ]
        exact ⟨ij, vp_in_nI (by omega) (by decide), ij, ij, ij, q1 z⟩
      · have Sb : ∀ p, ¬ (p = 38 ∨ p = 61 ∨ p = 67) → (um_up (um_up (um_up (um_up (um_up (um_up m 67 0 (nI 101)) 67 0 201) 61 (ly_T bs 2001) (nI n)) 38 30 (nI (ly_T bs 2001 + 1))) 38 21 wd) 38 35 1) p = m p := fun p hp => by rw [um_up_q (by omega), S2 p hp]
        rw [um_J_m (q := 55) (by decide), Sb 55 (by decide), p3, um_cl1 (show k < 2147483648 by omega), um_J_m (q := 42) (by decide), um_J_m (q := 56) (by decide), um_J_m (q := 57) (by decide), um_J_m (q := 58) (by decide), Sb 42 (by decide), Sb 56 (by decide), Sb 57 (by decide), Sb 58 (by decide), o1, o3, hx2, show nI ov + 1 = nI (ov + 1) from um_succ, show nI dp + 1 = nI (dp + 1) from um_succ]
        exact ⟨ij, vp_in_nI (by omega) (by decide), ij, ij, ij, q2 z⟩
    unfold wp_Mo_apart
    rw [um_cl1 (show 0 < 2147483648 by omega), um_J_m (q := 68) (by decide), um_J_m (q := 63) (by decide), um_J_m (q := 67) (by decide), um_up_self, um_up_q (q := 67) (a := 68) (by decide), um_up_q (q := 67) (a := 63) (by decide), b68, b63]
    refine ⟨i0', ?_⟩
    rintro x1 rfl
    refine ⟨i0', ?_⟩
    rintro x2 rfl
    refine ⟨i0', um_yes' rfl ⟨i0', p_catches (by omega) cha0 ?_⟩⟩
    rw [um_J_m (q := 69) (by decide), um_up_q (q := 67) (a := 69) (by decide), b69]
    have enc : ly_nc (um_up m 67 0 (nI (100 + 1))) (L k) = x := by
      rw [hx]
      unfold ly_nc
      rw [um_up_q (by decide)]
    rw [enc]
    refine um_yes (nI_le (Nat.le_refl _) (by omega)) ?_
    unfold wp_Mo_apart_140
    rw [um_cl1 (show 0 < 2147483648 by omega), um_cl1 (show j < 2147483648 by omega), um_J_m (q := 67) (by decide), um_up_self]
    refine ⟨i0', um_yes' rfl ?_⟩
    refine p_Mhas (k := k) (by omega) (by rw [um_up_q (by decide)]; exact p3) (by omega) (by rw [um_up_q (by decide)]; exact p4) (fun w => absurd (show m 42 k = -1 by rw [um_up_q (by decide)] at w; exact w) hz) (fun w => ⟨fun u => absurd u (by decide), fun _ => ⟨i0', ?_⟩⟩)
    rw [um_J_um (by decide)]
    rintro σ3 rfl
    rw [um_J_m (q := 38) (by decide), um_up_q (q := 67) (a := 38) (by decide), um_up_q (q := 67) (a := 38) (by decide), hhd.1.2, n2, um_cl1 (show ly_T bs 2001 < 2147483648 by omega), um_J_um (by decide)]
    refine ⟨vp_in_nI (by omega) (by decide), ?_⟩
    rintro σ4 rfl
    rw [um_J_m (q := 38) (by decide), um_up_q (q := 61) (a := 38) (by decide), um_up_q (q := 67) (a := 38) (by decide), um_up_q (q := 67) (a := 38) (by decide), hhd.1.2, show nI (ly_T bs 2001) + 1 = nI (ly_T bs 2001 + 1) from um_succ, um_J_um (by decide)]
    rintro σ5 rfl
    rw [um_J_m (q := 58) (by decide), um_up_q (q := 38) (a := 58) (by decide), um_up_q (q := 61) (a := 58) (by decide), um_up_q (q := 67) (a := 58) (by decide), um_up_q (q := 67) (a := 58) (by decide), o3, um_J_m (q := 38) (by decide), um_up_ne (by decide), um_up_q (q := 61) (a := 38) (by decide), um_up_q (q := 67) (a := 38) (by decide), um_up_q (q := 67) (a := 38) (by decide), ← g28]
    have lt_iff : ¬ nI dp ≤ c 2 8 ↔ c 2 8 < nI dp := by
      rw [Int32.not_le]
    refine ⟨ij, fun z => ?_, fun z => ⟨ij, ?_⟩⟩
    · rw [um_J_um (by decide)]
      rintro σ6 rfl
      have e : wd = c 2 8 := by rw [hwd, if_neg (fun w => (lt_iff.mpr w) z)]
      rw [e] at f221
      exact f221
    · rw [um_J_um (by decide)]
      rintro σ7 rfl
      have e : wd = nI dp := by rw [hwd, if_pos (lt_iff.mp z)]
      rw [e] at f221
      exact f221
  refine ly_child_e (n := n) (k0 := 2) (k2 := k2) (ab := ov + 1) (fi := dp + 1) (cx := nI (4 * (j + 1) + 2)) (my := m 56 j) (cg := um_up (lc_emit c2 n 15 (nI dp) (c 23 (j + 1))) 2 8 wd) (cb := um_up (um_up c2 3 8 (-2)) 2 8 wd) (mg := lm_put (um_up (um_up (um_up (um_up (um_up m 67 0 (nI 101)) 67 0 201) 61 (ly_T bs 2001) (nI n)) 38 30 (nI (ly_T bs 2001 + 1))) 38 21 wd) n 15 (nI dp) (m 56 j)) (mb := um_up (um_up (um_up (um_up (um_up (um_up m 67 0 (nI 101)) 67 0 201) 61 (ly_T bs 2001) (nI n)) 38 30 (nI (ly_T bs 2001 + 1))) 38 21 wd) 38 35 1) (by omega) (by omega) hn hBB ⟨by rw [um_up_q (by decide), um_up_self], by rw [um_up_ne (by decide), um_up_q (by decide), R2 2 (by decide)]; exact b1, by rw [um_up_q (by decide), um_up_q (by decide), R2 6 (by decide)]; exact t1⟩ ⟨um_up_self, by rw [um_up_ne (by decide), S38 36 (by decide)]; exact s3⟩ ⟨s2, s3, t2⟩ (ly_hi_of (fun p hp => by rw [um_up_q (by omega), um_up_q (by omega), R2 p (by omega)]) (fun p hp => by rw [um_up_q (by omega), S2 p (by omega)]) (fun i hi => by rw [um_up_ne (by omega), S38 i (by omega)]) (by rw [um_up_ne (by decide), um_up_q (by decide), R2 2 (by decide)])) hcl0 hmo0 ?_
  intro hlt gcl gmo
  have hb2 : ly_bare N n B I (ly_g D n 1) c2 (um_up (um_up (um_up (um_up (um_up m 67 0 (nI 101)) 67 0 201) 61 (ly_T bs 2001) (nI n)) 38 30 (nI (ly_T bs 2001 + 1))) 38 21 wd) := ly_bare_row hb1 (fun p hp => R2 p (by omega)) (by rw [R2 3 (by decide)]) ⟨by rw [R2 2 (by decide)], by rw [R2 2 (by decide)]⟩ (fun p hp => S2 p (by omega)) (fun i hi => S38 i (by omega))
  have hb3 := ly_bare_emit (op := 15) (arg := nI dp) (cx := c 23 (j + 1)) (my := m 56 j) (D2 := ly_g (ly_g D n 1) (n + 1) 0) hb2 hlt (Or.inl (by rw [R2 24 (by decide), S2 56 (by decide)]; exact o9)) (by
    refine Or.inr (Or.inr (Or.inr (Or.inr (Or.inr (Or.inr (Or.inr (Or.inr (Or.inr (Or.inr (Or.inl ⟨rfl, ?_, by omega, ?_, dp, by omega, rfl⟩))))))))))
    · rw [ly_g_ne (by omega), ly_g_at]
      omega
    · rw [ly_g_ne (by omega), ly_g_at, ly_g_at]) (fun i hi => ly_g_ne (by omega))
  have CG : ∀ p, ¬ (p = 2 ∨ p = 7 ∨ (11 ≤ p ∧ p ≤ 13) ∨ p = 33 ∨ (35 ≤ p ∧ p ≤ 37)) → (um_up (lc_emit c2 n 15 (nI dp) (c 23 (j + 1))) 2 8 wd) p = c p := fun p hp => by rw [um_up_q (by omega), lc_emit_row (by omega), R2 p (by omega)]
  have MG : ∀ p, ¬ (p = 38 ∨ (46 ≤ p ∧ p ≤ 48) ∨ p = 61 ∨ p = 67) → (lm_put (um_up (um_up (um_up (um_up (um_up m 67 0 (nI 101)) 67 0 201) 61 (ly_T bs 2001) (nI n)) 38 30 (nI (ly_T bs 2001 + 1))) 38 21 wd) n 15 (nI dp) (m 56 j)) p = m p := fun p hp => by rw [lm_put_row (by omega), S2 p (by omega)]
  have MG38 : ∀ i, ¬ (i = 10 ∨ i = 21 ∨ i = 30) → (lm_put (um_up (um_up (um_up (um_up (um_up m 67 0 (nI 101)) 67 0 201) 61 (ly_T bs 2001) (nI n)) 38 30 (nI (ly_T bs 2001 + 1))) 38 21 wd) n 15 (nI dp) (m 56 j)) 38 i = m 38 i := fun i hi => by rw [lm_put_38 (by omega), S38 i (by omega)]
  have hhd2 := ly_hd_of (I1 := I) (n1 := n + 1) (D1 := ly_g (ly_g D n 1) (n + 1) 0) (c1 := um_up (lc_emit c2 n 15 (nI dp) (c 23 (j + 1))) 2 8 wd) (m1 := lm_put (um_up (um_up (um_up (um_up (um_up m 67 0 (nI 101)) 67 0 201) 61 (ly_T bs 2001) (nI n)) 38 30 (nI (ly_T bs 2001 + 1))) 38 21 wd) n 15 (nI dp) (m 56 j)) hhd1 (Nat.le_refl _) (Nat.le_refl _) (fun i hi => ly_g_ne (by omega)) (fun p a1 a2 => by rw [um_up_q (by omega), lc_emit_row (by omega)]) (by rw [um_up_q (by decide), lc_emit_row (by decide)]) (fun p hp => by rw [lm_put_row (by omega), um_up_q (by omega)]) ⟨by rw [lm_put_38 (by decide), um_up_ne (by decide)], by rw [lm_put_38 (by decide), um_up_ne (by decide)]⟩ (fun i hi => ⟨by rw [lm_put_row (by decide), um_up_q (by decide)], by rw [lm_put_row (by decide), um_up_q (by decide)], fun _ => by rw [lm_put_row (by decide), um_up_q (by decide)]⟩)
  have hgl2 := ly_gl_of (B1 := B) hgl hhd2 (fun i hi => ly_g_ne hi) (by omega) (Nat.le_refl _) (fun i hi => by rw [ly_g_ne (by omega), ly_g_ne (by omega)]) ⟨CG 16 (by decide), CG 14 (by decide)⟩ ⟨by rw [CG 3 (by decide)], by rw [CG 3 (by decide)]⟩ (by rw [um_up_self, lm_put_38 (by decide), um_up_self]) (fun p hp => MG p (by omega)) ⟨MG38 32 (by decide), MG38 34 (by decide)⟩
  have hb4 : ly_bare N (n + 1) B I (ly_g (ly_g D n 1) (n + 1) 0) (um_up (lc_emit c2 n 15 (nI dp) (c 23 (j + 1))) 2 8 wd) (lm_put (um_up (um_up (um_up (um_up (um_up m 67 0 (nI 101)) 67 0 201) 61 (ly_T bs 2001) (nI n)) 38 30 (nI (ly_T bs 2001 + 1))) 38 21 wd) n 15 (nI dp) (m 56 j)) := ly_bare_row hb3 (fun p hp => um_up_q (by omega)) (by rw [um_up_q (by decide)]) ⟨um_up_ne (by decide), um_up_ne (by decide)⟩ (fun _ _ => rfl) (fun _ _ => rfl)
  refine ly_oc_weak (ly_child (k0 := 2) (by omega) (by omega) gcl gmo ⟨s2, s3, t2⟩ (ly_hi_of (fun p hp => CG p (by omega)) (fun p hp => MG p (by omega)) (fun i hi => MG38 i (by omega)) (by rw [um_up_ne (by decide), lc_emit_2 (by decide), R2 2 (by decide)])) ⟨hb4, ly_g_at, hIB, fun i hi => by rw [MG 59 (by decide)]; exact hend i hi, by rw [CG 6 (by decide)]; exact t1, by rw [MG38 37 (by decide)]; exact t2⟩ (nc := nc) (nh := nh) (q := 7) (qr := 201) (x := x) (mk := ly_cv (L k) (C k) (L k - x)) (y := x + 1) (h0 := h0) (k := k) (j := j) ⟨hgl2, ⟨⟨by rw [CG 31 (by decide)]; exact a31, by rw [CG 32 (by decide)]; exact a32, by rw [um_up_q (by decide), lc_emit_row (by decide)]; exact R33, by rw [CG 34 (by decide)]; exact a34⟩, by rw [MG 63 (by decide)]; exact b63, by rw [lm_put_row (by decide), um_up_q (by decide), um_up_q (by decide), um_up_q (by decide), um_up_self]; rfl, by rw [MG 68 (by decide)]; exact b68, by rw [MG 69 (by decide)]; exact b69⟩, ⟨p1, p2, by rw [MG 55 (by decide)]; exact p3, by rw [MG 39 (by decide)]; exact p4, by rw [MG 59 (by decide)]; exact p5⟩, by rw [ly_g_at, p6], by rw [MG 60 (by decide)]; exact p7, ?_, by rw [ly_nc_of (MG38 34 (by decide))]; exact p9, by rw [ly_nh_of (MG38 34 (by decide)) (MG 42 (by decide))]; exact p10⟩ (by omega) (by rw [MG 39 (by decide)]; exact hv2) hw2 hw2' ?_ ?_ ⟨by omega, by omega⟩) (Nat.le_refl _) (Nat.le_refl _) ?_
  · rw [p6, ly_T_at (i := j) (d := 1) (f := ly_g bs j (x + 1)) (g := bs) 2001 (by omega) (fun i _ hi => ly_g_ne hi) (by rw [ly_g_at, p6])]
    omega
  · rw [CG 24 (by decide), MG 56 (by decide)]
    exact Or.inr ⟨j, p1, Or.inr (Or.inr ⟨by rw [o7]; exact ly_ne (by omega), rfl, rfl⟩)⟩
  · rw [CG 24 (by decide), CG 25 (by decide), CG 27 (by decide), CG 28 (by decide)]
    exact Or.inr ⟨j, 2, ov, dp, p1, by decide, rfl, o2, o4, by rw [if_neg (by rw [o7]; exact ly_ne (by omega))], by rw [if_neg (by rw [o8]; exact hz)]⟩
  · rintro B1 c3 m3 ⟨n3', I3, dc3, D3, dn3, tn3, z1, z2, z3⟩
    refine ⟨n3', I3, dc3, D3, _, _, _, _, _, dn3, tn3, z1, z2, ?_⟩
    rw [p6, ly_T_at (i := j) (d := 1) (f := ly_g bs j (x + 1)) (g := bs) 2001 (by omega) (fun i _ hi => ly_g_ne hi) (by rw [ly_g_at, p6])]
    omega
end LayLast
