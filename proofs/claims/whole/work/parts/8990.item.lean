/-! lay: a TRY is laid apart from beginning to end -/
/-- what holds when it is over -/
def ly_over (N v0 i0 ci f : Nat) (L : Nat → Nat) (C : Nat → Nat → Nat) (B : Nat) (c m : um_S) : Prop :=
  ∃ n I dc D bs it ix hs nn dn tn, ly_mid N 0 n B I D c m ∧ ly_gl N v0 i0 ci f L C 2001 n B I dc D bs it ix hs nn dn tn c m ∧ 2 * ly_T bs 2001 ≤ n
section LayItemAll
variable {N v0 i0 ci f k j h0 nc nh q qr x y n B I dc s : Nat} {L : Nat → Nat} {C : Nat → Nat → Nat} {D bs it ix hs nn dn tn : Nat → Nat} {mk : Int32} {c m : um_S}
theorem ly_apE (hsit : ly_sit N 1 n B I D c m) (hap : ly_ap N v0 i0 ci f L C k j h0 nc nh 7 201 x mk y n B I dc D bs it ix hs nn dn tn c m) (hy : y = nh) (h2 : 2 * ly_T bs 2001 ≤ n + 1) :
    ly_oc (10 * (2000 - B) + 1) 0 c m (ly_over N v0 i0 ci f L C) := by
  obtain ⟨hb, hDn, hIB, hend, t1, t2⟩ := id hsit
  obtain ⟨hgl, he0, ⟨p1, p2, p3, p4, p5⟩, p6, p7, p8, p9, p10⟩ := id hap
  obtain ⟨⟨a31, a32, a33, a34⟩, b63, b67, b68, b69⟩ := id he0
  obtain ⟨hI, hN, hn, hBB⟩ := ly_bare_I hb
  obtain ⟨⟨s1, s2, s3⟩, ⟨n1, n2, n3⟩, ⟨b1, b2', b3⟩, -, hT, -⟩ := id hb
  obtain ⟨ov, dp, o1, o2, o3, o4, o5, o6, o7, o8, o9, -⟩ := ly_item_try hb p1 p3 p2 p4
  have E : ∀ p, ¬ p = 33 → (um_up c 33 0 (nI 8)) p = c p := fun p hp => um_up_q hp
  have G : ∀ p, ¬ p = 67 → (um_up m 67 0 (nI 202)) p = m p := fun p hp => um_up_q hp
  have hcl : ∀ (fuel v : Nat) (b : um_S) (Q : um_S → Prop), v + 1 ≤ 1000000 → (n < 1000 → wp_La_takeTurns_2 Q fuel (nI (v + 1)) (um_J (um_up (lc_emit (um_up c 33 0 (nI 8)) n 16 (nI dp) (c 23 (j + 1))) 6 4 (nI 0)) b)) → (n = 1000 → wp_La_takeTurns_2 Q fuel (nI (v + 1)) (um_J (um_up (um_up (um_up c 33 0 (nI 8)) 3 8 (-2)) 6 4 (nI 0)) b)) → wp_La_takeTurns_2 Q (fuel + 1) (nI v) (um_J c b) := by
    intro fuel v b Q hv q1 q2
    refine p_turnA (s := 7) hT (by omega) t1 s1 a31 p2 a33 (by omega) (by omega) p4 ?_
    unfold wp_La_turnApart
    rw [um_cl1 (show 0 < 2147483648 by omega), um_J_c (q := 32) (by decide), um_up_q (q := 33) (a := 32) (by decide), a32]
    refine ⟨vp_in_nI (by omega) (by decide), p_scopeOf (s := j + 1) (p := 1) (by decide) (by omega) (um_no (by decide) (um_no (by decide) (um_no (by decide) (um_no (by decide) ⟨vp_in_nI (by omega) (by decide), vp_in_nI (by omega) (by decide), ?_⟩))))⟩
    rw [um_cl1 (show j + 1 < 2147483648 by omega), um_J_c (q := 28) (by decide), um_J_c (q := 23) (by decide), um_up_q (q := 33) (a := 28) (by decide), um_up_q (q := 33) (a := 23) (by decide), o4]
    refine p_emits (n := n) (by rw [um_up_q (by decide)]; exact s1) (by rw [um_up_q (by decide)]; exact n1) n3 (fun z => p_Wpop (t := 0) ?_ (by decide) (q1 z)) (fun z => p_Wpop (t := 0) ?_ (by decide) (q2 z))
    · rw [lc_emit_row (by decide), um_up_q (by decide)]
      exact t1
    · rw [um_up_q (by decide), um_up_q (by decide)]
      exact t1
  have hmo : ∀ (b : um_S) (Q : um_S → Prop), (n < 1000 → Q (um_J b (um_up (lm_put (um_up m 67 0 (nI 202)) n 16 (nI dp) (m 56 j)) 38 37 (nI 0)))) → (n = 1000 → Q (um_J b (um_up (um_up (um_up m 67 0 (nI 202)) 38 35 1) 38 37 (nI 0)))) → wp_Mo_goesOn (um_J b m) Q := by
    intro b Q q1 q2
    refine p_goesA (s := 201) t2 b63 (by omega) b67 (by omega) (by omega) p4 ?_
    unfold wp_Mo_apart wp_Mo_apart_140 wp_Mo_apart_247
    rw [um_cl1 (show 0 < 2147483648 by omega), um_J_m (q := 68) (by decide), um_J_m (q := 63) (by decide), um_J_m (q := 67) (by decide), um_up_self, um_up_q (q := 67) (a := 68) (by decide), um_up_q (q := 67) (a := 63) (by decide), b68, b63]
    have i0' : vp_in (nI 0) 2002 := vp_in_nI (by omega) (by decide)
    have ij : vp_in (nI j) 2001 := vp_in_nI (by omega) (by decide)
    refine ⟨i0', ?_⟩
    rintro x1 rfl
    refine ⟨i0', ?_⟩
    rintro x2 rfl
    refine ⟨i0', um_no' (by decide) ⟨i0', um_no' (by decide) ⟨i0', um_no' (by decide) ⟨i0', um_no' (by decide) ⟨i0', um_no' (by decide) ⟨ij, ij, ?_⟩⟩⟩⟩⟩⟩
    rw [um_cl1 (show j < 2147483648 by omega), um_J_m (q := 58) (by decide), um_J_m (q := 56) (by decide), um_up_q (q := 67) (a := 58) (by decide), um_up_q (q := 67) (a := 56) (by decide), o3]
    exact p_Mputpop (r := 0) (n := n) (by decide) (by rw [um_up_q (by decide)]; exact t2) (by rw [um_up_q (by decide)]; exact s2) (by rw [um_up_q (by decide)]; exact n2) n3 q1 q2
  by_cases hlt : n < 1000
  · have z0 : ¬ n = 1000 := by omega
    have hsit1 : ly_sit N 1 n B I D (um_up c 33 0 (nI 8)) (um_up m 67 0 (nI 202)) := ly_sit_row hsit (fun p hp => E p (by omega)) (fun p hp => G p (by omega))
    have hgl1 : ly_gl N v0 i0 ci f L C j n B I dc D bs it ix hs nn dn tn (um_up c 33 0 (nI 8)) (um_up m 67 0 (nI 202)) := ly_gl_row hgl (fun p hp => E p (by omega)) (fun p hp => G p (by omega)) (fun i hi => by rw [G 38 (by decide)])
    have e1 : ∀ p, ¬ (p = 6 ∨ (31 ≤ p ∧ p ≤ 34)) → (um_up (lc_emit (um_up c 33 0 (nI 8)) n 16 (nI dp) (c 23 (j + 1))) 6 4 (nI 0)) p = lc_emit (um_up c 33 0 (nI 8)) n 16 (nI dp) (c 23 (j + 1)) p := fun p hp => um_up_q (by omega)
    have g1 : ∀ p, ¬ (p = 38 ∨ (63 ≤ p ∧ p ≤ 69)) → (um_up (lm_put (um_up m 67 0 (nI 202)) n 16 (nI dp) (m 56 j)) 38 37 (nI 0)) p = lm_put (um_up m 67 0 (nI 202)) n 16 (nI dp) (m 56 j) p := fun p hp => um_up_q (by omega)
    have g2 : ∀ i, ¬ i = 37 → (um_up (lm_put (um_up m 67 0 (nI 202)) n 16 (nI dp) (m 56 j)) 38 37 (nI 0)) 38 i = lm_put (um_up m 67 0 (nI 202)) n 16 (nI dp) (m 56 j) 38 i := fun i hi => um_up_ne (by omega)
    refine ly_oc_one (k := 1) (kr := 1) (B := B) (c1 := um_up (lc_emit (um_up c 33 0 (nI 8)) n 16 (nI dp) (c 23 (j + 1))) 6 4 (nI 0)) (m1 := um_up (lm_put (um_up m 67 0 (nI 202)) n 16 (nI dp) (m 56 j)) 38 37 (nI 0)) ⟨fun fuel v b Q hv hq => hcl fuel v b Q hv (fun _ => hq) (fun w => absurd w z0), fun fuel b Q K2 v1 v2 v3 hq => p_l67 s2 s3 t2 (hmo b _ (fun _ => hq) (fun w => absurd w z0))⟩ (ly_hi_of (fun p hp => by rw [e1 p (by omega), lc_emit_row (by omega), E p (by omega)]) (fun p hp => by rw [g1 p (by omega), lm_put_row (by omega), G p (by omega)]) (fun i hi => by rw [g2 i (by omega), lm_put_38 (by omega), G 38 (by decide)]) (by rw [e1 2 (by decide), lc_emit_2 (by decide), E 2 (by decide)])) ⟨n + 1, I, dc, D, bs, it, ix, hs, nn, dn, tn, ?_, ?_, by omega⟩ (by omega) (by omega)
    · exact ly_mid_emit (D := D) (cx := c 23 (j + 1)) (my := m 56 j) (op := 16) (arg := nI dp) hsit1.1 hlt hIB (fun i hi => by rw [G 59 (by decide)]; exact hend i hi) (by rw [E 24 (by decide), G 56 (by decide)]; exact Or.inl o9) (fun d => Or.inr (Or.inr (Or.inr (Or.inr (Or.inr (Or.inr (Or.inr (Or.inr (Or.inr (Or.inr (Or.inr ⟨rfl, dp, by omega, rfl⟩))))))))))) e1 g1 g2 um_up_self um_up_self
    · refine ly_gl_full (ly_gl_emit hgl1 e1 g1 g2) hI (show k < 150 by omega) ?_ ?_
      · rw [g1 55 (by decide), lm_put_row (by decide), G 55 (by decide)]
        exact p3
      · rw [ly_nh_of (m := m) (by rw [g2 34 (by decide), lm_put_38 (by decide), G 38 (by decide)]) (by rw [g1 42 (by decide), lm_put_row (by decide), G 42 (by decide)]), p10, p6, hy]
  · have z0 : n = 1000 := by omega
    refine ly_oc_bad (k := 1) (kr := 1) (c1 := um_up (um_up (um_up c 33 0 (nI 8)) 3 8 (-2)) 6 4 (nI 0)) (m1 := um_up (um_up (um_up m 67 0 (nI 202)) 38 35 1) 38 37 (nI 0)) ⟨fun fuel v b Q hv hq => hcl fuel v b Q hv (fun w => absurd w hlt) (fun _ => hq), fun fuel b Q K2 v1 v2 v3 hq => p_l67 s2 s3 t2 (hmo b _ (fun w => absurd w hlt) (fun _ => hq))⟩ (ly_hi_of (fun p hp => by rw [um_up_q (by omega), um_up_q (by omega), E p (by omega)]) (fun p hp => by rw [um_up_q (by omega), um_up_q (by omega), G p (by omega)]) (fun i hi => by rw [um_up_ne (by omega), um_up_ne (by omega), G 38 (by decide)]) (by rw [um_up_q (by decide), um_up_q (by decide), E 2 (by decide)])) (Or.inl ⟨?_, ?_, ?_⟩) (by omega) (by omega)
    · rw [um_up_q (by decide), um_up_self]
    · rw [um_up_ne (by decide), um_up_self]
    · rw [um_up_ne (by decide), um_up_ne (by decide), G 38 (by decide)]
      exact s3
/-- all of it, from its x-th catch on -/
theorem ly_apLoop : ∀ (d x n B I dc : Nat) (D bs it ix hs nn dn tn : Nat → Nat) (c m : um_S), x + d = nc → (nh = nc ∨ nh = nc + 1) → ly_mid N 1 n B I D c m → ly_ap N v0 i0 ci f L C k j h0 nc nh 3 100 x (ly_cv (L k) (C k) (L k - x)) x n B I dc D bs it ix hs nn dn tn c m → 2 * ly_T bs 2001 ≤ n → ly_oc (10 * (2000 - B) + 2) 0 c m (ly_over N v0 i0 ci f L C) := by
  intro d
  induction d with
  | zero =>
    intro x n B I dc D bs it ix hs nn dn tn c m hx hnh hmid hap h2
    by_cases hz : nh = nc
    · refine ly_oc_weak (ly_apD1 hmid hap (by omega) hz) (Nat.le_refl _) (Nat.le_refl _) ?_
      rintro B1 c1 m1 ⟨rfl, z1, z2⟩
      exact ⟨n, I, dc, D, bs, it, ix, hs, nn, dn, tn, z1, z2, h2⟩
    · have h := ly_apD2 hmid hap (by omega) hz h2
      refine ly_oc_weak (ly_oc_bind (e := 1) (s2 := 0) (s := 0) h ?_ (by omega) (by omega)) (by omega) (by omega) (fun _ _ _ z => z)
      rintro B1 c1 m1 ⟨n1, I1, dc1, D1, bs1, it1, ix1, hs1, nn1, dn1, tn1, z1, z2, z3⟩
      exact ly_apE z1 z2 (by omega) z3
  | succ d ih =>
    intro x n B I dc D bs it ix hs nn dn tn c m hx hnh hmid hap h2
    have hA := ly_apA hmid hap (by omega) h2
    have hAB : ly_oc (10 * (2000 - B)) 3 c m (fun B1 c1 m1 => ∃ n1 I1 dc1 D1 bs1 it1 ix1 hs1 nn1 dn1 tn1, ly_sit N 1 n1 B1 I1 D1 c1 m1 ∧ ly_ap N v0 i0 ci f L C k j h0 nc nh 5 102 x (ly_cv (L k) (C k) (L k - (x + 1))) (x + 1) n1 B1 I1 dc1 D1 bs1 it1 ix1 hs1 nn1 dn1 tn1 c1 m1 ∧ 2 * ly_T bs1 2001 ≤ n1 + 1) := by
      refine ly_oc_bind (e := 1) (s2 := 0) hA ?_ (by omega) (by omega)
      rintro B1 c1 m1 ⟨n1, I1, dc1, D1, bs1, it1, ix1, hs1, nn1, dn1, tn1, z1, z2, z3⟩
      refine ly_oc_weak (ly_apB z1 z2) (Nat.le_refl _) (Nat.le_refl _) ?_
      rintro B2 c2 m2 ⟨n2, I2, dc2, D2, dn2, tn2, y1, y2, y3⟩
      exact ⟨n2, I2, dc2, D2, bs1, it1, ix1, hs1, nn1, dn2, tn2, y1, y2, by omega⟩
    have hABC : ly_oc (10 * (2000 - B)) 2 c m (fun B1 c1 m1 => ∃ n1 I1 dc1 D1 bs1 it1 ix1 hs1 nn1 dn1 tn1, ly_mid N 1 n1 B1 I1 D1 c1 m1 ∧ ly_ap N v0 i0 ci f L C k j h0 nc nh 3 100 (x + 1) (ly_cv (L k) (C k) (L k - (x + 1))) (x + 1) n1 B1 I1 dc1 D1 bs1 it1 ix1 hs1 nn1 dn1 tn1 c1 m1 ∧ 2 * ly_T bs1 2001 ≤ n1) := by
      refine ly_oc_bind (e := 1) (s2 := 0) hAB ?_ (by omega) (by omega)
      rintro B1 c1 m1 ⟨n1, I1, dc1, D1, bs1, it1, ix1, hs1, nn1, dn1, tn1, z1, z2, z3⟩
      refine ly_oc_weak (ly_apC z1 z2) (Nat.le_refl _) (Nat.le_refl _) ?_
      rintro B2 c2 m2 ⟨rfl, y1, y2⟩
      exact ⟨n1 + 1, I1, dc1, D1, bs1, it1, ix1, hs1, nn1, dn1, tn1, y1, y2, z3⟩
    refine ly_oc_weak (ly_oc_bind (e := 2) (s2 := 0) (s := 0) hABC ?_ (by omega) (by omega)) (by omega) (by omega) (fun _ _ _ z => z)
    rintro B1 c1 m1 ⟨n1, I1, dc1, D1, bs1, it1, ix1, hs1, nn1, dn1, tn1, z1, z2, z3⟩
    exact ih (x + 1) n1 B1 I1 dc1 D1 bs1 it1 ix1 hs1 nn1 dn1 tn1 c1 m1 (by omega) hnh z1 z2 z3
end LayItemAll
