/-! lay: RETURN's turn -/
section LayRet2
variable {N a n B r I : Nat} {D nd kd sd bd : Nat → Nat} {c m : um_S}
/-- the reference at a RETURN or BREAK: where it stands is remembered -/
theorem p_lv22 {b : um_S} {Q : um_S → Prop} {y : Int32} {w s : Nat} (hr : r < 2002) (hs : s < 1000000) (h67 : m 67 r = nI (s + 1)) (y0 : s = 0 → y = m 64 r) (y1 : ¬ s = 0 → y = m 69 r) (hq : wp_Mo_leaves_22 Q (nI r) (nI w) (um_J b (um_up m 69 r y))) : wp_Mo_leaves (nI r) (nI w) (um_J b m) Q := by
  have i1 : vp_in (nI r) 2002 := vp_in_nI hr (by decide)
  unfold wp_Mo_leaves
  rw [um_cl1 (by omega), um_J_m (q := 67) (by decide), h67]
  refine ⟨i1, fun z => ?_, fun z => ⟨i1, i1, ?_⟩⟩
  · have hs0 : ¬ s = 0 := fun q => z (by rw [q]; rfl)
    rw [y1 hs0, um_up_id] at hq
    exact hq
  · have hs0 : s = 0 := by
      have := (nI_eq (a := s + 1) (b := 1) (by omega) (by decide)).mp z
      omega
    rw [um_J_m (q := 64) (by decide), um_J_um (by decide)]
    rintro σ1 rfl
    rw [← y0 hs0]
    exact hq
theorem ly_step_16 (h : ly_inv N a n B (r + 1) I D nd kd sd bd c m) (har : a ≤ r) (hk : kd r = 16) : ly_to N a n B (r + 1) I D kd sd c m := by
  obtain ⟨hr, hN⟩ := ly_bound h
  obtain ⟨e1, e2, e3, e4, e5, e6, e7, -⟩ := ly_inv_ent h har
  obtain ⟨hb0, hDn, ⟨s1, p1, hp1, hc32, hs1⟩, y, y0, y1, hcx, x0, s0, p0, hp0, hs0, hx0, hxx, hlp0⟩ := ly_topR h har (Or.inl hk)
  obtain ⟨⟨⟨q1, q2, q3⟩, ⟨n1, n2, n3⟩, ⟨b1, b2', b3⟩, ⟨c59, -, hIB⟩, -, -, hitems, -⟩, ⟨t1, t2, t3, t4⟩, hd, -, ho⟩ := id h
  have hI : I ≤ 2000 := by omega
  have hT := ly_inv_tree h
  have E : ∀ q, ¬ q = 33 → (um_up c 33 r (nI (sd r + 1))) q = c q := fun q hq => um_up_q hq
  have G : ∀ q, ¬ (q = 67 ∨ q = 69) → (um_up (um_up m 67 r (nI (sd r + 1))) 69 r y) q = m q := fun q hq => by rw [um_up_q (by omega), um_up_q (by omega)]
  have hF : ly_fr I c m (um_up c 33 r (nI (sd r + 1))) (um_up (um_up m 67 r (nI (sd r + 1))) 69 r y) := ⟨fun q s a1 a2 a3 => by rw [E q (by omega)], fun q j a1 a2 a3 => by rw [G q (by omega)], fun q a1 a2 => G q (by omega)⟩
  have hs1I : s1 ≤ I := by
    obtain ⟨s, p, hp, hs, hx⟩ := ly_cx_sc hcx
    have := ly_sc_eq hp hp1 (by omega) (by omega) (hx.symm.trans hc32)
    omega
  have hcut : ly_cx s1 ((um_up c 33 r (nI (sd r + 1))) 24) ((um_up (um_up m 67 r (nI (sd r + 1))) 69 r y) 56) (c 32 r) y := by
    rw [E 24 (by decide), G 56 (by decide)]
    exact ly_cx_cut hI hcx hp1 (by omega) hc32
  have hit : ∀ j, j < I → ly_item N (n + 1) D (um_up c 33 r (nI (sd r + 1))) (um_up (um_up m 67 r (nI (sd r + 1))) 69 r y) j := fun j hj => ly_item_mono hj (Nat.le_refl _) (fun _ _ => rfl) hF (hitems j hj)
  have hx0' : ly_cx I ((um_up c 33 r (nI (sd r + 1))) 24) ((um_up (um_up m 67 r (nI (sd r + 1))) 69 r y) 56) x0 (m 64 r) := ly_cx_mono (Nat.le_refl I) hF hx0
  -- the reference comes to its search
  have hmo : ∀ (b : um_S) (Q : um_S → Prop), (∀ v3, wp_Mo_leaves_58 Q 100000 (nI r) 16 v3 y (um_J b (um_up (um_up m 67 r (nI (sd r + 1))) 69 r y))) → wp_Mo_goesOn (um_J b m) Q := by
    intro b Q hq
    refine p_goes t2 (by omega) e5 (by omega) e7 (by omega) e2 e3 (fun z => absurd hk (by omega)) (fun z => absurd hk (by omega)) (fun z => absurd hk (by omega)) (fun _ => ?_) (fun _ z => absurd hk z)
    refine p_lv22 (y := y) (s := sd r) (by omega) (by omega) um_up_self (fun z => by rw [um_up_q (by decide)]; exact y0 z) (fun z => by rw [um_up_q (by decide)]; exact y1 z) ?_
    unfold wp_Mo_leaves_22 wp_Mo_loop
    rw [um_cl1 (by omega), um_J_m (q := 64) (by decide), G 64 (by decide), hk]
    refine ⟨vp_in_nI (by omega) (by decide), ?_⟩
    have fin : ∀ x2 : Int32, (¬ (nI 16 = 17) → vp_in (nI r) 2002 ∧ ∀ x3 : Int32, x3 = (um_J b (um_up (um_up m 67 r (nI (sd r + 1))) 69 r y)) 69 r → wp_Mo_leaves_58 Q 100000 (nI r) (nI 16) x2 x3 (um_J b (um_up (um_up m 67 r (nI (sd r + 1))) 69 r y))) := by
      intro x2 _
      refine ⟨vp_in_nI (by omega) (by decide), ?_⟩
      rw [um_J_m (q := 69) (by decide), um_up_self]
      rintro x3 rfl
      exact hq x2
    rcases p_Mloop (b := b) hN (by rw [E 26 (by decide)]; exact hT.1.2.1) I hI hit x0 (m 64 r) hx0' s0 p0 hp0 (by omega) hxx with ⟨-, r2⟩ | ⟨j, -, -, -, r2⟩
    · exact r2 100000 (by omega) _ ⟨fin _, fun z => absurd z (by decide)⟩
    · exact r2 100000 (by omega) _ ⟨fin _, fun z => absurd z (by decide)⟩
  -- the class comes to its search
  have hcl : ∀ (fuel v : Nat) (b : um_S) (Q : um_S → Prop), v < 1000000 → wp_Sc_finallyAround_8 (fun x2 σ1 => (¬ x2 = (-1) → wp_La_leave (nI r) x2 σ1 (fun σ3 => wp_La_takeTurns_2 Q fuel (nI (v + 1)) σ3)) ∧ (x2 = (-1) → wp_La_finish (nI r) 14 0 σ1 (fun σ4 => wp_La_takeTurns_2 Q fuel (nI (v + 1)) σ4))) 100000 0 (c 32 r) (nI (I + 1)) (um_J (um_up c 33 r (nI (sd r + 1))) b) → wp_La_takeTurns_2 Q (fuel + 1) (nI v) (um_J c b) := by
    intro fuel v b Q hv hq
    refine p_turn hT hv t1 (by omega) q1 e4 e1 e6 (by omega) e2 e3 (fun z => absurd hk (by omega)) (fun z => absurd hk (by omega)) (fun _ => ?_) (fun z => absurd hk (by omega)) (fun z => absurd hk (by omega)) (fun z => absurd hk (by omega)) (fun _ _ z => absurd hk z)
    unfold wp_La_turnReturn wp_Sc_finallyAround
    rw [um_cl1 (by omega), um_J_c (q := 32) (by decide), E 32 (by decide), um_J_c (q := 5) (by decide), E 5 (by decide), c59]
    refine ⟨vp_in_nI hr (by decide), ?_⟩
    rintro x1 rfl
    exact hq
  rcases p_finR hN s1 (by omega) (fun j hj => hit j (by omega)) (c 32 r) y hcut with ⟨r1, r2⟩ | ⟨j, q, hj, hq, hz, r1, r2⟩
  · -- no finally is around it: RET
    have hc0 := ly_core_upm (v2 := y) (ly_core_up (v := nI (sd r + 1)) (v2 := nI (sd r + 1)) (ly_inv_core h) (q := 33) (k := r) (q2 := 67) (k2 := r) (Or.inl ⟨by decide, by decide, Nat.le_refl _⟩) (Or.inl ⟨by decide, by decide, Nat.le_refl _⟩)) (q2 := 69) (k2 := r) (Or.inl ⟨by decide, by decide, Nat.le_refl _⟩)
    have hX : ∀ p, p < n → ly_X (r + 1) kd sd c p → ly_X r kd sd (um_up c 33 r (nI (sd r + 1))) p := by
      rintro p - ⟨i, a1, a2, a3, a4⟩
      by_cases e : i = r
      · subst e
        exact absurd (a2.symm.trans hk) (by decide)
      · exact ⟨i, by omega, a2, a3, by rw [E 34 (by decide)]; exact a4⟩
    refine ly_to_fin2 (c' := um_up c 33 r (nI (sd r + 1))) (m' := um_up (um_up m 67 r (nI (sd r + 1))) 69 r y) (x := c 32 r) (my := y) (op := 14) (va := 0) (vm := 0) (d1 := 0) (X := ly_X r kd sd (um_up c 33 r (nI (sd r + 1)))) h har (by omega) (by rw [hk]; unfold ly_rs; rw [if_pos (Or.inl rfl)]; omega) ⟨by rw [E 3 (by decide)]; exact q1, by rw [E 2 (by decide)]; exact n1, by rw [E 6 (by decide)]; exact t1⟩ ⟨by rw [G 38 (by decide)]; exact q2, by rw [G 38 (by decide)]; exact q3, by rw [G 38 (by decide)]; exact n2, by rw [G 38 (by decide)]; exact t2⟩ ((ly_kp_uc (by omega)).trans ((ly_kp_um (by omega)).trans (ly_kp_um (by omega)))) (G 59 (by decide)) (G 55 (by decide)) (G 57 (by decide)) (fun i _ => by rw [G 68 (by decide)]) (fun hlt => ?_) (fun p hp hx => hx) (by rw [hb0, hk]; rfl) (fun fuel v b Q hv hq => hcl fuel v b Q hv (r1 b 100000 (I + 1) (by omega) (by omega) (by omega) _ ⟨fun z => absurd rfl z, fun _ => ?_⟩)) (fun b Q hq => hmo b Q (fun v3 => r2 (nI r) v3 b 100000 (by omega) Q ?_))
    · refine ly_core_emit (d1 := 0) (ly_core_X hc0 hX) hlt (fun k hk => ly_g_ne (by omega)) (by rw [E 24 (by decide), G 56 (by decide)]; exact Or.inl hcx) (Or.inl ?_) (fun _ _ x => x)
      exact Or.inr (Or.inr (Or.inr (Or.inr (Or.inr (Or.inr (Or.inr (Or.inr (Or.inr (Or.inl ⟨rfl, by rw [ly_g_ne (by omega)]; exact hDn⟩)))))))))
    · unfold wp_La_finish
      rw [um_cl1 (by omega), um_J_c (q := 32) (by decide), E 32 (by decide)]
      exact ⟨vp_in_nI hr (by decide), hq⟩
    · unfold wp_Mo_leaves_103 wp_Mo_leaves_154 wp_Mo_leaves_188 wp_Mo_leaves_213
      refine um_yes rfl (um_yes' rfl (um_yes' rfl ⟨vp_in_nI (by omega) (by decide), ?_⟩))
      rw [um_cl1 (by omega), um_J_m (q := 69) (by decide), um_up_self]
      exact hq
  · -- it goes out of item j
    have h25 : ¬ c 25 (j + 1) = -1 := by
      rw [E 25 (by decide)] at hz
      exact hz
    refine ly_leave (y := y) (j := j) h har (Or.inl hk) hp1 hc32 hs1 hj (by omega) h25 (fun z => absurd hk (by omega)) (fun fuel v b Q hv hq2 => hcl fuel v b Q hv (r1 b 100000 (I + 1) (by omega) (by omega) (by omega) _ ⟨fun _ => hq2, fun z => absurd z (ly_ne (by omega))⟩)) (fun b Q hq2 => hmo b Q (fun v3 => r2 (nI r) v3 b 100000 (by omega) Q ?_))
    obtain ⟨nd0, ov, dp, i1, i2, i3, i4, i5, i6, i7, i8, i9, i10, i11⟩ := hitems j (by omega)
    have w18 : m 39 nd0 = 18 := by
      rcases i10 with ⟨-, -, z, -⟩ | ⟨z, -⟩
      · exact absurd z h25
      · exact z
    unfold wp_Mo_leaves_103
    rw [ly_half hq (by omega), um_cl1 (show j < 2147483648 by omega), um_cl1 (show r < 2147483648 by omega), um_J_m (q := 55) (by decide), G 55 (by decide), i2, um_cl1 (show nd0 < 2147483648 by omega), um_J_m (q := 39) (by decide), G 39 (by decide), um_J_m (q := 56) (by decide), G 56 (by decide), um_J_um (by decide)]
    refine um_no (ly_ne (by omega)) ⟨vp_in_nI (by omega) (by decide), vp_in_nI (by omega) (by decide), um_yes' w18 ⟨vp_in_nI (by omega) (by decide), vp_in_nI (by omega) (by decide), ?_⟩⟩
    rintro σ1 rfl
    exact hq2
end LayRet2
