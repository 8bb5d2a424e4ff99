/-! lay: a RETURN or BREAK goes out of a TRY with a finally -/
section LayLeave
variable {N a n B r I : Nat} {D nd kd sd bd : Nat → Nat} {c m : um_S} {y : Int32} {j s1 p1 : Nat}
theorem ly_leave (h : ly_inv N a n B (r + 1) I D nd kd sd bd c m) (har : a ≤ r) (hk : kd r = 16 ∨ kd r = 17) (hp1 : p1 < 3) (hc32 : c 32 r = nI (4 * s1 + p1)) (hs1 : sd r + s1 ≤ 2000) (hj : j < s1) (hjI : j < I) (h25 : ¬ c 25 (j + 1) = -1) (hlp : kd r = 17 → ∃ s2 p2, p2 < 3 ∧ s2 ≤ j ∧ c 23 (j + 1) = nI (4 * s2 + p2) ∧ c 26 s2 = c 26 s1)
    (hcl : ∀ (fuel v : Nat) (b : um_S) (Q : um_S → Prop), v < 1000000 → wp_La_leave (nI r) (nI (j + 1)) (um_J (um_up c 33 r (nI (sd r + 1))) b) (fun σ => wp_La_takeTurns_2 Q fuel (nI (v + 1)) σ) → wp_La_takeTurns_2 Q (fuel + 1) (nI v) (um_J c b))
    (hmo : ∀ (b : um_S) (Q : um_S → Prop), wp_Mo_last (nI j) (um_J b (um_up (um_up (um_up m 67 r (nI (sd r + 1))) 69 r y) 69 r (m 56 j))) Q → wp_Mo_goesOn (um_J b m) Q) : ly_to N a n B (r + 1) I D kd sd c m := by
  obtain ⟨hr, hN⟩ := ly_bound h
  obtain ⟨e1, e2, e3, e4, e5, e6, e7, ab0, fi0, e8, e9, e10, e11, -⟩ := ly_inv_ent h har
  obtain ⟨hb0, hDn, -, y0, -, -, hcx, x0, s0, p0, hp0, hs0, hx0, hxx, hlp0⟩ := ly_topR h har hk
  obtain ⟨⟨⟨q1, q2, q3⟩, ⟨n1, n2, n3⟩, ⟨b1, b2', b3⟩, ⟨-, -, hIB⟩, -, -, hitems, -⟩, ⟨t1, t2, t3, t4⟩, hd, -, ho⟩ := id h
  obtain ⟨nd0, ov, dp, i1, i2, i3, i4, i5, i6, i7, i8, i9, i10, i11⟩ := hitems j hjI
  have hT := ly_inv_tree h
  obtain ⟨w18, k24, k25, sc, pc, hpc, hsc, e23, k26⟩ : m 39 nd0 = 18 ∧ c 24 (j + 1) = nI nd0 ∧ c 25 (j + 1) = m 42 nd0 ∧ ∃ s p : Nat, p < 3 ∧ s ≤ j ∧ c 23 (j + 1) = nI (4 * s + p) ∧ c 26 (j + 1) = c 26 s := by
    rcases i10 with ⟨-, -, z, -⟩ | z
    · exact absurd z h25
    · exact z
  have hS : um_isS m nd0 (m 42 nd0) := by
    obtain ⟨w, y1, y2, y3, y4, y5, y6, y7, y8, y9, y10, y11, -⟩ := (hT.2.2.2.1 nd0 i1).2.2.2.2.2.2.2
    have hw : w = 18 := (nI_eq (a := w) (b := 18) (by omega) (by decide)).mp (y2.symm.trans w18)
    rcases (y11 hw).2.2 with z | z
    · rw [← k25] at z
      exact absurd z h25
    · exact z
  obtain ⟨k2, w2, hk2, hx2, hv2, hw2, hw2'⟩ := hS
  have E : ∀ q, ¬ (q = 32 ∨ q = 33) → (um_up (um_up c 33 r (nI (sd r + 1))) 32 r (c 23 (j + 1))) q = c q := fun q hq => by rw [um_up_q (by omega), um_up_q (by omega)]
  have G : ∀ q, ¬ (q = 67 ∨ q = 69) → (um_up (um_up (um_up m 67 r (nI (sd r + 1))) 69 r y) 69 r (m 56 j)) q = m q := fun q hq => by rw [um_up_q (by omega), um_up_q (by omega), um_up_q (by omega)]
  have hF : ly_fr I c m (um_up (um_up c 33 r (nI (sd r + 1))) 32 r (c 23 (j + 1))) (um_up (um_up (um_up m 67 r (nI (sd r + 1))) 69 r y) 69 r (m 56 j)) := ⟨fun q s a1 a2 a3 => by rw [E q (by omega)], fun q j a1 a2 a3 => by rw [G q (by omega)], fun q a1 a2 => G q (by omega)⟩
  have hcxj : ly_cx I (c 24) (m 56) (c 23 (j + 1)) (m 56 j) := ly_cx_mono (I := j) (by omega) ly_fr.rf i9
  have hcl2 : ∀ (fuel v : Nat) (b : um_S) (Q : um_S → Prop), v < 1000000 → wp_La_begin (nI k2) (nI (4 * (j + 1) + 2)) (um_J (um_up (um_up c 33 r (nI (sd r + 1))) 32 r (c 23 (j + 1))) b) (fun σ => wp_La_takeTurns_2 Q fuel (nI (v + 1)) σ) → wp_La_takeTurns_2 Q (fuel + 1) (nI v) (um_J c b) := by
    intro fuel v b Q hv hq
    refine hcl fuel v b Q hv ?_
    unfold wp_La_leave
    rw [um_cl1 (show r < 2147483648 by omega), um_cl1 (show j + 1 < 2147483648 by omega), um_J_c (q := 23) (by decide), um_up_q (q := 33) (a := 23) (by decide), um_J_uc (by decide)]
    refine ⟨vp_in_nI (by omega) (by decide), vp_in_nI hr (by decide), ?_⟩
    rintro σ1 rfl
    refine ⟨vp_in_nI (by omega) (by decide), p_within (p := 2) (by decide) (by omega) ?_⟩
    rw [um_J_c (q := 25) (by decide), E 25 (by decide), k25, hx2]
    exact hq
  have hmo2 : ∀ (b : um_S) (Q : um_S → Prop), wp_Mo_begin (nI k2) (m 56 j) (nI (ov + 1)) (nI (dp + 1)) (um_J b (um_up (um_up (um_up m 67 r (nI (sd r + 1))) 69 r y) 69 r (m 56 j))) Q → wp_Mo_goesOn (um_J b m) Q := by
    intro b Q hq
    refine hmo b Q ?_
    unfold wp_Mo_last
    rw [um_cl1 (show j < 2147483648 by omega), um_J_m (q := 55) (by decide), G 55 (by decide), i2, um_cl1 (show nd0 < 2147483648 by omega), um_J_m (q := 42) (by decide), G 42 (by decide), um_J_m (q := 56) (by decide), G 56 (by decide), um_J_m (q := 57) (by decide), G 57 (by decide), um_J_m (q := 58) (by decide), G 58 (by decide), i3, i5, hx2, show nI ov + 1 = nI (ov + 1) from um_succ, show nI dp + 1 = nI (dp + 1) from um_succ]
    exact ⟨vp_in_nI (by omega) (by decide), vp_in_nI (by omega) (by decide), vp_in_nI (by omega) (by decide), vp_in_nI (by omega) (by decide), vp_in_nI (by omega) (by decide), hq⟩
  refine ly_to_begin (t := r + 1) (c' := um_up (um_up c 33 r (nI (sd r + 1))) 32 r (c 23 (j + 1))) (m' := um_up (um_up (um_up m 67 r (nI (sd r + 1))) 69 r y) 69 r (m 56 j)) (by omega) (by rw [G 38 (by decide)]; exact q2) (by rw [G 38 (by decide)]; exact q3) (by rw [E 2 (by decide)]; exact b1) (by rw [G 38 (by decide)]; exact b2') b3 (by rw [E 6 (by decide)]; exact t1) (by rw [G 38 (by decide)]; exact t2) (((ly_kp_uc (by omega)).trans (ly_kp_uc (by omega))).trans (((ly_kp_um (by omega)).trans (ly_kp_um (by omega))).trans (ly_kp_um (by omega)))) (fun hB => ?_) hcl2 hmo2
  have hc0 := ly_core_up (v := c 23 (j + 1)) (v2 := m 56 j) (ly_core_upm (v2 := y) (ly_core_up (v := nI (sd r + 1)) (v2 := nI (sd r + 1)) (ly_inv_core h) (q := 33) (k := r) (q2 := 67) (k2 := r) (Or.inl ⟨by decide, by decide, Nat.le_refl _⟩) (Or.inl ⟨by decide, by decide, Nat.le_refl _⟩)) (q2 := 69) (k2 := r) (Or.inl ⟨by decide, by decide, Nat.le_refl _⟩)) (q := 32) (k := r) (q2 := 69) (k2 := r) (Or.inl ⟨by decide, by decide, Nat.le_refl _⟩) (Or.inl ⟨by decide, by decide, Nat.le_refl _⟩)
  have hc1 := ly_core_X (X2 := ly_X (r + 1) kd (ly_g sd r (sd r + 1)) (um_up (um_up c 33 r (nI (sd r + 1))) 32 r (c 23 (j + 1)))) hc0 (by
    rintro p hp ⟨i, a1, a2, a3, a4⟩
    by_cases e : i = r
    · subst e
      rcases hk with k | k <;> exact absurd (a2.symm.trans k) (by decide)
    · exact ⟨i, a1, a2, by rw [ly_g_ne e]; exact a3, by rw [E 34 (by decide)]; exact a4⟩)
  have hc2 := ly_core_gh (nd2 := nd) (kd2 := kd) (sd2 := ly_g sd r (sd r + 1)) (bd2 := bd) hc1 (fun i hi => ⟨rfl, rfl, ly_g_ne (by omega), rfl⟩)
  have hent : ly_ent N n (n + 1) I B D (um_up (um_up c 33 r (nI (sd r + 1))) 32 r (c 23 (j + 1))) (um_up (um_up (um_up m 67 r (nI (sd r + 1))) 69 r y) 69 r (m 56 j)) r (nd r) (kd r) (sd r + 1) (bd r) := by
    refine ⟨e1, by rw [G 39 (by decide)]; exact e2, e3, by rw [E 31 (by decide)]; exact e4, by rw [G 63 (by decide)]; exact e5, by rw [um_up_q (by decide), um_up_self], by rw [um_up_q (by decide), um_up_q (by decide), um_up_self], ab0, fi0, by rw [G 65 (by decide)]; exact e8, by rw [G 66 (by decide)]; exact e9, e10, e11, Or.inr (Or.inr (Or.inr (Or.inl ⟨hb0, hk, by omega, ⟨sc, pc, hpc, by rw [um_up_self]; exact e23, by omega⟩, ?_, x0, s0, p0, hp0, hs0, ?_, hxx, fun z => ?_⟩)))⟩
    · rw [um_up_self, um_up_self]
      exact ly_cx_mono (Nat.le_refl I) hF hcxj
    · rw [G 64 (by decide)]
      exact ly_cx_mono (Nat.le_refl I) hF hx0
    · obtain ⟨s3, p3, z1, z2, z3, z4⟩ := hlp0 z
      obtain ⟨s2, p2, y1, y2, y3, y4⟩ := hlp z
      have es : s3 = s1 := ly_sc_eq z1 hp1 (by omega) (by omega) (z3.symm.trans hc32)
      refine ⟨s2, p2, y1, by omega, by rw [um_up_self]; exact y3, ?_⟩
      rw [E 26 (by decide), z4, y4, es]
  have hc3 := ly_core_top hc2 (fun _ => by rw [ly_g_at]; exact hent) (fun h0 => by rw [ly_g_ne (by omega)]; exact ly_inv_link h h0)
  have hup : ly_up I (c 24) (c 25) (c 27) (c 28) (nI (4 * (j + 1) + 2)) (ov + 1) (dp + 1) := Or.inr ⟨j, 2, ov, dp, hjI, by decide, rfl, i4, i6, by rw [if_neg (by rw [k24]; exact ly_ne (by omega))], by rw [if_neg h25]⟩
  have hpd : ∀ s, ly_pd (kd r) s = 0 := fun s => by
    rcases hk with k | k <;> rw [k] <;> simp [ly_pd]
  refine ⟨_, _, _, _, I, D, ly_begin_inv hc3 (by omega) t4 hB t3 (by omega) (by rw [G 39 (by decide)]; exact hv2) hw2' (Or.inr ⟨hw2, rfl, ?_⟩) (by rw [E 24 (by decide), E 25 (by decide), E 27 (by decide), E 28 (by decide)]; exact hup) ⟨by omega, by omega⟩ hDn (fun _ => ?_) (fun e => by omega) (fun _ => (hd (by omega)).2) (ly_open_keep ho (by rcases hk with k | k <;> rw [k] <;> decide) (G 59 (by decide)) (fun i _ => by rw [G 68 (by decide)])), ?_, ly_gw_id (G 55 (by decide)) (G 57 (by decide)) (G 59 (by decide)), fun _ _ => rfl⟩
  · rw [E 24 (by decide), G 56 (by decide)]
    exact Or.inr ⟨j, hjI, Or.inr (Or.inr ⟨by rw [k24]; exact ly_ne (by omega), rfl, rfl⟩)⟩
  · rw [Nat.add_sub_cancel, ly_g_at, hb0, hpd]
    unfold ly_isE
    rw [if_neg (by omega)]
  · refine ly_mu_begin hB (by omega) (fun i hi => ?_) ly_g_at
    rw [ly_g_ne (by omega), ly_g_ne (show ¬ i = r + 1 by omega)]
    by_cases e : i = r
    · subst e
      unfold ly_rs
      rw [if_pos hk, if_pos hk]
      exact Nat.le_refl _
    · rw [ly_g_ne e]
      exact Nat.le_refl _
end LayLeave
