/-! lay: a part of a node is begun; a node ends without an instruction -/
section LayChild
variable {N a n B r I : Nat} {D nd kd sd bd : Nat → Nat} {c m : um_S} {k2 w2 b2 ab fi s : Nat} {x y : Int32}
theorem ly_inv_ent (h : ly_inv N a n B (r + 1) I D nd kd sd bd c m) (har : a ≤ r) : ly_ent N n (n + 1) I B D c m r (nd r) (kd r) (sd r) (bd r) := h.1.2.2.2.2.2.2.2.2.1 r har (by omega)
theorem ly_inv_tree (h : ly_inv N a n B r I D nd kd sd bd c m) : um_tree N c m := h.1.2.2.2.2.1
/-- the state of the topmost entry changes -/
theorem ly_inc (h : ly_inv N a n B (r + 1) I D nd kd sd bd c m) (hX : kd r = 12 → (sd r = 2 ∨ sd r = 3) → (s = 2 ∨ s = 3)) (hent : a ≤ r → ly_ent N n (n + 1) I B D (um_up c 33 r (nI s)) (um_up m 67 r (nI s)) r (nd r) (kd r) s (bd r)) :
    ly_core N a n B (r + 1) I D nd kd (ly_g sd r s) bd (ly_X (r + 1) kd (ly_g sd r s) (um_up c 33 r (nI s))) (um_up c 33 r (nI s)) (um_up m 67 r (nI s)) := by
  have h1 := ly_core_up (v := nI s) (v2 := nI s) (ly_inv_core h) (q := 33) (k := r) (q2 := 67) (k2 := r) (Or.inl ⟨by decide, by decide, Nat.le_refl _⟩) (Or.inl ⟨by decide, by decide, Nat.le_refl _⟩)
  have h2 := ly_core_X (X2 := ly_X (r + 1) kd (ly_g sd r s) (um_up c 33 r (nI s))) h1 (by
    rintro p - ⟨i, a1, a2, a3, a4⟩
    refine ⟨i, a1, a2, ?_, by rw [um_up_q (by decide)]; exact a4⟩
    by_cases e : i = r
    · subst e
      rw [ly_g_at]
      exact hX a2 a3
    · rw [ly_g_ne e]
      exact a3)
  have h3 := ly_core_gh (nd2 := nd) (kd2 := kd) (sd2 := ly_g sd r s) (bd2 := bd) h2 (fun i hi => ⟨rfl, rfl, ly_g_ne (by omega), rfl⟩)
  refine ly_core_top h3 (fun h0 => by rw [ly_g_at]; exact hent h0) (fun h0 => ?_)
  rw [ly_g_ne (by omega)]
  exact ly_inv_link h h0
theorem ly_open_inc (h : ly_open a (r + 1) I kd sd m) (hop : (kd r = 13 ∨ kd r = 18) → 1 ≤ sd r ∧ 1 ≤ s) {v : Int32} : ly_open a (r + 1) I kd (ly_g sd r s) (um_up m 67 r v) := by
  refine ⟨fun j hj hj2 => ?_, fun i i2 j j2 a1 a2 a3 a4 a5 a6 a7 a8 a9 => ?_⟩
  · rw [um_up_q (by decide)] at hj2
    obtain ⟨i, a1, a2, a3, a4, a5⟩ := h.1 j hj hj2
    refine ⟨i, a1, a2, a3, ?_, by rw [um_up_q (by decide)]; exact a5⟩
    by_cases e : i = r
    · subst e
      rw [ly_g_at]
      exact (hop a3).2
    · rw [ly_g_ne e]
      exact a4
  · rw [um_up_q (by decide)] at a8 a9
    have g : ∀ i, (kd i = 13 ∨ kd i = 18) → 1 ≤ ly_g sd r s i → 1 ≤ sd i := by
      intro i k1 k2
      by_cases e : i = r
      · subst e
        exact (hop k1).1
      · rwa [ly_g_ne e] at k2
    exact h.2 i i2 j j2 a1 a2 a3 a4 (g i a4 a5) a6 (g i2 a6 a7) a8 a9
/-- a part of the topmost node is begun -/
theorem ly_to_child (h : ly_inv N a n B (r + 1) I D nd kd sd bd c m) (har : a ≤ r) (hX : kd r = 12 → (sd r = 2 ∨ sd r = 3) → (sd r + 1 = 2 ∨ sd r + 1 = 3)) (hop : (kd r = 13 ∨ kd r = 18) → 1 ≤ sd r)
    (hent : ly_ent N n (n + 1) I B D (um_up c 33 r (nI (sd r + 1))) (um_up m 67 r (nI (sd r + 1))) r (nd r) (kd r) (sd r + 1) (bd r))
    (hk : k2 < N) (hw : m 39 k2 = nI w2) (hw2 : w2 ≤ 18) (hf : (w2 ≤ 7 ∧ b2 + k2 ≤ 149 ∧ ly_cy I (c 24) (m 56) x y) ∨ (8 ≤ w2 ∧ b2 = 0 ∧ ly_cx I (c 24) (m 56) x y)) (hup : ly_up I (c 24) (c 25) (c 27) (c 28) x ab fi) (h149 : ab + k2 ≤ 149 ∧ fi + k2 ≤ 149)
    (hD : D n = b2) (hl : b2 + ly_isE w2 = bd r + ly_pd (kd r) (sd r + 1))
    (hcl : ∀ (fuel v : Nat) (b : um_S) (Q : um_S → Prop), v < 1000000 → wp_La_begin (nI k2) x (um_J (um_up c 33 r (nI (sd r + 1))) b) (fun σ => wp_La_takeTurns_2 Q fuel (nI (v + 1)) σ) → wp_La_takeTurns_2 Q (fuel + 1) (nI v) (um_J c b))
    (hmo : ∀ (b : um_S) (Q : um_S → Prop), wp_Mo_begin (nI k2) y (nI ab) (nI fi) (um_J b (um_up m 67 r (nI (sd r + 1)))) Q → wp_Mo_goesOn (um_J b m) Q) : ly_to N a n B (r + 1) I D kd sd c m := by
  obtain ⟨⟨⟨s1, s2, s3⟩, ⟨n1, n2, n3⟩, ⟨b1, b2', b3⟩, -⟩, ⟨t1, t2, t3, t4⟩, hd, -, ho⟩ := id h
  refine ly_to_begin (t := r + 1) (c' := um_up c 33 r (nI (sd r + 1))) (m' := um_up m 67 r (nI (sd r + 1))) (by omega) (by rw [um_up_q (by decide)]; exact s2) (by rw [um_up_q (by decide)]; exact s3) (by rw [um_up_q (by decide)]; exact b1) (by rw [um_up_q (by decide)]; exact b2') b3 (by rw [um_up_q (by decide)]; exact t1) (by rw [um_up_q (by decide)]; exact t2) ((ly_kp_uc (by omega)).trans (ly_kp_um (by omega))) (fun hB => ?_) hcl hmo
  refine ⟨_, _, _, _, I, D, ly_begin_inv (ly_inc h hX (fun _ => hent)) (by omega) t4 hB t3 hk (by rw [um_up_q (by decide)]; exact hw) hw2 (by rw [um_up_q (by decide), um_up_q (by decide)]; exact hf) (by rw [um_up_q (by decide), um_up_q (by decide), um_up_q (by decide), um_up_q (by decide)]; exact hup) h149 hD (fun _ => ?_) (fun e => by omega) (fun _ => (hd (by omega)).2) (ly_open_inc ho (fun z => ⟨hop z, by omega⟩)), ?_, ly_gw_id (um_up_q (by decide)) (um_up_q (by decide)) (um_up_q (by decide)), fun _ _ => rfl⟩
  · rw [Nat.add_sub_cancel, ly_g_at]
    exact hl
  · refine ly_mu_begin hB (by omega) (fun i hi => ?_) ly_g_at
    rw [ly_g_ne (by omega), ly_g_ne (show ¬ i = r + 1 by omega)]
    by_cases e : i = r
    · subst e
      rw [ly_g_at]
      unfold ly_rs
      by_cases z : kd i = 16 ∨ kd i = 17
      · rw [if_pos z, if_pos z]
        exact Nat.le_refl _
      · rw [if_neg z, if_neg z]
        omega
    · rw [ly_g_ne e]
      exact Nat.le_refl _
/-- the topmost entry has ended, and nothing was laid down -/
theorem ly_pop (h : ly_inv N a n B (r + 1) I D nd kd sd bd c m) (har : a ≤ r) (hno1 : ¬ (kd r = 12 ∧ (sd r = 2 ∨ sd r = 3))) (hno2 : ¬ ((kd r = 13 ∨ kd r = 18) ∧ 1 ≤ sd r)) (hD : D n = bd r + ly_isE (kd r)) {s1 s2 : Int32} :
    ly_inv N a n B r I D nd kd sd bd (um_up (um_up c 33 r s1) 6 4 (nI r)) (um_up (um_up m 67 r s2) 38 37 (nI r)) := by
  obtain ⟨-, ⟨t1, t2, t3, t4⟩, hd, -, ho1, ho2⟩ := id h
  have hX : ∀ p, p < n → ly_X (r + 1) kd sd c p → ly_X r kd sd c p := by
    rintro p - ⟨i, a1, a2, a3, a4⟩
    by_cases e : i = r
    · subst e
      exact absurd ⟨a2, a3⟩ hno1
    · exact ⟨i, by omega, a2, a3, a4⟩
  have hc1 := ly_core_up (v := s1) (v2 := s2) (ly_core_X (ly_inv_core h) hX) (q := 33) (k := r) (q2 := 67) (k2 := r) (Or.inl ⟨by decide, by decide, Nat.le_refl _⟩) (Or.inl ⟨by decide, by decide, Nat.le_refl _⟩)
  have hc3 := ly_core_up (v := nI r) (v2 := nI r) hc1 (q := 6) (k := 4) (q2 := 38) (k2 := 37) (Or.inr rfl) (Or.inr ⟨rfl, rfl⟩)
  have e68 : ∀ q, q = 59 ∨ q = 68 → (um_up (um_up m 67 r s2) 38 37 (nI r)) q = m q := fun q hq => by rw [um_up_q (by omega), um_up_q (by omega)]
  refine ⟨ly_core_X hc3 ?_, ⟨um_up_self, um_up_self, by omega, t4⟩, ?_, ?_, ?_, ?_⟩
  · rintro p - ⟨i, a1, a2, a3, a4⟩
    exact ⟨i, a1, a2, a3, by rw [um_up_q (by decide), um_up_q (by decide)]; exact a4⟩
  · intro h0
    have := ly_inv_link h h0
    exact ⟨by rw [hD]; exact this, (hd (by omega)).2⟩
  · intro e
    obtain ⟨-, b0, k0⟩ := hd (by omega)
    subst e
    rw [hD, b0, ly_isE, if_neg (by omega)]
  · intro j hj hj2
    rw [e68 59 (Or.inl rfl)] at hj2
    obtain ⟨i, a1, a2, a3, a4, a5⟩ := ho1 j hj hj2
    by_cases e : i = r
    · subst e
      exact absurd ⟨a3, a4⟩ hno2
    · exact ⟨i, a1, by omega, a3, a4, by rw [e68 68 (Or.inr rfl)]; exact a5⟩
  · intro i i2 j j2 a1 a2 a3 a4 a5 a6 a7 a8 a9
    rw [e68 68 (Or.inr rfl)] at a8 a9
    exact ho2 i i2 j j2 a1 a2 (by omega) a4 a5 a6 a7 a8 a9
theorem ly_to_pop (h : ly_inv N a n B (r + 1) I D nd kd sd bd c m) (har : a ≤ r) (hno1 : ¬ (kd r = 12 ∧ (sd r = 2 ∨ sd r = 3))) (hno2 : ¬ ((kd r = 13 ∨ kd r = 18) ∧ 1 ≤ sd r)) (hD : D n = bd r + ly_isE (kd r)) (hrs : 1 ≤ ly_rs (kd r) (sd r))
    (hcl : ∀ (fuel v : Nat) (b : um_S) (Q : um_S → Prop), v < 1000000 → wp_Wo_pop (um_J (um_up c 33 r (nI (sd r + 1))) b) (fun σ => wp_La_takeTurns_2 Q fuel (nI (v + 1)) σ) → wp_La_takeTurns_2 Q (fuel + 1) (nI v) (um_J c b))
    (hmo : ∀ (b : um_S) (Q : um_S → Prop), (∀ σ3 : um_S, σ3 = um_up (um_J b (um_up m 67 r (nI (sd r + 1)))) 38 37 (((um_J b (um_up m 67 r (nI (sd r + 1)))) 38 37) - 1) → Q σ3) → wp_Mo_goesOn (um_J b m) Q) : ly_to N a n B (r + 1) I D kd sd c m := by
  obtain ⟨⟨⟨s1, s2, s3⟩, ⟨n1, n2, n3⟩, ⟨b1, b2', b3⟩, -⟩, ⟨t1, t2, t3, t4⟩, hd, -, ho⟩ := id h
  refine ⟨um_up (um_up c 33 r (nI (sd r + 1))) 6 4 (nI r), um_up (um_up m 67 r (nI (sd r + 1))) 38 37 (nI r), ⟨fun fuel v b Q hv hq => hcl fuel v b Q hv (p_Wpop (t := r) (by rw [um_up_q (by decide)]; exact t1) (by omega) hq), fun b Q hq => hmo b Q ?_⟩, ?_, Or.inl ⟨n, B, r, I, D, nd, kd, sd, bd, ly_pop h har hno1 hno2 hD, ly_mu_pop har hrs, Nat.le_refl _, ly_gw_id (by rw [um_up_q (by decide), um_up_q (by decide)]) (by rw [um_up_q (by decide), um_up_q (by decide)]) (by rw [um_up_q (by decide), um_up_q (by decide)]), by omega, fun _ _ => rfl⟩⟩
  · rw [um_J_m (q := 38) (by decide), um_up_q (by decide), t2, show nI (r + 1) - 1 = nI r from um_pred (a := r + 1) (by omega), um_J_um (by decide)]
    rintro σ3 rfl
    exact hq
  · exact ((ly_kp_uc (by omega)).trans (ly_kp_uc (by omega))).trans ((ly_kp_um (by omega)).trans (ly_kp_um (by omega)))
end LayChild
