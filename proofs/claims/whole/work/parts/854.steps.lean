/-! lay: the steps of expressions and plain statements -/
section LaySteps
variable {N a n B r I : Nat} {D nd kd sd bd : Nat → Nat} {c m b : um_S}
/-- what the tree says of the topmost node -/
theorem ly_node (h : ly_inv N a n B (r + 1) I D nd kd sd bd c m) (har : a ≤ r) :
    (2 ≤ kd r → kd r ≤ 7 → um_isE m (nd r) (m 40 (nd r)) ∧ um_isE m (nd r) (m 41 (nd r))) ∧ (kd r = 9 → um_isV (m 40 (nd r)) ∧ um_isE m (nd r) (m 41 (nd r))) ∧ (kd r = 10 ∨ kd r = 14 → um_isE m (nd r) (m 40 (nd r))) ∧ (kd r = 11 → um_isS m (nd r) (m 40 (nd r)) ∧ um_isS m (nd r) (m 41 (nd r))) ∧
    (kd r = 12 → um_isE m (nd r) (m 40 (nd r)) ∧ um_isS m (nd r) (m 41 (nd r)) ∧ um_isS m (nd r) (m 42 (nd r))) ∧ (kd r = 13 → um_isE m (nd r) (m 40 (nd r)) ∧ um_isS m (nd r) (m 41 (nd r))) ∧ (kd r = 15 → um_isF (m 40 (nd r))) ∧
    (kd r = 18 → um_isS m (nd r) (m 40 (nd r)) ∧ (m 41 (nd r) = -1 ∨ um_isC m (nd r) (m 41 (nd r))) ∧ (m 42 (nd r) = -1 ∨ um_isS m (nd r) (m 42 (nd r)))) := by
  obtain ⟨e1, e2, e3, -⟩ := ly_inv_ent h har
  obtain ⟨w, y1, y2, y3, y4, y5, y6, y7, y8, y9, y10, y11, -⟩ := ((ly_inv_tree h).2.2.2.1 (nd r) e1).2.2.2.2.2.2.2
  have hw : w = kd r := (nI_eq (a := w) (b := kd r) (by omega) (by omega)).mp (y2.symm.trans e2)
  subst hw
  exact ⟨y4, y5, y6, y7, y8, y9, y10, y11⟩
/-- an expression of two parts -/
theorem ly_step_bin (h : ly_inv N a n B (r + 1) I D nd kd sd bd c m) (har : a ≤ r) (hw : 2 ≤ kd r) (hw7 : kd r ≤ 7) : ly_to N a n B (r + 1) I D kd sd c m := by
  obtain ⟨e1, e2, e3, e4, e5, e6, e7, ab, fi, e8, e9, e10, e11, hform⟩ := ly_inv_ent h har
  have hT := ly_inv_tree h
  have hN := hT.1.1
  obtain ⟨⟨⟨s1, s2, s3⟩, ⟨n1, n2, n3⟩, ⟨b1, b2', b3⟩, -⟩, ⟨t1, t2, t3, t4⟩, hd, -⟩ := id h
  obtain ⟨hd1, -⟩ := hd (by omega)
  rw [Nat.add_sub_cancel] at hd1
  have hE : ly_eE I c m r (nd r) (kd r) (sd r) (bd r) ab fi := by
    rcases hform with z | ⟨-, z, -⟩ | ⟨-, z, -⟩ | ⟨-, z, -⟩ | ⟨-, z, -⟩
    · exact z
    · omega
    · omega
    · omega
    · omega
  obtain ⟨f1, f2, f3, f4, f5, f6⟩ := hE
  have hpd : ∀ s, ly_pd (kd r) s = s := fun s => by unfold ly_pd; rw [if_pos ⟨hw, hw7⟩]
  rw [hpd] at hd1
  have hisE : ly_isE (kd r) = 1 := by unfold ly_isE; rw [if_pos f1]
  obtain ⟨⟨j1, w1, hj1, hx1, hv1, hw1⟩, ⟨j2, w2, hj2, hx2, hv2, hw2⟩⟩ := (ly_node h har).1 hw hw7
  have hcl : ∀ (fuel v : Nat) (b : um_S) (Q : um_S → Prop), v < 1000000 → wp_La_partsThen (nI r) (nI (sd r)) (m 40 (nd r)) (m 41 (nd r)) (nI (kd r)) 0 (um_J (um_up c 33 r (nI (sd r + 1))) b) (fun σ => wp_La_takeTurns_2 Q fuel (nI (v + 1)) σ) → wp_La_takeTurns_2 Q (fuel + 1) (nI v) (um_J c b) := fun fuel v b Q hv hq =>
    p_turnP h har (by omega) hv (by omega) (p_plain (um_tree_uc hT (by decide)) e1 e2 e3 (fun z => absurd z (by omega)) (fun z => absurd z (by omega)) (fun z => absurd z (by omega)) (fun z => absurd z (by omega)) (fun z => absurd z (by omega)) (fun z => absurd z (by omega)) (fun z => absurd z (by omega)) (fun _ _ _ _ _ _ _ => hq))
  have i1 : vp_in (nI r) 2002 := vp_in_nI (by omega) (by decide)
  have hmo : ∀ (b : um_S) (Q : um_S → Prop), (3 ≤ sd r + 1 → wp_Mo_put (nI (kd r)) 0 (m 64 r) (um_J b (um_up m 67 r (nI (sd r + 1)))) (fun σ2 => ∀ σ3 : um_S, σ3 = um_up σ2 38 37 ((σ2 38 37) - 1) → Q σ3)) → (sd r + 1 = 2 → wp_Mo_part (nI r) (m 41 (nd r)) (um_J b (um_up m 67 r (nI (sd r + 1)))) Q) → (sd r + 1 = 1 → wp_Mo_part (nI r) (m 40 (nd r)) (um_J b (um_up m 67 r (nI (sd r + 1)))) Q) → wp_Mo_goesOn (um_J b m) Q := by
    intro b Q q3 q2 q1
    refine p_goesE h har (by omega) (by omega) ?_
    unfold wp_Mo_expression
    rw [um_cl1 (by omega), um_J_m (q := 63) (by decide), um_up_q (q := 67) (a := 63) (by decide), e5, um_J_m (q := 67) (by decide), um_up_self]
    refine ⟨i1, ?_⟩
    rintro x1 rfl
    rw [um_cl1 (by omega), um_J_m (q := 40) (by decide), um_J_m (q := 41) (by decide), um_J_m (q := 64) (by decide), um_up_q (q := 67) (a := 40) (by decide), um_up_q (q := 67) (a := 41) (by decide), um_up_q (q := 67) (a := 64) (by decide)]
    have ik : vp_in (nI (nd r)) 150 := vp_in_nI (by omega) (by decide)
    refine um_yes (nI_le (a := 2) hw (by omega)) ⟨i1, fun z => ⟨i1, q3 ((nI_leI (a := 3) (b := sd r + 1) (by decide) (by omega)).mp z)⟩, fun z => ⟨i1, fun z1 => ⟨ik, q2 ?_⟩, fun z1 => ⟨ik, q1 ((nI_eq (a := sd r + 1) (b := 1) (by omega) (by decide)).mp z1)⟩⟩⟩
    have y1 : ¬ sd r + 1 = 1 := fun q => z1 ((nI_eq (a := sd r + 1) (b := 1) (by omega) (by decide)).mpr q)
    have y3 : ¬ 3 ≤ sd r + 1 := fun q => z (nI_le (a := 3) q (by omega))
    omega
  have hentN : sd r + 1 ≤ 2 → ly_ent N n (n + 1) I B D (um_up c 33 r (nI (sd r + 1))) (um_up m 67 r (nI (sd r + 1))) r (nd r) (kd r) (sd r + 1) (bd r) := by
    intro hs2
    refine ly_ent_st (ly_inv_ent h har) ?_
    intro ab' fi' hf
    rcases hf with ⟨q1, q2, q3, q4, q5, q6⟩ | ⟨-, z, -⟩ | ⟨-, z, -⟩ | ⟨-, z, -⟩ | ⟨-, z, -⟩
    · exact Or.inl ⟨q1, hs2, fun z => by omega, q4, q5, q6⟩
    · omega
    · omega
    · omega
    · omega
  have child : ∀ j w, j < nd r → m 39 j = nI w → w ≤ 7 → sd r ≤ 1 →
      (∀ (fuel v : Nat) (b : um_S) (Q : um_S → Prop), v < 1000000 → wp_La_begin (nI j) (c 32 r) (um_J (um_up c 33 r (nI (sd r + 1))) b) (fun σ => wp_La_takeTurns_2 Q fuel (nI (v + 1)) σ) → wp_La_takeTurns_2 Q (fuel + 1) (nI v) (um_J c b)) →
      (∀ (b : um_S) (Q : um_S → Prop), wp_Mo_part (nI r) (nI j) (um_J b (um_up m 67 r (nI (sd r + 1)))) Q → wp_Mo_goesOn (um_J b m) Q) → ly_to N a n B (r + 1) I D kd sd c m := by
    intro j w hj hv hw' hs' k1 k2
    have hisw : ly_isE w = 1 := by unfold ly_isE; rw [if_pos hw']
    have hX : kd r = 12 → (sd r = 2 ∨ sd r = 3) → (sd r + 1 = 2 ∨ sd r + 1 = 3) := fun z _ => absurd z (by omega)
    have hop : (kd r = 13 ∨ kd r = 18) → 1 ≤ sd r := fun z => z.elim (fun z => absurd z (by omega)) (fun z => absurd z (by omega))
    have hlk : bd r + sd r + ly_isE w = bd r + ly_pd (kd r) (sd r + 1) := by rw [hpd, hisw]; omega
    refine ly_to_child (k2 := j) (w2 := w) (b2 := bd r + sd r) (ab := ab) (fi := fi) (x := c 32 r) (y := m 64 r) h har hX hop (hentN (by omega)) (by omega) hv (by omega) (Or.inl ⟨hw', by omega, f5⟩) f6 ⟨by omega, by omega⟩ hd1 hlk k1 (fun b Q hq => k2 b Q (p_Mpart (by omega) ?_))
    rw [um_up_q (by decide), um_up_q (by decide), um_up_q (by decide), e8, e9]
    exact hq
  rcases (show sd r = 0 ∨ sd r = 1 ∨ sd r = 2 by omega) with z | z | z
  · refine child j1 w1 hj1 hv1 hw1 (by omega) (fun fuel v b Q hv hq => hcl fuel v b Q hv (p_parts (by omega) (by omega) (fun _ => ?_) (fun q => absurd q (by omega)) (fun q => absurd q (by omega)))) (fun b Q hq => hmo b Q (fun q => absurd q (by omega)) (fun q => absurd q (by omega)) (fun _ => ?_))
    · rw [um_up_q (by decide), hx1]
      exact hq
    · rw [hx1]
      exact hq
  · refine child j2 w2 hj2 hv2 hw2 (by omega) (fun fuel v b Q hv hq => hcl fuel v b Q hv (p_parts (by omega) (by omega) (fun q => absurd q (by omega)) (fun _ _ => ?_) (fun q => ?_))) (fun b Q hq => hmo b Q (fun q => absurd q (by omega)) (fun _ => ?_) (fun q => absurd q (by omega)))
    · rw [um_up_q (by decide), hx2]
      exact hq
    · exfalso
      rcases q with ⟨-, q⟩ | q
      · rw [hx2] at q
        exact ly_ne (by omega) q
      · omega
    · rw [hx2]
      exact hq
  · have hnw : ¬ nI (kd r) = -1 := ly_ne (by omega)
    refine ly_to_finish (op := nI (kd r)) (arg := 0) (my := m 64 r) h har (by omega) (by omega) (by unfold ly_rs; rw [if_neg (by omega)]; omega) f5 (fun hlt => ?_) (fun fuel v b Q hv hq => hcl fuel v b Q hv (p_parts (by omega) (by omega) (fun q => absurd q (by omega)) (fun q => absurd q (by omega)) (fun _ => ⟨fun _ => hq, fun q => absurd q hnw⟩))) (fun b Q hq => hmo b Q (fun _ => hq) (fun q => absurd q (by omega)) (fun q => absurd q (by omega)))
    have g1 : ly_g D (n + 1) (bd r + ly_isE (kd r)) n = bd r + 2 := by rw [ly_g_ne (by omega), hd1, z]
    have g2 : ly_g D (n + 1) (bd r + ly_isE (kd r)) (n + 1) = bd r + 1 := by rw [ly_g_at, hisE]
    exact Or.inr (Or.inr (Or.inl ⟨kd r, hw, hw7, rfl, by omega, by omega, by omega, by omega⟩))
end LaySteps
