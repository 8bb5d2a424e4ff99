/-! lay: the steps of SKIP, SET, OUT, THROW, SEQUENCE, CALL -/
section LayStmts2
variable {N a n B r I : Nat} {D nd kd sd bd : Nat → Nat} {c m b : um_S}
theorem ly_bound (h : ly_inv N a n B (r + 1) I D nd kd sd bd c m) : r < 2001 ∧ N ≤ 150 := by
  obtain ⟨⟨-, -, ⟨b1, b2', b3⟩, -⟩, ⟨t1, t2, t3, t4⟩, -⟩ := id h
  exact ⟨by omega, (ly_inv_tree h).1.1⟩
/-- SET, OUT, THROW: an expression, then an instruction -/
theorem ly_two {cv op arg : Int32} (h : ly_inv N a n B (r + 1) I D nd kd sd bd c m) (har : a ≤ r) (hk : kd r = 9 ∨ kd r = 10 ∨ kd r = 14) (hcv : um_isE m (nd r) cv) (hop : ¬ op = -1) (hins : D n = 1 → um_ins (n + 2) (ly_g D (n + 1) 0) n op arg)
    (hcl : ∀ (b : um_S) (K : um_S → Prop), wp_La_partsThen (nI r) (nI (sd r)) cv (-1) op arg (um_J (um_up c 33 r (nI (sd r + 1))) b) K → wp_La_turnPlain (nI r) (nI (nd r)) (nI (sd r)) (um_J (um_up c 33 r (nI (sd r + 1))) b) K)
    (hmo : ∀ (b : um_S) (Q : um_S → Prop), (sd r + 1 = 1 → wp_Mo_part (nI r) cv (um_J b (um_up m 67 r (nI (sd r + 1)))) Q) → (¬ sd r + 1 = 1 → wp_Mo_put op arg (m 64 r) (um_J b (um_up m 67 r (nI (sd r + 1)))) (fun σ => wp_Mo_statement_141 Q σ)) → wp_Mo_statement (nI r) (nI (kd r)) (um_J b (um_up m 67 r (nI (sd r + 1)))) Q) : ly_to N a n B (r + 1) I D kd sd c m := by
  obtain ⟨hr, hN⟩ := ly_bound h
  have hk8 : 8 ≤ kd r ∧ ¬ kd r = 13 ∧ ¬ kd r = 16 ∧ ¬ kd r = 17 ∧ ¬ kd r = 18 := by rcases hk with z | z | z <;> rw [z] <;> decide
  obtain ⟨ab, fi, e8, e9, e10, e11, ⟨f1, f2, f3, f4, f5⟩, hDn⟩ := ly_topS h har hk8
  obtain ⟨j, w2, hj, rfl, hv2, hw2⟩ := hcv
  have hpd1 : ly_pd (kd r) 1 = 1 := by
    unfold ly_pd
    rcases hk with z | z | z <;> rw [z] <;> decide
  have hs01 : sd r = 0 ∨ sd r = 1 := by
    rcases f5 with z | ⟨z, -⟩ | ⟨-, z⟩ | ⟨z, -⟩ | ⟨z, -⟩
    · exact Or.inl z
    · exact Or.inr z
    · rcases hk with q | q | q <;> exact absurd (q.symm.trans z) (by decide)
    · rcases hk with q | q | q <;> exact absurd (q.symm.trans z) (by decide)
    · rcases hk with q | q | q <;> exact absurd (q.symm.trans z) (by decide)
  have hkS : 8 ≤ kd r ∧ ¬ kd r = 16 ∧ ¬ kd r = 17 ∧ ¬ kd r = 18 := ⟨hk8.1, hk8.2.2.1, hk8.2.2.2.1, hk8.2.2.2.2⟩
  have hkP : ¬ kd r = 12 ∧ ¬ kd r = 13 ∧ ¬ kd r = 16 ∧ ¬ kd r = 17 ∧ ¬ kd r = 18 := by rcases hk with z | z | z <;> rw [z] <;> decide
  rcases hs01 with z | z
  · have hE : ly_isE w2 = ly_pd (kd r) (sd r + 1) := by
      rw [z, hpd1]
      unfold ly_isE
      rw [if_pos hw2]
    refine ly_partS (k2 := j) (w2 := w2) h har (by rcases hk with q | q | q <;> rw [q] <;> decide) (Or.inl z) hj hv2 (by omega) hE (fun fuel v b Q hv hq => p_turnP h har (by omega) hv hkP (hcl b _ (p_parts hr (by omega) (fun _ => ?_) (fun q => absurd q (by omega)) (fun q => absurd q (by omega))))) (fun b Q hq => p_goesS h har (by omega) hkS (hmo b Q (fun _ => hq) (fun q => absurd q (by omega))))
    rw [um_up_q (by decide)]
    exact hq
  · refine ly_lastS (op := op) (arg := arg) h har (by rcases hk with q | q | q <;> rw [q] <;> decide) (fun _ hd => hins (by rw [hd, z, hpd1])) (fun fuel v b Q hv hq => p_turnP h har (by omega) hv hkP (hcl b _ (p_parts hr (by omega) (fun q => absurd q (by omega)) (fun _ q => absurd rfl q) (fun _ => ⟨fun _ => hq, fun q => absurd q hop⟩)))) (fun b Q hq => p_goesS h har (by omega) hkS (hmo b Q (fun q => absurd q (by omega)) (fun _ => hq)))
theorem ly_step_9 (h : ly_inv N a n B (r + 1) I D nd kd sd bd c m) (har : a ≤ r) (hk : kd r = 9) : ly_to N a n B (r + 1) I D kd sd c m := by
  obtain ⟨hr, hN⟩ := ly_bound h
  obtain ⟨e1, e2, e3, e4, e5, e6, e7, -⟩ := ly_inv_ent h har
  obtain ⟨hV, hE⟩ := (ly_node h har).2.1 hk
  have hT2 : um_tree N (um_up c 33 r (nI (sd r + 1))) m := um_tree_uc (ly_inv_tree h) (by decide)
  have hs : sd r ≤ 3 := by
    obtain ⟨ab, fi, -, -, -, -, ⟨-, -, -, -, f5⟩, -⟩ := ly_topS h har (by rw [hk]; decide)
    rcases f5 with z | ⟨z, -⟩ | ⟨z, -⟩ | ⟨-, z, -⟩ | ⟨-, z, -⟩ <;> omega
  refine ly_two (op := 8) (arg := m 40 (nd r)) h har (Or.inl hk) hE (by decide) (fun hd => ?_) (fun b K hq => p_plain hT2 e1 e2 e3 (fun z => absurd z (by omega)) (fun z => absurd z (by omega)) (fun _ => hq) (fun z => absurd z (by omega)) (fun z => absurd z (by omega)) (fun z => absurd z (by omega)) (fun z => absurd z (by omega)) (fun _ _ z => absurd hk z)) (fun b Q q1 q2 => ?_)
  · exact Or.inr (Or.inr (Or.inr (Or.inl ⟨rfl, by rw [ly_g_ne (by omega)]; omega, by omega, by rw [ly_g_ne (by omega), ly_g_at]; omega, hV⟩)))
  · refine p_Mst (k := nd r) (s := sd r + 1) (by omega) (by rw [um_up_q (by decide)]; exact e5) (by omega) um_up_self (by omega) (by omega) e3 (fun _ z => ?_) (fun _ z => ?_) (fun z => absurd z (by omega)) (fun z => absurd z (by omega)) (fun z => absurd z (by omega)) (fun z => absurd z (by omega)) (fun z => absurd z (by omega)) (fun z => absurd z (by omega)) (fun z => absurd z (by omega)) (fun z => absurd z (by omega)) (fun z => absurd z (by omega)) (fun z => absurd z (by omega)) (fun z => absurd z (by omega))
    · rw [um_up_q (q := 67) (a := 41) (by decide)]
      exact q1 z
    · rw [um_up_q (q := 67) (a := 40) (by decide), um_up_q (q := 67) (a := 64) (by decide)]
      exact q2 z
theorem ly_step_10 (h : ly_inv N a n B (r + 1) I D nd kd sd bd c m) (har : a ≤ r) (hk : kd r = 10) : ly_to N a n B (r + 1) I D kd sd c m := by
  obtain ⟨hr, hN⟩ := ly_bound h
  obtain ⟨e1, e2, e3, e4, e5, e6, e7, -⟩ := ly_inv_ent h har
  have hE := (ly_node h har).2.2.1 (Or.inl hk)
  have hT2 : um_tree N (um_up c 33 r (nI (sd r + 1))) m := um_tree_uc (ly_inv_tree h) (by decide)
  have hs : sd r ≤ 3 := by
    obtain ⟨ab, fi, -, -, -, -, ⟨-, -, -, -, f5⟩, -⟩ := ly_topS h har (by rw [hk]; decide)
    rcases f5 with z | ⟨z, -⟩ | ⟨z, -⟩ | ⟨-, z, -⟩ | ⟨-, z, -⟩ <;> omega
  refine ly_two (op := 9) (arg := 0) h har (Or.inr (Or.inl hk)) hE (by decide) (fun hd => ?_) (fun b K hq => p_plain hT2 e1 e2 e3 (fun z => absurd z (by omega)) (fun z => absurd z (by omega)) (fun z => absurd z (by omega)) (fun _ => hq) (fun z => absurd z (by omega)) (fun z => absurd z (by omega)) (fun z => absurd z (by omega)) (fun _ _ _ z => absurd hk z)) (fun b Q q1 q2 => ?_)
  · exact Or.inr (Or.inr (Or.inr (Or.inr (Or.inl ⟨rfl, by rw [ly_g_ne (by omega)]; omega, by omega, by rw [ly_g_ne (by omega), ly_g_at]; omega⟩))))
  · refine p_Mst (k := nd r) (s := sd r + 1) (by omega) (by rw [um_up_q (by decide)]; exact e5) (by omega) um_up_self (by omega) (by omega) e3 (fun z => absurd z (by omega)) (fun z => absurd z (by omega)) (fun _ z => ?_) (fun _ z => ?_) (fun z => absurd z (by omega)) (fun z => absurd z (by omega)) (fun z => absurd z (by omega)) (fun z => absurd z (by omega)) (fun z => absurd z (by omega)) (fun z => absurd z (by omega)) (fun z => absurd z (by omega)) (fun z => absurd z (by omega)) (fun z => absurd z (by omega))
    · rw [um_up_q (q := 67) (a := 40) (by decide)]
      exact q1 z
    · rw [um_up_q (q := 67) (a := 64) (by decide)]
      exact q2 z
theorem ly_step_14 (h : ly_inv N a n B (r + 1) I D nd kd sd bd c m) (har : a ≤ r) (hk : kd r = 14) : ly_to N a n B (r + 1) I D kd sd c m := by
  obtain ⟨hr, hN⟩ := ly_bound h
  obtain ⟨e1, e2, e3, e4, e5, e6, e7, -⟩ := ly_inv_ent h har
  have hE := (ly_node h har).2.2.1 (Or.inr hk)
  have hT2 : um_tree N (um_up c 33 r (nI (sd r + 1))) m := um_tree_uc (ly_inv_tree h) (by decide)
  have hs : sd r ≤ 3 := by
    obtain ⟨ab, fi, -, -, -, -, ⟨-, -, -, -, f5⟩, -⟩ := ly_topS h har (by rw [hk]; decide)
    rcases f5 with z | ⟨z, -⟩ | ⟨z, -⟩ | ⟨-, z, -⟩ | ⟨-, z, -⟩ <;> omega
  refine ly_two (op := 12) (arg := 0) h har (Or.inr (Or.inr hk)) hE (by decide) (fun hd => ?_) (fun b K hq => p_plain hT2 e1 e2 e3 (fun z => absurd z (by omega)) (fun z => absurd z (by omega)) (fun z => absurd z (by omega)) (fun z => absurd z (by omega)) (fun z => absurd z (by omega)) (fun _ => hq) (fun z => absurd z (by omega)) (fun _ _ _ _ _ z => absurd hk z)) (fun b Q q1 q2 => ?_)
  · exact Or.inr (Or.inr (Or.inr (Or.inr (Or.inr (Or.inr (Or.inr (Or.inl ⟨rfl, by rw [ly_g_ne (by omega)]; omega, by rw [ly_g_ne (by omega)]; omega⟩)))))))
  · refine p_Mst (k := nd r) (s := sd r + 1) (by omega) (by rw [um_up_q (by decide)]; exact e5) (by omega) um_up_self (by omega) (by omega) e3 (fun z => absurd z (by omega)) (fun z => absurd z (by omega)) (fun z => absurd z (by omega)) (fun z => absurd z (by omega)) (fun z => absurd z (by omega)) (fun z => absurd z (by omega)) (fun z => absurd z (by omega)) (fun z => absurd z (by omega)) (fun z => absurd z (by omega)) (fun _ z => ?_) (fun _ z => ?_) (fun z => absurd z (by omega)) (fun z => absurd z (by omega))
    · rw [um_up_q (q := 67) (a := 40) (by decide)]
      exact q1 z
    · rw [um_up_q (q := 67) (a := 64) (by decide)]
      exact q2 z
/-- CALL -/
theorem ly_step_15 (h : ly_inv N a n B (r + 1) I D nd kd sd bd c m) (har : a ≤ r) (hk : kd r = 15) : ly_to N a n B (r + 1) I D kd sd c m := by
  obtain ⟨hr, hN⟩ := ly_bound h
  obtain ⟨e1, e2, e3, e4, e5, e6, e7, -⟩ := ly_inv_ent h har
  have hF := (ly_node h har).2.2.2.2.2.2.1 hk
  have hT2 : um_tree N (um_up c 33 r (nI (sd r + 1))) m := um_tree_uc (ly_inv_tree h) (by decide)
  have hs : sd r = 0 := by
    obtain ⟨ab, fi, -, -, -, -, ⟨-, -, -, -, f5⟩, -⟩ := ly_topS h har (by rw [hk]; decide)
    rcases f5 with z | ⟨-, z⟩ | ⟨-, z⟩ | ⟨z, -⟩ | ⟨z, -⟩
    · exact z
    · rcases z with z | z | z | z | z <;> exact absurd (hk.symm.trans z) (by decide)
    · exact absurd (hk.symm.trans z) (by decide)
    · exact absurd (hk.symm.trans z) (by decide)
    · exact absurd (hk.symm.trans z) (by decide)
  refine ly_lastS (op := 13) (arg := m 40 (nd r)) h har (Or.inr (Or.inr (Or.inr hk))) (fun _ hd => ?_) (fun fuel v b Q hv hq => p_turnP h har (by omega) hv (by rw [hk]; decide) (p_plain hT2 e1 e2 e3 (fun z => absurd z (by omega)) (fun z => absurd z (by omega)) (fun z => absurd z (by omega)) (fun z => absurd z (by omega)) (fun z => absurd z (by omega)) (fun z => absurd z (by omega)) (fun _ => hq) (fun _ _ _ _ _ _ z => absurd hk z))) (fun b Q hq => p_goesS h har (by omega) (by rw [hk]; decide) ?_)
  · have d0 : D n = 0 := by
      rw [hd, hk, hs]
      rfl
    obtain ⟨v, hv, ev⟩ := hF
    exact Or.inr (Or.inr (Or.inr (Or.inr (Or.inr (Or.inr (Or.inr (Or.inr (Or.inl ⟨rfl, by rw [ly_g_ne (by omega)]; exact d0, by omega, ly_g_at, v, hv, ev⟩))))))))
  · refine p_Mst (k := nd r) (s := sd r + 1) (by omega) (by rw [um_up_q (by decide)]; exact e5) (by omega) um_up_self (by omega) (by omega) e3 (fun z => absurd z (by omega)) (fun z => absurd z (by omega)) (fun z => absurd z (by omega)) (fun z => absurd z (by omega)) (fun z => absurd z (by omega)) (fun z => absurd z (by omega)) (fun z => absurd z (by omega)) (fun z => absurd z (by omega)) (fun z => absurd z (by omega)) (fun z => absurd z (by omega)) (fun z => absurd z (by omega)) (fun _ => ?_) (fun z => absurd z (by omega))
    rw [um_up_q (q := 67) (a := 40) (by decide), um_up_q (q := 67) (a := 64) (by decide)]
    exact hq
/-- SKIP -/
theorem ly_step_8 (h : ly_inv N a n B (r + 1) I D nd kd sd bd c m) (har : a ≤ r) (hk : kd r = 8) : ly_to N a n B (r + 1) I D kd sd c m := by
  obtain ⟨hr, hN⟩ := ly_bound h
  obtain ⟨e1, e2, e3, e4, e5, e6, e7, -⟩ := ly_inv_ent h har
  obtain ⟨ab, fi, e8, e9, e10, e11, ⟨f1, f2, f3, f4, f5⟩, hDn⟩ := ly_topS h har (by rw [hk]; decide)
  have hT2 : um_tree N (um_up c 33 r (nI (sd r + 1))) m := um_tree_uc (ly_inv_tree h) (by decide)
  have hs : sd r = 0 := by
    rcases f5 with z | ⟨-, z⟩ | ⟨-, z⟩ | ⟨z, -⟩ | ⟨z, -⟩
    · exact z
    · rcases z with z | z | z | z | z <;> exact absurd (hk.symm.trans z) (by decide)
    · exact absurd (hk.symm.trans z) (by decide)
    · exact absurd (hk.symm.trans z) (by decide)
    · exact absurd (hk.symm.trans z) (by decide)
  refine ly_to_pop h har (by omega) (by omega) (by rw [hDn, f1, hk, hs]; rfl) (by rw [hk, hs]; decide) (fun fuel v b Q hv hq => p_turnP h har (by omega) hv (by rw [hk]; decide) (p_plain hT2 e1 e2 e3 (fun z => absurd z (by omega)) (fun _ => hq) (fun z => absurd z (by omega)) (fun z => absurd z (by omega)) (fun z => absurd z (by omega)) (fun z => absurd z (by omega)) (fun z => absurd z (by omega)) (fun _ z => absurd hk z))) (fun b Q hq => p_goesS h har (by omega) (by rw [hk]; decide) ?_)
  refine p_Mst (k := nd r) (s := sd r + 1) (by omega) (by rw [um_up_q (by decide)]; exact e5) (by omega) um_up_self (by omega) (by omega) e3 (fun z => absurd z (by omega)) (fun z => absurd z (by omega)) (fun z => absurd z (by omega)) (fun z => absurd z (by omega)) (fun z => absurd z (by omega)) (fun z => absurd z (by omega)) (fun z => absurd z (by omega)) (fun z => absurd z (by omega)) (fun z => absurd z (by omega)) (fun z => absurd z (by omega)) (fun z => absurd z (by omega)) (fun z => absurd z (by omega)) (fun _ => ?_)
  unfold wp_Mo_statement_141
  exact hq
/-- SEQUENCE -/
theorem ly_step_11 (h : ly_inv N a n B (r + 1) I D nd kd sd bd c m) (har : a ≤ r) (hk : kd r = 11) : ly_to N a n B (r + 1) I D kd sd c m := by
  obtain ⟨hr, hN⟩ := ly_bound h
  obtain ⟨e1, e2, e3, e4, e5, e6, e7, -⟩ := ly_inv_ent h har
  obtain ⟨ab, fi, e8, e9, e10, e11, ⟨f1, f2, f3, f4, f5⟩, hDn⟩ := ly_topS h har (by rw [hk]; decide)
  obtain ⟨⟨j1, w1, hj1, hx1, hv1, hw1, hw1'⟩, ⟨j2, w2, hj2, hx2, hv2, hw2, hw2'⟩⟩ := (ly_node h har).2.2.2.1 hk
  have hT2 : um_tree N (um_up c 33 r (nI (sd r + 1))) m := um_tree_uc (ly_inv_tree h) (by decide)
  have hs : sd r = 0 ∨ sd r = 1 ∨ sd r = 2 := by
    rcases f5 with z | ⟨z, -⟩ | ⟨z, -⟩ | ⟨z, -⟩ | ⟨z, -⟩
    · exact Or.inl z
    · exact Or.inr (Or.inl z)
    · exact Or.inr (Or.inr z)
    · exact absurd (hk.symm.trans z) (by decide)
    · exact absurd (hk.symm.trans z) (by decide)
  have hpd : ∀ s, ly_pd (kd r) s = 0 := fun s => by
    unfold ly_pd
    rw [if_neg (by omega), if_neg (by omega)]
  have hcl : ∀ (fuel v : Nat) (b : um_S) (Q : um_S → Prop), v < 1000000 → wp_La_partsThen (nI r) (nI (sd r)) (m 40 (nd r)) (m 41 (nd r)) (-1) 0 (um_J (um_up c 33 r (nI (sd r + 1))) b) (fun σ => wp_La_takeTurns_2 Q fuel (nI (v + 1)) σ) → wp_La_takeTurns_2 Q (fuel + 1) (nI v) (um_J c b) := fun fuel v b Q hv hq =>
    p_turnP h har (by omega) hv (by rw [hk]; decide) (p_plain hT2 e1 e2 e3 (fun z => absurd z (by omega)) (fun z => absurd z (by omega)) (fun z => absurd z (by omega)) (fun z => absurd z (by omega)) (fun _ => hq) (fun z => absurd z (by omega)) (fun z => absurd z (by omega)) (fun _ _ _ _ z => absurd hk z))
  have hmo : ∀ (b : um_S) (Q : um_S → Prop), (sd r + 1 = 1 → wp_Mo_part (nI r) (m 40 (nd r)) (um_J b (um_up m 67 r (nI (sd r + 1)))) Q) → (sd r + 1 = 2 → wp_Mo_part (nI r) (m 41 (nd r)) (um_J b (um_up m 67 r (nI (sd r + 1)))) Q) → (3 ≤ sd r + 1 → wp_Mo_statement_141 Q (um_J b (um_up m 67 r (nI (sd r + 1))))) → wp_Mo_goesOn (um_J b m) Q := by
    intro b Q q1 q2 q3
    refine p_goesS h har (by omega) (by rw [hk]; decide) ?_
    refine p_Mst (k := nd r) (s := sd r + 1) (by omega) (by rw [um_up_q (by decide)]; exact e5) (by omega) um_up_self (by omega) (by omega) e3 (fun z => absurd z (by omega)) (fun z => absurd z (by omega)) (fun z => absurd z (by omega)) (fun z => absurd z (by omega)) (fun _ z => ?_) (fun _ z => ?_) (fun _ z => q3 z) (fun z => absurd z (by omega)) (fun z => absurd z (by omega)) (fun z => absurd z (by omega)) (fun z => absurd z (by omega)) (fun z => absurd z (by omega)) (fun z => absurd z (by omega))
    · rw [um_up_q (q := 67) (a := 40) (by decide)]
      exact q1 z
    · rw [um_up_q (q := 67) (a := 41) (by decide)]
      exact q2 z
  have hE : ∀ w, 8 ≤ w → ly_isE w = ly_pd (kd r) (sd r + 1) := fun w hw => by
    rw [hpd]
    unfold ly_isE
    rw [if_neg (by omega)]
  rcases hs with z | z | z
  · refine ly_partS (k2 := j1) (w2 := w1) h har (by omega) (Or.inl z) hj1 hv1 hw1' (hE w1 hw1) (fun fuel v b Q hv hq => hcl fuel v b Q hv (p_parts hr (by omega) (fun _ => ?_) (fun q => absurd q (by omega)) (fun q => absurd q (by omega)))) (fun b Q hq => hmo b Q (fun _ => by rw [hx1]; exact hq) (fun q => absurd q (by omega)) (fun q => absurd q (by omega)))
    rw [um_up_q (by decide), hx1]
    exact hq
  · refine ly_partS (k2 := j2) (w2 := w2) h har (by omega) (Or.inr ⟨z, hk⟩) hj2 hv2 hw2' (hE w2 hw2) (fun fuel v b Q hv hq => hcl fuel v b Q hv (p_parts hr (by omega) (fun q => absurd q (by omega)) (fun _ _ => ?_) (fun q => ?_))) (fun b Q hq => hmo b Q (fun q => absurd q (by omega)) (fun _ => by rw [hx2]; exact hq) (fun q => absurd q (by omega)))
    · rw [um_up_q (by decide), hx2]
      exact hq
    · exfalso
      rcases q with ⟨-, q⟩ | q
      · rw [hx2] at q
        exact ly_ne (by omega) q
      · omega
  · refine ly_to_pop h har (by omega) (by omega) (by rw [hDn, f1, hpd, hk]; rfl) (by rw [hk, z]; decide) (fun fuel v b Q hv hq => hcl fuel v b Q hv (p_parts hr (by omega) (fun q => absurd q (by omega)) (fun q => absurd q (by omega)) (fun _ => ⟨fun q => absurd rfl q, fun _ => hq⟩))) (fun b Q hq => hmo b Q (fun q => absurd q (by omega)) (fun q => absurd q (by omega)) (fun _ => ?_))
    unfold wp_Mo_statement_141
    exact hq
end LayStmts2
