/-! lay: expressions of two parts, SKIP, SET, OUT, THROW, SEQUENCE, CALL -/
section LayStmts
variable {N a n B r I : Nat} {D nd kd sd bd : Nat → Nat} {c m b : um_S} {k w s : Nat} {Q : um_S → Prop}
theorem p_Mst (hr : r < 2002) (hk63 : m 63 r = nI k) (hk : k < 150) (h67 : m 67 r = nI s) (hs : s < 1000000) (hs1 : 1 ≤ s) (hw : w ≤ 18)
    (p9 : w = 9 → s = 1 → wp_Mo_part (nI r) (m 41 k) (um_J b m) Q) (u9 : w = 9 → ¬ s = 1 → wp_Mo_put 8 (m 40 k) (m 64 r) (um_J b m) (fun σ => wp_Mo_statement_141 Q σ))
    (p10 : w = 10 → s = 1 → wp_Mo_part (nI r) (m 40 k) (um_J b m) Q) (u10 : w = 10 → ¬ s = 1 → wp_Mo_put 9 0 (m 64 r) (um_J b m) (fun σ => wp_Mo_statement_141 Q σ))
    (p11a : w = 11 → s = 1 → wp_Mo_part (nI r) (m 40 k) (um_J b m) Q) (p11b : w = 11 → s = 2 → wp_Mo_part (nI r) (m 41 k) (um_J b m) Q) (u11 : w = 11 → 3 ≤ s → wp_Mo_statement_141 Q (um_J b m))
    (d12 : w = 12 → wp_Mo_decides (nI r) (nI k) (um_J b m) Q) (d13 : w = 13 → wp_Mo_repeats (nI r) (nI k) (um_J b m) Q)
    (p14 : w = 14 → s = 1 → wp_Mo_part (nI r) (m 40 k) (um_J b m) Q) (u14 : w = 14 → ¬ s = 1 → wp_Mo_put 12 0 (m 64 r) (um_J b m) (fun σ => wp_Mo_statement_141 Q σ))
    (u15 : w = 15 → wp_Mo_put 13 (m 40 k) (m 64 r) (um_J b m) (fun σ => wp_Mo_statement_141 Q σ)) (u8 : w = 8 ∨ 16 ≤ w ∨ w < 8 → wp_Mo_statement_141 Q (um_J b m)) : wp_Mo_statement (nI r) (nI w) (um_J b m) Q := by
  have i1 : vp_in (nI r) 2002 := vp_in_nI hr (by decide)
  have ik : vp_in (nI k) 150 := vp_in_nI hk (by decide)
  have eqw : ∀ z : Nat, z ≤ 18 → (nI w = nI z ↔ w = z) := fun z hz => nI_eq (by omega) (by omega)
  have eqs : ∀ z : Nat, z < 100 → (nI s = nI z ↔ s = z) := fun z hz => nI_eq (by omega) (by omega)
  have e1 : nI s = 1 ↔ s = 1 := eqs 1 (by decide)
  unfold wp_Mo_statement_141 at *
  unfold wp_Mo_statement wp_Mo_statement_141
  rw [um_cl1 (by omega), um_J_m (q := 63) (by decide), hk63, um_J_m (q := 67) (by decide), h67]
  refine ⟨i1, ?_⟩
  rintro x1 rfl
  rw [um_cl1 (by omega), um_J_m (q := 40) (by decide), um_J_m (q := 41) (by decide), um_J_m (q := 64) (by decide)]
  refine ⟨fun z => ?_, fun n9 => ⟨fun z => ?_, fun n10 => ⟨fun z => ?_, fun n11 => ⟨fun z => d12 ((eqw 12 (by decide)).mp z), fun n12 => ⟨fun z => d13 ((eqw 13 (by decide)).mp z), fun n13 => ⟨fun z => ?_, fun n14 => ⟨fun z => ⟨ik, i1, u15 ((eqw 15 (by decide)).mp z)⟩, fun n15 => u8 ?_⟩⟩⟩⟩⟩⟩⟩
  · have y := (eqw 9 (by decide)).mp z
    exact ⟨i1, fun zs => ⟨fun q => absurd z q, fun _ => ⟨fun q => absurd z q, fun _ => ⟨ik, i1, u9 y (fun q => zs (e1.mpr q))⟩⟩⟩, fun zs => ⟨fun q => absurd z q, fun _ => ⟨ik, p9 y (e1.mp zs)⟩⟩⟩
  · have y := (eqw 10 (by decide)).mp z
    exact ⟨i1, fun zs => ⟨fun _ => ⟨fun q => absurd z q, fun _ => ⟨fun _ => ⟨i1, u10 y (fun q => zs (e1.mpr q))⟩, fun q => absurd q n9⟩⟩, fun q => absurd q n9⟩, fun zs => ⟨fun _ => ⟨ik, p10 y (e1.mp zs)⟩, fun q => absurd q n9⟩⟩
  · have y := (eqw 11 (by decide)).mp z
    refine ⟨i1, fun zs => u11 y ((nI_leI (a := 3) (b := s) (by decide) (by omega)).mp zs), fun zs => ⟨i1, fun q => ⟨ik, p11b y ?_⟩, fun q => ⟨ik, p11a y (e1.mp q)⟩⟩⟩
    have h3 : ¬ 3 ≤ s := fun q => zs (nI_le (a := 3) q (by omega))
    have h1 : ¬ s = 1 := fun z => q (e1.mpr z)
    omega
  · have y := (eqw 14 (by decide)).mp z
    exact ⟨i1, fun zs => ⟨fun _ => ⟨fun _ => ⟨fun _ => ⟨i1, u14 y (fun q => zs (e1.mpr q))⟩, fun q => absurd q n9⟩, fun q => absurd q n10⟩, fun q => absurd q n9⟩, fun zs => ⟨fun _ => ⟨ik, p14 y (e1.mp zs)⟩, fun q => absurd q n9⟩⟩
  · have a9 : ¬ w = 9 := fun q => n9 ((eqw 9 (by decide)).mpr q)
    have a10 : ¬ w = 10 := fun q => n10 ((eqw 10 (by decide)).mpr q)
    have a11 : ¬ w = 11 := fun q => n11 ((eqw 11 (by decide)).mpr q)
    have a12 : ¬ w = 12 := fun q => n12 ((eqw 12 (by decide)).mpr q)
    have a13 : ¬ w = 13 := fun q => n13 ((eqw 13 (by decide)).mpr q)
    have a14 : ¬ w = 14 := fun q => n14 ((eqw 14 (by decide)).mpr q)
    have a15 : ¬ w = 15 := fun q => n15 ((eqw 15 (by decide)).mpr q)
    omega
/-- what the topmost entry of a plain statement holds -/
theorem ly_topS (h : ly_inv N a n B (r + 1) I D nd kd sd bd c m) (har : a ≤ r) (hk : 8 ≤ kd r ∧ ¬ kd r = 13 ∧ ¬ kd r = 16 ∧ ¬ kd r = 17 ∧ ¬ kd r = 18) : ∃ ab fi, m 65 r = nI ab ∧ m 66 r = nI fi ∧ ab + nd r ≤ 149 ∧ fi + nd r ≤ 149 ∧ ly_eS n I D c m r (kd r) (sd r) (bd r) ab fi ∧ D n = ly_pd (kd r) (sd r) := by
  obtain ⟨e1, e2, e3, e4, e5, e6, e7, ab, fi, e8, e9, e10, e11, hform⟩ := ly_inv_ent h har
  obtain ⟨-, ⟨t1, t2, t3, t4⟩, hd, -⟩ := id h
  obtain ⟨hd1, -⟩ := hd (by omega)
  rw [Nat.add_sub_cancel] at hd1
  have hS : ly_eS n I D c m r (kd r) (sd r) (bd r) ab fi := by
    rcases hform with ⟨z, -⟩ | z | ⟨-, z, -⟩ | ⟨-, z, -⟩ | ⟨-, z, -⟩
    · omega
    · exact z
    · omega
    · omega
    · omega
  have hb0 := hS.1
  exact ⟨ab, fi, e8, e9, e10, e11, hS, by omega⟩
/-- a part of a plain statement is begun: node k2 of kind w2 -/
theorem ly_partS {k2 w2 : Nat} (h : ly_inv N a n B (r + 1) I D nd kd sd bd c m) (har : a ≤ r) (hk : kd r = 9 ∨ kd r = 10 ∨ kd r = 11 ∨ kd r = 12 ∨ kd r = 14) (hs : sd r = 0 ∨ (sd r = 1 ∧ kd r = 11)) (hk2 : k2 < nd r) (hw : m 39 k2 = nI w2) (hw2 : w2 ≤ 18) (hE : ly_isE w2 = ly_pd (kd r) (sd r + 1))
    (hcl : ∀ (fuel v : Nat) (b : um_S) (Q : um_S → Prop), v < 1000000 → wp_La_begin (nI k2) (c 32 r) (um_J (um_up c 33 r (nI (sd r + 1))) b) (fun σ => wp_La_takeTurns_2 Q fuel (nI (v + 1)) σ) → wp_La_takeTurns_2 Q (fuel + 1) (nI v) (um_J c b))
    (hmo : ∀ (b : um_S) (Q : um_S → Prop), wp_Mo_part (nI r) (nI k2) (um_J b (um_up m 67 r (nI (sd r + 1)))) Q → wp_Mo_goesOn (um_J b m) Q) : ly_to N a n B (r + 1) I D kd sd c m := by
  obtain ⟨ab, fi, e8, e9, e10, e11, ⟨f1, f2, f3, f4, f5⟩, hDn⟩ := ly_topS h har (by omega)
  obtain ⟨e1, e2, e3, e4, e5, e6, e7, -⟩ := ly_inv_ent h har
  obtain ⟨-, -, ⟨b1, b2', b3⟩, -⟩ := id h.1
  obtain ⟨-, ⟨t1, t2, t3, t4⟩, -⟩ := id h
  have hpd : ly_pd (kd r) (sd r) = 0 := by
    unfold ly_pd
    rw [if_neg (by omega), if_neg (by omega)]
  have hform : (w2 ≤ 7 ∧ 0 + k2 ≤ 149 ∧ ly_cy I (c 24) (m 56) (c 32 r) (m 64 r)) ∨ (8 ≤ w2 ∧ (0 : Nat) = 0 ∧ ly_cx I (c 24) (m 56) (c 32 r) (m 64 r)) := by
    by_cases z : w2 ≤ 7
    · exact Or.inl ⟨z, by omega, Or.inl f3⟩
    · exact Or.inr ⟨by omega, rfl, f3⟩
  have hentN : ly_ent N n (n + 1) I B D (um_up c 33 r (nI (sd r + 1))) (um_up m 67 r (nI (sd r + 1))) r (nd r) (kd r) (sd r + 1) (bd r) := by
    refine ly_ent_st (ly_inv_ent h har) ?_
    intro ab' fi' hf
    rcases hf with ⟨z, -⟩ | ⟨q1, q2, q3, q4, q5⟩ | ⟨-, z, -⟩ | ⟨-, z, -⟩ | ⟨-, z, -⟩
    · omega
    · refine Or.inr (Or.inl ⟨q1, q2, q3, q4, ?_⟩)
      rcases hs with z | ⟨z, z2⟩
      · exact Or.inr (Or.inl ⟨by omega, by omega⟩)
      · exact Or.inr (Or.inr (Or.inl ⟨by omega, z2⟩))
    · omega
    · omega
    · omega
  have hX : kd r = 12 → (sd r = 2 ∨ sd r = 3) → (sd r + 1 = 2 ∨ sd r + 1 = 3) := by
    intro z1 z2
    rcases hs with q | ⟨q, q2⟩
    · rcases z2 with z2 | z2 <;> omega
    · exact absurd (z1.symm.trans q2) (by decide)
  have hop : (kd r = 13 ∨ kd r = 18) → 1 ≤ sd r := by
    intro z
    rcases z with z | z <;> rcases hk with q | q | q | q | q <;> exact absurd (q.symm.trans z) (by decide)
  have h149 : ab + k2 ≤ 149 ∧ fi + k2 ≤ 149 := ⟨by omega, by omega⟩
  have hlk : 0 + ly_isE w2 = bd r + ly_pd (kd r) (sd r + 1) := by omega
  have hD0 : D n = 0 := by omega
  refine ly_to_child (k2 := k2) (w2 := w2) (b2 := 0) (ab := ab) (fi := fi) (x := c 32 r) (y := m 64 r) h har hX hop hentN (by omega) hw hw2 hform f4 h149 hD0 hlk hcl (fun b Q hq => hmo b Q (p_Mpart (by omega) ?_))
  rw [um_up_q (by decide), um_up_q (by decide), um_up_q (by decide), e8, e9]
  exact hq
/-- a plain statement's instruction -/
theorem ly_lastS {op arg : Int32} (h : ly_inv N a n B (r + 1) I D nd kd sd bd c m) (har : a ≤ r) (hk : kd r = 9 ∨ kd r = 10 ∨ kd r = 14 ∨ kd r = 15) (hins : n < 1000 → D n = ly_pd (kd r) (sd r) → um_ins (n + 2) (ly_g D (n + 1) 0) n op arg)
    (hcl : ∀ (fuel v : Nat) (b : um_S) (Q : um_S → Prop), v < 1000000 → wp_La_finish (nI r) op arg (um_J (um_up c 33 r (nI (sd r + 1))) b) (fun σ => wp_La_takeTurns_2 Q fuel (nI (v + 1)) σ) → wp_La_takeTurns_2 Q (fuel + 1) (nI v) (um_J c b))
    (hmo : ∀ (b : um_S) (Q : um_S → Prop), wp_Mo_put op arg (m 64 r) (um_J b (um_up m 67 r (nI (sd r + 1)))) (fun σ => wp_Mo_statement_141 Q σ) → wp_Mo_goesOn (um_J b m) Q) : ly_to N a n B (r + 1) I D kd sd c m := by
  obtain ⟨ab, fi, e8, e9, e10, e11, ⟨f1, f2, f3, f4, f5⟩, hDn⟩ := ly_topS h har (by omega)
  have hisE : ly_isE (kd r) = 0 := by unfold ly_isE; rw [if_neg (by omega)]
  refine ly_to_finish h har (by omega) (by omega) (by unfold ly_rs; rw [if_neg (by omega)]; omega) (Or.inl f3) (fun hlt => ?_) hcl (fun b Q hq => hmo b Q ?_)
  · rw [f1, hisE]
    exact hins hlt hDn
  · unfold wp_Mo_statement_141
    exact hq
end LayStmts
