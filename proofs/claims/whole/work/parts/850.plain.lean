/-! lay: expressions and plain statements -/
section LayPlain
variable {N a n B r I : Nat} {D nd kd sd bd : Nat → Nat} {c m b : um_S} {k w s u : Nat} {Q : um_S → Prop}
/-- an entry in another state -/
theorem ly_ent_st {b0 s2 : Nat} (h : ly_ent N n u I B D c m r k w s b0)
    (hform : ∀ ab fi, (ly_eE I c m r k w s b0 ab fi ∨ ly_eS n I D c m r w s b0 ab fi ∨ ly_eW u I D c m r k w s b0 ab fi ∨ ly_eR I B c m r w s b0 ∨ ly_eT I c m r k w s b0 ab fi) → (ly_eE I c m r k w s2 b0 ab fi ∨ ly_eS n I D c m r w s2 b0 ab fi ∨ ly_eW u I D c m r k w s2 b0 ab fi ∨ ly_eR I B c m r w s2 b0 ∨ ly_eT I c m r k w s2 b0 ab fi)) :
    ly_ent N n u I B D (um_up c 33 r (nI s2)) (um_up m 67 r (nI s2)) r k w s2 b0 := by
  obtain ⟨h1, h2, h3, h4, h5, h6, h7, ab, fi, h8, h9, h10, h11, h12⟩ := h
  have E : ∀ q, ¬ q = 33 → (um_up c 33 r (nI s2)) q = c q := fun q hq => um_up_q hq
  have G : ∀ q, ¬ q = 67 → (um_up m 67 r (nI s2)) q = m q := fun q hq => um_up_q hq
  refine ⟨h1, by rw [G 39 (by decide)]; exact h2, h3, by rw [E 31 (by decide)]; exact h4, by rw [G 63 (by decide)]; exact h5, um_up_self, um_up_self, ab, fi, by rw [G 65 (by decide)]; exact h8, by rw [G 66 (by decide)]; exact h9, h10, h11, ?_⟩
  have h13 := hform ab fi h12
  simp only [ly_eE, ly_eS, ly_eW, ly_eR, ly_eT, E 24 (by decide), E 25 (by decide), E 26 (by decide), E 27 (by decide), E 28 (by decide), E 32 (by decide), E 34 (by decide), G 46 (by decide), G 55 (by decide), G 56 (by decide), G 57 (by decide), G 58 (by decide), G 59 (by decide), G 64 (by decide), G 68 (by decide), G 69 (by decide)] at h13 ⊢
  exact h13
theorem p_parts {first second op arg : Int32} (hr : r < 2001) (hs : s < 1000000) (h0 : s = 0 → wp_La_begin first (c 32 r) (um_J c b) Q) (h1 : s = 1 → ¬ second = -1 → wp_La_begin second (c 32 r) (um_J c b) Q)
    (h2 : (s = 1 ∧ second = -1) ∨ 2 ≤ s → (¬ op = -1 → wp_La_finish (nI r) op arg (um_J c b) Q) ∧ (op = -1 → wp_Wo_pop (um_J c b) Q)) : wp_La_partsThen (nI r) (nI s) first second op arg (um_J c b) Q := by
  have eqs : ∀ z : Nat, z < 100 → (nI s = nI z ↔ s = z) := fun z hz => nI_eq (by omega) (by omega)
  have i1 : vp_in (nI r) 2001 := vp_in_nI hr (by decide)
  unfold wp_La_partsThen
  rw [um_cl1 (by omega), um_J_c (q := 32) (by decide)]
  have h50 : (s = 1 ∧ second = -1) ∨ 2 ≤ s → wp_La_partsThen_50 Q (nI r) op arg (um_J c b) := fun z => by
    unfold wp_La_partsThen_50
    exact h2 z
  refine ⟨fun z0 => ⟨fun z1 => h50 (Or.inr ?_), fun z1 => ⟨fun z => h50 (Or.inl ⟨(eqs 1 (by decide)).mp z1, z⟩), fun z => ⟨i1, h1 ((eqs 1 (by decide)).mp z1) z⟩⟩⟩, fun z => ⟨i1, h0 ((eqs 0 (by decide)).mp z)⟩⟩
  have a0 : ¬ s = 0 := fun z => z0 ((eqs 0 (by decide)).mpr z)
  have a1 : ¬ s = 1 := fun z => z1 ((eqs 1 (by decide)).mpr z)
  omega
theorem p_plain (hT : um_tree N c m) (hk : k < N) (hw : m 39 k = nI w) (hw2 : w ≤ 18)
    (h01 : w ≤ 1 → wp_La_finish (nI r) (nI w) (m 40 k) (um_J c b) Q) (h8 : w = 8 → wp_Wo_pop (um_J c b) Q) (h9 : w = 9 → wp_La_partsThen (nI r) (nI s) (m 41 k) (-1) 8 (m 40 k) (um_J c b) Q) (h10 : w = 10 → wp_La_partsThen (nI r) (nI s) (m 40 k) (-1) 9 0 (um_J c b) Q)
    (h11 : w = 11 → wp_La_partsThen (nI r) (nI s) (m 40 k) (m 41 k) (-1) 0 (um_J c b) Q) (h14 : w = 14 → wp_La_partsThen (nI r) (nI s) (m 40 k) (-1) 12 0 (um_J c b) Q) (h15 : w = 15 → wp_La_finish (nI r) 13 (m 40 k) (um_J c b) Q)
    (hb : ¬ w ≤ 1 → ¬ w = 8 → ¬ w = 9 → ¬ w = 10 → ¬ w = 11 → ¬ w = 14 → ¬ w = 15 → wp_La_partsThen (nI r) (nI s) (m 40 k) (m 41 k) (nI w) 0 (um_J c b) Q) : wp_La_turnPlain (nI r) (nI k) (nI s) (um_J c b) Q := by
  have eqw : ∀ z : Nat, z ≤ 18 → (nI w = nI z ↔ w = z) := fun z hz => nI_eq (by omega) (by omega)
  obtain ⟨-, a40, a41, -⟩ := hT.2.2.2.1 k hk
  have p41 : ∀ R : Int32 → um_S → Prop, R (m 41 k) (um_J c b) → wp_Tr_part (nI k) 1 (um_J c b) R := fun R hR => p_part (i := 1) hT hk (by decide) (by rw [a41]; exact hR)
  unfold wp_La_turnPlain
  refine p_kind hT hk (p_part (i := 0) hT hk (by decide) ?_)
  rw [Nat.add_zero, a40, hw]
  refine ⟨fun z => h01 (by have := (eqw 0 (by decide)).mp z; omega), fun z0 => ⟨fun z => h01 (by have := (eqw 1 (by decide)).mp z; omega), fun z1 => ⟨fun z => h8 ((eqw 8 (by decide)).mp z), fun z8 => ⟨fun z => p41 _ (h9 ((eqw 9 (by decide)).mp z)), fun z9 => ⟨fun z => h10 ((eqw 10 (by decide)).mp z), fun z10 => ⟨fun z => p41 _ (h11 ((eqw 11 (by decide)).mp z)), fun z11 => ⟨fun z => h14 ((eqw 14 (by decide)).mp z), fun z14 => ⟨fun z => h15 ((eqw 15 (by decide)).mp z), fun z15 => p41 _ (hb ?_ (fun z => z8 ((eqw 8 (by decide)).mpr z)) (fun z => z9 ((eqw 9 (by decide)).mpr z)) (fun z => z10 ((eqw 10 (by decide)).mpr z)) (fun z => z11 ((eqw 11 (by decide)).mpr z)) (fun z => z14 ((eqw 14 (by decide)).mpr z)) (fun z => z15 ((eqw 15 (by decide)).mpr z)))⟩⟩⟩⟩⟩⟩⟩⟩
  have a0 : ¬ w = 0 := fun z => z0 ((eqw 0 (by decide)).mpr z)
  have a1 : ¬ w = 1 := fun z => z1 ((eqw 1 (by decide)).mpr z)
  omega
/-- a turn at a plain node, and a step at an expression or statement -/
theorem p_turnP {fuel v : Nat} (h : ly_inv N a n B (r + 1) I D nd kd sd bd c m) (har : a ≤ r) (hs : sd r < 1000) (hv : v < 1000000) (hk : ¬ kd r = 12 ∧ ¬ kd r = 13 ∧ ¬ kd r = 16 ∧ ¬ kd r = 17 ∧ ¬ kd r = 18)
    (hp : wp_La_turnPlain (nI r) (nI (nd r)) (nI (sd r)) (um_J (um_up c 33 r (nI (sd r + 1))) b) (fun σ => wp_La_takeTurns_2 Q fuel (nI (v + 1)) σ)) : wp_La_takeTurns_2 Q (fuel + 1) (nI v) (um_J c b) := by
  obtain ⟨e1, e2, e3, e4, e5, e6, e7, -⟩ := ly_inv_ent h har
  obtain ⟨⟨⟨s1, s2, s3⟩, ⟨n1, n2, n3⟩, ⟨b1, b2', b3⟩, -⟩, ⟨t1, t2, t3, t4⟩, -⟩ := id h
  exact p_turn (ly_inv_tree h) hv t1 (by omega) s1 e4 e1 e6 (by omega) e2 e3 (fun z => absurd z hk.1) (fun z => absurd z hk.2.1) (fun z => absurd z hk.2.2.1) (fun z => absurd z hk.2.2.2.1) (fun z => absurd z hk.2.2.2.2) (fun z => absurd z hk.2.2.2.2) (fun _ _ _ _ _ => hp)
theorem p_goesE (h : ly_inv N a n B (r + 1) I D nd kd sd bd c m) (har : a ≤ r) (hs : sd r < 1000) (hk : kd r < 8) (hp : wp_Mo_expression (nI r) (nI (kd r)) (um_J b (um_up m 67 r (nI (sd r + 1)))) Q) : wp_Mo_goesOn (um_J b m) Q := by
  obtain ⟨e1, e2, e3, e4, e5, e6, e7, -⟩ := ly_inv_ent h har
  obtain ⟨⟨⟨s1, s2, s3⟩, ⟨n1, n2, n3⟩, ⟨b1, b2', b3⟩, -⟩, ⟨t1, t2, t3, t4⟩, -⟩ := id h
  have hN := (ly_inv_tree h).1.1
  exact p_goes t2 (by omega) e5 (by omega) e7 (by omega) e2 e3 (fun _ => hp) (fun z => absurd hk (by omega)) (fun z => absurd hk (by omega)) (fun z => absurd hk (by omega)) (fun z => absurd hk (by omega))
theorem p_goesS (h : ly_inv N a n B (r + 1) I D nd kd sd bd c m) (har : a ≤ r) (hs : sd r < 1000) (hk : 8 ≤ kd r ∧ ¬ kd r = 16 ∧ ¬ kd r = 17 ∧ ¬ kd r = 18) (hp : wp_Mo_statement (nI r) (nI (kd r)) (um_J b (um_up m 67 r (nI (sd r + 1)))) Q) : wp_Mo_goesOn (um_J b m) Q := by
  obtain ⟨e1, e2, e3, e4, e5, e6, e7, -⟩ := ly_inv_ent h har
  obtain ⟨⟨⟨s1, s2, s3⟩, ⟨n1, n2, n3⟩, ⟨b1, b2', b3⟩, -⟩, ⟨t1, t2, t3, t4⟩, -⟩ := id h
  have hN := (ly_inv_tree h).1.1
  exact p_goes t2 (by omega) e5 (by omega) e7 (by omega) e2 e3 (fun z => absurd hk.1 (by omega)) (fun z => absurd z hk.2.2.2) (fun z => absurd z hk.2.2.2) (fun z => z.elim (fun z => absurd z hk.2.1) (fun z => absurd z hk.2.2.1)) (fun _ _ _ _ => hp)
/-- NUMBER, VARIABLE -/
theorem ly_step_leaf (h : ly_inv N a n B (r + 1) I D nd kd sd bd c m) (har : a ≤ r) (hw : kd r ≤ 1) : ly_to N a n B (r + 1) I D kd sd c m := by
  obtain ⟨e1, e2, e3, e4, e5, e6, e7, ab, fi, e8, e9, e10, e11, hform⟩ := ly_inv_ent h har
  have hT := ly_inv_tree h
  have hN := hT.1.1
  obtain ⟨⟨⟨s1, s2, s3⟩, ⟨n1, n2, n3⟩, ⟨b1, b2', b3⟩, -⟩, ⟨t1, t2, t3, t4⟩, hd, -⟩ := id h
  obtain ⟨hd1, -⟩ := hd (by omega)
  rw [Nat.add_sub_cancel] at hd1
  have hE : ly_eE I c m r (nd r) (kd r) (sd r) (bd r) ab fi := by
    rcases hform with z | ⟨-, z, -⟩ | ⟨-, z, -⟩ | ⟨-, z, -⟩ | ⟨-, z, -⟩
    · exact z
    · omega
    · omega
    · omega
    · omega
  obtain ⟨f1, f2, f3, f4, f5, f6⟩ := hE
  have hs0 : sd r = 0 := f3 hw
  have hpd : ly_pd (kd r) (sd r) = 0 := by unfold ly_pd; rw [if_neg (by omega), if_neg (by omega)]
  have hDn : D n = bd r := by omega
  have hisE : ly_isE (kd r) = 1 := by unfold ly_isE; rw [if_pos f1]
  refine ly_to_finish (op := nI (kd r)) (arg := m 40 (nd r)) (my := m 64 r) h har (by omega) (by omega) (by unfold ly_rs; rw [if_neg (by omega)]; omega) f5 (fun hlt => ?_) (fun fuel v b Q hv hq => ?_) (fun b Q hq => ?_)
  · have g1 : ly_g D (n + 1) (bd r + ly_isE (kd r)) n = bd r := by rw [ly_g_ne (by omega)]; exact hDn
    have g2 : ly_g D (n + 1) (bd r + ly_isE (kd r)) (n + 1) = bd r + 1 := by rw [ly_g_at, hisE]
    rcases (show kd r = 0 ∨ kd r = 1 by omega) with z | z
    · refine Or.inl ⟨by rw [z]; rfl, by omega, by omega, by omega⟩
    · obtain ⟨w', y1, y2, y3, -⟩ := (hT.2.2.2.1 (nd r) e1).2.2.2.2.2.2.2
      have hw' : w' = 1 := by
        have := (nI_eq (a := w') (b := kd r) (by omega) (by omega)).mp (y2.symm.trans e2)
        omega
      exact Or.inr (Or.inl ⟨by rw [z]; rfl, by omega, by omega, by omega, y3 hw'⟩)
  · refine p_turnP h har (by omega) hv (by omega) (p_plain (um_tree_uc hT (by decide)) e1 e2 e3 (fun _ => hq) (fun z => absurd z (by omega)) (fun z => absurd z (by omega)) (fun z => absurd z (by omega)) (fun z => absurd z (by omega)) (fun z => absurd z (by omega)) (fun z => absurd z (by omega)) (fun z => absurd hw z))
  · refine p_goesE h har (by omega) (by omega) ?_
    have i1 : vp_in (nI r) 2002 := vp_in_nI (by omega) (by decide)
    unfold wp_Mo_expression
    rw [um_cl1 (by omega), um_J_m (q := 63) (by decide), um_up_q (by decide), e5]
    refine ⟨i1, ?_⟩
    rintro x1 rfl
    rw [um_cl1 (by omega), um_J_m (q := 40) (by decide), um_J_m (q := 64) (by decide), um_up_q (q := 67) (a := 40) (by decide), um_up_q (q := 67) (a := 64) (by decide)]
    refine um_no (fun z => ?_) ⟨vp_in_nI (by omega) (by decide), i1, hq⟩
    have := (nI_leI (a := 2) (b := kd r) (by decide) (by omega)).mp z
    omega
end LayPlain
