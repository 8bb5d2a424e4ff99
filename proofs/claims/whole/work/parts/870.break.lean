/-! lay: BREAK -/
section LayBreak
variable {N a n B r I T : Nat} {D D2 nd kd sd bd : Nat → Nat} {c m : um_S} {X X2 : Nat → Prop}
theorem ly_neg (j : Nat) : (-1 : Int32) - nI j = -(nI (j + 1)) := by
  have e : ∀ x : Int32, (-1 : Int32) - x = -(x + 1) := by
    intro x
    first
      | grind
      | (rw [Int32.neg_add, Int32.sub_eq_add_neg, Int32.sub_eq_add_neg, Int32.add_comm])
  rw [e, um_succ]
/-- an instruction whose goal is a WHILE's end -/
theorem ly_core_emitJ {op vm cx my : Int32} {j : Nat} (h : ly_core N a n B T I D nd kd sd bd X c m) (hlt : n < 1000) (hD : ∀ k, k < n + 1 → D2 k = D k) (hcx : ly_cy I (c 24) (m 56) cx my) (hop : (op = 10 ∧ D n = 1 ∧ D2 (n + 1) = 0) ∨ (op = 11 ∧ D n = 0)) (hj : j < I) (hK : c 24 (j + 1) = -1)
    (hm : (m 59 j = -1 ∧ vm = -(nI (j + 1))) ∨ (¬ m 59 j = -1 ∧ vm = m 59 j)) (hX : ∀ p, p < n → X p → X2 p) : ly_core N a (n + 1) B T I D2 nd kd sd bd X2 (lc_emit c n op (-(nI (j + 1))) cx) (lm_put m n op vm my) := by
  obtain ⟨h1, h2, h3, h4, h5, h6, h7, h8, h9, h10⟩ := h
  have hF : ly_fr I c m (lc_emit c n op (-(nI (j + 1))) cx) (lm_put m n op vm my) := ⟨fun q s a1 a2 a3 => by rw [lc_emit_row (by omega)], fun q j a1 a2 a3 => by rw [lm_put_row (by omega)], fun q a1 a2 => lm_put_row (by omega)⟩
  have hT : um_tree N (lc_emit c n op (-(nI (j + 1))) cx) (lm_put m n op vm my) := um_tree_of h5 (by rw [lc_emit_row (by decide)]) (lc_emit_row (by decide)) (lc_emit_row (by decide)) (lc_emit_row (by decide)) (by rw [lc_emit_row (by decide)]) (by rw [lc_emit_row (by decide)]) (by rw [lc_emit_row (by decide)])
    (lm_put_38 (by decide)) (lm_put_row (by decide)) (lm_put_row (by decide)) (lm_put_row (by decide)) (lm_put_row (by decide)) (lm_put_row (by decide)) (lm_put_row (by decide)) (lm_put_row (by decide))
  have o1 : ∀ q p, 11 ≤ q → q ≤ 13 → p < n → lc_emit c n op (-(nI (j + 1))) cx q p = c q p := fun q p a1 a2 a3 => lc_emit_old a1 a2 a3
  have o2 : ∀ q p, 46 ≤ q → q ≤ 48 → p < n → lm_put m n op vm my q p = m q p := fun q p a1 a2 a3 => lm_put_old a1 a2 a3
  refine ⟨⟨by rw [lc_emit_row (by decide)]; exact h1.1, by rw [lm_put_38 (by decide)]; exact h1.2.1, by rw [lm_put_38 (by decide)]; exact h1.2.2⟩, ⟨lc_emit_n, lm_put_n, by omega⟩, ⟨by rw [lc_emit_2 (by decide)]; exact h3.1, by rw [lm_put_38 (by decide)]; exact h3.2.1, h3.2.2⟩, ⟨by rw [lc_emit_row (by decide)]; exact h4.1, by rw [lm_put_38 (by decide)]; exact h4.2.1, h4.2.2⟩, hT, ⟨by rw [lc_emit_row (by decide)]; exact h6.1, by rw [lc_emit_row (by decide)]; exact h6.2⟩, fun j hj => ly_item_mono hj (by omega) hD hF (h7 j hj), ?_, fun r a1 a2 => ?_, h10⟩
  · have hold := ly_ins_mono (X2 := X2) (n := n) (by omega) (Nat.le_refl I) (show n + 1 ≤ n + 1 + 1 by omega) hD hF hX o1 o2 h8
    intro p hp
    by_cases hpn : p < n
    · exact hold p hpn
    · have e : p = n := by omega
      subst e
      rw [lc_emit_at.1, lc_emit_at.2.1, lc_emit_at.2.2, lm_put_at.1, lm_put_at.2.1, lm_put_at.2.2]
      refine ⟨rfl, ly_cy_mono (Nat.le_refl I) hF hcx, Or.inr ⟨?_, Or.inr ⟨j, hj, ?_⟩⟩⟩
      · rcases hop with ⟨a1, a2, a3⟩ | ⟨a1, a2⟩
        · exact Or.inl ⟨a1, by rw [hD _ (by omega)]; exact a2, by omega, a3⟩
        · exact Or.inr ⟨a1, by rw [hD _ (by omega)]; exact a2⟩
      · rw [lc_emit_row (by decide), lm_put_row (by decide)]
        exact ⟨hK, rfl, hm⟩
  · exact ly_ent_mono (by omega) (by omega) (fun p hp => Or.inl (by omega)) (Nat.le_refl _) (by omega) (Nat.le_refl _) hD hF (fun q b1 b2 => by rw [lc_emit_row (by omega)]) (fun q b1 b2 => by rw [lm_put_row (by omega)]) (fun p hp => o2 46 p (by decide) (by decide) hp) (h9 r a1 a2)
theorem ly_step_17 (h : ly_inv N a n B (r + 1) I D nd kd sd bd c m) (har : a ≤ r) (hk : kd r = 17) : ly_to N a n B (r + 1) I D kd sd c m := by
  obtain ⟨hr, hN⟩ := ly_bound h
  obtain ⟨e1, e2, e3, e4, e5, e6, e7, -⟩ := ly_inv_ent h har
  obtain ⟨hb0, hDn, ⟨s1, p1, hp1, hc32, hs1⟩, y, y0, y1, hcx, x0, s0, p0, hp0, hs0, hx0, hxx, hlp0⟩ := ly_topR h har (Or.inr hk)
  obtain ⟨⟨⟨q1, q2, q3⟩, ⟨n1, n2, n3⟩, ⟨b1, b2', b3⟩, ⟨c59, -, hIB⟩, -, -, hitems, -⟩, ⟨t1, t2, t3, t4⟩, hd, -, ho⟩ := id h
  have hI : I ≤ 2000 := by omega
  have hT := ly_inv_tree h
  have E : ∀ q, ¬ q = 33 → (um_up c 33 r (nI (sd r + 1))) q = c q := fun q hq => um_up_q hq
  have G : ∀ q, ¬ (q = 67 ∨ q = 69) → (um_up (um_up m 67 r (nI (sd r + 1))) 69 r y) q = m q := fun q hq => by rw [um_up_q (by omega), um_up_q (by omega)]
  have hF : ly_fr I c m (um_up c 33 r (nI (sd r + 1))) (um_up (um_up m 67 r (nI (sd r + 1))) 69 r y) := ⟨fun q s a1 a2 a3 => by rw [E q (by omega)], fun q j a1 a2 a3 => by rw [G q (by omega)], fun q a1 a2 => G q (by omega)⟩
  have h26 : c 26 s0 = c 26 s1 := by
    obtain ⟨s3, p3, z1, z2, z3, z4⟩ := hlp0 hk
    have es : s3 = s1 := ly_sc_eq z1 hp1 (by omega) (by omega) (z3.symm.trans hc32)
    rw [z4, es]
  clear hlp0
  have hs1I : s1 ≤ I := by
    obtain ⟨s, p, hp, hs, hx⟩ := ly_cx_sc hcx
    have := ly_sc_eq hp hp1 (by omega) (by omega) (hx.symm.trans hc32)
    omega
  have hcut : ly_cx s1 ((um_up c 33 r (nI (sd r + 1))) 24) ((um_up (um_up m 67 r (nI (sd r + 1))) 69 r y) 56) (c 32 r) y := by
    rw [E 24 (by decide), G 56 (by decide)]
    exact ly_cx_cut hI hcx hp1 (by omega) hc32
  have hit : ∀ j, j < I → ly_item N (n + 1) D (um_up c 33 r (nI (sd r + 1))) (um_up (um_up m 67 r (nI (sd r + 1))) 69 r y) j := fun j hj => ly_item_mono hj (Nat.le_refl _) (fun _ _ => rfl) hF (hitems j hj)
  have hx0' : ly_cx I ((um_up c 33 r (nI (sd r + 1))) 24) ((um_up (um_up m 67 r (nI (sd r + 1))) 69 r y) 56) x0 (m 64 r) := ly_cx_mono (Nat.le_refl I) hF hx0
  have h260 : (um_up c 33 r (nI (sd r + 1))) 26 0 = 0 := by rw [E 26 (by decide)]; exact hT.1.2.1
  have hloop := fun b => p_Mloop (b := b) hN h260 I hI hit x0 (m 64 r) hx0' s0 p0 hp0 (by omega) hxx
  rw [E 26 (by decide), E 24 (by decide)] at hloop
  -- the reference comes to its loop
  have hmo : ∀ (b : um_S) (Q : um_S → Prop), wp_Mo_loop_2 (fun x2 σ1 => (¬ nI 17 = 17 → vp_in (nI r) 2002 ∧ ∀ x3 : Int32, x3 = (σ1 69 r) → wp_Mo_leaves_58 Q 100000 (nI r) (nI 17) x2 x3 σ1) ∧ (nI 17 = 17 → (¬ x2 = (-1) → vp_in (nI r) 2002 ∧ ∀ x4 : Int32, x4 = (σ1 69 r) → wp_Mo_leaves_58 Q 100000 (nI r) (nI 17) x2 x4 σ1) ∧ (x2 = (-1) → ∀ σ5 : um_S, σ5 = um_up σ1 38 36 1 → Q σ5))) 100000 (m 64 r) (um_J b (um_up (um_up m 67 r (nI (sd r + 1))) 69 r y)) → wp_Mo_goesOn (um_J b m) Q := by
    intro b Q hq
    refine p_goes t2 (by omega) e5 (by omega) e7 (by omega) e2 e3 (fun z => absurd hk (by omega)) (fun z => absurd hk (by omega)) (fun z => absurd hk (by omega)) (fun _ => ?_) (fun _ _ z => absurd hk z)
    refine p_lv22 (y := y) (s := sd r) (by omega) (by omega) um_up_self (fun z => by rw [um_up_q (by decide)]; exact y0 z) (fun z => by rw [um_up_q (by decide)]; exact y1 z) ?_
    unfold wp_Mo_leaves_22 wp_Mo_loop
    rw [um_cl1 (by omega), um_J_m (q := 64) (by decide), G 64 (by decide), hk]
    exact ⟨vp_in_nI (by omega) (by decide), hq⟩
  -- the class comes to its loop
  have hcl : ∀ (fuel v : Nat) (b : um_S) (Q : um_S → Prop), v < 1000000 → ((¬ c 26 s1 = 0 → wp_Sc_finallyAround_8 (fun x6 σ5 => (¬ x6 = (-1) → wp_La_leave (nI r) x6 σ5 (fun σ7 => wp_La_takeTurns_2 Q fuel (nI (v + 1)) σ7)) ∧ (x6 = (-1) → wp_La_behind (c 26 s1) σ5 (fun x9 σ8 => wp_La_finish (nI r) 11 x9 σ8 (fun σ10 => wp_La_takeTurns_2 Q fuel (nI (v + 1)) σ10)))) 100000 (c 26 s1) (c 32 r) (nI (I + 1)) (um_J (um_up c 33 r (nI (sd r + 1))) b)) ∧ (c 26 s1 = 0 → wp_La_takeTurns_2 Q fuel (nI (v + 1)) (um_J (um_up (um_up c 33 r (nI (sd r + 1))) 3 8 (-3)) b))) → wp_La_takeTurns_2 Q (fuel + 1) (nI v) (um_J c b) := by
    intro fuel v b Q hv hq
    refine p_turn hT hv t1 (by omega) q1 e4 e1 e6 (by omega) e2 e3 (fun z => absurd hk (by omega)) (fun z => absurd hk (by omega)) (fun z => absurd hk (by omega)) (fun _ => ?_) (fun z => absurd hk (by omega)) (fun z => absurd hk (by omega)) (fun _ _ _ z => absurd hk z)
    unfold wp_La_turnBreak wp_Sc_finallyAround
    rw [um_cl1 (by omega), um_J_c (q := 32) (by decide), E 32 (by decide)]
    refine ⟨vp_in_nI hr (by decide), ?_⟩
    rintro x1 rfl
    rw [hc32]
    refine p_scopeOf (by omega) (by omega) ⟨vp_in_nI (by omega) (by decide), ?_⟩
    rw [um_cl1 (by omega), um_J_c (q := 26) (by decide), E 26 (by decide), um_J_c (q := 5) (by decide), E 5 (by decide), c59, um_J_uc (by decide)]
    rintro x4 rfl
    refine ⟨fun z => ?_, fun z => ?_⟩
    · rintro x1 rfl
      rw [← hc32]
      exact hq.1 z
    · rintro σ11 rfl
      exact hq.2 z
  rcases hloop (fun _ _ => 0) with ⟨z0, -⟩ | ⟨jl, hjl, hK, z0, -⟩
  · -- in no WHILE: ILL
    refine ⟨um_up (um_up c 33 r (nI (sd r + 1))) 3 8 (-3), um_up (um_up (um_up m 67 r (nI (sd r + 1))) 69 r y) 38 36 1, ⟨fun fuel v b Q hv hq => hcl fuel v b Q hv ⟨fun z => absurd (h26.symm.trans z0) z, fun _ => hq⟩, fun b Q hq => hmo b Q ?_⟩, ((ly_kp_uc (by omega)).trans (ly_kp_uc (by omega))).trans (((ly_kp_um (by omega)).trans (ly_kp_um (by omega))).trans (ly_kp_um (by omega))), Or.inr (Or.inr ⟨um_up_self, um_up_self⟩)⟩
    rcases hloop b with ⟨-, r2⟩ | ⟨j, hj, -, z1, -⟩
    · refine r2 100000 (by omega) _ ⟨fun z => absurd rfl z, fun _ => ⟨fun z => absurd rfl z, fun _ => ?_⟩⟩
      rw [um_J_um (by decide)]
      rintro σ5 rfl
      exact hq
    · rw [z0] at z1
      exact absurd z1.symm (nI_ne0 (by omega) (by omega))
  · have z1 : c 26 s1 = nI (jl + 1) := h26.symm.trans z0
    have hmo2 : ∀ (b : um_S) (Q : um_S → Prop), wp_Mo_leaves_58 Q 100000 (nI r) 17 (nI jl) y (um_J b (um_up (um_up m 67 r (nI (sd r + 1))) 69 r y)) → wp_Mo_goesOn (um_J b m) Q := by
      intro b Q hq
      refine hmo b Q ?_
      rcases hloop b with ⟨z2, -⟩ | ⟨j, hj, -, z2, r2⟩
      · rw [z0] at z2
        exact absurd z2 (nI_ne0 (by omega) (by omega))
      · have ej : j = jl := by
          have := (nI_eq (a := j + 1) (b := jl + 1) (by omega) (by omega)).mp (z2.symm.trans z0)
          omega
        subst ej
        refine r2 100000 (by omega) _ ⟨fun z => absurd rfl z, fun _ => ⟨fun _ => ⟨vp_in_nI (by omega) (by decide), ?_⟩, fun z => absurd z (ly_ne (by omega))⟩⟩
        rw [um_J_m (q := 69) (by decide), um_up_self]
        rintro x4 rfl
        exact hq
    have hne : ¬ c 26 s1 = 0 := by rw [z1]; exact nI_ne0 (by omega) (by omega)
    obtain ⟨hjs, hfin⟩ := p_finB (jl := jl) hN h260 (by omega) s1 (by omega) (fun j hj => hit j (by omega)) (c 32 r) y hcut s1 p1 hp1 (by omega) hc32 (by rw [E 26 (by decide)]; exact z1)
    rcases hfin with ⟨q, hq, r1, r2⟩ | ⟨j, q, hj, hq, hz, ⟨s2, p2, y2, y3, y4, y5⟩, r1, r2⟩
    · have hc0 := ly_core_upm (v2 := y) (ly_core_up (v := nI (sd r + 1)) (v2 := nI (sd r + 1)) (ly_inv_core h) (q := 33) (k := r) (q2 := 67) (k2 := r) (Or.inl ⟨by decide, by decide, Nat.le_refl _⟩) (Or.inl ⟨by decide, by decide, Nat.le_refl _⟩)) (q2 := 69) (k2 := r) (Or.inl ⟨by decide, by decide, Nat.le_refl _⟩)
      have hX : ∀ p, p < n → ly_X (r + 1) kd sd c p → ly_X r kd sd (um_up c 33 r (nI (sd r + 1))) p := by
        rintro p - ⟨i, a1, a2, a3, a4⟩
        by_cases e : i = r
        · subst e
          exact absurd (a2.symm.trans hk) (by decide)
        · exact ⟨i, by omega, a2, a3, by rw [E 34 (by decide)]; exact a4⟩
      obtain ⟨nd0, ov, dp, i1, i2, i3, i4, i5, i6, i7, i8, i9, i10, i11⟩ := hitems jl hjl
      have w13 : m 39 nd0 = 13 := by
        rcases i10 with ⟨z, -⟩ | ⟨-, z, -⟩
        · exact z
        · rw [hK] at z
          exact absurd z.symm (ly_ne (by omega))
      refine ly_to_fin2 (c' := um_up c 33 r (nI (sd r + 1))) (m' := um_up (um_up m 67 r (nI (sd r + 1))) 69 r y) (x := c 32 r) (my := y) (op := 11) (va := -(nI (jl + 1))) (vm := if m 59 jl = -1 then -(nI (jl + 1)) else m 59 jl) (d1 := 0) (X := ly_X r kd sd (um_up c 33 r (nI (sd r + 1)))) h har (by omega) (by rw [hk]; unfold ly_rs; rw [if_pos (Or.inr rfl)]; omega) ⟨by rw [E 3 (by decide)]; exact q1, by rw [E 2 (by decide)]; exact n1, by rw [E 6 (by decide)]; exact t1⟩ ⟨by rw [G 38 (by decide)]; exact q2, by rw [G 38 (by decide)]; exact q3, by rw [G 38 (by decide)]; exact n2, by rw [G 38 (by decide)]; exact t2⟩ ((ly_kp_uc (by omega)).trans ((ly_kp_um (by omega)).trans (ly_kp_um (by omega)))) (G 59 (by decide)) (G 55 (by decide)) (G 57 (by decide)) (fun i _ => by rw [G 68 (by decide)]) (fun hlt => ?_) (fun p hp hx => hx) (by rw [hb0, hk]; rfl) (fun fuel v b Q hv hq2 => hcl fuel v b Q hv ⟨fun _ => ?_, fun z => absurd z hne⟩) (fun b Q hq2 => hmo2 b Q (r2 (nI r) b 100000 (by omega) Q ?_))
      · refine ly_core_emitJ (j := jl) (ly_core_X hc0 hX) hlt (fun k hk => ly_g_ne (by omega)) (by rw [E 24 (by decide), G 56 (by decide)]; exact Or.inl hcx) (Or.inr ⟨rfl, hDn⟩) hjl (by rw [E 24 (by decide)]; exact hK) ?_ (fun _ _ x => x)
        rw [G 59 (by decide)]
        by_cases z : m 59 jl = -1
        · exact Or.inl ⟨z, if_pos z⟩
        · exact Or.inr ⟨z, if_neg z⟩
      · rw [z1]
        refine r1 b 100000 (I + 1) (by omega) (by omega) (by omega) _ ⟨fun z => absurd rfl z, fun _ => ?_⟩
        unfold wp_La_behind wp_La_finish
        show vp_in (nI r) 2001 ∧ wp_La_emit 11 (-(nI (jl + 1))) ((um_J (um_up c 33 r (nI (sd r + 1))) b) 32 (nI r).toNatClampNeg) (um_J (um_up c 33 r (nI (sd r + 1))) b) (fun σ1 => wp_Wo_pop σ1 (fun σ2 => wp_La_takeTurns_2 Q fuel (nI (v + 1)) σ2))
        rw [um_cl1 (by omega), um_J_c (q := 32) (by decide), E 32 (by decide)]
        exact ⟨vp_in_nI hr (by decide), hq2⟩
      · have fin : ∀ v5 : Int32, v5 = (if m 59 jl = -1 then -(nI (jl + 1)) else m 59 jl) → wp_Mo_leaves_188 Q (nI r) 17 v5 (um_J b (um_up (um_up m 67 r (nI (sd r + 1))) 69 r y)) := by
          rintro v5 rfl
          unfold wp_Mo_leaves_188 wp_Mo_leaves_213
          refine um_no' (by decide) ⟨vp_in_nI (by omega) (by decide), ?_⟩
          rw [um_cl1 (by omega), um_J_m (q := 69) (by decide), um_up_self]
          exact hq2
        unfold wp_Mo_leaves_103 wp_Mo_leaves_154
        rw [ly_half hq (by omega), um_cl1 (show jl < 2147483648 by omega), um_J_m (q := 55) (by decide), G 55 (by decide), i2, um_cl1 (show nd0 < 2147483648 by omega), um_J_m (q := 39) (by decide), G 39 (by decide), um_J_m (q := 59) (by decide), G 59 (by decide)]
        refine um_no (ly_ne (by omega)) ⟨vp_in_nI (by omega) (by decide), vp_in_nI (by omega) (by decide), um_no' (by rw [w13]; decide) (um_no' (by decide) ⟨vp_in_nI (by omega) (by decide), fun z => ⟨vp_in_nI (by omega) (by decide), ?_⟩, fun z => ?_⟩)⟩
        · rintro x1 rfl
          exact fin _ (by rw [if_neg z])
        · rintro x2 rfl
          exact fin _ (by rw [if_pos z, ly_neg])
    · have h25 : ¬ c 25 (j + 1) = -1 := by
        rw [E 25 (by decide)] at hz
        exact hz
      rw [E 23 (by decide)] at y4
      rw [E 26 (by decide)] at y5
      refine ly_leave (y := y) (j := j) h har (Or.inr hk) hp1 hc32 hs1 hj (by omega) h25 (fun _ => ⟨s2, p2, y2, y3, y4, y5.trans z1.symm⟩) (fun fuel v b Q hv hq2 => hcl fuel v b Q hv ⟨fun _ => ?_, fun z => absurd z hne⟩) (fun b Q hq2 => hmo2 b Q (r2 (nI r) b 100000 (by omega) Q ?_))
      · rw [z1]
        exact r1 b 100000 (I + 1) (by omega) (by omega) (by omega) _ ⟨fun _ => hq2, fun z => absurd z (ly_ne (by omega))⟩
      · obtain ⟨nd0, ov, dp, i1, i2, i3, i4, i5, i6, i7, i8, i9, i10, i11⟩ := hitems j (by omega)
        have w18 : m 39 nd0 = 18 := by
          rcases i10 with ⟨-, -, z, -⟩ | ⟨z, -⟩
          · exact absurd z h25
          · exact z
        unfold wp_Mo_leaves_103
        rw [ly_half hq (by omega), um_cl1 (show j < 2147483648 by omega), um_cl1 (show r < 2147483648 by omega), um_J_m (q := 55) (by decide), G 55 (by decide), i2, um_cl1 (show nd0 < 2147483648 by omega), um_J_m (q := 39) (by decide), G 39 (by decide), um_J_m (q := 56) (by decide), G 56 (by decide), um_J_um (by decide)]
        refine um_no (ly_ne (by omega)) ⟨vp_in_nI (by omega) (by decide), vp_in_nI (by omega) (by decide), um_yes' w18 ⟨vp_in_nI (by omega) (by decide), vp_in_nI (by omega) (by decide), ?_⟩⟩
        rintro σ1 rfl
        exact hq2
end LayBreak
