/-! lay: IF -/
section LayIf
variable {N a n n2 B B2 r I u u2 : Nat} {D D2 nd kd sd bd : Nat → Nat} {c m c2 m2 b : um_S} {X : Nat → Prop} {Q : um_S → Prop}
theorem ly_mkS {k w s s2 b0 : Nat} (h : ly_ent N n u I B D c m r k w s b0) (hw : 8 ≤ w ∧ ¬ w = 13 ∧ ¬ w = 16 ∧ ¬ w = 17 ∧ ¬ w = 18) (hF : ly_fr I c m c2 m2) (e : ∀ q, q = 31 ∨ q = 32 → c2 q r = c q r) (g : ∀ q, 63 ≤ q → q ≤ 66 → m2 q r = m q r) (h33 : c2 33 r = nI s2) (h67 : m2 67 r = nI s2)
    (hst : s2 = 0 ∨ (s2 = 1 ∧ (w = 9 ∨ w = 10 ∨ w = 11 ∨ w = 12 ∨ w = 14)) ∨ (s2 = 2 ∧ w = 11) ∨ (w = 12 ∧ s2 = 2 ∧ ∃ p, p < n2 ∧ c2 34 r = nI p ∧ m2 68 r = nI p ∧ m2 46 p = 10 ∧ D2 p = 1 ∧ D2 (p + 1) = 0) ∨ (w = 12 ∧ s2 = 3 ∧ ∃ p, p < n2 ∧ c2 34 r = nI p ∧ m2 69 r = nI p ∧ m2 46 p = 11 ∧ D2 p = 0)) :
    ly_ent N n2 u2 I B2 D2 c2 m2 r k w s2 b0 := by
  obtain ⟨h1, h2, h3, h4, h5, h6, h7, ab, fi, h8, h9, h10, h11, h⟩ := h
  have hS : ly_eS n I D c m r w s b0 ab fi := by
    rcases h with ⟨z, -⟩ | z | ⟨-, z, -⟩ | ⟨-, z, -⟩ | ⟨-, z, -⟩
    · omega
    · exact z
    · omega
    · omega
    · omega
  obtain ⟨q1, q2, q3, q4, -⟩ := hS
  refine ⟨h1, by rw [hF.2.2 39 (by decide) (by decide)]; exact h2, h3, by rw [e 31 (Or.inl rfl)]; exact h4, by rw [g 63 (by decide) (by decide)]; exact h5, h33, h67, ab, fi, by rw [g 65 (by decide) (by decide)]; exact h8, by rw [g 66 (by decide) (by decide)]; exact h9, h10, h11, Or.inr (Or.inl ⟨q1, q2, ?_, ?_, hst⟩)⟩
  · rw [e 32 (Or.inr rfl), g 64 (by decide) (by decide)]
    exact ly_cx_mono (Nat.le_refl I) hF q3
  · rw [e 32 (Or.inr rfl)]
    exact ly_up_mono (Nat.le_refl I) hF q4
/-- a goal becomes known -/
theorem ly_core_patch {T p : Nat} {v : Int32} (h : ly_core N a n B T I D nd kd sd bd X c m) (hp : p < n) (hins : um_ins (n + 1) D p (m 46 p) v) : ly_core N a n B T I D nd kd sd bd (fun q => X q ∧ ¬ q = p) (um_up c 12 p v) (um_up m 47 p v) := by
  obtain ⟨h1, h2, h3, h4, h5, h6, h7, h8, h9, h10⟩ := h
  have hF : ly_fr I c m (um_up c 12 p v) (um_up m 47 p v) := ⟨fun q s a1 a2 a3 => by rw [um_up_q (by omega)], fun q j a1 a2 a3 => by rw [um_up_q (by omega)], fun q a1 a2 => um_up_q (by omega)⟩
  refine ⟨⟨by rw [um_up_q (by decide)]; exact h1.1, by rw [um_up_q (by decide)]; exact h1.2.1, by rw [um_up_q (by decide)]; exact h1.2.2⟩, ⟨by rw [um_up_q (by decide)]; exact h2.1, by rw [um_up_q (by decide)]; exact h2.2.1, h2.2.2⟩, ⟨by rw [um_up_q (by decide)]; exact h3.1, by rw [um_up_q (by decide)]; exact h3.2.1, h3.2.2⟩, ⟨by rw [um_up_q (by decide)]; exact h4.1, by rw [um_up_q (by decide)]; exact h4.2.1, h4.2.2⟩, um_tree_um (um_tree_uc h5 (by decide)) (by omega), ⟨by rw [um_up_q (by decide)]; exact h6.1, by rw [um_up_q (by decide)]; exact h6.2⟩, fun j hj => ly_item_mono hj (Nat.le_refl _) (fun _ _ => rfl) hF (h7 j hj), fun q hq => ?_, fun r a1 a2 => ?_, h10⟩
  · obtain ⟨k1, k2, k3⟩ := h8 q hq
    rw [um_up_q (q := 12) (a := 11) (by decide), um_up_q (q := 47) (a := 46) (by decide), um_up_q (q := 12) (a := 13) (by decide), um_up_q (q := 47) (a := 48) (by decide), um_up_q (q := 12) (a := 24) (by decide), um_up_q (q := 47) (a := 56) (by decide), um_up_q (q := 47) (a := 59) (by decide)]
    refine ⟨k1, k2, ?_⟩
    by_cases e : q = p
    · subst e
      rw [um_up_self, um_up_self]
      exact Or.inl ⟨rfl, hins⟩
    · rw [um_up_ne (by omega), um_up_ne (by omega)]
      rcases k3 with z | ⟨z1, z2⟩
      · exact Or.inl z
      · refine Or.inr ⟨z1, ?_⟩
        rcases z2 with ⟨y1, y2⟩ | z2
        · exact Or.inl ⟨⟨y1, e⟩, y2⟩
        · exact Or.inr z2
  · exact ly_ent_mono (Nat.le_refl _) (by omega) (fun p hp => Or.inr rfl) (Nat.le_refl _) (Nat.le_refl _) (Nat.le_refl _) (fun _ _ => rfl) hF (fun q b1 b2 => by rw [um_up_q (by omega)]) (fun q b1 b2 => by rw [um_up_q (by omega)]) (fun p hp => by rw [um_up_q (by decide)]) (h9 r a1 a2)
/-- the topmost entry is gone -/
theorem ly_down (h : ly_inv N a n B (r + 1) I D nd kd sd bd c m) (har : a ≤ r) (hno2 : ¬ ((kd r = 13 ∨ kd r = 18) ∧ 1 ≤ sd r)) (hc : ly_core N a n2 B r I D2 nd kd sd bd X c2 m2) (hX : ∀ p, p < n2 → X p → ly_X r kd sd c2 p) (t1 : c2 6 4 = nI r) (t2 : m2 38 37 = nI r) (hD : D2 n2 = bd r + ly_isE (kd r)) (g59 : m2 59 = m 59) (g68 : ∀ i, i < r → m2 68 i = m 68 i) :
    ly_inv N a n2 B r I D2 nd kd sd bd c2 m2 := by
  obtain ⟨-, ⟨u1, u2, u3, u4⟩, hd, -, ho1, ho2⟩ := id h
  refine ⟨ly_core_X hc hX, ⟨t1, t2, by omega, u4⟩, ?_, ?_, ?_, ?_⟩
  · intro h0
    have := ly_inv_link h h0
    exact ⟨by rw [hD]; exact this, (hd (by omega)).2⟩
  · intro e
    obtain ⟨-, b0, k0⟩ := hd (by omega)
    subst e
    rw [hD, b0, ly_isE, if_neg (by omega)]
  · intro j hj hj2
    rw [g59] at hj2
    obtain ⟨i, a1, a2, a3, a4, a5⟩ := ho1 j hj hj2
    by_cases e : i = r
    · subst e
      exact absurd ⟨a3, a4⟩ hno2
    · exact ⟨i, a1, by omega, a3, a4, by rw [g68 i (by omega)]; exact a5⟩
  · intro i i2 j j2 a1 a2 a3 a4 a5 a6 a7 a8 a9
    rw [g68 i (by omega)] at a8
    rw [g68 i2 (by omega)] at a9
    exact ho2 i i2 j j2 a1 a2 (by omega) a4 a5 a6 a7 a8 a9
theorem p_setGoal {p : Nat} {v : Int32} (hn : c 2 5 = nI n) (hp : p < n) (hn2 : n ≤ 1000) (hq : Q (um_J (um_up c 12 p v) b)) : wp_La_setGoal (nI p) v (um_J c b) Q := by
  unfold wp_La_setGoal
  rw [um_J_c (q := 2) (by decide), hn, um_cl1 (by omega)]
  refine um_no (nI_pos (by omega)) (um_no (nI_ge hp (by omega)) ⟨vp_in_nI (by omega) (by decide), ?_⟩)
  rintro σ1 rfl
  rw [um_J_uc (by decide)]
  exact hq
/-- the class's turn at an IF -/
theorem p_turnI {fuel v : Nat} (h : ly_inv N a n B (r + 1) I D nd kd sd bd c m) (har : a ≤ r) (hk : kd r = 12) (hs : sd r ≤ 3) (hv : v < 1000000)
    (hp : wp_La_turnIf (nI r) (nI (nd r)) (nI (sd r)) (um_J (um_up c 33 r (nI (sd r + 1))) b) (fun σ => wp_La_takeTurns_2 Q fuel (nI (v + 1)) σ)) : wp_La_takeTurns_2 Q (fuel + 1) (nI v) (um_J c b) := by
  obtain ⟨e1, e2, e3, e4, e5, e6, e7, -⟩ := ly_inv_ent h har
  obtain ⟨⟨⟨s1, s2, s3⟩, ⟨n1, n2, n3⟩, ⟨b1, b2', b3⟩, -⟩, ⟨t1, t2, t3, t4⟩, -⟩ := id h
  exact p_turn (ly_inv_tree h) hv t1 (by omega) s1 e4 e1 e6 (by omega) e2 e3 (fun _ => hp) (fun z => absurd z (by omega)) (fun z => absurd z (by omega)) (fun z => absurd z (by omega)) (fun z => absurd z (by omega)) (fun z => absurd z (by omega)) (fun z => absurd hk z)
theorem p_goesI (h : ly_inv N a n B (r + 1) I D nd kd sd bd c m) (har : a ≤ r) (hk : kd r = 12) (hs : sd r ≤ 3) (hp : wp_Mo_decides (nI r) (nI (nd r)) (um_J b (um_up m 67 r (nI (sd r + 1)))) Q) : wp_Mo_goesOn (um_J b m) Q := by
  obtain ⟨hr, hN⟩ := ly_bound h
  obtain ⟨e1, e2, e3, e4, e5, e6, e7, -⟩ := ly_inv_ent h har
  refine p_goesS h har (by omega) (by rw [hk]; decide) ?_
  exact p_Mst (k := nd r) (s := sd r + 1) (by omega) (by rw [um_up_q (by decide)]; exact e5) (by omega) um_up_self (by omega) (by omega) e3 (fun z => absurd z (by omega)) (fun z => absurd z (by omega)) (fun z => absurd z (by omega)) (fun z => absurd z (by omega)) (fun z => absurd z (by omega)) (fun z => absurd z (by omega)) (fun z => absurd z (by omega)) (fun _ => hp) (fun z => absurd z (by omega)) (fun z => absurd z (by omega)) (fun z => absurd z (by omega)) (fun z => absurd z (by omega)) (fun z => absurd z (by omega))
/-- IF: its condition is begun -/
theorem ly_step_12a (h : ly_inv N a n B (r + 1) I D nd kd sd bd c m) (har : a ≤ r) (hk : kd r = 12) (hs : sd r = 0) : ly_to N a n B (r + 1) I D kd sd c m := by
  obtain ⟨hr, hN⟩ := ly_bound h
  obtain ⟨e1, e2, e3, e4, e5, e6, e7, -⟩ := ly_inv_ent h har
  obtain ⟨⟨j1, w1, hj1, hx1, hv1, hw1⟩, -⟩ := (ly_node h har).2.2.2.2.1 hk
  have hT2 : um_tree N (um_up c 33 r (nI (sd r + 1))) m := um_tree_uc (ly_inv_tree h) (by decide)
  obtain ⟨-, a40, -⟩ := hT2.2.2.2.1 (nd r) e1
  have hE : ly_isE w1 = ly_pd (kd r) (sd r + 1) := by
    rw [hk, hs]
    unfold ly_isE
    rw [if_pos hw1]
    rfl
  refine ly_partS (k2 := j1) (w2 := w1) h har (by omega) (Or.inl hs) hj1 hv1 (by omega) hE (fun fuel v b Q hv hq => p_turnI h har hk (by omega) hv ?_) (fun b Q hq => p_goesI h har hk (by omega) ?_)
  · unfold wp_La_turnIf
    rw [um_cl1 (by omega), um_J_c (q := 32) (by decide), um_up_q (q := 33) (a := 32) (by decide)]
    refine ⟨vp_in_nI hr (by decide), ?_⟩
    rintro x1 rfl x2 rfl
    refine um_yes (by rw [hs]; rfl) (p_part (i := 0) hT2 e1 (by decide) ?_)
    have a40' : um_up c 33 r (nI (sd r + 1)) 9 (nd r * 5 + 0) = m 40 (nd r) := a40
    rw [a40', hx1]
    exact hq
  · unfold wp_Mo_decides
    rw [um_cl1 (by omega), um_J_m (q := 67) (by decide), um_up_self]
    refine ⟨vp_in_nI (by omega) (by decide), ?_⟩
    rintro x1 rfl
    refine um_yes (by rw [hs]; rfl) ⟨vp_in_nI (by omega) (by decide), ?_⟩
    rw [um_cl1 (by omega), um_J_m (q := 40) (by decide), um_up_q (q := 67) (a := 40) (by decide), hx1]
    exact hq
/-- IF: both arms are laid down -/
theorem ly_step_12d (h : ly_inv N a n B (r + 1) I D nd kd sd bd c m) (har : a ≤ r) (hk : kd r = 12) (hs : sd r = 3) : ly_to N a n B (r + 1) I D kd sd c m := by
  obtain ⟨hr, hN⟩ := ly_bound h
  obtain ⟨e1, e2, e3, e4, e5, e6, e7, -⟩ := ly_inv_ent h har
  obtain ⟨ab, fi, e8, e9, e10, e11, ⟨f1, f2, f3, f4, f5⟩, hDn⟩ := ly_topS h har (by rw [hk]; decide)
  obtain ⟨⟨⟨s1, s2, s3⟩, ⟨n1, n2, n3⟩, ⟨b1, b2', b3⟩, -⟩, ⟨t1, t2, t3, t4⟩, hd, -⟩ := id h
  have hDn0 : D n = 0 := by rw [hDn, hk, hs]; rfl
  obtain ⟨p, p1, p2, p3, p4, p5⟩ : ∃ p, p < n ∧ c 34 r = nI p ∧ m 69 r = nI p ∧ m 46 p = 11 ∧ D p = 0 := by
    rcases f5 with z | ⟨z, -⟩ | ⟨z, -⟩ | ⟨-, z, -⟩ | ⟨-, -, z⟩
    · omega
    · omega
    · omega
    · omega
    · exact z
  have hc1 := ly_core_patch (v := nI n) (ly_core_up (v := nI (sd r + 1)) (v2 := nI (sd r + 1)) (ly_inv_core h) (q := 33) (k := r) (q2 := 67) (k2 := r) (Or.inl ⟨by decide, by decide, Nat.le_refl _⟩) (Or.inl ⟨by decide, by decide, Nat.le_refl _⟩)) p1 (by
    rw [um_up_q (by decide), p4]
    exact Or.inr (Or.inr (Or.inr (Or.inr (Or.inr (Or.inr (Or.inl ⟨rfl, n, by omega, rfl, by omega⟩)))))))
  have hc2 := ly_core_up (v := nI r) (v2 := nI r) hc1 (q := 6) (k := 4) (q2 := 38) (k2 := 37) (Or.inr rfl) (Or.inr ⟨rfl, rfl⟩)
  refine ⟨_, _, ⟨fun fuel v b Q hv hq => p_turnI h har hk (by omega) hv ?_, fun b Q hq => p_goesI h har hk (by omega) ?_⟩, ?_, Or.inl ⟨n, B, r, I, D, nd, kd, sd, bd, ly_down (c2 := um_up (um_up (um_up c 33 r (nI (sd r + 1))) 12 p (nI n)) 6 4 (nI r)) (m2 := um_up (um_up (um_up m 67 r (nI (sd r + 1))) 47 p (nI n)) 38 37 (nI r)) h har (by omega) hc2 ?_ um_up_self um_up_self (by rw [hDn0, f1, hk]; rfl) ?_ ?_, ly_mu_pop har (by rw [hk, hs]; decide), Nat.le_refl _, ly_gw_id (by rw [um_up_q (by decide), um_up_q (by decide), um_up_q (by decide)]) (by rw [um_up_q (by decide), um_up_q (by decide), um_up_q (by decide)]) (by rw [um_up_q (by decide), um_up_q (by decide), um_up_q (by decide)]), by omega, fun _ _ => rfl⟩⟩
  · unfold wp_La_turnIf
    rw [um_cl1 (by omega), um_J_c (q := 34) (by decide), um_up_q (q := 33) (a := 34) (by decide), p2, um_J_c (q := 2) (by decide), um_up_q (q := 33) (a := 2) (by decide), n1]
    refine ⟨vp_in_nI hr (by decide), ?_⟩
    rintro x1 rfl x2 rfl
    refine um_no (by rw [hs]; decide) (um_no (by rw [hs]; decide) (um_no (by rw [hs]; decide) ⟨vp_in_nI hr (by decide), p_setGoal (n := n) (by rw [um_up_q (by decide)]; exact n1) p1 n3 (p_Wpop (t := r) ?_ hr hq)⟩))
    rw [um_up_q (by decide), um_up_q (by decide)]
    exact t1
  · unfold wp_Mo_decides
    rw [um_cl1 (by omega), um_J_m (q := 67) (by decide), um_up_self]
    refine ⟨vp_in_nI (by omega) (by decide), ?_⟩
    rintro x1 rfl
    rw [um_J_m (q := 69) (by decide), um_up_q (q := 67) (a := 69) (by decide), p3, um_J_m (q := 38) (by decide), um_up_q (q := 67) (a := 38) (by decide), n2]
    refine um_no (by rw [hs]; decide) (um_no (by rw [hs]; decide) (um_no (by rw [hs]; decide) ⟨vp_in_nI (by omega) (by decide), vp_in_nI (by omega) (by decide), ?_⟩))
    rw [um_cl1 (by omega), um_J_um (by decide)]
    rintro σ9 rfl
    rw [um_J_m (q := 38) (by decide), um_up_q (q := 47) (a := 38) (by decide), um_up_q (q := 67) (a := 38) (by decide), t2, show nI (r + 1) - 1 = nI r from um_pred (a := r + 1) (by omega), um_J_um (by decide)]
    rintro σ10 rfl
    exact hq
  · exact (((ly_kp_uc (by omega)).trans (ly_kp_uc (by omega))).trans (ly_kp_uc (by omega))).trans (((ly_kp_um (by omega)).trans (ly_kp_um (by omega))).trans (ly_kp_um (by omega)))
  · rintro q hqn ⟨⟨i, a1, a2, a3, a4⟩, a5⟩
    by_cases e : i = r
    · subst e
      exfalso
      have := (nI_eq (a := p) (b := q) (by omega) (by omega)).mp (p2.symm.trans a4)
      exact a5 this.symm
    · exact ⟨i, by omega, a2, a3, by rw [um_up_q (by decide), um_up_q (by decide), um_up_q (by decide)]; exact a4⟩
  · rw [um_up_q (by decide), um_up_q (by decide), um_up_q (by decide)]
  · intro i hi
    rw [um_up_q (by decide), um_up_q (by decide), um_up_q (by decide)]
end LayIf
