/-! lay: what a turn comes to, in general -/
section LayKp
variable {c m c1 m1 c2 m2 : um_S} {a q k n t B : Nat} {v op arg ctx node ab fi : Int32}
theorem ly_kp.rf : ly_kp a c m c m := ⟨fun _ _ => rfl, fun _ _ => rfl, fun _ _ => rfl, ⟨rfl, fun _ _ _ => rfl⟩, rfl, fun _ _ => rfl, fun _ _ => rfl, fun _ _ _ _ _ => rfl, fun _ _ _ _ _ => rfl⟩
theorem ly_kp.trans (h : ly_kp a c m c1 m1) (g : ly_kp a c1 m1 c2 m2) : ly_kp a c m c2 m2 :=
  ⟨fun q hq => (g.1 q hq).trans (h.1 q hq), fun k hk => (g.2.1 k hk).trans (h.2.1 k hk), fun k hk => (g.2.2.1 k hk).trans (h.2.2.1 k hk), ⟨g.2.2.2.1.1.trans h.2.2.2.1.1, fun q a1 a2 => (g.2.2.2.1.2 q a1 a2).trans (h.2.2.2.1.2 q a1 a2)⟩, g.2.2.2.2.1.trans h.2.2.2.2.1, fun q hq => (g.2.2.2.2.2.1 q hq).trans (h.2.2.2.2.2.1 q hq), fun k hk => (g.2.2.2.2.2.2.1 k hk).trans (h.2.2.2.2.2.2.1 k hk), fun q k a1 a2 a3 => (g.2.2.2.2.2.2.2.1 q k a1 a2 a3).trans (h.2.2.2.2.2.2.2.1 q k a1 a2 a3), fun q k a1 a2 a3 => (g.2.2.2.2.2.2.2.2 q k a1 a2 a3).trans (h.2.2.2.2.2.2.2.2 q k a1 a2 a3)⟩
theorem ly_kp_uc (hq : q = 6 ∨ (11 ≤ q ∧ q ≤ 13) ∨ q = 29 ∨ (31 ≤ q ∧ q ≤ 34 ∧ a ≤ k) ∨ (q = 2 ∧ (k = 5 ∨ k = 7)) ∨ (q = 3 ∧ k = 8) ∨ (q = 5 ∧ k = 9)) : ly_kp a c m (um_up c q k v) m :=
  ⟨fun i hi => um_up_q (by omega), fun i hi => um_up_ne (by omega), fun i hi => um_up_ne (by omega), ⟨um_up_ne (by omega), fun _ _ _ => um_up_ne (by omega)⟩, um_up_q (by omega), fun _ _ => rfl, fun _ _ => rfl, fun _ _ _ _ _ => um_up_ne (by omega), fun _ _ _ _ _ => rfl⟩
theorem ly_kp_um (hq : (46 ≤ q ∧ q ≤ 48) ∨ (55 ≤ q ∧ q ≤ 59) ∨ (63 ≤ q ∧ q ≤ 69 ∧ a ≤ k) ∨ (q = 38 ∧ (k = 10 ∨ k = 20 ∨ k = 23 ∨ k = 35 ∨ k = 36 ∨ k = 37))) : ly_kp a c m c (um_up m q k v) :=
  ⟨fun _ _ => rfl, fun _ _ => rfl, fun _ _ => rfl, ⟨rfl, fun _ _ _ => rfl⟩, rfl, fun i hi => um_up_q (by omega), fun i hi => um_up_ne (by omega), fun _ _ _ _ _ => rfl, fun _ _ _ _ _ => um_up_ne (by omega)⟩
theorem ly_kp_emit : ly_kp a c m (lc_emit c n op arg ctx) m := by
  unfold lc_emit
  exact (((ly_kp_uc (by omega)).trans (ly_kp_uc (by omega))).trans (ly_kp_uc (by omega))).trans (ly_kp_uc (by omega))
theorem ly_kp_put : ly_kp a c m c (lm_put m n op arg ctx) := by
  unfold lm_put
  exact (((ly_kp_um (by omega)).trans (ly_kp_um (by omega))).trans (ly_kp_um (by omega))).trans (ly_kp_um (by omega))
theorem ly_kp_cb (hat : a ≤ t) : ly_kp a c m (lc_begin c t B node ctx) m := by
  unfold lc_begin lc_push
  exact (((((ly_kp_uc (by omega)).trans (ly_kp_uc (by omega))).trans (ly_kp_uc (by omega))).trans (ly_kp_uc (by omega))).trans (ly_kp_uc (by omega))).trans (ly_kp_uc (by omega))
theorem ly_kp_mb (hat : a ≤ t) : ly_kp a c m c (lm_begin m t B node ctx ab fi) := by
  unfold lm_begin
  exact ((((((((ly_kp_um (by omega)).trans (ly_kp_um (by omega))).trans (ly_kp_um (by omega))).trans (ly_kp_um (by omega))).trans (ly_kp_um (by omega))).trans (ly_kp_um (by omega))).trans (ly_kp_um (by omega))).trans (ly_kp_um (by omega))).trans (ly_kp_um (by omega))
theorem ly_gw_id {I : Nat} (g55 : m1 55 = m 55) (g57 : m1 57 = m 57) (g59 : m1 59 = m 59) : ly_gw I I m m1 :=
  ⟨Nat.le_refl _, fun j _ => by rw [g55, g57, g59]; exact ⟨rfl, rfl, fun _ => rfl⟩, fun j nd hj _ _ _ h => ⟨hj, by rw [g59] at h; exact h⟩⟩
theorem ly_gw_row {I I1 : Nat} (h : ly_gw I I1 m m1) (g55 : m2 55 = m1 55) (g57 : m2 57 = m1 57) (g59 : m2 59 = m1 59) : ly_gw I I1 m m2 := by
  unfold ly_gw at *
  rw [g55, g57, g59]
  exact h
end LayKp
section LayTo
variable {N a n B r I : Nat} {D nd kd sd bd : Nat → Nat} {c m c' m' : um_S} {op arg my x y : Int32} {k2 ab fi : Nat}
/-- an instruction, and the node has ended -/
theorem ly_to_finish (h : ly_inv N a n B (r + 1) I D nd kd sd bd c m) (har : a ≤ r) (hno1 : ¬ (kd r = 12 ∧ (sd r = 2 ∨ sd r = 3))) (hno2 : ¬ ((kd r = 13 ∨ kd r = 18) ∧ 1 ≤ sd r)) (hrs : 1 ≤ ly_rs (kd r) (sd r))
    (hcx : ly_cy I (c 24) (m 56) (c 32 r) my) (hins : n < 1000 → um_ins (n + 2) (ly_g D (n + 1) (bd r + ly_isE (kd r))) n op arg)
    (hcl : ∀ (fuel v : Nat) (b : um_S) (Q : um_S → Prop), v < 1000000 → wp_La_finish (nI r) op arg (um_J (um_up c 33 r (nI (sd r + 1))) b) (fun σ => wp_La_takeTurns_2 Q fuel (nI (v + 1)) σ) → wp_La_takeTurns_2 Q (fuel + 1) (nI v) (um_J c b))
    (hmo : ∀ (b : um_S) (Q : um_S → Prop), wp_Mo_put op arg my (um_J b (um_up m 67 r (nI (sd r + 1)))) (fun σ2 => ∀ σ3 : um_S, σ3 = um_up σ2 38 37 ((σ2 38 37) - 1) → Q σ3) → wp_Mo_goesOn (um_J b m) Q) : ly_to N a n B (r + 1) I D kd sd c m := by
  obtain ⟨⟨⟨s1, s2, s3⟩, ⟨n1, n2, n3⟩, ⟨b1, b2, b3⟩, -⟩, ⟨t1, t2, t3, t4⟩, -⟩ := id h
  have hr : r < 2001 := by omega
  have e33 : ∀ q, ¬ q = 33 → (um_up c 33 r (nI (sd r + 1))) q = c q := fun q hq => um_up_q hq
  have e67 : ∀ q, ¬ q = 67 → (um_up m 67 r (nI (sd r + 1))) q = m q := fun q hq => um_up_q hq
  have ec : ∀ (b : um_S) (Q : um_S → Prop), (n < 1000 → Q (um_J (um_up (lc_emit (um_up c 33 r (nI (sd r + 1))) n op arg (c 32 r)) 6 4 (nI r)) b)) → (n = 1000 → Q (um_J (um_up (um_up (um_up c 33 r (nI (sd r + 1))) 3 8 (-2)) 6 4 (nI r)) b)) → wp_La_finish (nI r) op arg (um_J (um_up c 33 r (nI (sd r + 1))) b) Q := by
    intro b Q k1 k2
    refine p_finish hr (by rw [e33 _ (by decide)]; exact t1) (by rw [e33 _ (by decide)]; exact s1) (n := n) (by rw [e33 _ (by decide)]; exact n1) n3 (fun z => ?_) k2
    rw [e33 32 (by decide)]
    exact k1 z
  have em : ∀ (b : um_S) (Q : um_S → Prop), (n < 1000 → Q (um_J b (um_up (lm_put (um_up m 67 r (nI (sd r + 1))) n op arg my) 38 37 (nI r)))) → (n = 1000 → Q (um_J b (um_up (um_up (um_up m 67 r (nI (sd r + 1))) 38 35 1) 38 37 (nI r)))) → wp_Mo_put op arg my (um_J b (um_up m 67 r (nI (sd r + 1)))) (fun σ2 => ∀ σ3 : um_S, σ3 = um_up σ2 38 37 ((σ2 38 37) - 1) → Q σ3) := by
    intro b Q k1 k2
    exact p_Mputpop (by omega) (by rw [e67 _ (by decide)]; exact t2) (by rw [e67 _ (by decide)]; exact s2) (n := n) (by rw [e67 _ (by decide)]; exact n2) n3 k1 k2
  by_cases hlt : n < 1000
  · refine ⟨_, _, ⟨fun fuel v b Q hv hq => hcl fuel v b Q hv (ec b _ (fun _ => hq) (fun z => absurd hlt (by omega))), fun b Q hq => hmo b Q (em b Q (fun _ => hq) (fun z => absurd hlt (by omega)))⟩, ?_, Or.inl ⟨n + 1, B, r, I, _, nd, kd, sd, bd, ly_finish h har hlt hno1 hno2 hcx (hins hlt), ly_mu_pop har hrs, by omega, ly_gw_id (by rw [um_up_q (by decide), lm_put_row (by decide), um_up_q (by decide)]) (by rw [um_up_q (by decide), lm_put_row (by decide), um_up_q (by decide)]) (by rw [um_up_q (by decide), lm_put_row (by decide), um_up_q (by decide)]), by omega, fun k hk => ly_g_ne (by omega)⟩⟩
    exact ((((ly_kp_uc (by omega)).trans ly_kp_emit).trans (ly_kp_uc (by omega))).trans (((ly_kp_um (by omega)).trans ly_kp_put).trans (ly_kp_um (by omega))))
  · have e : n = 1000 := by omega
    refine ⟨_, _, ⟨fun fuel v b Q hv hq => hcl fuel v b Q hv (ec b _ (fun z => absurd z hlt) (fun _ => hq)), fun b Q hq => hmo b Q (em b Q (fun z => absurd z hlt) (fun _ => hq))⟩, ?_, Or.inr (Or.inl ⟨?_, ?_, ?_⟩)⟩
    · exact ((((ly_kp_uc (by omega)).trans (ly_kp_uc (by omega))).trans (ly_kp_uc (by omega))).trans (((ly_kp_um (by omega)).trans (ly_kp_um (by omega))).trans (ly_kp_um (by omega))))
    · rw [um_up_q (by decide), um_up_self]
    · rw [um_up_ne (by decide), um_up_self]
    · rw [um_up_ne (by decide), um_up_ne (by decide), um_up_q (by decide)]
      exact s3
/-- a node is begun -/
theorem ly_to_begin {sd0 kd0 : Nat → Nat} {t : Nat} (ht : t ≤ B + 1 ∧ t ≤ r + 1 ∧ a ≤ t) (s1 : m' 38 35 = 0) (s2 : m' 38 36 = 0) (b1 : c' 2 7 = nI B) (b2 : m' 38 20 = nI B) (b3 : B ≤ 2000) (t1 : c' 6 4 = nI t) (t2 : m' 38 37 = nI t) (hkp : ly_kp a c m c' m')
    (hinv : B < 2000 → ∃ nd1 kd1 sd1 bd1 I1 D1, ly_inv N a n (B + 1) (t + 1) I1 D1 nd1 kd1 sd1 bd1 (lc_begin c' t B (nI k2) x) (lm_begin m' t B (nI k2) y (nI ab) (nI fi)) ∧ ly_mu a (B + 1) (t + 1) kd1 sd1 < ly_mu a B (r + 1) kd0 sd0 ∧ ly_gw I I1 m m' ∧ ∀ k, k < n + 1 → D1 k = D k)
    (hcl : ∀ (fuel v : Nat) (b : um_S) (Q : um_S → Prop), v < 1000000 → wp_La_begin (nI k2) x (um_J c' b) (fun σ => wp_La_takeTurns_2 Q fuel (nI (v + 1)) σ) → wp_La_takeTurns_2 Q (fuel + 1) (nI v) (um_J c b))
    (hmo : ∀ (b : um_S) (Q : um_S → Prop), wp_Mo_begin (nI k2) y (nI ab) (nI fi) (um_J b m') Q → wp_Mo_goesOn (um_J b m) Q) : ly_to N a n B (r + 1) I D kd0 sd0 c m := by
  by_cases hB : B < 2000
  · obtain ⟨nd1, kd1, sd1, bd1, I1, D1, h1, h2, h4, h3⟩ := hinv hB
    exact ⟨_, _, ⟨fun fuel v b Q hv hq => hcl fuel v b Q hv (p_begin b1 hB t1 (by omega) hq), fun b Q hq => hmo b Q (p_Mbegin s1 b2 hB t2 (by omega) hq)⟩, (hkp.trans (ly_kp_cb (by omega))).trans (ly_kp_mb (by omega)), Or.inl ⟨n, B + 1, t + 1, I1, D1, nd1, kd1, sd1, bd1, h1, h2, Nat.le_refl _, ly_gw_row h4 (lm_begin_row (by decide)) (lm_begin_row (by decide)) (lm_begin_row (by decide)), by omega, h3⟩⟩
  · have e : B = 2000 := by omega
    refine ⟨um_up c' 3 8 (-2), um_up m' 38 35 1, ⟨fun fuel v b Q hv hq => hcl fuel v b Q hv (p_beginFull (by rw [b1, e]) hq), fun b Q hq => hmo b Q (p_MbeginFull (by rw [b2, e]) hq)⟩, (hkp.trans (ly_kp_uc (by omega))).trans (ly_kp_um (by omega)), Or.inr (Or.inl ⟨um_up_self, um_up_self, ?_⟩)⟩
    rw [um_up_ne (by decide)]
    exact s2
end LayTo
