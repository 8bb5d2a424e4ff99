/-! lay: RETURN -/
section LayRet
variable {N a n B r I T : Nat} {D D2 nd kd sd bd : Nat → Nat} {c m b : um_S} {Q : um_S → Prop} {X X2 : Nat → Prop}
theorem um_up_id {σ : um_S} {q k : Nat} : um_up σ q k (σ q k) = σ := by
  funext i j
  by_cases h : i = q ∧ j = k
  · obtain ⟨rfl, rfl⟩ := h
    rw [um_up_self]
  · rw [um_up_ne h]
theorem ly_to_fin2 {c' m' : um_S} {x my op va vm : Int32} {d1 : Nat} (h : ly_inv N a n B (r + 1) I D nd kd sd bd c m) (har : a ≤ r) (hno2 : ¬ ((kd r = 13 ∨ kd r = 18) ∧ 1 ≤ sd r)) (hrs : 1 ≤ ly_rs (kd r) (sd r)) (hsc : c' 3 8 = 0 ∧ c' 2 5 = nI n ∧ c' 6 4 = nI (r + 1)) (hsm : m' 38 35 = 0 ∧ m' 38 36 = 0 ∧ m' 38 10 = nI n ∧ m' 38 37 = nI (r + 1)) (kp : ly_kp a c m c' m') (g59 : m' 59 = m 59) (g55 : m' 55 = m 55) (g57 : m' 57 = m 57) (g68 : ∀ i, i < r → m' 68 i = m 68 i)
    (hcore : n < 1000 → ly_core N a (n + 1) B r I (ly_g D (n + 1) d1) nd kd sd bd X (lc_emit c' n op va x) (lm_put m' n op vm my)) (hX : ∀ p, p < n + 1 → X p → ly_X r kd sd c' p) (hd1 : d1 = bd r + ly_isE (kd r))
    (hcl : ∀ (fuel v : Nat) (b : um_S) (Q : um_S → Prop), v < 1000000 → wp_La_emit op va x (um_J c' b) (fun σ1 => wp_Wo_pop σ1 (fun σ => wp_La_takeTurns_2 Q fuel (nI (v + 1)) σ)) → wp_La_takeTurns_2 Q (fuel + 1) (nI v) (um_J c b))
    (hmo : ∀ (b : um_S) (Q : um_S → Prop), wp_Mo_put op vm my (um_J b m') (fun σ2 => ∀ σ3 : um_S, σ3 = um_up σ2 38 37 ((σ2 38 37) - 1) → Q σ3) → wp_Mo_goesOn (um_J b m) Q) : ly_to N a n B (r + 1) I D kd sd c m := by
  obtain ⟨hr, hN⟩ := ly_bound h
  have n3 : n ≤ 1000 := h.1.2.1.2.2
  have ec : ∀ (b : um_S) (Q : um_S → Prop), (n < 1000 → Q (um_J (um_up (lc_emit c' n op va x) 6 4 (nI r)) b)) → (n = 1000 → Q (um_J (um_up (um_up c' 3 8 (-2)) 6 4 (nI r)) b)) → wp_La_emit op va x (um_J c' b) (fun σ1 => wp_Wo_pop σ1 (fun σ => Q σ)) := by
    intro b Q k1 k2
    refine p_emits hsc.1 hsc.2.1 n3 (fun z => p_Wpop (t := r) ?_ hr (k1 z)) (fun z => p_Wpop (t := r) ?_ hr (k2 z))
    · rw [lc_emit_row (by decide)]
      exact hsc.2.2
    · rw [um_up_q (by decide)]
      exact hsc.2.2
  by_cases hlt : n < 1000
  · have hc2 := ly_core_up (v := nI r) (v2 := nI r) (hcore hlt) (q := 6) (k := 4) (q2 := 38) (k2 := 37) (Or.inr rfl) (Or.inr ⟨rfl, rfl⟩)
    refine ⟨_, _, ⟨fun fuel v b Q hv hq => hcl fuel v b Q hv (ec b _ (fun _ => hq) (fun z => absurd hlt (by omega))), fun b Q hq => hmo b Q (p_Mputpop (by omega) hsm.2.2.2 hsm.1 (n := n) hsm.2.2.1 n3 (fun _ => hq) (fun z => absurd hlt (by omega)))⟩, ?_, Or.inl ⟨n + 1, B, r, I, _, nd, kd, sd, bd, ly_down h har hno2 hc2 ?_ um_up_self um_up_self (by rw [ly_g_at, hd1]) ?_ ?_, ly_mu_pop har hrs, by omega, ly_gw_id (by rw [um_up_q (by decide), lm_put_row (by decide)]; exact g55) (by rw [um_up_q (by decide), lm_put_row (by decide)]; exact g57) (by rw [um_up_q (by decide), lm_put_row (by decide)]; exact g59), by omega, fun k hk => ly_g_ne (by omega)⟩⟩
    · exact (kp.trans (ly_kp_emit.trans (ly_kp_uc (by omega)))).trans (ly_kp_put.trans (ly_kp_um (by omega)))
    · intro p hp hx
      obtain ⟨i, a1, a2, a3, a4⟩ := hX p hp hx
      exact ⟨i, a1, a2, a3, by rw [um_up_q (by decide), lc_emit_row (by decide)]; exact a4⟩
    · rw [um_up_q (by decide), lm_put_row (by decide)]
      exact g59
    · intro i hi
      rw [um_up_q (by decide), lm_put_row (by decide)]
      exact g68 i hi
  · have e : n = 1000 := by omega
    refine ⟨_, _, ⟨fun fuel v b Q hv hq => hcl fuel v b Q hv (ec b _ (fun z => absurd z hlt) (fun _ => hq)), fun b Q hq => hmo b Q (p_Mputpop (by omega) hsm.2.2.2 hsm.1 (n := n) hsm.2.2.1 n3 (fun z => absurd z hlt) (fun _ => hq))⟩, ?_, Or.inr (Or.inl ⟨?_, ?_, ?_⟩)⟩
    · exact (kp.trans ((ly_kp_uc (by omega)).trans (ly_kp_uc (by omega)))).trans ((ly_kp_um (by omega)).trans (ly_kp_um (by omega)))
    · rw [um_up_q (by decide), um_up_self]
    · rw [um_up_ne (by decide), um_up_self]
    · rw [um_up_ne (by decide), um_up_ne (by decide)]
      exact hsm.2.1
/-- what the topmost entry of a RETURN or BREAK holds: where it lies, for the class and for the reference -/
theorem ly_topR (h : ly_inv N a n B (r + 1) I D nd kd sd bd c m) (har : a ≤ r) (hk : kd r = 16 ∨ kd r = 17) : bd r = 0 ∧ D n = 0 ∧ (∃ s1 p1, p1 < 3 ∧ c 32 r = nI (4 * s1 + p1) ∧ sd r + s1 ≤ 2000) ∧ ∃ y, (sd r = 0 → y = m 64 r) ∧ (¬ sd r = 0 → y = m 69 r) ∧ ly_cx I (c 24) (m 56) (c 32 r) y ∧
    ∃ x s0 p0, p0 < 3 ∧ s0 ≤ I ∧ ly_cx I (c 24) (m 56) x (m 64 r) ∧ x = nI (4 * s0 + p0) ∧ (kd r = 17 → ∃ s1 p1, p1 < 3 ∧ s1 ≤ I ∧ c 32 r = nI (4 * s1 + p1) ∧ c 26 s0 = c 26 s1) := by
  obtain ⟨e1, e2, e3, e4, e5, e6, e7, ab, fi, e8, e9, e10, e11, hform⟩ := ly_inv_ent h har
  obtain ⟨-, ⟨t1, t2, t3, t4⟩, hd, -⟩ := id h
  obtain ⟨hd1, -⟩ := hd (by omega)
  rw [Nat.add_sub_cancel] at hd1
  have hpd : ly_pd (kd r) (sd r) = 0 := by
    unfold ly_pd
    rw [if_neg (by omega), if_neg (by omega)]
  rcases hform with ⟨z, -⟩ | ⟨q1, q2, q3, q4, q5⟩ | ⟨-, z, -⟩ | ⟨q1, q2, q3, q4, q5, q6⟩ | ⟨-, z, -⟩
  · omega
  · have hs : sd r = 0 := by
      rcases q5 with z | ⟨-, z⟩ | ⟨-, z⟩ | ⟨z, -⟩ | ⟨z, -⟩
      · exact z
      · rcases z with z | z | z | z | z <;> rcases hk with k | k <;> exact absurd (k.symm.trans z) (by decide)
      · rcases hk with k | k <;> exact absurd (k.symm.trans z) (by decide)
      · rcases hk with k | k <;> exact absurd (k.symm.trans z) (by decide)
      · rcases hk with k | k <;> exact absurd (k.symm.trans z) (by decide)
    obtain ⟨s0, p0, hp0, hs0, hx0⟩ := ly_cx_sc q3
    have hI : I ≤ 2000 := by
      have := h.1.2.2.1.2.2
      have := h.1.2.2.2.1.2.2
      omega
    exact ⟨q1, by omega, ⟨s0, p0, hp0, hx0, by omega⟩, m 64 r, fun _ => rfl, fun z => absurd hs z, q3, c 32 r, s0, p0, hp0, hs0, q3, hx0, fun _ => ⟨s0, p0, hp0, hs0, hx0, rfl⟩⟩
  · omega
  · exact ⟨q1, by omega, q4, m 69 r, fun z => absurd z (by omega), fun _ => rfl, q5, q6⟩
  · omega
theorem ly_cx_cut {K O : Nat → Int32} {x y : Int32} {s1 p1 : Nat} (hI : I ≤ 2000) (h : ly_cx I K O x y) (hp : p1 < 3) (hs : s1 ≤ 2001) (hx : x = nI (4 * s1 + p1)) : ly_cx s1 K O x y := by
  rcases h with h | ⟨j, hj, h⟩
  · exact Or.inl h
  · have e : s1 = j + 1 := by
      rcases h with ⟨e, -⟩ | ⟨e, -⟩ | ⟨-, e, -⟩
      · exact ly_sc_eq hp (p' := 0) (by decide) hs (by omega) (hx.symm.trans e)
      · exact ly_sc_eq hp (p' := 1) (by decide) hs (by omega) (hx.symm.trans e)
      · exact ly_sc_eq hp (p' := 2) (by decide) hs (by omega) (hx.symm.trans e)
    exact Or.inr ⟨j, by omega, h⟩
end LayRet
