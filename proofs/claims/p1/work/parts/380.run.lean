/-! run and latest -/
theorem t_latest {c m : um_S} (hG : um_G c m) (a : Int32) : um_alike Int32 (wp_UM_latest a) (wp_Mo_latest a) c m := by
  rcases hG.2.2 with ⟨h1, h2, -⟩ | ⟨h2, o, hS⟩
  · refine ⟨-1, c, um_up m 38 0 0, fun b Q hq => ?_, fun b Q hq => ?_, um_G_thrown hG⟩
    · unfold wp_UM_latest
      rw [um_J_c (by decide), h1]
      exact um_yes rfl hq
    · unfold wp_Mo_latest
      refine um_thr0 ?_
      rw [um_J_m (by decide), um_up_ne (by omega), h2]
      exact um_yes' rfl hq
  · obtain ⟨⟨-, s0⟩, s2, s3, s4, s5, s6, s7, s8, -⟩ := hS
    have n0 : ¬ c 4 4 = 0 := by rw [s0]; decide
    have e1 : ∀ b, um_J b (um_up m 38 0 0) 38 46 = m 38 46 := fun b => by rw [um_J_m (by decide), um_up_ne (by omega)]
    have e2 : ∀ b, um_J b (um_up m 38 0 0) 38 47 = m 38 47 := fun b => by rw [um_J_m (by decide), um_up_ne (by omega)]
    have e3 : ∀ b, um_J b (um_up m 38 0 0) 38 48 = m 38 48 := fun b => by rw [um_J_m (by decide), um_up_ne (by omega)]
    have e4 : ∀ b, um_J b (um_up m 38 0 0) 38 49 = m 38 49 := fun b => by rw [um_J_m (by decide), um_up_ne (by omega)]
    have e5 : ∀ b, um_J b (um_up m 38 0 0) 38 51 = m 38 51 := fun b => by rw [um_J_m (by decide), um_up_ne (by omega)]
    have e6 : ∀ b, um_J b (um_up m 38 0 0) 38 52 = m 38 52 := fun b => by rw [um_J_m (by decide), um_up_ne (by omega)]
    rcases um_ix a (N := 6) (by decide) with hout | ⟨f, hf, rfl⟩
    · have nn : ∀ v : Nat, v < 6 → ¬ a = nI v := by
        intro v hv z
        subst z
        rcases hout with h | ⟨-, h⟩
        · exact nI_pos (by omega) h
        · exact nI_ge hv (by decide) h
      refine ⟨-1, c, um_up m 38 0 0, fun b Q hq => ?_, fun b Q hq => ?_, um_G_thrown hG⟩
      · unfold wp_UM_latest
        rw [um_J_c (by decide)]
        exact um_no n0 ⟨fun _ => hq, fun z0 => ⟨fun _ => hq, fun z1 => (hout.elim (fun z => absurd z z0) (fun z => absurd z.2 z1))⟩⟩
      · unfold wp_Mo_latest
        refine um_thr0 ?_
        rw [e1]
        exact um_no' h2 (um_no (nn 0 (by omega)) (um_no (nn 1 (by omega)) (um_no (nn 2 (by omega)) (um_no (nn 3 (by omega)) (um_no (nn 4 (by omega)) (um_no (nn 5 (by omega)) hq))))))
    · have p0 : ¬ nI f < 0 := nI_pos (by omega)
      have p6 : ¬ nI 6 ≤ nI f := nI_ge hf (by decide)
      refine ⟨c 19 f, c, um_up m 38 0 0, fun b Q hq => ?_, fun b Q hq => ?_, um_G_thrown hG⟩
      · unfold wp_UM_latest
        rw [um_J_c (by decide), um_cl1 (by omega), um_J_c (by decide)]
        exact um_no n0 (um_no p0 (um_no p6 ⟨vp_in_nI hf (by decide), hq⟩))
      · unfold wp_Mo_latest
        refine um_thr0 ?_
        rw [e1, e2, e3, e4, e5, e6]
        refine um_no' h2 ?_
        rcases (show f = 0 ∨ f = 1 ∨ f = 2 ∨ f = 3 ∨ f = 4 ∨ f = 5 by omega) with rfl | rfl | rfl | rfl | rfl | rfl
        · rw [s2] at hq
          exact um_yes rfl hq
        · rw [s3] at hq
          exact um_no (by decide) (um_yes rfl hq)
        · rw [s4] at hq
          exact um_no (by decide) (um_no (by decide) (um_yes rfl hq))
        · rw [s5, ← s6] at hq
          exact um_no (by decide) (um_no (by decide) (um_no (by decide) (um_yes rfl hq)))
        · rw [s7] at hq
          exact um_no (by decide) (um_no (by decide) (um_no (by decide) (um_no (by decide) (um_yes rfl hq))))
        · rw [s8] at hq
          exact um_no (by decide) (um_no (by decide) (um_no (by decide) (um_no (by decide) (um_no (by decide) (um_yes rfl hq)))))
theorem um_code_fc {n r q : Nat} {D : Nat → Nat} {c m : um_S} {v : Int32} (h : um_code n r D c m) (hq : 17 ≤ q ∧ q ≤ 22) : ∀ N, um_code n r D (um_fill c q N v) m
  | 0 => by rw [um_fill_0]; exact h
  | N + 1 => by rw [← um_fill_s]; exact um_code_uc (um_code_fc h hq N) (by omega)
theorem um_code_fm {n r q : Nat} {D : Nat → Nat} {c m : um_S} {v : Int32} (h : um_code n r D c m) (hq : 70 ≤ q) : ∀ N, um_code n r D c (um_fill m q N v)
  | 0 => by rw [um_fill_0]; exact h
  | N + 1 => by rw [← um_fill_s]; exact um_code_um (um_code_fm h hq N) (by omega)
/-- the reference's first loop: its variables -/
theorem p_run25 {b m : um_S} {f : Nat} {Q : Int32 → um_S → Prop} (hf : f < 6)
    (hq : wp_Mo_run_98 Q 100000 (um_J b (um_up (um_up (um_up (um_up (um_up (um_up (um_up (um_up (um_up (um_fill m 70 8 0) 38 46 0) 38 47 0) 38 48 0) 38 49 0) 38 51 0) 38 53 1) 38 52 1) 72 0 (m 54 f)) 73 0 0))) : wp_Mo_run_25 Q 100000 (nI f) 0 (um_J b m) := by
  have key : ∀ d i fu, i + d = 8 → d < fu → wp_Mo_run_25 Q fu (nI f) (nI i) (um_J b (um_fill m 70 i 0)) := by
    intro d
    induction d with
    | zero =>
      intro i fu h1 h2
      obtain ⟨g, rfl⟩ : ∃ g, fu = g + 1 := ⟨fu - 1, by omega⟩
      have : i = 8 := by omega
      subst this
      unfold wp_Mo_run_25
      refine um_yes (Int32.le_refl _) ?_
      rw [um_J_um (by decide)]
      rintro σ1 rfl
      rw [um_J_um (by decide)]
      rintro σ2 rfl
      rw [um_J_um (by decide)]
      rintro σ3 rfl
      rw [um_J_um (by decide)]
      rintro σ4 rfl
      rw [um_J_um (by decide)]
      rintro σ5 rfl
      rw [um_J_um (by decide)]
      rintro σ6 rfl
      rw [um_J_um (by decide)]
      rintro σ7 rfl
      rw [um_cl1 (by omega), um_J_m (by decide)]
      refine ⟨vp_in_nI hf (by decide), ?_⟩
      rw [um_J_um (by decide)]
      rintro σ8 rfl
      rw [um_J_um (by decide)]
      rintro σ9 rfl
      exact hq
    | succ d ih =>
      intro i fu h1 h2
      obtain ⟨g, rfl⟩ : ∃ g, fu = g + 1 := ⟨fu - 1, by omega⟩
      unfold wp_Mo_run_25
      refine um_no (nI_ge (a := i) (b := 8) (by omega) (by decide)) ?_
      rw [um_cl1 (by omega), um_J_um (by decide), um_fill_s, um_succ]
      exact ⟨vp_in_nI (by omega) (by decide), fun σ1 e => e ▸ ih (i + 1) g (by omega) (by omega)⟩
  have h0 := key 8 0 100000 (by omega) (by omega)
  rw [um_fill_0] at h0
  exact h0
set_option maxHeartbeats 1000000 in
theorem um_run_sim {n r f : Nat} {D : Nat → Nat} {c m : um_S} (hC : um_code n r D c m) (hpl : ∀ j a, j < 12 → a < 150 → c 22 (j * 150 + a) = m 75 (200 * j + a)) (hf : f < 6) :
    ∃ (x : Int32) (c1 m1 : um_S), (∀ b Q, Q x (um_J c1 b) → wp_Ma_start (c 14 f) (um_J c b) Q) ∧ (∀ b Q, Q x (um_J b m1) → wp_Mo_run_25 Q 100000 (nI f) 0 (um_J b m)) ∧ um_code n r D c1 m1 ∧ ∃ o, um_seen o c1 m1 ∧ ¬ m1 38 46 = -1 := by
  obtain ⟨t, t1, t2, t3, t4⟩ := hC.2.2.2.2.2.2.2.2.2.2.1 f hf
  obtain ⟨c0, hc0⟩ : ∃ c0, c0 = um_up (um_up (um_up (um_up (um_fill (um_fill (um_up c 4 4 1) 17 8 0) 19 6 0) 4 6 0) 4 9 1) 4 10 (nI t)) 19 5 1 := ⟨_, rfl⟩
  obtain ⟨m0, hm0⟩ : ∃ m0, m0 = um_up (um_up (um_up (um_up (um_up (um_up (um_up (um_up (um_up (um_fill m 70 8 0) 38 46 0) 38 47 0) 38 48 0) 38 49 0) 38 51 0) 38 53 1) 38 52 1) 72 0 (nI t)) 73 0 0 := ⟨_, rfl⟩
  have hC0 : um_code n r D c0 m0 := by
    rw [hc0, hm0]
    refine um_code_um (um_code_um (um_code_um (um_code_um (um_code_um (um_code_um (um_code_um (um_code_um (um_code_um (um_code_fm ?_ (by omega) 8) (by omega)) (by omega)) (by omega)) (by omega)) (by omega)) (by omega)) (by omega)) (by omega)) (by omega)
    exact um_code_uc (um_code_uc (um_code_uc (um_code_uc (um_code_fc (um_code_fc (um_code_uc hC (by omega)) (by omega) 8) (by omega) 6) (by omega)) (by omega)) (by omega)) (by omega)
  have hS0 : um_seen 0 c0 m0 := by
    rw [hc0, hm0]
    refine ⟨⟨by omega, by simp [um_up, um_fill]⟩, by simp [um_up, um_fill], by simp [um_up, um_fill], by simp [um_up, um_fill], by simp [um_up, um_fill]; rfl, by simp [um_up, um_fill]; rfl, by simp [um_up, um_fill], by simp [um_up, um_fill], fun i hi => by omega, fun v hv => ?_, fun j a hj ha => ?_⟩
    · simp [um_up, um_fill, hv]
    · have := hpl j a hj ha
      simpa [um_up, um_fill] using this
  have hF0 : um_fr n D 1 t c0 m0 := by
    rw [hc0, hm0]
    exact ⟨by omega, by omega, t1, by simp [um_up]; rfl, by simp [um_up]; rfl, by simp [um_up], by simp [um_up], fun j hj => by omega⟩
  have hL0 : um_pl D 1 t c0 m0 := by
    rw [hc0, hm0]
    exact ⟨by rw [t4]; simp [um_up]; rfl, by rw [t4]; simp [um_up]; rfl, by omega, fun i hi => by omega⟩
  obtain ⟨c1, m1, o1, w1, w2, w3, w4, w5⟩ := um_loop 3000 0 1 t 0 c0 m0 (by omega) hC0 (by rw [hm0]; simp [um_up]; rfl) hS0 (by rw [hm0]; simp [um_up]) hF0 hL0
  refine ⟨c1 19 0, c1, m1, fun b Q hq => ?_, fun b Q hq => ?_, w3, o1, w4, w5⟩
  · unfold wp_Ma_start
    rw [um_J_uc (by decide), t2]
    rintro σ1 rfl
    refine p_fill17 (p_fill19 ?_)
    rw [um_J_uc (by decide)]
    rintro σ4 rfl
    rw [um_J_uc (by decide)]
    rintro σ5 rfl
    rw [um_J_uc (by decide)]
    rintro σ6 rfl
    rw [um_J_uc (by decide)]
    rintro σ7 rfl
    rw [← hc0]
    exact w1 b Q 100000 (by omega) hq
  · refine p_run25 hf ?_
    rw [t3, ← hm0]
    rw [w4.2.1] at hq
    exact w2 b Q 100000 (by omega) hq
theorem um_R_places {c m : um_S} (h : um_R c m) : ∀ j a, j < 12 → a < 150 → c 22 (j * 150 + a) = m 75 (200 * j + a) := by
  rcases h with h | ⟨-, o, h⟩
  · exact h.2.2.2.2.2
  · exact h.2.2.2.2.2.2.2.2.2.2
theorem t_run {c m : um_S} (hG : um_G c m) (a : Int32) : um_alike Int32 (wp_UM_run a) (wp_Mo_run a) c m := by
  have hG0 := um_G_thrown (v := 0) hG
  rcases hG.2.1 with ⟨h1, h2, h3⟩ | ⟨n, r, D, hC⟩
  · refine ⟨-1, c, um_up m 38 0 0, fun b Q hq => ?_, fun b Q hq => ?_, hG0⟩
    · unfold wp_UM_run
      exact p_standsNot h2 ⟨fun _ => hq, fun z => absurd z (by decide)⟩
    · unfold wp_Mo_run
      refine um_thr0 ?_
      rw [um_J_m (by decide), um_up_ne (by omega), h1]
      exact um_yes rfl hq
  · have hC2 : um_code n r D c (um_up m 38 0 0) := um_code_um hC (by omega)
    have e1 : ∀ b, um_J b (um_up m 38 0 0) 38 9 = 1 := fun b => by rw [um_J_m (by decide)]; exact hC2.2.2.2.2.2.2.2.2.2.2.2.2.2.2
    rcases um_ix a (N := 6) (by decide) with hout | ⟨f, hf, rfl⟩
    · refine ⟨-1, c, um_up m 38 0 0, fun b Q hq => ?_, fun b Q hq => ?_, hG0⟩
      · unfold wp_UM_run wp_UM_isFunction
        refine p_stands hC.2.2.2.1 hC.1 hC.2.1 ⟨fun _ => hq, fun _ => ?_⟩
        exact ⟨fun _ => ⟨fun _ => hq, fun z => absurd z (by decide)⟩, fun z0 => ⟨fun _ => ⟨fun _ => hq, fun z => absurd z (by decide)⟩, fun z1 => (hout.elim (fun z => absurd z z0) (fun z => absurd z.2 z1))⟩⟩
      · unfold wp_Mo_run
        refine um_thr0 ?_
        rw [e1]
        refine um_no (by decide) ⟨fun _ => hq, fun z0 => ⟨fun z1 => ?_, fun _ => hq⟩⟩
        rcases hout with z | ⟨-, z⟩
        · exact absurd z z0
        · exact absurd (Int32.le_trans z z1) (by decide)
    · obtain ⟨x, c1, m1, w1, w2, w3, o, w4, w5⟩ := um_run_sim hC2 (um_R_places hG0.2.2) hf
      have n0 : ¬ nI f < 0 := nI_pos (by omega)
      have n6 : ¬ nI 6 ≤ nI f := nI_ge hf (by decide)
      refine ⟨x, c1, m1, fun b Q hq => ?_, fun b Q hq => ?_, ⟨w3.2.2.2.2.2.2.2.2.2.2.2.1, Or.inr ⟨n, r, D, w3⟩, Or.inr ⟨w5, o, w4⟩⟩⟩
      · unfold wp_UM_run wp_UM_isFunction
        refine p_stands hC.2.2.2.1 hC.1 hC.2.1 ⟨fun z => absurd z (by decide), fun _ => ?_⟩
        refine um_no n0 (um_no n6 ⟨fun z => absurd z (by decide), fun _ => ⟨vp_in_nI hf (by decide), ?_⟩⟩)
        rw [um_cl1 (by omega), um_J_c (by decide)]
        exact w1 b _ hq
      · unfold wp_Mo_run
        refine um_thr0 ?_
        rw [e1]
        refine um_no (by decide) (um_no n0 (um_yes (nI_le (a := f) (b := 5) (by omega) (by decide)) ?_))
        exact w2 b Q hq
