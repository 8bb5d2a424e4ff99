/-! what a step keeps -/
section Keep2
variable {n r q k j p : Nat} {D : Nat → Nat} {c m : um_S} {v : Int32}
theorem um_fr_uc (h : um_fr n D k p c m) (hq : (q = 4 ∧ j = 6) ∨ (17 ≤ q ∧ q ≤ 20) ∨ q = 22) : um_fr n D k p (um_up c q j v) m := by
  obtain ⟨f1, f2, f3, f4, f5, f6, f7, f8⟩ := h
  have e : ∀ a b, ¬ ((a = 4 ∧ b = 6) ∨ (17 ≤ a ∧ a ≤ 20) ∨ a = 22) → um_up c q j v a b = c a b := fun a b ha => um_up_ne (fun z => ha (z.1 ▸ z.2 ▸ hq))
  refine ⟨f1, f2, f3, by rw [e _ _ (by omega)]; exact f4, f5, by rw [e _ _ (by omega)]; exact f6, f7, fun i hi => ?_⟩
  rw [e _ _ (by omega)]
  exact f8 i hi
theorem um_fr_um (h : um_fr n D k p c m) (hq : q = 70 ∨ q = 71 ∨ q = 74 ∨ q = 75 ∨ (q = 73 ∧ j = k - 1) ∨ (q = 38 ∧ ¬ j = 53)) : um_fr n D k p c (um_up m q j v) := by
  obtain ⟨f1, f2, f3, f4, f5, f6, f7, f8⟩ := h
  have e : ∀ a b, ¬ (a = 70 ∨ a = 71 ∨ a = 74 ∨ a = 75 ∨ (a = 73 ∧ b = k - 1) ∨ (a = 38 ∧ ¬ b = 53)) → um_up m q j v a b = m a b := fun a b ha => um_up_ne (fun z => ha (z.1 ▸ z.2 ▸ hq))
  refine ⟨f1, f2, f3, f4, by rw [e _ _ (by omega)]; exact f5, f6, by rw [e _ _ (by omega)]; exact f7, fun i hi => ?_⟩
  rw [e _ _ (by omega), e _ _ (by omega)]
  exact f8 i hi
theorem um_fr_go {p2 : Nat} (h : um_fr n D k p c m) (h2 : p2 < n) : um_fr n D k p2 (um_up c 4 10 (nI p2)) (um_up m 72 (k - 1) (nI p2)) := by
  obtain ⟨f1, f2, f3, f4, f5, f6, f7, f8⟩ := h
  refine ⟨f1, f2, h2, by simpa [um_up] using f4, by simpa [um_up] using f5, by simp [um_up], by simp [um_up], fun i hi => ?_⟩
  obtain ⟨t, a1, a2, a3, a4, a5⟩ := f8 i hi
  have : ¬ i = k - 1 := by omega
  exact ⟨t, a1, by simpa [um_up] using a2, by simpa [um_up, this] using a3, a4, by simpa [um_up] using a5⟩
theorem um_pl_uc (h : um_pl D k p c m) (hq : (q = 4 ∧ ¬ j = 6) ∨ q = 17 ∨ q = 18 ∨ q = 19 ∨ q = 21 ∨ q = 22) : um_pl D k p (um_up c q j v) m := by
  obtain ⟨f1, f2, f3, f4⟩ := h
  have e : ∀ a b, ¬ ((a = 4 ∧ ¬ b = 6) ∨ a = 17 ∨ a = 18 ∨ a = 19 ∨ a = 21 ∨ a = 22) → um_up c q j v a b = c a b := fun a b ha => um_up_ne (fun z => ha (z.1 ▸ z.2 ▸ hq))
  exact ⟨by rw [e _ _ (by omega)]; exact f1, f2, f3, fun i hi => by rw [e _ _ (by omega)]; exact f4 i hi⟩
theorem um_pl_um (h : um_pl D k p c m) (hq : q = 70 ∨ q = 71 ∨ q = 72 ∨ q = 75 ∨ q = 38) : um_pl D k p c (um_up m q j v) := by
  obtain ⟨f1, f2, f3, f4⟩ := h
  have e : ∀ a b, ¬ (a = 70 ∨ a = 71 ∨ a = 72 ∨ a = 75 ∨ a = 38) → um_up m q j v a b = m a b := fun a b ha => um_up_ne (fun z => ha (z.1 ▸ hq))
  exact ⟨f1, by rw [e _ _ (by omega)]; exact f2, f3, fun i hi => by rw [e _ _ (by omega)]; exact f4 i hi⟩
theorem um_pl_at {p2 : Nat} (h : um_pl D k p c m) (e : D p2 = D p) : um_pl D k p2 c m := by
  obtain ⟨f1, f2, f3, f4⟩ := h
  exact ⟨by rw [e]; exact f1, by rw [e]; exact f2, by rw [e]; exact f3, fun i hi => f4 i (by omega)⟩
theorem um_pl_push {p2 : Nat} {a : Int32} (h : um_pl D k p c m) (hd : D p < 150) (e : D p2 = D p + 1) : um_pl D k p2 (um_up (um_up c 20 (D p) a) 4 6 (nI (D p + 1))) (um_up (um_up m 74 (200 * (k - 1) + D p) a) 73 (k - 1) (nI (D p + 1))) := by
  obtain ⟨f1, f2, f3, f4⟩ := h
  refine ⟨by simp [um_up, e], by simp [um_up, e], by omega, fun i hi => ?_⟩
  by_cases hz : i = D p
  · subst hz
    simp [um_up]
  · have h1 := f4 i (by omega)
    simpa [um_up, hz] using h1
theorem um_pl_pop {p2 : Nat} (h : um_pl D k p c m) (e : D p = D p2 + 1) : um_pl D k p2 (um_up c 4 6 (nI (D p2))) (um_up m 73 (k - 1) (nI (D p2))) := by
  obtain ⟨f1, f2, f3, f4⟩ := h
  refine ⟨by simp [um_up], by simp [um_up], by omega, fun i hi => ?_⟩
  have h1 := f4 i (by omega)
  simpa [um_up] using h1
end Keep2

set_option maxHeartbeats 4000000 in
theorem um_step_push {n r k p o : Nat} {D : Nat → Nat} {c m : um_S} (hC : um_code n r D c m) (hS : um_seen o c m) (hF : um_fr n D k p c m) (hL : um_pl D k p c m) (h0 : m 38 46 = 0) (ho : m 46 p = 0) (d1 : D p < 150) (d2 : p + 1 < n) (d3 : D (p + 1) = D p + 1) :
    ∃ c1 m1, (∀ b Q, Q (um_J c1 b) → wp_Ma_doStep (um_J c b) Q) ∧ (∀ b Q, Q (um_J b m1) → wp_Mo_step (um_J b m) Q) ∧ um_next n r D (m 38 48) c1 m1 := by
  have hF' := hF
  have hL' := hL
  obtain ⟨f1, f2, f3, f4, f5, f6, f7, f8⟩ := hF'
  obtain ⟨l1, l2, l3, l4⟩ := hL'
  have hn : n ≤ 1000 := hC.2.1
  obtain ⟨c1, c2, -⟩ := hC.2.2.2.2.2.2.2.1 p f3
  have hoc : c 11 p = 0 := c1.trans ho
  refine ⟨um_up (um_up (um_up c 20 (D p) (m 47 p)) 4 6 (nI (D p + 1))) 4 10 (nI (p + 1)), um_up (um_up (um_up m 74 (200 * (k - 1) + D p) (m 47 p)) 73 (k - 1) (nI (D p + 1))) 72 (k - 1) (nI (p + 1)), fun b Q hq => ?_, fun b Q hq => ?_, ?_⟩
  · refine p_Ma_in f6 (by omega) hoc c2 ⟨fun z => absurd z (by decide), fun z => absurd z (by decide), fun z => absurd z (by decide), fun z => absurd z (by decide), fun z => absurd z (by decide), fun z => absurd z (by decide), fun _ _ _ _ _ _ => ?_⟩
    unfold wp_Ma_doStraight
    refine um_yes rfl ?_
    refine p_Ma_push l1 d1 ?_
    exact p_Ma_next (by simpa [um_up] using f6) hq
  · refine p_Mo_in f5 f1 f2 f7 (by omega) ho rfl ⟨fun _ => ?_, fun z => absurd z (by decide), fun z => absurd z (by decide), fun z => absurd z (by decide), fun z => absurd z (by decide), fun z => absurd z (by decide), fun z => absurd z (by decide), fun z => absurd z (by decide), fun z => absurd z (by decide), fun z => absurd z (by decide), fun z => absurd z (by decide), fun z0 z1 z8 z9 z10 z11 z12 z13 z14 z15 z16 => absurd rfl z0⟩
    refine p_Mo_push f5 f1 f2 l2 (by omega) ?_
    exact p_Mo_next (by simpa [um_up] using f5) f1 f2 (by simpa [um_up] using f7) hq
  · refine um_next_of (o := o) (k := k) (p := p + 1) (by simp [um_up]) ?_ ?_ (by simpa [um_up] using h0) ?_ ?_
    · exact um_code_um (um_code_um (um_code_um (um_code_uc (um_code_uc (um_code_uc hC (by omega)) (by omega)) (by omega)) (by omega)) (by omega)) (by omega)
    · exact um_seen_um (um_seen_um (um_seen_um (um_seen_uc (um_seen_uc (um_seen_uc hS (by omega)) (by omega)) (by omega)) (by omega)) (by omega)) (by omega)
    · exact um_fr_go (um_fr_um (um_fr_um (um_fr_uc (um_fr_uc hF (by omega)) (by omega)) (by omega)) (by omega)) d2
    · exact um_pl_um (um_pl_uc (um_pl_push hL d1 d3) (by omega)) (by omega)

set_option maxHeartbeats 4000000 in
theorem um_step_load {n r k p o : Nat} {D : Nat → Nat} {c m : um_S} (hC : um_code n r D c m) (hS : um_seen o c m) (hF : um_fr n D k p c m) (hL : um_pl D k p c m) (h0 : m 38 46 = 0) (ho : m 46 p = 1) (d1 : D p < 150) (d2 : p + 1 < n) (d3 : D (p + 1) = D p + 1) {v : Nat} (hv : v < 8) (ha : m 47 p = nI v) :
    ∃ c1 m1, (∀ b Q, Q (um_J c1 b) → wp_Ma_doStep (um_J c b) Q) ∧ (∀ b Q, Q (um_J b m1) → wp_Mo_step (um_J b m) Q) ∧ um_next n r D (m 38 48) c1 m1 := by
  have hF' := hF
  have hL' := hL
  obtain ⟨f1, f2, f3, f4, f5, f6, f7, f8⟩ := hF'
  obtain ⟨l1, l2, l3, l4⟩ := hL'
  have hn : n ≤ 1000 := hC.2.1
  obtain ⟨c1, c2, -⟩ := hC.2.2.2.2.2.2.2.1 p f3
  have hoc : c 11 p = 1 := c1.trans ho
  refine ⟨um_up (um_up (um_up c 20 (D p) (m 70 v)) 4 6 (nI (D p + 1))) 4 10 (nI (p + 1)), um_up (um_up (um_up m 74 (200 * (k - 1) + D p) (m 70 v)) 73 (k - 1) (nI (D p + 1))) 72 (k - 1) (nI (p + 1)), fun b Q hq => ?_, fun b Q hq => ?_, ?_⟩
  · refine p_Ma_in f6 (by omega) hoc c2 ⟨fun z => absurd z (by decide), fun z => absurd z (by decide), fun z => absurd z (by decide), fun z => absurd z (by decide), fun z => absurd z (by decide), fun z => absurd z (by decide), fun _ _ _ _ _ _ => ?_⟩
    unfold wp_Ma_doStraight
    refine um_no (by decide) (um_yes rfl ?_)
    rw [ha, um_cl1 (by omega), um_J_c (by decide), hS.2.2.2.2.2.2.2.2.2.1 v hv]
    refine ⟨vp_in_nI hv (by decide), ?_⟩
    refine p_Ma_push l1 d1 ?_
    exact p_Ma_next (by simpa [um_up] using f6) hq
  · refine p_Mo_in f5 f1 f2 f7 (by omega) ho rfl ⟨fun z => absurd z (by decide), fun _ => ?_, fun z => absurd z (by decide), fun z => absurd z (by decide), fun z => absurd z (by decide), fun z => absurd z (by decide), fun z => absurd z (by decide), fun z => absurd z (by decide), fun z => absurd z (by decide), fun z => absurd z (by decide), fun z => absurd z (by decide), fun z0 z1 z8 z9 z10 z11 z12 z13 z14 z15 z16 => absurd rfl z1⟩
    rw [ha, um_cl1 (by omega)]
    refine ⟨vp_in_nI hv (by decide), ?_⟩
    refine p_Mo_push f5 f1 f2 l2 (by omega) ?_
    exact p_Mo_next (by simpa [um_up] using f5) f1 f2 (by simpa [um_up] using f7) hq
  · refine um_next_of (o := o) (k := k) (p := p + 1) (by simp [um_up]) ?_ ?_ (by simpa [um_up] using h0) ?_ ?_
    · exact um_code_um (um_code_um (um_code_um (um_code_uc (um_code_uc (um_code_uc hC (by omega)) (by omega)) (by omega)) (by omega)) (by omega)) (by omega)
    · exact um_seen_um (um_seen_um (um_seen_um (um_seen_uc (um_seen_uc (um_seen_uc hS (by omega)) (by omega)) (by omega)) (by omega)) (by omega)) (by omega)
    · exact um_fr_go (um_fr_um (um_fr_um (um_fr_uc (um_fr_uc hF (by omega)) (by omega)) (by omega)) (by omega)) d2
    · exact um_pl_um (um_pl_uc (um_pl_push hL d1 d3) (by omega)) (by omega)

set_option maxHeartbeats 4000000 in
theorem um_step_store {n r k p o : Nat} {D : Nat → Nat} {c m : um_S} (hC : um_code n r D c m) (hS : um_seen o c m) (hF : um_fr n D k p c m) (hL : um_pl D k p c m) (h0 : m 38 46 = 0) (ho : m 46 p = 8) (d1 : D p ≤ 150) (d2 : p + 1 < n) (d3 : D p = D (p + 1) + 1) {v : Nat} (hv : v < 8) (ha : m 47 p = nI v) :
    ∃ c1 m1, (∀ b Q, Q (um_J c1 b) → wp_Ma_doStep (um_J c b) Q) ∧ (∀ b Q, Q (um_J b m1) → wp_Mo_step (um_J b m) Q) ∧ um_next n r D (m 38 48) c1 m1 := by
  have hF' := hF
  have hL' := hL
  obtain ⟨f1, f2, f3, f4, f5, f6, f7, f8⟩ := hF'
  obtain ⟨l1, l2, l3, l4⟩ := hL'
  have hn : n ≤ 1000 := hC.2.1
  obtain ⟨c1, c2, -⟩ := hC.2.2.2.2.2.2.2.1 p f3
  have hoc : c 11 p = 8 := c1.trans ho
  rw [d3] at l1 l2
  have lx : c 20 (D (p + 1)) = m 74 (200 * (k - 1) + D (p + 1)) := l4 _ (by omega)
  refine ⟨um_up (um_up (um_up c 4 6 (nI (D (p + 1)))) 17 v (c 20 (D (p + 1)))) 4 10 (nI (p + 1)), um_up (um_up (um_up m 73 (k - 1) (nI (D (p + 1)))) 70 v (m 74 (200 * (k - 1) + D (p + 1)))) 72 (k - 1) (nI (p + 1)), fun b Q hq => ?_, fun b Q hq => ?_, ?_⟩
  · refine p_Ma_in f6 (by omega) hoc c2 ⟨fun z => absurd z (by decide), fun z => absurd z (by decide), fun z => absurd z (by decide), fun z => absurd z (by decide), fun z => absurd z (by decide), fun z => absurd z (by decide), fun _ _ _ _ _ _ => ?_⟩
    unfold wp_Ma_doStraight
    refine um_no (by decide) (um_no (by decide) (um_yes rfl ?_))
    refine p_Ma_pull l1 (by omega) ?_
    rw [ha, um_cl1 (by omega)]
    refine ⟨vp_in_nI hv (by decide), ?_⟩
    rintro σ5 rfl
    rw [um_J_uc (by decide)]
    exact p_Ma_next (by simpa [um_up] using f6) hq
  · refine p_Mo_in f5 f1 f2 f7 (by omega) ho rfl ⟨fun z => absurd z (by decide), fun z => absurd z (by decide), fun _ => ?_, fun z => absurd z (by decide), fun z => absurd z (by decide), fun z => absurd z (by decide), fun z => absurd z (by decide), fun z => absurd z (by decide), fun z => absurd z (by decide), fun z => absurd z (by decide), fun z => absurd z (by decide), fun z0 z1 z8 z9 z10 z11 z12 z13 z14 z15 z16 => absurd rfl z8⟩
    refine p_Mo_pop f5 f1 f2 l2 (by omega) ?_
    rw [ha, um_cl1 (by omega)]
    refine ⟨vp_in_nI hv (by decide), ?_⟩
    rintro σ5 rfl
    rw [um_J_um (by decide)]
    exact p_Mo_next (by simpa [um_up] using f5) f1 f2 (by simpa [um_up] using f7) hq
  · refine um_next_of (o := o) (k := k) (p := p + 1) (by simp [um_up]) ?_ ?_ (by simpa [um_up] using h0) ?_ ?_
    · exact um_code_um (um_code_um (um_code_um (um_code_uc (um_code_uc (um_code_uc hC (by omega)) (by omega)) (by omega)) (by omega)) (by omega)) (by omega)
    · refine um_seen_um (um_seen_uc ?_ (by omega)) (by omega)
      obtain ⟨s1, s2, s3, s4, s5, s6, s7, s8, s9, s10, s11⟩ := um_seen_um (q := 73) (k := k - 1) (v := nI (D (p + 1))) (um_seen_uc (q := 4) (k := 6) (v := nI (D (p + 1))) hS (by omega)) (by omega)
      refine ⟨s1, by simpa [um_up] using s2, by simpa [um_up] using s3, by simpa [um_up] using s4, by simpa [um_up] using s5, by simpa [um_up] using s6, by simpa [um_up] using s7, by simpa [um_up] using s8, fun i hi => by simpa [um_up] using s9 i hi, fun i hi => ?_, fun i a hi ha => by simpa [um_up] using s11 i a hi ha⟩
      by_cases hz : i = v
      · subst hz
        simpa [um_up] using lx
      · have := s10 i hi
        simpa [um_up, hz] using this
    · exact um_fr_go (um_fr_um (um_fr_um (um_fr_uc (um_fr_uc hF (by omega)) (by omega)) (by omega)) (by omega)) d2
    · exact um_pl_um (um_pl_uc (um_pl_um (um_pl_uc (um_pl_pop hL d3) (by omega)) (by omega)) (by omega)) (by omega)

set_option maxHeartbeats 4000000 in
theorem um_step_put {n r k p o : Nat} {D : Nat → Nat} {c m : um_S} (hC : um_code n r D c m) (hS : um_seen o c m) (hF : um_fr n D k p c m) (hL : um_pl D k p c m) (h0 : m 38 46 = 0) (ho : m 46 p = 9) (d1 : D p ≤ 150) (d2 : p + 1 < n) (d3 : D p = D (p + 1) + 1) :
    ∃ c1 m1, (∀ b Q, Q (um_J c1 b) → wp_Ma_doStep (um_J c b) Q) ∧ (∀ b Q, Q (um_J b m1) → wp_Mo_step (um_J b m) Q) ∧ um_next n r D (m 38 48) c1 m1 := by
  have hF' := hF
  have hL' := hL
  obtain ⟨f1, f2, f3, f4, f5, f6, f7, f8⟩ := hF'
  obtain ⟨l1, l2, l3, l4⟩ := hL'
  have hn : n ≤ 1000 := hC.2.1
  obtain ⟨c1, c2, -⟩ := hC.2.2.2.2.2.2.2.1 p f3
  have hoc : c 11 p = 9 := c1.trans ho
  rw [d3] at l1 l2
  have lx : c 20 (D (p + 1)) = m 74 (200 * (k - 1) + D (p + 1)) := l4 _ (by omega)
  have s3c : c 19 3 = nI o := hS.2.2.2.2.1
  have s3m : m 38 49 = nI o := hS.2.2.2.2.2.1
  have so : o ≤ 64 := hS.1.1
  have co : (nI o).toNatClampNeg = o := um_cl1 (by omega)
  have hSp := um_seen_um (q := 73) (k := k - 1) (v := nI (D (p + 1))) (um_seen_uc (q := 4) (k := 6) (v := nI (D (p + 1))) hS (by omega)) (by omega)
  by_cases h64 : o = 64
  · refine ⟨um_up (um_up c 4 6 (nI (D (p + 1)))) 4 10 (nI (p + 1)), um_up (um_up m 73 (k - 1) (nI (D (p + 1)))) 72 (k - 1) (nI (p + 1)), fun b Q hq => ?_, fun b Q hq => ?_, ?_⟩
    · refine p_Ma_in f6 (by omega) hoc c2 ⟨fun z => absurd z (by decide), fun z => absurd z (by decide), fun z => absurd z (by decide), fun z => absurd z (by decide), fun z => absurd z (by decide), fun z => absurd z (by decide), fun _ _ _ _ _ _ => ?_⟩
      unfold wp_Ma_doStraight
      refine um_no (by decide) (um_no (by decide) (um_no (by decide) (um_yes rfl ?_)))
      refine p_Ma_pull l1 (by omega) ?_
      unfold wp_Ma_putOut
      refine um_yes ?_ ?_
      · rw [um_J_c (by decide), um_up_ne (by omega), s3c, h64]
        exact Int32.le_refl _
      · exact p_Ma_next (by simpa [um_up] using f6) hq
    · refine p_Mo_in f5 f1 f2 f7 (by omega) ho rfl ⟨fun z => absurd z (by decide), fun z => absurd z (by decide), fun z => absurd z (by decide), fun _ => ?_, fun z => absurd z (by decide), fun z => absurd z (by decide), fun z => absurd z (by decide), fun z => absurd z (by decide), fun z => absurd z (by decide), fun z => absurd z (by decide), fun z => absurd z (by decide), fun z0 z1 z8 z9 z10 z11 z12 z13 z14 z15 z16 => absurd rfl z9⟩
      refine p_Mo_pop f5 f1 f2 l2 (by omega) ?_
      refine um_yes ?_ ?_
      · rw [um_J_m (by decide), um_up_ne (by omega), s3m, h64]
        exact Int32.le_refl _
      · exact p_Mo_next (by simpa [um_up] using f5) f1 f2 (by simpa [um_up] using f7) hq
    · refine um_next_of (o := o) (k := k) (p := p + 1) (by simp [um_up]) ?_ ?_ (by simpa [um_up] using h0) ?_ ?_
      · exact um_code_um (um_code_um (um_code_uc (um_code_uc hC (by omega)) (by omega)) (by omega)) (by omega)
      · exact um_seen_um (um_seen_uc hSp (by omega)) (by omega)
      · exact um_fr_go (um_fr_um (um_fr_uc hF (by omega)) (by omega)) d2
      · exact um_pl_um (um_pl_uc (um_pl_pop hL d3) (by omega)) (by omega)
  · refine ⟨um_up (um_up (um_up (um_up c 4 6 (nI (D (p + 1)))) 18 o (c 20 (D (p + 1)))) 19 3 (nI (o + 1))) 4 10 (nI (p + 1)), um_up (um_up (um_up (um_up m 73 (k - 1) (nI (D (p + 1)))) 71 o (m 74 (200 * (k - 1) + D (p + 1)))) 38 49 (nI (o + 1))) 72 (k - 1) (nI (p + 1)), fun b Q hq => ?_, fun b Q hq => ?_, ?_⟩
    · refine p_Ma_in f6 (by omega) hoc c2 ⟨fun z => absurd z (by decide), fun z => absurd z (by decide), fun z => absurd z (by decide), fun z => absurd z (by decide), fun z => absurd z (by decide), fun z => absurd z (by decide), fun _ _ _ _ _ _ => ?_⟩
      unfold wp_Ma_doStraight
      refine um_no (by decide) (um_no (by decide) (um_no (by decide) (um_yes rfl ?_)))
      refine p_Ma_pull l1 (by omega) ?_
      unfold wp_Ma_putOut
      have e1 : um_J (um_up c 4 6 (nI (D (p + 1)))) b 19 3 = nI o := by rw [um_J_c (by decide), um_up_ne (by omega)]; exact s3c
      rw [e1, co]
      refine um_no (nI_ge (a := o) (b := 64) (by omega) (by decide)) ⟨vp_in_nI (by omega) (by decide), ?_⟩
      rintro σ1 rfl
      rw [um_up_ne (by omega), e1, um_succ]
      rintro σ2 rfl
      rw [um_J_uc (by decide), um_J_uc (by decide)]
      exact p_Ma_next (by simpa [um_up] using f6) hq
    · refine p_Mo_in f5 f1 f2 f7 (by omega) ho rfl ⟨fun z => absurd z (by decide), fun z => absurd z (by decide), fun z => absurd z (by decide), fun _ => ?_, fun z => absurd z (by decide), fun z => absurd z (by decide), fun z => absurd z (by decide), fun z => absurd z (by decide), fun z => absurd z (by decide), fun z => absurd z (by decide), fun z => absurd z (by decide), fun z0 z1 z8 z9 z10 z11 z12 z13 z14 z15 z16 => absurd rfl z9⟩
      refine p_Mo_pop f5 f1 f2 l2 (by omega) ?_
      have e1 : um_J b (um_up m 73 (k - 1) (nI (D (p + 1)))) 38 49 = nI o := by rw [um_J_m (by decide), um_up_ne (by omega)]; exact s3m
      rw [e1, co]
      refine um_no (nI_ge (a := o) (b := 64) (by omega) (by decide)) ⟨vp_in_nI (by omega) (by decide), ?_⟩
      rintro σ1 rfl
      rw [um_up_ne (by omega), e1, um_succ]
      rintro σ2 rfl
      rw [um_J_um (by decide), um_J_um (by decide)]
      exact p_Mo_next (by simpa [um_up] using f5) f1 f2 (by simpa [um_up] using f7) hq
    · refine um_next_of (o := o + 1) (k := k) (p := p + 1) (by simp [um_up]) ?_ ?_ (by simpa [um_up] using h0) ?_ ?_
      · exact um_code_um (um_code_um (um_code_um (um_code_um (um_code_uc (um_code_uc (um_code_uc (um_code_uc hC (by omega)) (by omega)) (by omega)) (by omega)) (by omega)) (by omega)) (by omega)) (by omega)
      · refine um_seen_um (um_seen_uc ?_ (by omega)) (by omega)
        obtain ⟨s1, s2, s3, s4, s5, s6, s7, s8, s9, s10, s11⟩ := hSp
        refine ⟨⟨by omega, by simpa [um_up] using s1.2⟩, by simpa [um_up] using s2, by simpa [um_up] using s3, by simpa [um_up] using s4, by simp [um_up], by simp [um_up], by simpa [um_up] using s7, by simpa [um_up] using s8, fun i hi => ?_, fun i hi => by simpa [um_up] using s10 i hi, fun i a hi ha => by simpa [um_up] using s11 i a hi ha⟩
        by_cases hz : i = o
        · subst hz
          simpa [um_up] using lx
        · have := s9 i (by omega)
          simpa [um_up, hz] using this
      · exact um_fr_go (um_fr_um (um_fr_um (um_fr_um (um_fr_uc (um_fr_uc (um_fr_uc hF (by omega)) (by omega)) (by omega)) (by omega)) (by omega)) (by omega)) d2
      · exact um_pl_um (um_pl_uc (um_pl_um (um_pl_um (um_pl_uc (um_pl_uc (um_pl_pop hL d3) (by omega)) (by omega)) (by omega)) (by omega)) (by omega)) (by omega)
