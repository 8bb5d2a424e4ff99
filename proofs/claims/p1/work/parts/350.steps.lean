/-! the other instructions -/

set_option maxHeartbeats 4000000 in
theorem um_step_keep {n r k p o : Nat} {D : Nat → Nat} {c m : um_S} (hC : um_code n r D c m) (hS : um_seen o c m) (hF : um_fr n D k p c m) (hL : um_pl D k p c m) (h0 : m 38 46 = 0) (ho : m 46 p = 15) (d1 : D p ≤ 150) (d2 : p + 1 < n) (d3 : D p = D (p + 1) + 1) {v : Nat} (hv : v < 150) (ha : m 47 p = nI v) :
    ∃ c1 m1, (∀ b Q, Q (um_J c1 b) → wp_Ma_doStep (um_J c b) Q) ∧ (∀ b Q, Q (um_J b m1) → wp_Mo_step (um_J b m) Q) ∧ um_next n r D (m 38 48) c1 m1 := by
  have hF' := hF
  have hL' := hL
  obtain ⟨f1, f2, f3, f4, f5, f6, f7, f8⟩ := hF'
  obtain ⟨l1, l2, l3, l4⟩ := hL'
  have hn : n ≤ 1000 := hC.2.1
  obtain ⟨c1, c2, -⟩ := hC.2.2.2.2.2.2.2.1 p f3
  have hoc : c 11 p = 15 := c1.trans ho
  rw [d3] at l1 l2
  have lx : c 20 (D (p + 1)) = m 74 (200 * (k - 1) + D (p + 1)) := l4 _ (by omega)
  have em : 200 * nI (k - 1) + nI v = nI (200 * (k - 1) + v) := by
    rw [show (200 : Int32) = nI 200 from rfl, pk_mul, nI_add]
  have cm : (nI (200 * (k - 1) + v)).toNatClampNeg = 200 * (k - 1) + v := um_cl1 (by omega)
  have ec : (nI k - 1) * 150 + nI v = nI ((k - 1) * 150 + v) := by
    rw [um_pred f1, show (150 : Int32) = nI 150 from rfl, pk_mul, nI_add]
  have cc : (nI ((k - 1) * 150 + v)).toNatClampNeg = (k - 1) * 150 + v := um_cl1 (by omega)
  refine ⟨um_up (um_up (um_up c 4 6 (nI (D (p + 1)))) 22 ((k - 1) * 150 + v) (c 20 (D (p + 1)))) 4 10 (nI (p + 1)), um_up (um_up (um_up m 73 (k - 1) (nI (D (p + 1)))) 75 (200 * (k - 1) + v) (m 74 (200 * (k - 1) + D (p + 1)))) 72 (k - 1) (nI (p + 1)), fun b Q hq => ?_, fun b Q hq => ?_, ?_⟩
  · refine p_Ma_in f6 (by omega) hoc c2 ⟨fun z => absurd z (by decide), fun z => absurd z (by decide), fun z => absurd z (by decide), fun z => absurd z (by decide), fun z => absurd z (by decide), fun z => absurd z (by decide), fun _ _ _ _ _ _ => ?_⟩
    unfold wp_Ma_doStraight
    refine um_no (by decide) (um_no (by decide) (um_no (by decide) (um_no (by decide) (um_yes rfl ?_))))
    unfold wp_Ma_placeOf
    rw [um_J_c (by decide), f4, ha, ec]
    refine p_Ma_pull l1 (by omega) ?_
    rw [cc]
    refine ⟨vp_in_nI (by omega) (by decide), ?_⟩
    rintro σ5 rfl
    rw [um_J_uc (by decide)]
    exact p_Ma_next (by simpa [um_up] using f6) hq
  · refine p_Mo_in f5 f1 f2 f7 (by omega) ho rfl ⟨fun z => absurd z (by decide), fun z => absurd z (by decide), fun z => absurd z (by decide), fun z => absurd z (by decide), fun z => absurd z (by decide), fun z => absurd z (by decide), fun z => absurd z (by decide), fun z => absurd z (by decide), fun z => absurd z (by decide), fun _ => ?_, fun z => absurd z (by decide), fun z0 z1 z8 z9 z10 z11 z12 z13 z14 z15 z16 => absurd rfl z15⟩
    refine p_Mo_pop f5 f1 f2 l2 (by omega) ?_
    rw [ha, em, cm]
    refine ⟨vp_in_nI (by omega) (by decide), ?_⟩
    rintro σ5 rfl
    rw [um_J_um (by decide)]
    exact p_Mo_next (by simpa [um_up] using f5) f1 f2 (by simpa [um_up] using f7) hq
  · refine um_next_of (o := o) (k := k) (p := p + 1) (by simp [um_up]) ?_ ?_ (by simpa [um_up] using h0) ?_ ?_
    · exact um_code_um (um_code_um (um_code_um (um_code_uc (um_code_uc (um_code_uc hC (by omega)) (by omega)) (by omega)) (by omega)) (by omega)) (by omega)
    · refine um_seen_um (um_seen_uc ?_ (by omega)) (by omega)
      obtain ⟨s1, s2, s3, s4, s5, s6, s7, s8, s9, s10, s11⟩ := um_seen_um (q := 73) (k := k - 1) (v := nI (D (p + 1))) (um_seen_uc (q := 4) (k := 6) (v := nI (D (p + 1))) hS (by omega)) (by omega)
      refine ⟨s1, by simpa [um_up] using s2, by simpa [um_up] using s3, by simpa [um_up] using s4, by simpa [um_up] using s5, by simpa [um_up] using s6, by simpa [um_up] using s7, by simpa [um_up] using s8, fun i hi => by simpa [um_up] using s9 i hi, fun i hi => by simpa [um_up] using s10 i hi, fun i a hi ha => ?_⟩
      by_cases hz : i = k - 1 ∧ a = v
      · obtain ⟨rfl, rfl⟩ := hz
        rw [um_up_self, um_up_self]
        exact lx
      · exact (um_up_ne (fun z => hz (by omega))).trans ((s11 i a hi ha).trans (um_up_ne (fun z => hz (by omega))).symm)
    · exact um_fr_go (um_fr_um (um_fr_um (um_fr_uc (um_fr_uc hF (by omega)) (by omega)) (by omega)) (by omega)) d2
    · exact um_pl_um (um_pl_uc (um_pl_um (um_pl_uc (um_pl_pop hL d3) (by omega)) (by omega)) (by omega)) (by omega)

set_option maxHeartbeats 4000000 in
theorem um_step_zero {n r k p o : Nat} {D : Nat → Nat} {c m : um_S} (hC : um_code n r D c m) (hS : um_seen o c m) (hF : um_fr n D k p c m) (hL : um_pl D k p c m) (h0 : m 38 46 = 0) (ho : m 46 p = 10) (d1 : D p ≤ 150) (d2 : p + 1 < n) (d3 : D p = D (p + 1) + 1) {t : Nat} (ht : t < n) (ha : m 47 p = nI t) (d4 : D p = D t + 1) :
    ∃ c1 m1, (∀ b Q, Q (um_J c1 b) → wp_Ma_doStep (um_J c b) Q) ∧ (∀ b Q, Q (um_J b m1) → wp_Mo_step (um_J b m) Q) ∧ um_next n r D (m 38 48) c1 m1 := by
  have hF' := hF
  have hL' := hL
  obtain ⟨f1, f2, f3, f4, f5, f6, f7, f8⟩ := hF'
  obtain ⟨l1, l2, l3, l4⟩ := hL'
  have hn : n ≤ 1000 := hC.2.1
  obtain ⟨c1, c2, -⟩ := hC.2.2.2.2.2.2.2.1 p f3
  have hoc : c 11 p = 10 := c1.trans ho
  rw [d3] at l1 l2
  have lx : c 20 (D (p + 1)) = m 74 (200 * (k - 1) + D (p + 1)) := l4 _ (by omega)
  have i1 : vp_in (nI (k - 1)) 12 := vp_in_nI (by omega) (by decide)
  have key : ∀ p2, p2 < n → D p = D p2 + 1 → um_next n r D (m 38 48) (um_up (um_up c 4 6 (nI (D p2))) 4 10 (nI p2)) (um_up (um_up m 73 (k - 1) (nI (D p2))) 72 (k - 1) (nI p2)) := by
    intro p2 hp2 hd2
    refine um_next_of (o := o) (k := k) (p := p2) (by simp [um_up]) ?_ ?_ (by simpa [um_up] using h0) ?_ ?_
    · exact um_code_um (um_code_um (um_code_uc (um_code_uc hC (by omega)) (by omega)) (by omega)) (by omega)
    · exact um_seen_um (um_seen_um (um_seen_uc (um_seen_uc hS (by omega)) (by omega)) (by omega)) (by omega)
    · exact um_fr_go (um_fr_um (um_fr_uc hF (by omega)) (by omega)) hp2
    · exact um_pl_um (um_pl_uc (um_pl_pop hL hd2) (by omega)) (by omega)
  by_cases hx : c 20 (D (p + 1)) = 0
  · have hx2 : m 74 (200 * (k - 1) + D (p + 1)) = 0 := lx ▸ hx
    refine ⟨_, _, fun b Q hq => ?_, fun b Q hq => ?_, key t ht d4⟩
    · refine p_Ma_in f6 (by omega) hoc c2 ⟨fun _ => ?_, fun z => absurd z (by decide), fun z => absurd z (by decide), fun z => absurd z (by decide), fun z => absurd z (by decide), fun z => absurd z (by decide), fun z10 z11 z12 z13 z14 z16 => absurd rfl z10⟩
      refine p_Ma_pull l1 (by omega) ?_
      refine um_yes' hx ?_
      rintro σ6 rfl
      rw [um_J_uc (by decide), ha, show D (p + 1) = D t by omega]
      exact hq
    · refine p_Mo_in f5 f1 f2 f7 (by omega) ho rfl ⟨fun z => absurd z (by decide), fun z => absurd z (by decide), fun z => absurd z (by decide), fun z => absurd z (by decide), fun _ => ?_, fun z => absurd z (by decide), fun z => absurd z (by decide), fun z => absurd z (by decide), fun z => absurd z (by decide), fun z => absurd z (by decide), fun z => absurd z (by decide), fun z0 z1 z8 z9 z10 z11 z12 z13 z14 z15 z16 => absurd rfl z10⟩
      refine p_Mo_pop f5 f1 f2 l2 (by omega) ?_
      refine um_yes' hx2 ⟨i1, ?_⟩
      rintro σ6 rfl
      rw [um_J_um (by decide), ha, show D (p + 1) = D t by omega]
      exact hq
  · have hx2 : ¬ m 74 (200 * (k - 1) + D (p + 1)) = 0 := fun z => hx (lx.trans z)
    refine ⟨_, _, fun b Q hq => ?_, fun b Q hq => ?_, key (p + 1) d2 d3⟩
    · refine p_Ma_in f6 (by omega) hoc c2 ⟨fun _ => ?_, fun z => absurd z (by decide), fun z => absurd z (by decide), fun z => absurd z (by decide), fun z => absurd z (by decide), fun z => absurd z (by decide), fun z10 z11 z12 z13 z14 z16 => absurd rfl z10⟩
      refine p_Ma_pull l1 (by omega) ?_
      refine um_no' hx ?_
      rw [um_J_c (by decide), um_up_ne (by omega), f6, um_succ]
      rintro σ6 rfl
      rw [um_J_uc (by decide)]
      exact hq
    · refine p_Mo_in f5 f1 f2 f7 (by omega) ho rfl ⟨fun z => absurd z (by decide), fun z => absurd z (by decide), fun z => absurd z (by decide), fun z => absurd z (by decide), fun _ => ?_, fun z => absurd z (by decide), fun z => absurd z (by decide), fun z => absurd z (by decide), fun z => absurd z (by decide), fun z => absurd z (by decide), fun z => absurd z (by decide), fun z0 z1 z8 z9 z10 z11 z12 z13 z14 z15 z16 => absurd rfl z10⟩
      refine p_Mo_pop f5 f1 f2 l2 (by omega) ?_
      refine um_no' hx2 ⟨i1, ?_⟩
      rintro σ6 rfl
      rw [um_J_um (by decide)]
      exact hq

set_option maxHeartbeats 4000000 in
theorem um_step_jump {n r k p o : Nat} {D : Nat → Nat} {c m : um_S} (hC : um_code n r D c m) (hS : um_seen o c m) (hF : um_fr n D k p c m) (hL : um_pl D k p c m) (h0 : m 38 46 = 0) (ho : m 46 p = 11) {t : Nat} (ht : t < n) (ha : m 47 p = nI t) (d4 : D t = D p) :
    ∃ c1 m1, (∀ b Q, Q (um_J c1 b) → wp_Ma_doStep (um_J c b) Q) ∧ (∀ b Q, Q (um_J b m1) → wp_Mo_step (um_J b m) Q) ∧ um_next n r D (m 38 48) c1 m1 := by
  have hF' := hF
  have hL' := hL
  obtain ⟨f1, f2, f3, f4, f5, f6, f7, f8⟩ := hF'
  obtain ⟨l1, l2, l3, l4⟩ := hL'
  have hn : n ≤ 1000 := hC.2.1
  obtain ⟨c1, c2, -⟩ := hC.2.2.2.2.2.2.2.1 p f3
  have hoc : c 11 p = 11 := c1.trans ho
  refine ⟨um_up c 4 10 (nI t), um_up m 72 (k - 1) (nI t), fun b Q hq => ?_, fun b Q hq => ?_, ?_⟩
  · refine p_Ma_in f6 (by omega) hoc c2 ⟨fun z => absurd z (by decide), fun _ => ?_, fun z => absurd z (by decide), fun z => absurd z (by decide), fun z => absurd z (by decide), fun z => absurd z (by decide), fun z10 z11 z12 z13 z14 z16 => absurd rfl z11⟩
    rintro σ6 rfl
    rw [um_J_uc (by decide), ha]
    exact hq
  · refine p_Mo_in f5 f1 f2 f7 (by omega) ho rfl ⟨fun z => absurd z (by decide), fun z => absurd z (by decide), fun z => absurd z (by decide), fun z => absurd z (by decide), fun z => absurd z (by decide), fun _ => ?_, fun z => absurd z (by decide), fun z => absurd z (by decide), fun z => absurd z (by decide), fun z => absurd z (by decide), fun z => absurd z (by decide), fun z0 z1 z8 z9 z10 z11 z12 z13 z14 z15 z16 => absurd rfl z11⟩
    rintro σ6 rfl
    rw [um_J_um (by decide), ha]
    exact hq
  · refine um_next_of (o := o) (k := k) (p := t) (by simp [um_up]) ?_ ?_ (by simpa [um_up] using h0) ?_ ?_
    · exact um_code_um (um_code_uc hC (by omega)) (by omega)
    · exact um_seen_um (um_seen_uc hS (by omega)) (by omega)
    · exact um_fr_go hF ht
    · exact um_pl_um (um_pl_uc (um_pl_at hL d4) (by omega)) (by omega)

set_option maxHeartbeats 4000000 in
theorem um_step_raise {n r k p o : Nat} {D : Nat → Nat} {c m : um_S} (hC : um_code n r D c m) (hS : um_seen o c m) (hF : um_fr n D k p c m) (hL : um_pl D k p c m) (h0 : m 38 46 = 0) (ho : m 46 p = 12) (d1 : D p ≤ 150) (d3 : 1 ≤ D p) :
    ∃ c1 m1, (∀ b Q, Q (um_J c1 b) → wp_Ma_doStep (um_J c b) Q) ∧ (∀ b Q, Q (um_J b m1) → wp_Mo_step (um_J b m) Q) ∧ um_next n r D (m 38 48) c1 m1 := by
  have hF' := hF
  have hL' := hL
  obtain ⟨f1, f2, f3, f4, f5, f6, f7, f8⟩ := hF'
  obtain ⟨l1, l2, l3, l4⟩ := hL'
  have hn : n ≤ 1000 := hC.2.1
  obtain ⟨c1, c2, -⟩ := hC.2.2.2.2.2.2.2.1 p f3
  have hoc : c 11 p = 12 := c1.trans ho
  obtain ⟨d, hd⟩ : ∃ d, D p = d + 1 := ⟨D p - 1, by omega⟩
  rw [hd] at l1 l2
  have lx : c 20 d = m 74 (200 * (k - 1) + d) := l4 _ (by omega)
  have hC2 : um_code n r D (um_up c 4 6 (nI d)) (um_up m 73 (k - 1) (nI d)) := um_code_um (um_code_uc hC (by omega)) (by omega)
  have hS2 : um_seen o (um_up c 4 6 (nI d)) (um_up m 73 (k - 1) (nI d)) := um_seen_um (um_seen_uc hS (by omega)) (by omega)
  have hF2 : um_fr n D k p (um_up c 4 6 (nI d)) (um_up m 73 (k - 1) (nI d)) := um_fr_um (um_fr_uc hF (by omega)) (by omega)
  obtain ⟨x, hx⟩ : ∃ x : Int32, x = if c 20 d = 0 then 2 else c 20 d := ⟨_, rfl⟩
  obtain ⟨ca, ma, w1, w2, w3⟩ := um_raise x hC2 hS2 hF2 (by simpa [um_up] using h0)
  refine ⟨ca, ma, fun b Q hq => ?_, fun b Q hq => ?_, ?_⟩
  · refine p_Ma_in f6 (by omega) hoc c2 ⟨fun z => absurd z (by decide), fun z => absurd z (by decide), fun _ => ?_, fun z => absurd z (by decide), fun z => absurd z (by decide), fun z => absurd z (by decide), fun z10 z11 z12 z13 z14 z16 => absurd rfl z12⟩
    refine p_Ma_pull l1 (by omega) ?_
    by_cases hz : c 20 d = 0
    · rw [if_pos hz] at hx
      subst hx
      exact um_yes' hz (w1 b Q hq)
    · rw [if_neg hz] at hx
      subst hx
      exact um_no' hz (w1 b Q hq)
  · refine p_Mo_in f5 f1 f2 f7 (by omega) ho rfl ⟨fun z => absurd z (by decide), fun z => absurd z (by decide), fun z => absurd z (by decide), fun z => absurd z (by decide), fun z => absurd z (by decide), fun z => absurd z (by decide), fun _ => ?_, fun z => absurd z (by decide), fun z => absurd z (by decide), fun z => absurd z (by decide), fun z => absurd z (by decide), fun z0 z1 z8 z9 z10 z11 z12 z13 z14 z15 z16 => absurd rfl z12⟩
    refine p_Mo_pop f5 f1 f2 l2 (by omega) ?_
    rw [← lx]
    by_cases hz : c 20 d = 0
    · rw [if_pos hz] at hx
      subst hx
      exact um_yes' hz (w2 b Q hq)
    · rw [if_neg hz] at hx
      subst hx
      exact um_no' hz (w2 b Q hq)
  · have e4 : um_up m 73 (k - 1) (nI d) 38 48 = m 38 48 := by simp [um_up]
    rw [e4] at w3
    exact w3

set_option maxHeartbeats 4000000 in
theorem um_step_again {n r k p o : Nat} {D : Nat → Nat} {c m : um_S} (hC : um_code n r D c m) (hS : um_seen o c m) (hF : um_fr n D k p c m) (hL : um_pl D k p c m) (h0 : m 38 46 = 0) (ho : m 46 p = 16) {v : Nat} (hv : v < 150) (ha : m 47 p = nI v) :
    ∃ c1 m1, (∀ b Q, Q (um_J c1 b) → wp_Ma_doStep (um_J c b) Q) ∧ (∀ b Q, Q (um_J b m1) → wp_Mo_step (um_J b m) Q) ∧ um_next n r D (m 38 48) c1 m1 := by
  have hF' := hF
  have hL' := hL
  obtain ⟨f1, f2, f3, f4, f5, f6, f7, f8⟩ := hF'
  obtain ⟨l1, l2, l3, l4⟩ := hL'
  have hn : n ≤ 1000 := hC.2.1
  obtain ⟨c1, c2, -⟩ := hC.2.2.2.2.2.2.2.1 p f3
  have hoc : c 11 p = 16 := c1.trans ho
  have em : 200 * nI (k - 1) + nI v = nI (200 * (k - 1) + v) := by
    rw [show (200 : Int32) = nI 200 from rfl, pk_mul, nI_add]
  have cm : (nI (200 * (k - 1) + v)).toNatClampNeg = 200 * (k - 1) + v := um_cl1 (by omega)
  have ec : (nI k - 1) * 150 + nI v = nI ((k - 1) * 150 + v) := by
    rw [um_pred f1, show (150 : Int32) = nI 150 from rfl, pk_mul, nI_add]
  have cc : (nI ((k - 1) * 150 + v)).toNatClampNeg = (k - 1) * 150 + v := um_cl1 (by omega)
  have lx : c 22 ((k - 1) * 150 + v) = m 75 (200 * (k - 1) + v) := hS.2.2.2.2.2.2.2.2.2.2 (k - 1) v (by omega) hv
  obtain ⟨ca, ma, w1, w2, w3⟩ := um_raise (m 75 (200 * (k - 1) + v)) hC hS hF h0
  refine ⟨ca, ma, fun b Q hq => ?_, fun b Q hq => ?_, w3⟩
  · refine p_Ma_in f6 (by omega) hoc c2 ⟨fun z => absurd z (by decide), fun z => absurd z (by decide), fun z => absurd z (by decide), fun z => absurd z (by decide), fun z => absurd z (by decide), fun _ => ?_, fun z10 z11 z12 z13 z14 z16 => absurd rfl z16⟩
    unfold wp_Ma_placeOf
    rw [um_J_c (by decide), f4, ha, ec]
    refine ⟨vp_in_nI (by omega) (by decide), ?_⟩
    rw [cc, um_J_c (by decide), lx]
    exact w1 b Q hq
  · refine p_Mo_in f5 f1 f2 f7 (by omega) ho rfl ⟨fun z => absurd z (by decide), fun z => absurd z (by decide), fun z => absurd z (by decide), fun z => absurd z (by decide), fun z => absurd z (by decide), fun z => absurd z (by decide), fun z => absurd z (by decide), fun z => absurd z (by decide), fun z => absurd z (by decide), fun z => absurd z (by decide), fun _ => ?_, fun z0 z1 z8 z9 z10 z11 z12 z13 z14 z15 z16 => absurd rfl z16⟩
    rw [ha, em, cm]
    exact ⟨vp_in_nI (by omega) (by decide), w2 b Q hq⟩

set_option maxHeartbeats 4000000 in
theorem um_step_ret {n r k p o : Nat} {D : Nat → Nat} {c m : um_S} (hC : um_code n r D c m) (hS : um_seen o c m) (hF : um_fr n D k p c m) (hL : um_pl D k p c m) (h0 : m 38 46 = 0) (ho : m 46 p = 14) (d1 : D p = 0) :
    ∃ c1 m1, (∀ b Q, Q (um_J c1 b) → wp_Ma_doStep (um_J c b) Q) ∧ (∀ b Q, Q (um_J b m1) → wp_Mo_step (um_J b m) Q) ∧ um_next n r D (m 38 48) c1 m1 := by
  have hF' := hF
  have hL' := hL
  obtain ⟨f1, f2, f3, f4, f5, f6, f7, f8⟩ := hF'
  obtain ⟨l1, l2, l3, l4⟩ := hL'
  have hn : n ≤ 1000 := hC.2.1
  obtain ⟨c1, c2, -⟩ := hC.2.2.2.2.2.2.2.1 p f3
  have hoc : c 11 p = 14 := c1.trans ho
  rw [d1] at l1 l2
  by_cases hk : k = 1
  · subst hk
    refine ⟨um_up (um_up c 4 9 (nI 0)) 19 0 1, um_up (um_up m 38 53 (nI 0)) 38 46 1, fun b Q hq => ?_, fun b Q hq => ?_, ?_⟩
    · refine p_Ma_in f6 (by omega) hoc c2 ⟨fun z => absurd z (by decide), fun z => absurd z (by decide), fun z => absurd z (by decide), fun z => absurd z (by decide), fun _ => ?_, fun z => absurd z (by decide), fun z10 z11 z12 z13 z14 z16 => absurd rfl z14⟩
      unfold wp_Ma_goBack
      simp only [um_J_c (q := 4) (by decide), f4, show nI 1 - 1 = nI 0 from rfl, um_J_uc (q := 4) (by decide)]
      rintro σ1 rfl
      simp only [um_J_c (q := 4) (by decide), um_up_self]
      refine um_yes' rfl ?_
      rintro σ3 rfl
      rw [um_J_uc (by decide)]
      exact hq
    · refine p_Mo_in f5 f1 f2 f7 (by omega) ho rfl ⟨fun z => absurd z (by decide), fun z => absurd z (by decide), fun z => absurd z (by decide), fun z => absurd z (by decide), fun z => absurd z (by decide), fun z => absurd z (by decide), fun z => absurd z (by decide), fun z => absurd z (by decide), fun _ => ?_, fun z => absurd z (by decide), fun z => absurd z (by decide), fun z0 z1 z8 z9 z10 z11 z12 z13 z14 z15 z16 => absurd rfl z14⟩
      unfold wp_Mo_returns
      simp only [um_J_m (q := 38) (by decide), f5, show nI 1 - 1 = nI 0 from rfl, um_J_um (q := 38) (by decide)]
      rintro σ1 rfl
      simp only [um_J_m (q := 38) (by decide), um_up_self]
      refine um_yes' rfl ?_
      rintro σ3 rfl
      rw [um_J_um (by decide)]
      exact hq
    · refine ⟨by simp [um_up], ?_, o, ?_, Or.inl (by simp [um_up])⟩
      · exact um_code_um (um_code_um (um_code_uc (um_code_uc hC (by omega)) (by omega)) (by omega)) (by omega)
      · obtain ⟨s1, s2, s3, s4, s5, s6, s7, s8, s9, s10, s11⟩ := hS
        exact ⟨s1, by simp [um_up], by simpa [um_up] using s3, by simpa [um_up] using s4, by simpa [um_up] using s5, by simpa [um_up] using s6, by simpa [um_up] using s7, by simpa [um_up] using s8, fun i hi => by simpa [um_up] using s9 i hi, fun i hi => by simpa [um_up] using s10 i hi, fun i a hi ha => by simpa [um_up] using s11 i a hi ha⟩
  · obtain ⟨t, a1, a2, a3, a4, a5⟩ := f8 (k - 2) (by omega)
    have e1 : nI k - 1 = nI (k - 1) := um_pred f1
    have e2 : nI (k - 1) - 1 = nI (k - 2) := um_pred (a := k - 1) (by omega)
    have c2' : (nI (k - 2)).toNatClampNeg = k - 2 := um_cl1 (by omega)
    have i2 : vp_in (nI (k - 2)) 12 := vp_in_nI (by omega) (by decide)
    refine ⟨um_up (um_up c 4 9 (nI (k - 1))) 4 10 (nI (t + 1)), um_up (um_up m 38 53 (nI (k - 1))) 72 (k - 2) (nI (t + 1)), fun b Q hq => ?_, fun b Q hq => ?_, ?_⟩
    · refine p_Ma_in f6 (by omega) hoc c2 ⟨fun z => absurd z (by decide), fun z => absurd z (by decide), fun z => absurd z (by decide), fun z => absurd z (by decide), fun _ => ?_, fun z => absurd z (by decide), fun z10 z11 z12 z13 z14 z16 => absurd rfl z14⟩
      unfold wp_Ma_goBack
      simp only [um_J_c (q := 4) (by decide), f4, e1, um_J_uc (q := 4) (by decide)]
      rintro σ1 rfl
      simp only [um_J_c (q := 4) (by decide), um_J_c (q := 21) (by decide), um_up_self, um_up_q (q := 4) (a := 21) (by decide), e2, c2', a2, um_succ, um_J_uc (q := 4) (by decide)]
      exact um_no' (nI_ne0 (by omega) (by omega)) ⟨i2, fun σ2 e => e ▸ hq⟩
    · refine p_Mo_in f5 f1 f2 f7 (by omega) ho rfl ⟨fun z => absurd z (by decide), fun z => absurd z (by decide), fun z => absurd z (by decide), fun z => absurd z (by decide), fun z => absurd z (by decide), fun z => absurd z (by decide), fun z => absurd z (by decide), fun z => absurd z (by decide), fun _ => ?_, fun z => absurd z (by decide), fun z => absurd z (by decide), fun z0 z1 z8 z9 z10 z11 z12 z13 z14 z15 z16 => absurd rfl z14⟩
      unfold wp_Mo_returns
      simp only [um_J_m (q := 38) (by decide), f5, e1, um_J_um (q := 38) (by decide)]
      rintro σ1 rfl
      simp only [um_J_m (q := 38) (by decide), um_J_m (q := 72) (by decide), um_up_self, um_up_q (q := 38) (a := 72) (by decide), e2, c2', a3, um_succ, um_J_um (q := 72) (by decide)]
      exact um_no' (nI_ne0 (by omega) (by omega)) ⟨i2, i2, fun σ2 e => e ▸ hq⟩
    · refine um_next_of (o := o) (k := k - 1) (p := t + 1) (by simp [um_up]) ?_ ?_ (by simpa [um_up] using h0) ?_ ?_
      · exact um_code_um (um_code_um (um_code_uc (um_code_uc hC (by omega)) (by omega)) (by omega)) (by omega)
      · exact um_seen_um (um_seen_um (um_seen_uc (um_seen_uc hS (by omega)) (by omega)) (by omega)) (by omega)
      · refine ⟨by omega, by omega, a1, by simp [um_up], by simp [um_up], by simp [um_up], ?_, fun i hi => ?_⟩
        · rw [show k - 1 - 1 = k - 2 by omega, um_up_self]
        · obtain ⟨u, u1, u2, u3, u4, u5⟩ := f8 i (by omega)
          have : ¬ i = k - 2 := by omega
          exact ⟨u, u1, by simpa [um_up] using u2, by simpa [um_up, this] using u3, u4, by simpa [um_up] using u5⟩
      · refine ⟨by rw [a4]; simpa [um_up] using l1, ?_, by omega, fun i hi => by omega⟩
        rw [a4, show k - 1 - 1 = k - 2 by omega, um_up_ne (by omega), um_up_ne (by omega)]
        exact a5

set_option maxHeartbeats 4000000 in
theorem um_step_call {n r k p o : Nat} {D : Nat → Nat} {c m : um_S} (hC : um_code n r D c m) (hS : um_seen o c m) (hF : um_fr n D k p c m) (hL : um_pl D k p c m) (h0 : m 38 46 = 0) (ho : m 46 p = 13) (d1 : D p = 0) (d2 : p + 1 < n) (d3 : D (p + 1) = 0) {f : Nat} (hf : f < 6) (ha : m 47 p = nI f) :
    ∃ c1 m1, (∀ b Q, Q (um_J c1 b) → wp_Ma_doStep (um_J c b) Q) ∧ (∀ b Q, Q (um_J b m1) → wp_Mo_step (um_J b m) Q) ∧ um_next n r D (m 38 48) c1 m1 := by
  have hF' := hF
  have hL' := hL
  obtain ⟨f1, f2, f3, f4, f5, f6, f7, f8⟩ := hF'
  obtain ⟨l1, l2, l3, l4⟩ := hL'
  have hn : n ≤ 1000 := hC.2.1
  obtain ⟨c1, c2, -⟩ := hC.2.2.2.2.2.2.2.1 p f3
  have hoc : c 11 p = 13 := c1.trans ho
  rw [d1] at l1 l2
  obtain ⟨t, t1, t2, t3, t4⟩ := hC.2.2.2.2.2.2.2.2.2.2.1 f hf
  have cf : (nI f).toNatClampNeg = f := um_cl1 (by omega)
  have ck : (nI k).toNatClampNeg = k := um_cl1 (by omega)
  have if6 : vp_in (nI f) 6 := vp_in_nI hf (by decide)
  by_cases hk : k = 12
  · obtain ⟨ca, ma, w1, w2, w3⟩ := um_raise 3 hC hS hF h0
    refine ⟨ca, ma, fun b Q hq => ?_, fun b Q hq => ?_, w3⟩
    · refine p_Ma_in f6 (by omega) hoc c2 ⟨fun z => absurd z (by decide), fun z => absurd z (by decide), fun z => absurd z (by decide), fun _ => ?_, fun z => absurd z (by decide), fun z => absurd z (by decide), fun z10 z11 z12 z13 z14 z16 => absurd rfl z13⟩
      unfold wp_Ma_enter
      rw [um_J_c (by decide), f4, hk]
      exact um_no (nI_nlt (a := 12) (b := 12) (by omega) (by decide)) (w1 b Q hq)
    · refine p_Mo_in f5 f1 f2 f7 (by omega) ho rfl ⟨fun z => absurd z (by decide), fun z => absurd z (by decide), fun z => absurd z (by decide), fun z => absurd z (by decide), fun z => absurd z (by decide), fun z => absurd z (by decide), fun z => absurd z (by decide), fun _ => ?_, fun z => absurd z (by decide), fun z => absurd z (by decide), fun z => absurd z (by decide), fun z0 z1 z8 z9 z10 z11 z12 z13 z14 z15 z16 => absurd rfl z13⟩
      unfold wp_Mo_calls
      rw [um_J_m (by decide), f5, hk]
      exact um_yes' rfl (w2 b Q hq)
  · have e1 : nI k - 1 = nI (k - 1) := um_pred f1
    have ck1 : (nI (k - 1)).toNatClampNeg = k - 1 := um_cl1 (by omega)
    have s8 : c 19 5 = m 38 52 := hS.2.2.2.2.2.2.2.1
    obtain ⟨y, hy⟩ : ∃ y : Int32, y = if m 38 52 < nI (k + 1) then nI (k + 1) else m 38 52 := ⟨_, rfl⟩
    refine ⟨um_up (um_up (um_up (um_up c 21 (k - 1) (nI p)) 4 9 (nI (k + 1))) 19 5 y) 4 10 (nI t), um_up (um_up (um_up (um_up m 72 k (nI t)) 73 k 0) 38 53 (nI (k + 1))) 38 52 y, fun b Q hq => ?_, fun b Q hq => ?_, ?_⟩
    · refine p_Ma_in f6 (by omega) hoc c2 ⟨fun z => absurd z (by decide), fun z => absurd z (by decide), fun z => absurd z (by decide), fun _ => ?_, fun z => absurd z (by decide), fun z => absurd z (by decide), fun z10 z11 z12 z13 z14 z16 => absurd rfl z13⟩
      unfold wp_Ma_enter
      simp only [um_J_c (q := 4) (by decide), f4, f6, e1, ck1, um_J_uc (q := 21) (by decide)]
      refine um_yes (nI_lt (a := k) (b := 12) (by omega) (by decide)) ⟨vp_in_nI (by omega) (by decide), ?_⟩
      rintro σ1 rfl
      simp only [um_J_c (q := 4) (by decide), um_up_q (q := 21) (a := 4) (by decide), f4, um_succ, um_J_uc (q := 4) (by decide)]
      rintro σ2 rfl
      simp only [um_J_c (q := 4) (by decide), um_J_c (q := 19) (by decide), um_up_self, um_up_q (q := 4) (a := 19) (by decide), um_up_q (q := 21) (a := 19) (by decide), s8, ← hy, um_J_uc (q := 19) (by decide)]
      rintro σ3 rfl
      rw [ha, cf]
      refine ⟨if6, ?_⟩
      simp only [um_J_c (q := 14) (by decide), um_up_q (q := 19) (a := 14) (by decide), um_up_q (q := 4) (a := 14) (by decide), um_up_q (q := 21) (a := 14) (by decide), t2, um_J_uc (q := 4) (by decide)]
      rintro σ4 rfl
      exact hq
    · refine p_Mo_in f5 f1 f2 f7 (by omega) ho rfl ⟨fun z => absurd z (by decide), fun z => absurd z (by decide), fun z => absurd z (by decide), fun z => absurd z (by decide), fun z => absurd z (by decide), fun z => absurd z (by decide), fun z => absurd z (by decide), fun _ => ?_, fun z => absurd z (by decide), fun z => absurd z (by decide), fun z => absurd z (by decide), fun z0 z1 z8 z9 z10 z11 z12 z13 z14 z15 z16 => absurd rfl z13⟩
      unfold wp_Mo_calls
      rw [ha]
      simp only [um_J_m (q := 38) (by decide), um_J_m (q := 54) (by decide), f5, cf, ck, t3, um_J_um (q := 72) (by decide)]
      refine um_no' (fun z => hk ((nI_eq (by omega) (by decide)).mp z)) ⟨if6, vp_in_nI (by omega) (by decide), ?_⟩
      rintro σ1 rfl
      simp only [um_J_m (q := 38) (by decide), um_up_q (q := 72) (a := 38) (by decide), f5, ck, um_J_um (q := 73) (by decide)]
      refine ⟨vp_in_nI (by omega) (by decide), ?_⟩
      rintro σ2 rfl
      simp only [um_J_m (q := 38) (by decide), um_up_q (q := 72) (a := 38) (by decide), um_up_q (q := 73) (a := 38) (by decide), f5, um_succ, um_J_um (q := 38) (by decide)]
      rintro σ3 rfl
      have r1 : um_J b (um_up (um_up (um_up m 72 k (nI t)) 73 k 0) 38 53 (nI (k + 1))) 38 53 = nI (k + 1) := by rw [um_J_m (by decide), um_up_self]
      have r2 : um_J b (um_up (um_up (um_up m 72 k (nI t)) 73 k 0) 38 53 (nI (k + 1))) 38 52 = m 38 52 := by rw [um_J_m (by decide), um_up_ne (by omega), um_up_ne (by omega), um_up_ne (by omega)]
      rw [r1, r2]
      by_cases hz : nI (k + 1) ≤ m 38 52
      · have hz2 : ¬ m 38 52 < nI (k + 1) := Int32.not_lt.mpr hz
        rw [if_neg hz2] at hy
        refine um_yes hz ?_
        rintro σ4 rfl
        rw [um_J_um (by decide)]
        rw [hy] at hq
        exact hq
      · have hz2 : m 38 52 < nI (k + 1) := Int32.not_le.mp hz
        rw [if_pos hz2] at hy
        refine um_no hz ?_
        rintro σ4 rfl
        rw [um_J_um (by decide)]
        rw [hy] at hq
        exact hq
    · refine um_next_of (o := o) (k := k + 1) (p := t) (by simp [um_up]) ?_ ?_ (by simpa [um_up] using h0) ?_ ?_
      · exact um_code_um (um_code_um (um_code_um (um_code_um (um_code_uc (um_code_uc (um_code_uc (um_code_uc hC (by omega)) (by omega)) (by omega)) (by omega)) (by omega)) (by omega)) (by omega)) (by omega)
      · obtain ⟨s1, s2, s3, s4, s5, s6, s7, s8, s9, s10, s11⟩ := hS
        exact ⟨s1, by simpa [um_up] using s2, by simpa [um_up] using s3, by simpa [um_up] using s4, by simpa [um_up] using s5, by simpa [um_up] using s6, by simpa [um_up] using s7, by simp [um_up], fun i hi => by simpa [um_up] using s9 i hi, fun i hi => by simpa [um_up] using s10 i hi, fun i a hi ha => by simpa [um_up] using s11 i a hi ha⟩
      · refine ⟨by omega, by omega, t1, by simp [um_up], by simp [um_up], by simp [um_up], by simp [um_up], fun i hi => ?_⟩
        by_cases hz : i = k - 1
        · subst hz
          have hk2 : ¬ k - 1 = k := by omega
          exact ⟨p, d2, by simp [um_up], by simpa [um_up, hk2] using f7, d3, by simpa [um_up, hk2, nI_0] using l2⟩
        · obtain ⟨u, u1, u2, u3, u4, u5⟩ := f8 i (by omega)
          have hz3 : ¬ i = k := by omega
          exact ⟨u, u1, by simpa [um_up, hz] using u2, by simpa [um_up, hz3] using u3, u4, by simpa [um_up, hz3] using u5⟩
      · refine ⟨by rw [t4]; simpa [um_up] using l1, by rw [t4]; simp [um_up]; rfl, by omega, fun i hi => by omega⟩

set_option maxHeartbeats 4000000 in
theorem um_step_two {n r k p o w : Nat} {D : Nat → Nat} {c m : um_S} (hC : um_code n r D c m) (hS : um_seen o c m) (hF : um_fr n D k p c m) (hL : um_pl D k p c m) (h0 : m 38 46 = 0) (ho : m 46 p = nI w) (w2 : 2 ≤ w) (w7 : w ≤ 7) (d1 : D p ≤ 150) (d2 : p + 1 < n) (d3 : D p = D (p + 1) + 1) (d4 : 1 ≤ D (p + 1)) :
    ∃ c1 m1, (∀ b Q, Q (um_J c1 b) → wp_Ma_doStep (um_J c b) Q) ∧ (∀ b Q, Q (um_J b m1) → wp_Mo_step (um_J b m) Q) ∧ um_next n r D (m 38 48) c1 m1 := by
  have hF' := hF
  have hL' := hL
  obtain ⟨f1, f2, f3, f4, f5, f6, f7, f8⟩ := hF'
  obtain ⟨l1, l2, l3, l4⟩ := hL'
  have hn : n ≤ 1000 := hC.2.1
  obtain ⟨c1, c2, -⟩ := hC.2.2.2.2.2.2.2.1 p f3
  have hoc : c 11 p = nI w := c1.trans ho
  obtain ⟨d, hd⟩ : ∃ d, D (p + 1) = d + 1 := ⟨D (p + 1) - 1, by omega⟩
  have hdp : D p = d + 1 + 1 := by omega
  rw [hdp] at l1 l2
  have lx : c 20 (d + 1) = m 74 (200 * (k - 1) + (d + 1)) := l4 _ (by omega)
  have ly : c 20 d = m 74 (200 * (k - 1) + d) := l4 _ (by omega)
  have nw : ∀ x : Nat, x < 100 → (x < 2 ∨ 7 < x) → ¬ nI w = nI x := fun x hx hx2 z => by
    have := (nI_eq (a := w) (b := x) (by omega) (by omega)).mp z
    omega
  have hCx : um_code n r D (um_up (um_up c 4 6 (nI (d + 1))) 4 6 (nI d)) (um_up (um_up m 73 (k - 1) (nI (d + 1))) 73 (k - 1) (nI d)) := um_code_um (um_code_um (um_code_uc (um_code_uc hC (by omega)) (by omega)) (by omega)) (by omega)
  have hSx : um_seen o (um_up (um_up c 4 6 (nI (d + 1))) 4 6 (nI d)) (um_up (um_up m 73 (k - 1) (nI (d + 1))) 73 (k - 1) (nI d)) := um_seen_um (um_seen_um (um_seen_uc (um_seen_uc hS (by omega)) (by omega)) (by omega)) (by omega)
  have hFx : um_fr n D k p (um_up (um_up c 4 6 (nI (d + 1))) 4 6 (nI d)) (um_up (um_up m 73 (k - 1) (nI (d + 1))) 73 (k - 1) (nI d)) := um_fr_um (um_fr_um (um_fr_uc (um_fr_uc hF (by omega)) (by omega)) (by omega)) (by omega)
  have pops : ∀ (b : um_S) (Q : um_S → Prop), ((¬ nI w = 5 → wp_Ma_doStraight_140 Q (nI w) (c 20 (d + 1)) (c 20 d) (um_J (um_up (um_up c 4 6 (nI (d + 1))) 4 6 (nI d)) b)) ∧ (nI w = 5 → (¬ c 20 (d + 1) = 0 → wp_Ma_doStraight_140 Q (nI w) (c 20 (d + 1)) (c 20 d) (um_J (um_up (um_up c 4 6 (nI (d + 1))) 4 6 (nI d)) b)) ∧ (c 20 (d + 1) = 0 → wp_Ma_raise 1 (um_J (um_up (um_up c 4 6 (nI (d + 1))) 4 6 (nI d)) b) Q))) → wp_Ma_doStep (um_J c b) Q := by
    intro b Q hh
    refine p_Ma_in f6 (by omega) hoc c2 ⟨fun z => absurd z (nw 10 (by omega) (by omega)), fun z => absurd z (nw 11 (by omega) (by omega)), fun z => absurd z (nw 12 (by omega) (by omega)), fun z => absurd z (nw 13 (by omega) (by omega)), fun z => absurd z (nw 14 (by omega) (by omega)), fun z => absurd z (nw 16 (by omega) (by omega)), fun _ _ _ _ _ _ => ?_⟩
    unfold wp_Ma_doStraight
    refine um_no (nw 0 (by omega) (by omega)) (um_no (nw 1 (by omega) (by omega)) (um_no (nw 8 (by omega) (by omega)) (um_no (nw 9 (by omega) (by omega)) (um_no (nw 15 (by omega) (by omega)) ?_))))
    refine p_Ma_pull (h := d + 1) l1 (by omega) ?_
    refine p_Ma_pull (h := d) um_up_self (by omega) ?_
    rw [um_up_q (by decide)]
    exact hh
  have popm : ∀ (b : um_S) (Q : um_S → Prop), ((¬ nI w = 5 → wp_Mo_works_27 Q (nI w) (c 20 (d + 1)) (c 20 d) (um_J b (um_up (um_up m 73 (k - 1) (nI (d + 1))) 73 (k - 1) (nI d)))) ∧ (nI w = 5 → (¬ c 20 (d + 1) = 0 → wp_Mo_works_27 Q (nI w) (c 20 (d + 1)) (c 20 d) (um_J b (um_up (um_up m 73 (k - 1) (nI (d + 1))) 73 (k - 1) (nI d)))) ∧ (c 20 (d + 1) = 0 → wp_Mo_throwing 1 (um_J b (um_up (um_up m 73 (k - 1) (nI (d + 1))) 73 (k - 1) (nI d))) Q))) → wp_Mo_step (um_J b m) Q := by
    intro b Q hh
    refine p_Mo_in f5 f1 f2 f7 (by omega) ho rfl ⟨fun z => absurd z (nw 0 (by omega) (by omega)), fun z => absurd z (nw 1 (by omega) (by omega)), fun z => absurd z (nw 8 (by omega) (by omega)), fun z => absurd z (nw 9 (by omega) (by omega)), fun z => absurd z (nw 10 (by omega) (by omega)), fun z => absurd z (nw 11 (by omega) (by omega)), fun z => absurd z (nw 12 (by omega) (by omega)), fun z => absurd z (nw 13 (by omega) (by omega)), fun z => absurd z (nw 14 (by omega) (by omega)), fun z => absurd z (nw 15 (by omega) (by omega)), fun z => absurd z (nw 16 (by omega) (by omega)), fun _ _ _ _ _ _ _ _ _ _ _ => ?_⟩
    unfold wp_Mo_works
    refine p_Mo_pop (h := d + 1) f5 f1 f2 l2 (by omega) ?_
    refine p_Mo_pop (h := d) (by simpa [um_up] using f5) f1 f2 um_up_self (by omega) ?_
    rw [um_up_q (by decide), ← lx, ← ly]
    exact hh
  by_cases hz : w = 5 ∧ c 20 (d + 1) = 0
  · obtain ⟨ca, ma, y1, y2, y3⟩ := um_raise 1 hCx hSx hFx (by simpa [um_up] using h0)
    refine ⟨ca, ma, fun b Q hq => ?_, fun b Q hq => ?_, ?_⟩
    · refine pops b Q (um_yes' (by rw [hz.1]; rfl) (um_yes' hz.2 (y1 b Q hq)))
    · refine popm b Q (um_yes' (by rw [hz.1]; rfl) (um_yes' hz.2 (y2 b Q hq)))
    · have e4 : um_up (um_up m 73 (k - 1) (nI (d + 1))) 73 (k - 1) (nI d) 38 48 = m 38 48 := by simp [um_up]
      rw [e4] at y3
      exact y3
  · obtain ⟨v, v1, v2⟩ := um_reckon w2 w7 (c 20 d) (c 20 (d + 1)) hz
    refine ⟨um_up (um_up (um_up (um_up (um_up c 4 6 (nI (d + 1))) 4 6 (nI d)) 20 d v) 4 6 (nI (d + 1))) 4 10 (nI (p + 1)), um_up (um_up (um_up (um_up (um_up m 73 (k - 1) (nI (d + 1))) 73 (k - 1) (nI d)) 74 (200 * (k - 1) + d) v) 73 (k - 1) (nI (d + 1))) 72 (k - 1) (nI (p + 1)), fun b Q hq => ?_, fun b Q hq => ?_, ?_⟩
    · have fin : wp_Ma_doStraight_140 Q (nI w) (c 20 (d + 1)) (c 20 d) (um_J (um_up (um_up c 4 6 (nI (d + 1))) 4 6 (nI d)) b) := by
        unfold wp_Ma_doStraight_140
        refine v1 _ _ ?_
        refine p_Ma_push (h := d) um_up_self (by omega) ?_
        exact p_Ma_next (by simpa [um_up] using f6) hq
      exact pops b Q ⟨fun _ => fin, fun _ => ⟨fun _ => fin, fun z2 => absurd ⟨(nI_eq (a := w) (b := 5) (by omega) (by decide)).mp (by assumption), z2⟩ hz⟩⟩
    · have fin : wp_Mo_works_27 Q (nI w) (c 20 (d + 1)) (c 20 d) (um_J b (um_up (um_up m 73 (k - 1) (nI (d + 1))) 73 (k - 1) (nI d))) := by
        unfold wp_Mo_works_27
        refine v2 _ _ ?_
        refine p_Mo_push (h := d) (by simpa [um_up] using f5) f1 f2 um_up_self (by omega) ?_
        exact p_Mo_next (by simpa [um_up] using f5) f1 f2 (by simpa [um_up] using f7) hq
      exact popm b Q ⟨fun _ => fin, fun _ => ⟨fun _ => fin, fun z2 => absurd ⟨(nI_eq (a := w) (b := 5) (by omega) (by decide)).mp (by assumption), z2⟩ hz⟩⟩
    · refine um_next_of (o := o) (k := k) (p := p + 1) (by simp [um_up]) ?_ ?_ (by simpa [um_up] using h0) ?_ ?_
      · exact um_code_um (um_code_um (um_code_um (um_code_uc (um_code_uc (um_code_uc hCx (by omega)) (by omega)) (by omega)) (by omega)) (by omega)) (by omega)
      · exact um_seen_um (um_seen_um (um_seen_um (um_seen_uc (um_seen_uc (um_seen_uc hSx (by omega)) (by omega)) (by omega)) (by omega)) (by omega)) (by omega)
      · exact um_fr_go (um_fr_um (um_fr_um (um_fr_uc (um_fr_uc hFx (by omega)) (by omega)) (by omega)) (by omega)) d2
      · refine um_pl_um (um_pl_uc ?_ (by omega)) (by omega)
        refine ⟨by simp [um_up, hd], by simp [um_up, hd], by omega, fun i hi => ?_⟩
        by_cases hi2 : i = d
        · subst hi2
          simp [um_up]
        · have := l4 i (by omega)
          simpa [um_up, hi2] using this

/-- a step -/
theorem um_step {n r k p o : Nat} {D : Nat → Nat} {c m : um_S} (hC : um_code n r D c m) (hS : um_seen o c m) (hF : um_fr n D k p c m) (hL : um_pl D k p c m) (h0 : m 38 46 = 0) :
    ∃ c1 m1, (∀ b Q, Q (um_J c1 b) → wp_Ma_doStep (um_J c b) Q) ∧ (∀ b Q, Q (um_J b m1) → wp_Mo_step (um_J b m) Q) ∧ um_next n r D (m 38 48) c1 m1 := by
  have hi := (hC.2.2.2.2.2.2.2.1 p hF.2.2.1).2.2
  rcases hi with ⟨ho, d1, d2, d3⟩ | ⟨ho, d1, d2, d3, v, hv, ha⟩ | ⟨w, w2, w7, ho, d2, d1, d3, d4⟩ | ⟨ho, d1, d2, d3, v, hv, ha⟩ | ⟨ho, d1, d2, d3⟩ | ⟨ho, d1, d2, d3, t, ht, ha, d4⟩ | ⟨ho, t, ht, ha, d4⟩ | ⟨ho, d1, d3⟩ | ⟨ho, d1, d2, d3, f, hf, ha⟩ | ⟨ho, d1⟩ | ⟨ho, d1, d2, d3, v, hv, ha⟩ | ⟨ho, v, hv, ha⟩
  · exact um_step_push hC hS hF hL h0 ho d1 d2 d3
  · exact um_step_load hC hS hF hL h0 ho d1 d2 d3 hv ha
  · exact um_step_two hC hS hF hL h0 ho w2 w7 d1 d2 d3 d4
  · exact um_step_store hC hS hF hL h0 ho d1 d2 d3 hv ha
  · exact um_step_put hC hS hF hL h0 ho d1 d2 d3
  · exact um_step_zero hC hS hF hL h0 ho d1 d2 d3 ht ha d4
  · exact um_step_jump hC hS hF hL h0 ho ht ha d4
  · exact um_step_raise hC hS hF hL h0 ho d1 d3
  · exact um_step_call hC hS hF hL h0 ho d1 d2 d3 hf ha
  · exact um_step_ret hC hS hF hL h0 ho d1
  · exact um_step_keep hC hS hF hL h0 ho d1 d2 d3 hv ha
  · exact um_step_again hC hS hF hL h0 ho hv ha
