/-! something is thrown: both sides look frame by frame -/
theorem um_nm1 {a : Nat} (h : a < 2147483648) : ¬ nI a = -1 := by
  intro z
  have h1 := congrArg Int32.toInt z
  rw [nI_toInt h] at h1
  have h2 : (-1 : Int32).toInt = -1 := by decide
  omega
theorem um_next_of {n r : Nat} {D : Nat → Nat} {st : Int32} {c m : um_S} {o k p : Nat} (h1 : m 38 48 = st) (h2 : um_code n r D c m) (h3 : um_seen o c m) (h4 : m 38 46 = 0) (h5 : um_fr n D k p c m) (h6 : um_pl D k p c m) : um_next n r D st c m := ⟨h1, h2, o, h3, Or.inr ⟨h4, k, p, h5, h6⟩⟩
set_option maxHeartbeats 4000000 in
theorem um_raise_loop (x : Int32) {n r : Nat} {D : Nat → Nat} : ∀ (k p o : Nat) (c m : um_S), um_code n r D c m → um_seen o c m → um_fr n D k p c m → c 4 6 = 0 → m 38 46 = 0 →
    ∃ c1 m1, (∀ b Q fu, k < fu → Q (um_J c1 b) → wp_Ma_raise_15 Q fu x (um_J c b)) ∧ (∀ b Q fu, k < fu → Q (um_J b m1) → wp_Mo_throwing_10 Q fu x (um_J b m)) ∧ um_next n r D (m 38 48) c1 m1 := by
  intro k
  induction k with
  | zero =>
    intro p o c m _ _ hF
    exact absurd hF.1 (by omega)
  | succ k ih =>
    intro p o c m hC hS hF hh h0
    obtain ⟨f1, f2, f3, f4, f5, f6, f7, f8⟩ := hF
    rw [Nat.add_sub_cancel] at f7
    have hC' := hC
    obtain ⟨g1, g2, g3, g4, g5, g6, g7, g8, g9, g10, -⟩ := hC'
    have e1 : nI (k + 1) - 1 = nI k := nI_pred k
    have ck : (nI k).toNatClampNeg = k := um_cl1 (by omega)
    have ik : vp_in (nI k) 12 := vp_in_nI (by omega) (by decide)
    have npos : ¬ nI (k + 1) ≤ 0 := nI_nle (by omega) (by omega)
    by_cases hex : ∃ i, i < r ∧ um_hit m (nI p) x i
    · obtain ⟨j, ⟨hj1, hj2⟩, hj3⟩ := pk_least (fun i => i < r ∧ um_hit m (nI p) x i) hex
      have hno : ∀ i, i < j → ¬ um_hit m (nI p) x i := fun i hi hz => hj3 i hi ⟨by omega, hz⟩
      obtain ⟨t, ht1, ht2, ht3⟩ := g10 j hj1
      refine ⟨um_up (um_up (um_up c 20 0 x) 4 6 (nI (0 + 1))) 4 10 (nI t), um_up (um_up (um_up (um_up m 73 k 0) 74 (200 * k) x) 73 k 1) 72 k (nI t), ?_, ?_, ?_⟩
      · intro b Q fu hfu hq
        obtain ⟨fu, rfl⟩ : ∃ f, fu = f + 1 := ⟨fu - 1, by omega⟩
        unfold wp_Ma_raise_15
        simp only [um_J_c (q := 4) (by decide), f4, f6]
        refine um_no npos ?_
        refine um_rowFor_some (m := m) g6 g3 g9 hj1 hj2 hno ?_
        refine um_no (um_nm1 (by omega)) ?_
        refine p_Ma_push (h := 0) hh (by omega) ?_
        have e5 : nI j * 5 = nI (j * 5) := pk_mul j 5
        have e6 : nI (j * 5) + 2 = nI (j * 5 + 2) := nI_add (j * 5) 2
        have e7 : (nI (j * 5 + 2)).toNatClampNeg = j * 5 + 2 := um_cl1 (by omega)
        simp only [e5, e6, e7, um_J_c (q := 15) (by decide), um_up_q (q := 4) (a := 15) (by decide), um_up_q (q := 20) (a := 15) (by decide), (g9 j hj1).2.2.1, ht2, um_J_uc (q := 4) (by decide)]
        exact ⟨vp_in_nI (by omega) (by decide), fun σ7 e => e ▸ hq⟩
      · intro b Q fu hfu hq
        obtain ⟨fu, rfl⟩ : ∃ f, fu = f + 1 := ⟨fu - 1, by omega⟩
        unfold wp_Mo_throwing_10
        simp only [um_J_m (q := 38) (by decide), um_J_m (q := 72) (by decide), f5, e1, ck, f7]
        refine um_no npos ⟨ik, ?_⟩
        rintro x3 rfl
        refine um_thr_some (k := k + 1) g7 g3 f5 f1 f2 hj1 hj2 hno ?_
        rw [Nat.add_sub_cancel, ht2]
        exact hq
      · refine um_next_of (o := o) (k := k + 1) (p := t) (by simp [um_up]) ?_ ?_ (by simpa [um_up] using h0) ?_ ?_
        · exact um_code_um (um_code_um (um_code_um (um_code_um (um_code_uc (um_code_uc (um_code_uc hC (by omega)) (by omega)) (by omega)) (by omega)) (by omega)) (by omega)) (by omega)
        · exact um_seen_um (um_seen_um (um_seen_um (um_seen_um (um_seen_uc (um_seen_uc (um_seen_uc hS (by omega)) (by omega)) (by omega)) (by omega)) (by omega)) (by omega)) (by omega)
        · refine ⟨f1, f2, ht1, by simpa [um_up] using f4, by simpa [um_up] using f5, by simp [um_up], by simp [um_up], fun i hi => ?_⟩
          obtain ⟨t2, a1, a2, a3, a4, a5⟩ := f8 i hi
          have : ¬ i = k := by omega
          exact ⟨t2, a1, by simpa [um_up] using a2, by simpa [um_up, this] using a3, a4, by simpa [um_up, this] using a5⟩
        · refine ⟨by simp [um_up, ht3], by simp [um_up, ht3]; rfl, by omega, fun i hi => ?_⟩
          have : i = 0 := by omega
          subst this
          simp [um_up]
    · have hno : ∀ i, i < r → ¬ um_hit m (nI p) x i := fun i hi hz => hex ⟨i, hi, hz⟩
      cases k with
      | zero =>
        refine ⟨um_up (um_up (um_up c 4 9 (nI 0)) 19 0 2) 19 1 x, um_up (um_up (um_up m 38 53 (nI 0)) 38 46 2) 38 47 x, ?_, ?_, ?_⟩
        · intro b Q fu hfu hq
          obtain ⟨fu, rfl⟩ : ∃ f, fu = f + 1 + 1 := ⟨fu - 2, by omega⟩
          unfold wp_Ma_raise_15
          simp only [um_J_c (q := 4) (by decide), f4, f6]
          refine um_no npos ?_
          refine um_rowFor_none (m := m) g6 g3 g9 hno ?_
          refine um_yes rfl ?_
          simp only [um_J_c (q := 4) (by decide), f4]
          refine um_yes (nI_le (a := 0 + 1) (b := 1) (by omega) (by decide)) ?_
          unfold wp_Ma_raise_86
          simp only [um_J_c (q := 4) (by decide), f4, e1, um_J_uc (q := 4) (by decide)]
          rintro σ1 rfl
          unfold wp_Ma_raise_15
          simp only [um_J_c (q := 4) (by decide), um_up_self]
          refine um_yes (nI_le (a := 0) (b := 0) (by omega) (by decide)) ?_
          simp only [um_J_uc (q := 19) (by decide)]
          rintro σ2 rfl
          simp only [um_J_uc (q := 19) (by decide)]
          rintro σ3 rfl
          exact hq
        · intro b Q fu hfu hq
          obtain ⟨fu, rfl⟩ : ∃ f, fu = f + 1 + 1 := ⟨fu - 2, by omega⟩
          unfold wp_Mo_throwing_10
          simp only [um_J_m (q := 38) (by decide), um_J_m (q := 72) (by decide), f5, e1, ck, f7]
          refine um_no npos ⟨ik, ?_⟩
          rintro x3 rfl
          refine um_thr_none (k := 0 + 1) g7 g3 f5 f1 f2 hno ?_
          rw [f5, e1]
          unfold wp_Mo_throwing_10
          simp only [um_J_m (q := 38) (by decide), um_up_self]
          refine um_yes (nI_le (a := 0) (b := 0) (by omega) (by decide)) ?_
          simp only [um_J_um (q := 38) (by decide)]
          rintro σ2 rfl
          simp only [um_J_um (q := 38) (by decide)]
          rintro σ3 rfl
          exact hq
        · refine ⟨by simp [um_up], ?_, o, ?_, Or.inl (by simp [um_up])⟩
          · exact um_code_um (um_code_um (um_code_um (um_code_uc (um_code_uc (um_code_uc hC (by omega)) (by omega)) (by omega)) (by omega)) (by omega)) (by omega)
          · obtain ⟨s1, s2, s3, s4, s5, s6, s7, s8, s9, s10, s11⟩ := hS
            exact ⟨s1, by simp [um_up], by simp [um_up], by simpa [um_up] using s4, by simpa [um_up] using s5, by simpa [um_up] using s6, by simpa [um_up] using s7, by simpa [um_up] using s8, fun i hi => by simpa [um_up] using s9 i hi, fun i hi => by simpa [um_up] using s10 i hi, fun i a hi ha => by simpa [um_up] using s11 i a hi ha⟩
      | succ k =>
        obtain ⟨t, t1, t2, t3, t4, t5⟩ := f8 k (by omega)
        have e2 : nI (k + 1 + 1) - 2 = nI k := pk_sub (a := k + 1 + 1) (b := 2) (by omega)
        have ck' : (nI k).toNatClampNeg = k := um_cl1 (by omega)
        have hC2 : um_code n r D (um_up (um_up c 4 10 (nI t)) 4 9 (nI (k + 1))) (um_up m 38 53 (nI (k + 1))) := um_code_um (um_code_uc (um_code_uc hC (by omega)) (by omega)) (by omega)
        have hS2 : um_seen o (um_up (um_up c 4 10 (nI t)) 4 9 (nI (k + 1))) (um_up m 38 53 (nI (k + 1))) := um_seen_um (um_seen_uc (um_seen_uc hS (by omega)) (by omega)) (by omega)
        have hF2 : um_fr n D (k + 1) t (um_up (um_up c 4 10 (nI t)) 4 9 (nI (k + 1))) (um_up m 38 53 (nI (k + 1))) := by
          refine ⟨by omega, by omega, by omega, by simp [um_up], by simp [um_up], by simp [um_up], by simpa [um_up] using t3, fun j hj => ?_⟩
          obtain ⟨u, u1, u2, u3, u4, u5⟩ := f8 j (by omega)
          exact ⟨u, u1, by simpa [um_up] using u2, by simpa [um_up] using u3, u4, by simpa [um_up] using u5⟩
        obtain ⟨c1, m1, w1, w2, w3⟩ := ih t o _ _ hC2 hS2 hF2 (by simpa [um_up] using hh) (by simpa [um_up] using h0)
        refine ⟨c1, m1, ?_, ?_, ?_⟩
        · intro b Q fu hfu hq
          obtain ⟨fu, rfl⟩ : ∃ f, fu = f + 1 := ⟨fu - 1, by omega⟩
          unfold wp_Ma_raise_15
          simp only [um_J_c (q := 4) (by decide), f4, f6]
          refine um_no npos ?_
          refine um_rowFor_none (m := m) g6 g3 g9 hno ?_
          refine um_yes rfl ?_
          simp only [um_J_c (q := 4) (by decide), f4]
          refine um_no (nI_ge (a := 1) (b := k + 1 + 1) (by omega) (by omega)) ?_
          simp only [um_J_c (q := 21) (by decide), e2, ck', t2]
          refine ⟨vp_in_nI (by omega) (by decide), ?_⟩
          rintro σ5 rfl
          unfold wp_Ma_raise_86
          simp only [um_J_uc (q := 4) (by decide), um_J_c (q := 4) (by decide)]
          have e3 : um_up c 4 10 (nI t) 4 9 - 1 = nI (k + 1) := by
            rw [um_up_ne (by omega), f4]
            exact e1
          rw [e3]
          rintro σ1 rfl
          exact w1 b Q fu (by omega) hq
        · intro b Q fu hfu hq
          obtain ⟨fu, rfl⟩ : ∃ f, fu = f + 1 := ⟨fu - 1, by omega⟩
          unfold wp_Mo_throwing_10
          simp only [um_J_m (q := 38) (by decide), um_J_m (q := 72) (by decide), f5, e1, ck, f7]
          refine um_no npos ⟨ik, ?_⟩
          rintro x3 rfl
          refine um_thr_none (k := k + 1 + 1) g7 g3 f5 f1 f2 hno ?_
          rw [f5, e1]
          exact w2 b Q fu (by omega) hq
        · have e4 : um_up m 38 53 (nI (k + 1)) 38 48 = m 38 48 := by simp [um_up]
          rw [e4] at w3
          exact w3
/-- something is thrown -/
theorem um_raise (x : Int32) {n r k p o : Nat} {D : Nat → Nat} {c m : um_S} (hC : um_code n r D c m) (hS : um_seen o c m) (hF : um_fr n D k p c m) (h0 : m 38 46 = 0) :
    ∃ c1 m1, (∀ b Q, Q (um_J c1 b) → wp_Ma_raise x (um_J c b) Q) ∧ (∀ b Q, Q (um_J b m1) → wp_Mo_throwing x (um_J b m) Q) ∧ um_next n r D (m 38 48) c1 m1 := by
  obtain ⟨f1, f2, f3, f4, f5, f6, f7, f8⟩ := hF
  have hC2 : um_code n r D (um_up (um_up c 19 4 (c 19 4 + 1)) 4 6 0) (um_up m 38 51 (m 38 51 + 1)) := um_code_um (um_code_uc (um_code_uc hC (by omega)) (by omega)) (by omega)
  have hS2 : um_seen o (um_up (um_up c 19 4 (c 19 4 + 1)) 4 6 0) (um_up m 38 51 (m 38 51 + 1)) := by
    obtain ⟨s1, s2, s3, s4, s5, s6, s7, s8, s9, s10, s11⟩ := hS
    exact ⟨s1, by simpa [um_up] using s2, by simpa [um_up] using s3, by simpa [um_up] using s4, by simpa [um_up] using s5, by simpa [um_up] using s6, by simp [um_up, s7], by simpa [um_up] using s8, fun i hi => by simpa [um_up] using s9 i hi, fun i hi => by simpa [um_up] using s10 i hi, fun i a hi ha => by simpa [um_up] using s11 i a hi ha⟩
  have hF2 : um_fr n D k p (um_up (um_up c 19 4 (c 19 4 + 1)) 4 6 0) (um_up m 38 51 (m 38 51 + 1)) := by
    refine ⟨f1, f2, f3, by simpa [um_up] using f4, by simpa [um_up] using f5, by simpa [um_up] using f6, by simpa [um_up] using f7, fun j hj => ?_⟩
    obtain ⟨u, u1, u2, u3, u4, u5⟩ := f8 j hj
    exact ⟨u, u1, by simpa [um_up] using u2, by simpa [um_up] using u3, u4, by simpa [um_up] using u5⟩
  obtain ⟨c1, m1, w1, w2, w3⟩ := um_raise_loop x k p o _ _ hC2 hS2 hF2 (by simp [um_up]) (by simpa [um_up] using h0)
  refine ⟨c1, m1, fun b Q hq => ?_, fun b Q hq => ?_, ?_⟩
  · unfold wp_Ma_raise
    simp only [um_J_c (q := 19) (by decide), um_J_uc (q := 19) (by decide)]
    rintro σ1 rfl
    simp only [um_J_uc (q := 4) (by decide)]
    rintro σ2 rfl
    exact w1 b Q 100000 (by omega) hq
  · unfold wp_Mo_throwing
    simp only [um_J_m (q := 38) (by decide), um_J_um (q := 38) (by decide)]
    rintro σ1 rfl
    exact w2 b Q 100000 (by omega) hq
  · have e4 : um_up m 38 51 (m 38 51 + 1) 38 48 = m 38 48 := by simp [um_up]
    rw [e4] at w3
    exact w3
