/-! a whole run -/
def um_fill (c : um_S) (q N : Nat) (v : Int32) : um_S := fun a k => if a = q ∧ k < N then v else c a k
theorem um_fill_0 {c : um_S} {q : Nat} {v : Int32} : um_fill c q 0 v = c := by
  funext a k
  simp [um_fill]
theorem um_fill_s {c : um_S} {q i : Nat} {v : Int32} : um_up (um_fill c q i v) q i v = um_fill c q (i + 1) v := by
  funext a k
  unfold um_up um_fill
  by_cases ha : a = q
  · subst ha
    by_cases hk : k = i
    · subst hk
      simp
    · by_cases hk2 : k < i
      · simp [hk, hk2, show k < i + 1 by omega]
      · simp [hk, hk2, show ¬ k < i + 1 by omega]
  · simp [ha]
theorem um_fill_q {c : um_S} {q N a : Nat} {v : Int32} (h : a ≠ q) : um_fill c q N v a = c a := by
  funext k
  simp [um_fill, h]
theorem um_fill_in {c : um_S} {q N k : Nat} {v : Int32} (h : k < N) : um_fill c q N v q k = v := by simp [um_fill, h]
theorem p_fill17 {c b : um_S} {v : Int32} {Q : um_S → Prop} (hq : Q (um_J (um_fill c 17 8 v) b)) : wp_Ar_fill_AII_17 v (um_J c b) Q := by
  have key : ∀ d i fu, i + d = 8 → d < fu → wp_Ar_fill_AII_17_5 Q fu v (nI i) (nI 8) (um_J (um_fill c 17 i v) b) := by
    intro d
    induction d with
    | zero =>
      intro i fu h1 h2
      obtain ⟨f, rfl⟩ : ∃ f, fu = f + 1 := ⟨fu - 1, by omega⟩
      have : i = 8 := by omega
      subst this
      unfold wp_Ar_fill_AII_17_5
      exact um_yes (Int32.le_refl _) hq
    | succ d ih =>
      intro i fu h1 h2
      obtain ⟨f, rfl⟩ : ∃ f, fu = f + 1 := ⟨fu - 1, by omega⟩
      unfold wp_Ar_fill_AII_17_5
      rw [um_cl1 (by omega), um_J_uc (by decide), um_fill_s, um_succ]
      exact um_no (nI_ge (by omega) (by decide)) ⟨vp_in_nI (by omega) (by decide), fun σ1 e => e ▸ ih (i + 1) f (by omega) (by omega)⟩
  have h0 := key 8 0 100000 (by omega) (by omega)
  rw [um_fill_0] at h0
  exact h0
theorem p_fill19 {c b : um_S} {v : Int32} {Q : um_S → Prop} (hq : Q (um_J (um_fill c 19 6 v) b)) : wp_Ar_fill_AII_19 v (um_J c b) Q := by
  have key : ∀ d i fu, i + d = 6 → d < fu → wp_Ar_fill_AII_19_5 Q fu v (nI i) (nI 6) (um_J (um_fill c 19 i v) b) := by
    intro d
    induction d with
    | zero =>
      intro i fu h1 h2
      obtain ⟨f, rfl⟩ : ∃ f, fu = f + 1 := ⟨fu - 1, by omega⟩
      have : i = 6 := by omega
      subst this
      unfold wp_Ar_fill_AII_19_5
      exact um_yes (Int32.le_refl _) hq
    | succ d ih =>
      intro i fu h1 h2
      obtain ⟨f, rfl⟩ : ∃ f, fu = f + 1 := ⟨fu - 1, by omega⟩
      unfold wp_Ar_fill_AII_19_5
      rw [um_cl1 (by omega), um_J_uc (by decide), um_fill_s, um_succ]
      exact um_no (nI_ge (by omega) (by decide)) ⟨vp_in_nI (by omega) (by decide), fun σ1 e => e ▸ ih (i + 1) f (by omega) (by omega)⟩
  have h0 := key 6 0 100000 (by omega) (by omega)
  rw [um_fill_0] at h0
  exact h0

section Loop
variable {n r : Nat} {D : Nat → Nat}
/-- a run that has ended stays -/
theorem um_loop_end {c m : um_S} {o : Nat} {i : Int32} (hS : um_seen o c m) (hh : ¬ m 38 46 = 0) : (∀ b Q fu, 0 < fu → Q (c 19 0) (um_J c b) → wp_Ma_start_45 Q fu i (um_J c b)) ∧ (∀ b Q fu, 0 < fu → Q (m 38 46) (um_J b m) → wp_Mo_run_98 Q fu (um_J b m)) := by
  have hc : ¬ c 19 0 = 0 := fun z => hh (hS.2.1 ▸ z)
  constructor
  · intro b Q fu hfu hq
    obtain ⟨f, rfl⟩ : ∃ f, fu = f + 1 := ⟨fu - 1, by omega⟩
    have fin : wp_Ma_start_81 Q (um_J c b) := by
      unfold wp_Ma_start_81
      rw [um_J_c (by decide)]
      exact um_no' hc hq
    unfold wp_Ma_start_45
    rw [um_J_c (by decide)]
    exact ⟨fun _ => fin, fun _ => um_no' hc fin⟩
  · intro b Q fu hfu hq
    obtain ⟨f, rfl⟩ : ∃ f, fu = f + 1 := ⟨fu - 1, by omega⟩
    unfold wp_Mo_run_98
    rw [um_J_m (by decide)]
    exact um_no' hh hq
theorem um_loop : ∀ (d i k p o : Nat) (c m : um_S), i + d = 3000 → um_code n r D c m → m 38 48 = nI i → um_seen o c m → m 38 46 = 0 → um_fr n D k p c m → um_pl D k p c m →
    ∃ c1 m1 o1, (∀ b Q fu, d + 2 ≤ fu → Q (c1 19 0) (um_J c1 b) → wp_Ma_start_45 Q fu (nI i) (um_J c b)) ∧ (∀ b Q fu, d + 2 ≤ fu → Q (m1 38 46) (um_J b m1) → wp_Mo_run_98 Q fu (um_J b m)) ∧ um_code n r D c1 m1 ∧ um_seen o1 c1 m1 ∧ ¬ m1 38 46 = -1 := by
  intro d
  induction d with
  | zero =>
    intro i k p o c m hi hC hst hS h0 hF hL
    have hi : i = 3000 := by omega
    subst hi
    have hc0 : c 19 0 = 0 := hS.2.1.trans h0
    refine ⟨um_up c 19 0 3, um_up m 38 46 3, o, ?_, ?_, um_code_um (um_code_uc hC (by omega)) (by omega), ?_, by simp [um_up]⟩
    · intro b Q fu hfu hq
      obtain ⟨f, rfl⟩ : ∃ f, fu = f + 1 := ⟨fu - 1, by omega⟩
      unfold wp_Ma_start_45
      refine um_yes (Int32.le_refl _) ?_
      unfold wp_Ma_start_81
      rw [um_J_c (by decide), hc0]
      refine um_yes' rfl ?_
      rintro σ1 rfl
      rw [um_J_uc (by decide), um_J_c (by decide)]
      exact hq
    · intro b Q fu hfu hq
      obtain ⟨f, rfl⟩ : ∃ f, fu = f + 1 + 1 := ⟨fu - 2, by omega⟩
      unfold wp_Mo_run_98
      simp only [um_J_m (q := 38) (by decide), h0, hst]
      refine um_yes' trivial (um_yes' rfl ?_)
      rintro σ3 rfl
      rw [um_J_um (by decide)]
      unfold wp_Mo_run_98
      simp only [um_J_m (q := 38) (by decide)]
      rw [um_up_self]
      rw [um_up_self] at hq
      exact um_no' (by decide) hq
    · obtain ⟨s1, s2, s3, s4, s5, s6, s7, s8, s9, s10, s11⟩ := hS
      exact ⟨s1, by simp [um_up], by simpa [um_up] using s3, by simpa [um_up] using s4, by simpa [um_up] using s5, by simpa [um_up] using s6, by simpa [um_up] using s7, by simpa [um_up] using s8, fun i hi => by simpa [um_up] using s9 i hi, fun i hi => by simpa [um_up] using s10 i hi, fun i a hi ha => by simpa [um_up] using s11 i a hi ha⟩
  | succ d ih =>
    intro i k p o c m hi hC hst hS h0 hF hL
    have hc0 : c 19 0 = 0 := hS.2.1.trans h0
    have hc2 : c 19 2 = nI i := hS.2.2.2.1.trans hst
    have hC2 : um_code n r D (um_up c 19 2 (nI (i + 1))) (um_up m 38 48 (nI (i + 1))) := um_code_um (um_code_uc hC (by omega)) (by omega)
    have hS2 : um_seen o (um_up c 19 2 (nI (i + 1))) (um_up m 38 48 (nI (i + 1))) := by
      obtain ⟨s1, s2, s3, s4, s5, s6, s7, s8, s9, s10, s11⟩ := hS
      exact ⟨s1, by simpa [um_up] using s2, by simpa [um_up] using s3, by simp [um_up], by simpa [um_up] using s5, by simpa [um_up] using s6, by simpa [um_up] using s7, by simpa [um_up] using s8, fun i hi => by simpa [um_up] using s9 i hi, fun i hi => by simpa [um_up] using s10 i hi, fun i a hi ha => by simpa [um_up] using s11 i a hi ha⟩
    obtain ⟨c1, m1, w1, w2, hs1, hC3, o3, hS3, hend⟩ := um_step hC2 hS2 (um_fr_um (um_fr_uc hF (by omega)) (by omega)) (um_pl_um (um_pl_uc hL (by omega)) (by omega)) (by simpa [um_up] using h0)
    rw [um_up_self] at hs1
    have goA : ∀ b Q fu, (wp_Ma_start_45 Q fu (nI (i + 1)) (um_J c1 b)) → wp_Ma_start_45 Q (fu + 1) (nI i) (um_J c b) := by
      intro b Q fu h
      unfold wp_Ma_start_45
      simp only [um_J_c (q := 19) (by decide), hc0, hc2, um_succ, um_J_uc (q := 19) (by decide)]
      refine um_no (nI_ge (a := i) (b := 3000) (by omega) (by decide)) (um_yes' trivial ?_)
      rintro σ1 rfl
      exact w1 b _ h
    have goM : ∀ b Q fu, (wp_Mo_run_98 Q fu (um_J b m1)) → wp_Mo_run_98 Q (fu + 1) (um_J b m) := by
      intro b Q fu h
      unfold wp_Mo_run_98
      simp only [um_J_m (q := 38) (by decide), h0, hst, um_succ, um_J_um (q := 38) (by decide)]
      refine um_yes' trivial (um_no' (fun z => ?_) ?_)
      · have := (nI_eq (a := i) (b := 3000) (by omega) (by decide)).mp z
        omega
      · rintro σ1 rfl
        exact w2 b _ h
    rcases hend with ⟨hne, hne1⟩ | ⟨he, k2, p2, hF3, hL3⟩
    · obtain ⟨x1, x2⟩ := um_loop_end (i := nI (i + 1)) hS3 hne
      refine ⟨c1, m1, o3, fun b Q fu hfu hq => ?_, fun b Q fu hfu hq => ?_, hC3, hS3, ?_⟩
      · obtain ⟨f, rfl⟩ : ∃ f, fu = f + 1 := ⟨fu - 1, by omega⟩
        exact goA b Q f (x1 b Q f (by omega) hq)
      · obtain ⟨f, rfl⟩ : ∃ f, fu = f + 1 := ⟨fu - 1, by omega⟩
        exact goM b Q f (x2 b Q f (by omega) hq)
      · exact hne1
    · obtain ⟨c4, m4, o4, y1, y2, y3⟩ := ih (i + 1) k2 p2 o3 c1 m1 (by omega) hC3 hs1 hS3 he hF3 hL3
      refine ⟨c4, m4, o4, fun b Q fu hfu hq => ?_, fun b Q fu hfu hq => ?_, y3⟩
      · obtain ⟨f, rfl⟩ : ∃ f, fu = f + 1 := ⟨fu - 1, by omega⟩
        exact goA b Q f (y1 b Q f (by omega) hq)
      · obtain ⟨f, rfl⟩ : ∃ f, fu = f + 1 := ⟨fu - 1, by omega⟩
        exact goM b Q f (y2 b Q f (by omega) hq)
end Loop
