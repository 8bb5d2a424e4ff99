/-! lay: from beginning to end -/
/-- rows that lay leaves alone, from before it -/
def ly_h2 (c m c1 m1 : um_S) : Prop :=
  (∀ q, (q = 1 ∨ q = 4 ∨ (8 ≤ q ∧ q ≤ 10) ∨ (17 ≤ q ∧ q ≤ 22)) → c1 q = c q) ∧ (∀ q, 26 ≤ q → q ≤ 28 → c1 q 0 = c q 0) ∧ (∀ q, ((39 ≤ q ∧ q ≤ 45) ∨ 70 ≤ q) → m1 q = m q) ∧ ∀ k, (k = 1 ∨ 46 ≤ k) → m1 38 k = m 38 k
section LayAll
variable {N n B I : Nat} {L : Nat → Nat} {C : Nat → Nat → Nat} {D bs it ix hs nn : Nat → Nat} {c m c1 m1 c2 m2 b : um_S} {e : Bool}
theorem ly_h2.trans (h : ly_h2 c m c1 m1) (g : ly_h2 c1 m1 c2 m2) : ly_h2 c m c2 m2 :=
  ⟨fun q hq => (g.1 q hq).trans (h.1 q hq), fun q a1 a2 => (g.2.1 q a1 a2).trans (h.2.1 q a1 a2), fun q hq => (g.2.2.1 q hq).trans (h.2.2.1 q hq), fun k hk => (g.2.2.2 k hk).trans (h.2.2.2 k hk)⟩
theorem ly_h2_hi (h : ly_hi c m c1 m1) : ly_h2 c m c1 m1 := ⟨h.1, h.2.1, h.2.2.1, fun k hk => h.2.2.2.1 k (by omega)⟩
theorem ly_h2_rl (h : ly_rl I c m c1 m1) : ly_h2 c m c1 m1 := ⟨fun q hq => h.1 q (by omega), fun q a1 a2 => by rw [h.1 q (by omega)], fun q hq => h.2.2.2.2.1 q (by omega), fun k hk => h.2.2.2.2.2.1 k (by omega)⟩
theorem ly_h2_of (e : ∀ q, (q = 1 ∨ q = 4 ∨ (8 ≤ q ∧ q ≤ 10) ∨ (17 ≤ q ∧ q ≤ 22) ∨ (26 ≤ q ∧ q ≤ 28)) → c1 q = c q) (g : ∀ q, ((39 ≤ q ∧ q ≤ 45) ∨ 70 ≤ q) → m1 q = m q) (g38 : ∀ k, (k = 1 ∨ 46 ≤ k) → m1 38 k = m 38 k) : ly_h2 c m c1 m1 :=
  ⟨fun q hq => e q (by omega), fun q a1 a2 => by rw [e q (by omega)], g, g38⟩
theorem ly_h2_tree (h : ly_h2 c m c1 m1) (hT : um_tree N c m) : um_tree N c1 m1 :=
  um_tree_of hT (by rw [h.1 1 (by omega)]) (h.1 8 (by omega)) (h.1 9 (by omega)) (h.1 10 (by omega)) (h.2.1 26 (by decide) (by decide)) (h.2.1 27 (by decide) (by decide)) (h.2.1 28 (by decide) (by decide)) (h.2.2.2 1 (by omega)) (h.2.2.1 39 (by omega)) (h.2.2.1 40 (by omega)) (h.2.2.1 41 (by omega)) (h.2.2.1 42 (by omega)) (h.2.2.1 43 (by omega)) (h.2.2.1 44 (by omega)) (h.2.2.1 45 (by omega))
theorem ly_h2_R (h : ly_h2 c m c1 m1) (hR : um_R c m) : um_R c1 m1 :=
  um_R_of hR (h.1 4 (by omega)) (h.1 17 (by omega)) (h.1 18 (by omega)) (h.1 19 (by omega)) (h.1 22 (by omega)) (fun k h1 h2 => h.2.2.2 k (by omega)) (h.2.2.1 70 (by omega)) (h.2.2.1 71 (by omega)) (h.2.2.1 75 (by omega))
/-- too large, or ill: both sides answer alike -/
theorem ly_finF (hT : um_tree N c m) (hR : um_R c m) (hh : ly_h2 c m c1 m1) (hf : ly_fail c1 m1) : ∃ x : Int32, (∀ (b : um_S) (Q : Int32 → um_S → Prop), Q x (um_J (lc_clear c1) b) → wp_La_layDown_97 Q (um_J c1 b)) ∧ (∀ (b : um_S) (Q : Int32 → um_S → Prop), Q x (um_J b (um_up m1 38 9 0)) → wp_Mo_lay_139 Q (um_J b m1)) ∧ um_G (lc_clear c1) (um_up m1 38 9 0) := by
  have E : ∀ q, ¬ q = 2 → lc_clear c1 q = c1 q := fun q hq => by
    unfold lc_clear
    rw [um_up_q hq, um_up_q hq, um_up_q hq, um_up_q hq]
  have hh2 : ly_h2 c m (lc_clear c1) (um_up m1 38 9 0) := hh.trans (ly_h2_of (fun q hq => E q (by omega)) (fun q hq => um_up_q (by omega)) (fun k hk => um_up_ne (by omega)))
  have hG : um_G (lc_clear c1) (um_up m1 38 9 0) := by
    refine ⟨⟨N, ly_h2_tree hh2 hT⟩, Or.inl ⟨um_up_self, ?_, ?_⟩, ly_h2_R hh2 hR⟩
    · unfold lc_clear
      rw [um_up_ne (by decide), um_up_ne (by decide), um_up_ne (by decide), um_up_self]
    · unfold lc_clear
      rw [um_up_ne (by decide), um_up_ne (by decide), um_up_self]
  have hcl : ∀ (b : um_S) (Q : Int32 → um_S → Prop), Q (c1 3 8) (um_J (lc_clear c1) b) → wp_La_layDown_97 Q (um_J c1 b) := by
    intro b Q hq
    unfold wp_La_layDown_97
    refine um_no (by rw [um_J_c (by decide)]; exact ly_fail_c hf) (p_clear ?_)
    rw [um_J_c (q := 3) (by decide), E 3 (by decide)]
    exact hq
  have h139 : ∀ (b : um_S) (Q : Int32 → um_S → Prop), wp_Mo_lay_162 Q (um_J b (um_up m1 38 9 0)) → wp_Mo_lay_139 Q (um_J b m1) := by
    intro b Q hq
    unfold wp_Mo_lay_139
    rw [um_J_m (q := 38) (by decide)]
    have k : ∀ σ1 : um_S, σ1 = um_up (um_J b m1) 38 9 0 → wp_Mo_lay_162 Q σ1 := by
      rintro σ1 rfl
      rw [um_J_um (by decide)]
      exact hq
    refine ⟨fun _ => k, fun z => ⟨fun _ => k, fun w => ?_⟩⟩
    rcases hf with ⟨-, e, -⟩ | ⟨-, e⟩
    · rw [e] at z
      exact absurd z (by decide)
    · rw [e] at w
      exact absurd w (by decide)
  rcases hf with ⟨e1, e2, e3⟩ | ⟨e1, e2⟩
  · refine ⟨-2, fun b Q hq => hcl b Q (by rw [e1]; exact hq), fun b Q hq => h139 b Q ?_, hG⟩
    unfold wp_Mo_lay_162
    rw [um_J_m (q := 38) (by decide), um_up_ne (by decide), um_up_ne (by decide), e2, e3]
    exact um_yes rfl (um_no (by decide) hq)
  · refine ⟨-3, fun b Q hq => hcl b Q (by rw [e1]; exact hq), fun b Q hq => h139 b Q ?_, hG⟩
    unfold wp_Mo_lay_162
    rw [um_J_m (q := 38) (by decide), um_up_ne (by decide), e2]
    exact um_no (by decide) hq
/-- the class's first function sets its count of TRYs itself -/
theorem p_start_c {Q : Int32 → um_S → Prop} {fuel : Nat} (h8 : c 3 8 = 0) (h : wp_La_layDown_42 Q (fuel + 1) (nI 0) (um_J (um_up c 3 6 0) b)) : wp_La_layDown_42 Q (fuel + 1) (nI 0) (um_J c b) := by
  unfold wp_La_layDown_42 at h ⊢
  rw [um_J_c (q := 3) (by decide)] at h ⊢
  rw [um_up_ne (by decide)] at h
  refine um_no (by decide) (um_yes' h8 ?_)
  have g := (h.2 (by decide)).2 h8
  unfold wp_La_layFunction at g ⊢
  rw [um_cl1 (show 0 < 2147483648 by omega), um_J_c (q := 2) (by decide)] at g ⊢
  rw [um_up_q (q := 3) (a := 2) (by decide)] at g
  refine ⟨g.1, ?_⟩
  rintro σ1 rfl σ2 rfl
  have g2 := g.2 _ rfl _ rfl
  have e : um_up (um_up (um_J (um_up c 3 6 0) b) 14 0 (c 2 5)) 3 6 0 = um_up (um_up (um_J c b) 14 0 (c 2 5)) 3 6 0 := by
    rw [um_J_uc (by decide), um_J_uc (by decide), um_J_uc (by decide), um_J_uc (by decide)]
    congr 1
    funext q k
    by_cases z : q = 3 ∧ k = 6
    · obtain ⟨rfl, rfl⟩ := z
      rw [um_up_self, um_up_self]
    · rw [um_up_ne z, um_up_ne z]
      by_cases w : q = 14 ∧ k = 0
      · obtain ⟨rfl, rfl⟩ := w
        rw [um_up_self, um_up_self]
      · rw [um_up_ne w, um_up_ne w, um_up_ne z]
  rw [e] at g2
  exact g2
/-- and the reference's its pile -/
theorem p_start_m {Q : um_S → Prop} {fuel : Nat} (h35 : m 38 35 = 0) (h36 : m 38 36 = 0) (h : wp_Mo_laysAll_2 Q (fuel + 1) (nI 0) (um_J b (um_up m 38 37 0))) : wp_Mo_laysAll_2 Q (fuel + 1) (nI 0) (um_J b m) := by
  unfold wp_Mo_laysAll_2 at h ⊢
  rw [um_cl1 (show 0 < 2147483648 by omega), um_J_m (q := 38) (by decide)] at h ⊢
  rw [um_up_ne (by decide), um_up_ne (by decide), um_up_ne (by decide)] at h
  refine um_no (by decide) (um_yes' h35 (um_yes' h36 ?_))
  have g := ((h.2 (by decide)).2 h35).2 h36
  refine ⟨g.1, ?_⟩
  rintro σ1 rfl σ2 rfl
  have g2 := g.2 _ rfl _ rfl
  have e : um_up (um_up (um_J b (um_up m 38 37 0)) 54 0 (m 38 10)) 38 37 0 = um_up (um_up (um_J b m) 54 0 (m 38 10)) 38 37 0 := by
    rw [um_J_um (by decide), um_J_um (by decide), um_J_um (by decide), um_J_um (by decide)]
    congr 1
    funext q k
    by_cases z : q = 38 ∧ k = 37
    · obtain ⟨rfl, rfl⟩ := z
      rw [um_up_self, um_up_self]
    · rw [um_up_ne z, um_up_ne z]
      by_cases w : q = 54 ∧ k = 0
      · obtain ⟨rfl, rfl⟩ := w
        rw [um_up_self, um_up_self]
      · rw [um_up_ne w, um_up_ne w, um_up_ne z]
  rw [e] at g2
  exact g2
/-- the start -/
theorem ly_start (hT : um_tree N c m) (hcha : ly_cha N L C m) : ly_idle N 0 L C 0 (um_up (lc_start c e) 3 6 0) (um_up (lm_start m e) 38 37 0) ∧ ly_h2 c m (um_up (lc_start c e) 3 6 0) (um_up (lm_start m e) 38 37 0) ∧ (lc_start c e 3 8 = 0 ∧ lm_start m e 38 35 = 0 ∧ lm_start m e 38 36 = 0) ∧ um_up (lc_start c e) 3 6 0 2 6 = 0 ∧ um_up (lc_start c e) 3 6 0 5 8 = 0 ∧ um_up (lm_start m e) 38 37 0 38 14 = 0 := by
  have ec : ∀ q, ¬ (q = 2 ∨ q = 3 ∨ q = 5 ∨ q = 6 ∨ q = 7 ∨ q = 24 ∨ q = 25) → um_up (lc_start c e) 3 6 0 q = c q := by
    intro q hq
    unfold lc_start lc_clear
    rw [um_up_q (by omega), um_up_q (by omega), um_up_q (by omega), um_up_q (by omega), um_up_q (by omega), um_up_q (by omega), um_up_q (by omega), um_up_q (by omega), um_up_q (by omega), um_up_q (by omega), um_up_q (by omega), um_up_q (by omega), um_up_q (by omega)]
  have em : ∀ q, ¬ q = 38 → um_up (lm_start m e) 38 37 0 q = m q := by
    intro q hq
    unfold lm_start
    rw [um_up_q (by omega), um_up_q (by omega), um_up_q (by omega), um_up_q (by omega), um_up_q (by omega), um_up_q (by omega), um_up_q (by omega), um_up_q (by omega), um_up_q (by omega), um_up_q (by omega), um_up_q (by omega), um_up_q (by omega), um_up_q (by omega)]
  have em38 : ∀ k, k = 1 ∨ 46 ≤ k → um_up (lm_start m e) 38 37 0 38 k = m 38 k := by
    intro k hk
    unfold lm_start
    rw [um_up_ne (by omega), um_up_ne (by omega), um_up_ne (by omega), um_up_ne (by omega), um_up_ne (by omega), um_up_ne (by omega), um_up_ne (by omega), um_up_ne (by omega), um_up_ne (by omega), um_up_ne (by omega), um_up_ne (by omega), um_up_ne (by omega), um_up_ne (by omega)]
  have hh : ly_h2 c m (um_up (lc_start c e) 3 6 0) (um_up (lm_start m e) 38 37 0) := ly_h2_of (fun q hq => ec q (by omega)) (fun q hq => em q (by omega)) (fun k hk => em38 k hk)
  have v8 : um_up (lc_start c e) 3 6 0 3 8 = 0 := by simp [lc_start, um_up]
  have v36 : um_up (lc_start c e) 3 6 0 3 6 = 0 := um_up_self
  have v37 : um_up (lc_start c e) 3 6 0 3 7 = (if e then 1 else 0) := by simp [lc_start, um_up]
  have v5 : um_up (lc_start c e) 3 6 0 2 5 = 0 := by simp [lc_start, lc_clear, um_up]
  have v6 : um_up (lc_start c e) 3 6 0 2 6 = 0 := by simp [lc_start, lc_clear, um_up]
  have v7 : um_up (lc_start c e) 3 6 0 2 7 = 0 := by simp [lc_start, lc_clear, um_up]
  have v28 : um_up (lc_start c e) 3 6 0 2 8 = -1 := by simp [lc_start, lc_clear, um_up]
  have v58 : um_up (lc_start c e) 3 6 0 5 8 = 0 := by simp [lc_start, um_up]
  have v59 : um_up (lc_start c e) 3 6 0 5 9 = 1 := by simp [lc_start, um_up]
  have v64 : um_up (lc_start c e) 3 6 0 6 4 = 0 := by simp [lc_start, um_up]
  have v73 : um_up (lc_start c e) 3 6 0 7 3 = 0 := by simp [lc_start, um_up]
  have v24 : um_up (lc_start c e) 3 6 0 24 0 = -1 := by simp [lc_start, um_up]
  have v25 : um_up (lc_start c e) 3 6 0 25 0 = -1 := by simp [lc_start, um_up]
  have w35 : um_up (lm_start m e) 38 37 0 38 35 = 0 := by simp [lm_start, um_up]
  have w36 : um_up (lm_start m e) 38 37 0 38 36 = 0 := by simp [lm_start, um_up]
  have w37 : um_up (lm_start m e) 38 37 0 38 37 = 0 := um_up_self
  have w34 : um_up (lm_start m e) 38 37 0 38 34 = (if e then 1 else 0) := by simp [lm_start, um_up]
  have w10 : um_up (lm_start m e) 38 37 0 38 10 = 0 := by simp [lm_start, um_up]
  have w14 : um_up (lm_start m e) 38 37 0 38 14 = 0 := by simp [lm_start, um_up]
  have w20 : um_up (lm_start m e) 38 37 0 38 20 = 0 := by simp [lm_start, um_up]
  have w21 : um_up (lm_start m e) 38 37 0 38 21 = -1 := by simp [lm_start, um_up]
  have w23 : um_up (lm_start m e) 38 37 0 38 23 = 0 := by simp [lm_start, um_up]
  have w30 : um_up (lm_start m e) 38 37 0 38 30 = 0 := by simp [lm_start, um_up]
  have w32 : um_up (lm_start m e) 38 37 0 38 32 = 0 := by simp [lm_start, um_up]
  have T0 : ly_T ly_z 2001 = 0 := ly_T_0 2001 (fun _ _ => rfl)
  have hT2 := ly_h2_tree hh hT
  refine ⟨⟨0, 0, 0, 0, 0, ly_z, ly_z, ly_z, ly_z, ly_z, ly_z, ly_z, ly_z, ⟨fun d => ?_, ⟨v64, w37⟩, Or.inr rfl, fun j hj => by omega⟩, ⟨?_, ?_, ?_, ?_, ?_, ?_, ?_, ?_⟩, ?_⟩, hh, ⟨?_, ?_, ?_⟩, v6, v58, w14⟩
  · exact ⟨⟨v8, w35, w36⟩, ⟨v5, w10, by omega⟩, ⟨v7, w20, by omega⟩, ⟨v59, w23, by omega⟩, hT2, ⟨v24, v25⟩, fun j hj => by omega, fun p hp => by omega, fun r a1 a2 => by omega, fun r a1 a2 => by omega⟩
  · refine ⟨by rw [T0]; exact ⟨v73, w30⟩, fun j hj => absurd hj (by unfold ly_z; omega), fun p hp => ?_, fun j x hx => absurd hx (by unfold ly_z; omega)⟩
    rw [T0] at hp
    omega
  · exact ⟨v36, w32, fun i hi => by omega, fun i i2 a1 a2 => by omega⟩
  · exact ly_cha_of hcha (fun q a1 a2 => em q (by omega))
  · exact ⟨v37.trans w34.symm, v28.trans w21.symm⟩
  · exact ⟨by omega, by omega, rfl⟩
  · intro i k hi
    omega
  · intro q a1 a2
    omega
  · intro g hg
    omega
  · rw [T0]
    omega
  · have := v8
    rw [um_up_ne (by decide)] at this
    exact this
  · have := w35
    rw [um_up_ne (by decide)] at this
    exact this
  · have := w36
    rw [um_up_ne (by decide)] at this
    exact this
/-- all functions stand: what the rows need -/
theorem ly_idle_bs {v0 dc ci : Nat} {dn tn : Nat → Nat} (hmid : ly_mid N 0 n B I D c m) (hgl : ly_gl N v0 dc ci 6 L C 2001 n B I dc D bs it ix hs nn dn tn c m) (h2 : 2 * ly_T bs 2001 ≤ n) : ly_bs N n I D L C bs it ix hs nn c m := by
  have hb := hmid.1 0
  obtain ⟨hI, hN, hn, hBB⟩ := ly_bare_I hb
  obtain ⟨-, -, -, ⟨c59, m23, -⟩, hT, -, hitems, hins, -⟩ := id hb
  refine ⟨⟨hT, hI, hn, c59, m23, by omega⟩, fun i hi => ?_, fun p hp => (hins p hp).2.1, fun i hi => ?_, hgl.2.2.1, hgl.1⟩
  · obtain ⟨nd0, ov, dp, -, -, -, -, -, -, -, -, i9, -⟩ := hitems i hi
    exact i9
  · obtain ⟨nd0, ov, dp, i1, i2, i3, -, -, -, i7, -⟩ := hitems i hi
    refine ⟨nd0, ov, by omega, i2, by omega, i3, fun h18 => ⟨i1, ?_, ?_⟩⟩
    · obtain ⟨ov2, dp2, -, -, -, -, -, -, o7, -⟩ := ly_item_try hb hi i2 i1 h18
      exact o7
    · rcases hgl.2.2.2.2.2.1 i nd0 hi (by omega) i2 h18 (hmid.2.2.2 i hi) with z | z | ⟨q, z1, z2, -⟩
      · exact z
      · omega
      · omega
/-- lay -/
theorem t_layAll (hG : um_G c m) (e : Bool) : um_alike Int32 (wp_UM_lay e) (wp_Mo_lay e) c m := by
  obtain ⟨⟨N, hT⟩, -, hR⟩ := id hG
  have hch : ∀ k, ∃ p : Nat × (Nat → Nat), k < N → m 39 k = 18 → ly_chain m k (m 41 k) p.1 p.2 ∧ (p.1 = 0 ↔ m 41 k = -1) := by
    intro k
    by_cases z : k < N ∧ m 39 k = 18
    · obtain ⟨l, ch, h1, h2⟩ := ly_chain_try hT z.1 z.2
      exact ⟨(l, ch), fun _ _ => ⟨h1, h2⟩⟩
    · exact ⟨(0, fun _ => 0), fun a1 a2 => absurd ⟨a1, a2⟩ z⟩
  have hcha : ly_cha N (fun k => (hch k).choose.1) (fun k => (hch k).choose.2) m := fun k h1 h2 => (hch k).choose_spec h1 h2
  obtain ⟨hidle, hh0, ⟨s8, s35, s36⟩, x26, x58, x14⟩ := ly_start (e := e) hT hcha
  obtain ⟨c1, m1, f1, f2, f0, f3⟩ := ly_funs 6 0 0 _ _ rfl hidle
  have hh1 : ly_h2 c m c1 m1 := hh0.trans (ly_h2_hi f0)
  have clA : ∀ (b : um_S) (Q : Int32 → um_S → Prop), wp_La_layDown_68 Q 100000 0 (um_J c1 b) → wp_UM_lay e (um_J c b) Q := by
    intro b Q hq
    unfold wp_UM_lay
    refine p_layDown ?_
    show wp_La_layDown_42 Q (99999 + 1) (nI 0) _
    exact p_start_c s8 (f1 b Q 100000 (by omega) hq)
  have rfA : ∀ (b : um_S) (Q : Int32 → um_S → Prop), wp_Mo_lay_68 Q 100000 150 (um_J b m1) → wp_Mo_lay e (um_J b m) Q := by
    intro b Q hq
    refine p_Mlay ?_
    unfold wp_Mo_laysAll
    show wp_Mo_laysAll_2 _ (99999 + 1) (nI 0) _
    exact p_start_m s35 s36 (f2 b _ 100000 (by omega) hq)
  rcases f3 with ⟨B1, n, I, v0, dc, ci, D, bs, it, ix, hs, nn, dn, tn, hmid, hgl, h2⟩ | hf
  · have hbs := ly_idle_bs hmid hgl h2
    have hb0 := hmid.1 0
    obtain ⟨hI, hN, hn, hBB⟩ := ly_bare_I hb0
    obtain ⟨⟨q1, q2, q3⟩, ⟨n1, n2, n3⟩, ⟨b1, b2', b3⟩, -⟩ := id hb0
    have y26 : c1 2 6 = nI 0 := f0.2.2.2.2.1.trans x26
    have y58 : c1 5 8 = 0 := f0.2.2.2.2.2.trans x58
    have y14 : m1 38 14 = nI 0 := (f0.2.2.2.1 14 (by omega)).trans x14
    have hok : ly_ok n I D c1 m1 c1 m1 := by
      refine ⟨⟨fun _ _ => rfl, fun _ _ => rfl, fun _ _ => rfl, fun _ _ => rfl, fun _ _ => rfl, fun _ _ => rfl, fun j hj w => ?_⟩, 0, ⟨⟨n1, n2, n3⟩, ⟨y26, y14, by omega⟩, fun i hi => by omega, q1, q2, q3⟩, fun i hi => by omega⟩
      rw [y58] at w
      exact absurd w.symm (nI_ne0 (by omega) (by omega))
    obtain ⟨c2, m2, t1, t2, t3⟩ := ly_table hbs hok
    rcases t3 with ⟨hrl, r, hrw, htg⟩ | ⟨hrl, e1, e2, e3⟩
    · obtain ⟨⟨u1, u2, u3⟩, ⟨u4, u5, u6⟩, u7, u8, u9, u10⟩ := id hrw
      obtain ⟨r1, r2, r3, r4, r5, r6, r7⟩ := id hrl
      have hins := fun p hp => ly_ins_end (p := p) hmid.1 hmid.2.2.2 hp
      have hv : ∀ p, p < n → (c2 11 p = 10 ∨ c2 11 p = 11) → ¬ 0 ≤ c2 12 p → vp_in (-(c2 12 p)) 2001 := by
        intro p hp ho hneg
        rw [r1 11 (by decide)] at ho
        rw [r1 12 (by decide)] at hneg ⊢
        obtain ⟨-, -, z⟩ := hins p hp
        rcases z with ⟨-, z⟩ | ⟨j, hj, -, z, -⟩
        · exact absurd (z ho) hneg
        · rw [z, Int32.neg_neg]
          exact vp_in_nI (by omega) (by decide)
      have hcode : ∀ p, p < n → lc_setk c2 n 11 p = m2 46 p ∧ lc_setk c2 n 12 p = m2 47 p ∧ um_ins n D p (m2 46 p) (m2 47 p) := by
        intro p hp
        obtain ⟨z1, z2, z3⟩ := hins p hp
        rw [lc_setk_row (by decide), r1 11 (by decide), r5 46 (by decide), r5 47 (by decide)]
        refine ⟨z1, ?_, z2⟩
        unfold lc_setk
        rw [r1 11 (by decide), r1 12 (by decide), r1 29 (by decide)]
        rcases z3 with ⟨w1, w2⟩ | ⟨j, hj, w1, w2, w3⟩
        · rw [if_neg (fun y => y.2.2.2 (w2 y.2.2.1))]
          exact w1
        · rw [if_pos ⟨rfl, hp, w1, by rw [w2]; exact ly_negneg (by omega)⟩, w2, Int32.neg_neg, um_cl1 (by omega)]
          exact w3
      have E : ∀ q, ¬ q = 12 → lc_setk c2 n q = c2 q := fun q hq => lc_setk_row hq
      have hh3 : ly_h2 c m (lc_setk c2 n) (um_up m2 38 9 1) := (hh1.trans (ly_h2_rl hrl)).trans (ly_h2_of (fun q hq => E q (by omega)) (fun q hq => um_up_q (by omega)) (fun k hk => um_up_ne (by omega)))
      have hn0 : 0 < n := by
        obtain ⟨t, ht, -⟩ := hgl.2.2.2.2.2.2.2 0 (by omega)
        omega
      refine ⟨nI n, lc_setk c2 n, um_up m2 38 9 1, fun b Q hq => clA b Q (t1 b Q ?_), fun b Q hq => rfA b Q (t2 b Q ?_), ⟨N, ly_h2_tree hh3 hT⟩, Or.inr ⟨n, r, D, ?_⟩, ly_h2_R hh3 hR⟩
      · unfold wp_La_layDown_97 wp_La_settleGoals
        refine um_yes (by rw [um_J_c (by decide)]; exact u8) ?_
        have g := p_settle (b := b) (Q := fun σ1 => Q (σ1 2 5) σ1) u1 u3 hv (by rw [um_J_c (q := 2) (by decide), E 2 (by decide), u1]; exact hq) n 0 100000 (by omega) (by omega)
        rw [lc_setk_0] at g
        exact g
      · unfold wp_Mo_lay_139
        rw [um_J_m (q := 38) (by decide), u9, u10]
        refine um_yes' rfl (um_yes' rfl ?_)
        rintro σ3 rfl
        rw [um_J_um (by decide)]
        unfold wp_Mo_lay_162
        rw [um_J_m (q := 38) (by decide), um_up_ne (by decide), um_up_ne (by decide), um_up_ne (by decide), u9, u10, u2]
        exact um_yes rfl (um_yes rfl hq)
      · refine ⟨hn0, u3, u6, by rw [E 2 (by decide)]; exact u1, by rw [um_up_ne (by decide)]; exact u2, by rw [E 2 (by decide)]; exact u4, by rw [um_up_ne (by decide)]; exact u5, fun p hp => by rw [um_up_q (by decide), um_up_q (by decide)]; exact hcode p hp, ?_, fun i hi => by rw [um_up_q (by decide)]; exact htg i hi, fun f hf => ?_, ⟨N, ly_h2_tree hh3 hT⟩, ?_, ?_, um_up_self⟩
        · unfold um_rowsEq
          rw [E 15 (by decide), um_up_q (by decide), um_up_q (by decide), um_up_q (by decide), um_up_q (by decide), um_up_q (by decide)]
          exact u7
        · obtain ⟨t, w1, w2, w3, w4⟩ := hgl.2.2.2.2.2.2.2 f hf
          exact ⟨t, w1, by rw [E 14 (by decide), r1 14 (by decide)]; exact w2, by rw [um_up_q (by decide), r5 54 (by decide)]; exact w3, w4⟩
        · rw [E 2 (by decide), r2 7 (by decide), um_up_ne (by decide), r6 20 (by decide), b1, b2']
        · rw [E 2 (by decide), r2 8 (by decide), um_up_ne (by decide), r6 21 (by decide)]
          exact hgl.2.2.2.1.2
    · obtain ⟨x, z1, z2, z3⟩ := ly_finF hT hR (hh1.trans (ly_h2_rl hrl)) (Or.inl ⟨e1, e2, e3⟩)
      exact ⟨x, _, _, fun b Q hq => clA b Q (t1 b Q (z1 b Q hq)), fun b Q hq => rfA b Q (t2 b Q (z2 b Q hq)), z3⟩
  · obtain ⟨x, z1, z2, z3⟩ := ly_finF hT hR hh1 hf
    refine ⟨x, _, _, fun b Q hq => clA b Q (ly_clf_bad (h := 0) (ly_fail_c hf) (by omega) b Q 100000 (by omega) (z1 b Q hq)), fun b Q hq => rfA b Q ?_, z3⟩
    show wp_Mo_lay_68 Q (99999 + 1) 150 (um_J b m1)
    unfold wp_Mo_lay_68
    rw [um_J_m (q := 38) (by decide)]
    refine um_no (by decide) ⟨fun _ => z2 b Q hq, fun w => ⟨fun _ => z2 b Q hq, fun y => ?_⟩⟩
    rcases hf with ⟨-, e1, -⟩ | ⟨-, e1⟩
    · rw [e1] at w
      exact absurd w (by decide)
    · rw [e1] at y
      exact absurd y (by decide)
end LayAll
