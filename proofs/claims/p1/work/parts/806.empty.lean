/-! lay without bodies -/
def lc_it (c : um_S) : Nat → um_S
  | 0 => c
  | f + 1 => lc_fun0 (lc_it c f) f f
def lm_it (m : um_S) : Nat → um_S
  | 0 => m
  | f + 1 => lm_fun0 (lm_it m f) f f
theorem um_R_of {c m c2 m2 : um_S} (h : um_R c m) (e4 : c2 4 = c 4) (e17 : c2 17 = c 17) (e18 : c2 18 = c 18) (e19 : c2 19 = c 19) (e22 : c2 22 = c 22) (g : ∀ k, 46 ≤ k → k ≤ 52 → m2 38 k = m 38 k) (g70 : m2 70 = m 70) (g71 : m2 71 = m 71) (g75 : m2 75 = m 75) : um_R c2 m2 := by
  unfold um_R um_seen at *
  rw [e4, e17, e18, e19, e22, g70, g71, g75, g 46 (by omega) (by omega), g 47 (by omega) (by omega), g 48 (by omega) (by omega), g 49 (by omega) (by omega), g 51 (by omega) (by omega), g 52 (by omega) (by omega)]
  exact h
section LayEmpty
variable {c m b : um_S} {n f fuel : Nat} {e : Bool} {Q : um_S → Prop} {Qi : Int32 → um_S → Prop}
theorem lc_fun0_row {q : Nat} (hq : ¬ (q = 2 ∨ q = 3 ∨ q = 11 ∨ q = 12 ∨ q = 13 ∨ q = 14)) : lc_fun0 c f n q = c q := by
  unfold lc_fun0 lc_emit
  rw [um_up_q (by omega), um_up_q (by omega), um_up_q (by omega), um_up_q (by omega), um_up_q (by omega), um_up_q (by omega)]
theorem lm_fun0_row {q : Nat} (hq : ¬ (q = 38 ∨ q = 46 ∨ q = 47 ∨ q = 48 ∨ q = 54)) : lm_fun0 m f n q = m q := by
  unfold lm_fun0 lm_put
  rw [um_up_q (by omega), um_up_q (by omega), um_up_q (by omega), um_up_q (by omega), um_up_q (by omega), um_up_q (by omega)]
theorem lc_it_row {q : Nat} (hq : ¬ (q = 2 ∨ q = 3 ∨ q = 11 ∨ q = 12 ∨ q = 13 ∨ q = 14)) : ∀ f, lc_it c f q = c q
  | 0 => rfl
  | f + 1 => (lc_fun0_row hq).trans (lc_it_row hq f)
theorem lm_it_row {q : Nat} (hq : ¬ (q = 38 ∨ q = 46 ∨ q = 47 ∨ q = 48 ∨ q = 54)) : ∀ f, lm_it m f q = m q
  | 0 => rfl
  | f + 1 => (lm_fun0_row hq).trans (lm_it_row hq f)
theorem lc_it_2 {k : Nat} (hk : ¬ k = 5) : ∀ f, lc_it c f 2 k = c 2 k
  | 0 => rfl
  | f + 1 => by
    have ih := lc_it_2 hk f
    show lc_fun0 _ f f 2 k = _
    unfold lc_fun0 lc_emit
    rw [um_up_ne (by omega), um_up_q (by decide), um_up_q (by decide), um_up_q (by decide), um_up_q (by decide), um_up_q (by decide)]
    exact ih
theorem lc_it_3 {k : Nat} (hk : ¬ k = 6) : ∀ f, lc_it c f 3 k = c 3 k
  | 0 => rfl
  | f + 1 => by
    have ih := lc_it_3 hk f
    show lc_fun0 _ f f 3 k = _
    unfold lc_fun0 lc_emit
    rw [um_up_q (by decide), um_up_q (by decide), um_up_q (by decide), um_up_q (by decide), um_up_ne (by omega), um_up_q (by decide)]
    exact ih
theorem lm_it_38 {k : Nat} (hk : ¬ k = 10 ∧ ¬ k = 37) : ∀ f, lm_it m f 38 k = m 38 k
  | 0 => rfl
  | f + 1 => by
    have ih := lm_it_38 hk f
    show lm_fun0 _ f f 38 k = _
    unfold lm_fun0 lm_put
    rw [um_up_ne (by omega), um_up_q (by decide), um_up_q (by decide), um_up_q (by decide), um_up_ne (by omega), um_up_q (by decide)]
    exact ih
theorem lc_it_n (h : c 2 5 = 0) : ∀ f, lc_it c f 2 5 = nI f
  | 0 => h
  | f + 1 => by
    show lc_fun0 _ f f 2 5 = _
    unfold lc_fun0 lc_emit
    rw [um_up_self]
theorem lm_it_n (h : m 38 10 = 0) : ∀ f, lm_it m f 38 10 = nI f
  | 0 => h
  | f + 1 => by
    show lm_fun0 _ f f 38 10 = _
    unfold lm_fun0 lm_put
    rw [um_up_self]
theorem lc_it_at : ∀ f i, i < f → lc_it c f 11 i = 14 ∧ lc_it c f 12 i = 0 ∧ lc_it c f 14 i = nI i
  | 0, i, h => by omega
  | f + 1, i, h => by
    show lc_fun0 _ f f 11 i = 14 ∧ lc_fun0 _ f f 12 i = 0 ∧ lc_fun0 _ f f 14 i = nI i
    unfold lc_fun0 lc_emit
    by_cases hi : i = f
    · subst hi
      refine ⟨?_, ?_, ?_⟩
      · rw [um_up_q (by decide), um_up_q (by decide), um_up_q (by decide), um_up_self]
      · rw [um_up_q (by decide), um_up_q (by decide), um_up_self]
      · rw [um_up_q (by decide), um_up_q (by decide), um_up_q (by decide), um_up_q (by decide), um_up_q (by decide), um_up_self]
    · have ih := lc_it_at f i (by omega)
      refine ⟨?_, ?_, ?_⟩
      · rw [um_up_q (by decide), um_up_q (by decide), um_up_q (by decide), um_up_ne (by omega), um_up_q (by decide), um_up_q (by decide)]
        exact ih.1
      · rw [um_up_q (by decide), um_up_q (by decide), um_up_ne (by omega), um_up_q (by decide), um_up_q (by decide), um_up_q (by decide)]
        exact ih.2.1
      · rw [um_up_q (by decide), um_up_q (by decide), um_up_q (by decide), um_up_q (by decide), um_up_q (by decide), um_up_ne (by omega)]
        exact ih.2.2
theorem lm_it_at : ∀ f i, i < f → lm_it m f 46 i = 14 ∧ lm_it m f 47 i = 0 ∧ lm_it m f 54 i = nI i
  | 0, i, h => by omega
  | f + 1, i, h => by
    show lm_fun0 _ f f 46 i = 14 ∧ lm_fun0 _ f f 47 i = 0 ∧ lm_fun0 _ f f 54 i = nI i
    unfold lm_fun0 lm_put
    by_cases hi : i = f
    · subst hi
      refine ⟨?_, ?_, ?_⟩
      · rw [um_up_q (by decide), um_up_q (by decide), um_up_q (by decide), um_up_self]
      · rw [um_up_q (by decide), um_up_q (by decide), um_up_self]
      · rw [um_up_q (by decide), um_up_q (by decide), um_up_q (by decide), um_up_q (by decide), um_up_q (by decide), um_up_self]
    · have ih := lm_it_at f i (by omega)
      refine ⟨?_, ?_, ?_⟩
      · rw [um_up_q (by decide), um_up_q (by decide), um_up_q (by decide), um_up_ne (by omega), um_up_q (by decide), um_up_q (by decide)]
        exact ih.1
      · rw [um_up_q (by decide), um_up_q (by decide), um_up_ne (by omega), um_up_q (by decide), um_up_q (by decide), um_up_q (by decide)]
        exact ih.2.1
      · rw [um_up_q (by decide), um_up_q (by decide), um_up_q (by decide), um_up_q (by decide), um_up_q (by decide), um_up_ne (by omega)]
        exact ih.2.2
theorem p_lay42 (hv : c 3 8 = 0) (hn : c 2 5 = 0) (hb : ∀ f, f < 6 → c 10 f = -1) (hf : f < 6) (hq : wp_La_layDown_42 Qi fuel (nI (f + 1)) (um_J (lc_it c (f + 1)) b)) : wp_La_layDown_42 Qi (fuel + 1) (nI f) (um_J (lc_it c f) b) := by
  have h6 : ¬ (6 : Int32) ≤ nI f := by
    intro h
    have := (nI_leI (a := 6) (b := f) (by decide) (by omega)).mp h
    omega
  have k8 : lc_it c f 3 8 = 0 := (lc_it_3 (by decide) f).trans hv
  unfold wp_La_layDown_42
  refine um_no h6 (um_yes' (by rw [um_J_c (by decide)]; exact k8) (p_fun0 (n := f) hf k8 (lc_it_n hn f) (by omega) (by rw [lc_it_row (by decide)]; exact hb f hf) ?_))
  rw [show nI f + 1 = nI (f + 1) from um_succ]
  exact hq
theorem p_settle0 (hn : c 2 5 = nI n) (hn2 : n ≤ 1000) (ho : ∀ i, i < n → ¬ c 11 i = 10 ∧ ¬ c 11 i = 11) (hq : Q (um_J c b)) : ∀ d i fuel, i + d = n → d < fuel → wp_La_settleGoals_2 Q fuel (nI i) (um_J c b) := by
  intro d
  induction d with
  | zero =>
    intro i fuel h1 h2
    obtain ⟨k, rfl⟩ : ∃ k, fuel = k + 1 := ⟨fuel - 1, by omega⟩
    unfold wp_La_settleGoals_2
    exact um_yes (by rw [um_J_c (by decide), hn]; exact nI_le (by omega) (by omega)) hq
  | succ d ih =>
    intro i fuel h1 h2
    obtain ⟨k, rfl⟩ : ∃ k, fuel = k + 1 := ⟨fuel - 1, by omega⟩
    unfold wp_La_settleGoals_2
    have hi : ¬ nI n ≤ nI i := by
      intro h
      have := (nI_leI (a := n) (b := i) (by omega) (by omega)).mp h
      omega
    rw [um_J_c (q := 2) (by decide), um_J_c (q := 11) (by decide), hn, um_cl1 (by omega)]
    obtain ⟨o1, o2⟩ := ho i (by omega)
    refine um_no hi ⟨vp_in_nI (by omega) (by decide), um_no o1 ⟨vp_in_nI (by omega) (by decide), um_no' o2 ?_⟩⟩
    unfold wp_La_settleGoals_47
    refine um_yes rfl ?_
    rw [show nI i + 1 = nI (i + 1) from um_succ]
    exact ih (i + 1) k (by omega) (by omega)
theorem p_lay68 {m1 : um_S} (hv : m1 38 35 = 0) (hi : m1 38 36 = 0) (hb : m1 38 23 = 0) (hq : wp_Mo_lay_139 Qi (um_J b m1)) : ∀ (d : Nat) (fuel : Nat), d < fuel → d ≤ 151 → wp_Mo_lay_68 Qi fuel (nI d - 1) (um_J b m1) := by
  intro d
  induction d with
  | zero =>
    intro fuel h1 h2
    obtain ⟨k, rfl⟩ : ∃ k, fuel = k + 1 := ⟨fuel - 1, by omega⟩
    unfold wp_Mo_lay_68
    exact um_yes (by decide) hq
  | succ d ih =>
    intro fuel h1 h2
    obtain ⟨k, rfl⟩ : ∃ k, fuel = k + 1 := ⟨fuel - 1, by omega⟩
    rw [um_pred (a := d + 1) (by omega)]
    unfold wp_Mo_lay_68
    refine um_no (nI_pos (by omega)) (um_yes' (by rw [um_J_m (by decide)]; exact hv) (um_yes' (by rw [um_J_m (by decide)]; exact hi) ?_))
    show wp_Mo_lay_88 Qi _ (99999 + 1) _ _ _
    unfold wp_Mo_lay_88
    refine um_yes (by rw [um_J_m (by decide), hb]; decide) ?_
    rw [show nI (d + 1 - 1) + (-1) = nI d - 1 by rw [Nat.add_sub_cancel, Int32.sub_eq_add_neg]]
    exact ih k (by omega) (by omega)
/-- no function has a body -/
theorem t_lay0 (hG : um_G c m) (h0 : ∀ f, f < 6 → m 45 f = -1) (e : Bool) : um_alike Int32 (wp_UM_lay e) (wp_Mo_lay e) c m := by
  obtain ⟨N, hT⟩ := hG.1
  have hb : ∀ f, f < 6 → c 10 f = -1 := fun f hf => (hT.2.2.2.2 f hf).1.trans (h0 f hf)
  have ec : ∀ q, ¬ (q = 2 ∨ q = 3 ∨ q = 5 ∨ q = 6 ∨ q = 7 ∨ q = 24 ∨ q = 25) → lc_start c e q = c q := by
    intro q hq
    unfold lc_start lc_clear
    rw [um_up_q (by omega), um_up_q (by omega), um_up_q (by omega), um_up_q (by omega), um_up_q (by omega), um_up_q (by omega), um_up_q (by omega), um_up_q (by omega), um_up_q (by omega), um_up_q (by omega), um_up_q (by omega), um_up_q (by omega)]
  have em : ∀ q, ¬ q = 38 → lm_start m e q = m q := by
    intro q hq
    unfold lm_start
    rw [um_up_q (by omega), um_up_q (by omega), um_up_q (by omega), um_up_q (by omega), um_up_q (by omega), um_up_q (by omega), um_up_q (by omega), um_up_q (by omega), um_up_q (by omega), um_up_q (by omega), um_up_q (by omega), um_up_q (by omega)]
  have em38 : ∀ k, k = 1 ∨ 46 ≤ k → lm_start m e 38 k = m 38 k := by
    intro k hk
    unfold lm_start
    rw [um_up_ne (by omega), um_up_ne (by omega), um_up_ne (by omega), um_up_ne (by omega), um_up_ne (by omega), um_up_ne (by omega), um_up_ne (by omega), um_up_ne (by omega), um_up_ne (by omega), um_up_ne (by omega), um_up_ne (by omega), um_up_ne (by omega)]
  have v8 : lc_start c e 3 8 = 0 := by simp [lc_start, um_up]
  have v5 : lc_start c e 2 5 = 0 := by simp [lc_start, lc_clear, um_up]
  have v6 : lc_start c e 2 6 = 0 := by simp [lc_start, lc_clear, um_up]
  have v7 : lc_start c e 2 7 = 0 := by simp [lc_start, lc_clear, um_up]
  have v28 : lc_start c e 2 8 = -1 := by simp [lc_start, lc_clear, um_up]
  have v73 : lc_start c e 7 3 = 0 := by simp [lc_start, um_up]
  have w35 : lm_start m e 38 35 = 0 := by simp [lm_start, um_up]
  have w36 : lm_start m e 38 36 = 0 := by simp [lm_start, um_up]
  have w10 : lm_start m e 38 10 = 0 := by simp [lm_start, um_up]
  have w14 : lm_start m e 38 14 = 0 := by simp [lm_start, um_up]
  have w20 : lm_start m e 38 20 = 0 := by simp [lm_start, um_up]
  have w21 : lm_start m e 38 21 = -1 := by simp [lm_start, um_up]
  have w23 : lm_start m e 38 23 = 0 := by simp [lm_start, um_up]
  have hb1 : ∀ f, f < 6 → lc_start c e 10 f = -1 := fun f hf => by rw [ec _ (by decide)]; exact hb f hf
  have hb2 : ∀ f, f < 6 → lm_start m e 45 f = -1 := fun f hf => by rw [em _ (by decide)]; exact h0 f hf
  have rc : ∀ q, ¬ (q = 2 ∨ q = 3 ∨ q = 5 ∨ q = 6 ∨ q = 7 ∨ q = 24 ∨ q = 25 ∨ q = 11 ∨ q = 12 ∨ q = 13 ∨ q = 14) → lc_it (lc_start c e) 6 q = c q := fun q hq => (lc_it_row (by omega) 6).trans (ec q (by omega))
  have rm : ∀ q, ¬ (q = 38 ∨ q = 46 ∨ q = 47 ∨ q = 48 ∨ q = 54) → um_up (lm_it (lm_start m e) 6) 38 9 1 q = m q := fun q hq => (um_up_q (by omega)).trans ((lm_it_row (by omega) 6).trans (em q (by omega)))
  have rm38 : ∀ k, k = 1 ∨ 46 ≤ k → um_up (lm_it (lm_start m e) 6) 38 9 1 38 k = m 38 k := fun k hk => (um_up_ne (by omega)).trans ((lm_it_38 (by omega) 6).trans (em38 k hk))
  have hT2 : um_tree N (lc_it (lc_start c e) 6) (um_up (lm_it (lm_start m e) 6) 38 9 1) :=
    um_tree_of hT (by rw [rc 1 (by decide)]) (rc 8 (by decide)) (rc 9 (by decide)) (rc 10 (by decide)) (by rw [rc 26 (by decide)]) (by rw [rc 27 (by decide)]) (by rw [rc 28 (by decide)])
      (rm38 1 (Or.inl rfl)) (rm 39 (by decide)) (rm 40 (by decide)) (rm 41 (by decide)) (rm 42 (by decide)) (rm 43 (by decide)) (rm 44 (by decide)) (rm 45 (by decide))
  refine ⟨nI 6, lc_it (lc_start c e) 6, um_up (lm_it (lm_start m e) 6) 38 9 1, fun b Q hq => ?_, fun b Q hq => ?_, ⟨N, hT2⟩, Or.inr ⟨6, 0, fun _ => 0, ?_⟩, ?_⟩
  · unfold wp_UM_lay
    refine p_layDown ?_
    have fin : wp_La_layDown_42 (fun x2 σ1 => Q x2 σ1) (99993 + 1) (nI 6) (um_J (lc_it (lc_start c e) 6) b) := by
      unfold wp_La_layDown_42
      refine um_yes (by decide) ?_
      show wp_La_layDown_68 _ (99999 + 1) 0 _
      unfold wp_La_layDown_68
      refine um_yes (by rw [um_J_c (by decide), lc_it_row (by decide), v73]; decide) ?_
      unfold wp_La_layDown_97
      refine um_yes (by rw [um_J_c (by decide), lc_it_3 (by decide), v8]) ?_
      unfold wp_La_settleGoals
      refine p_settle0 (n := 6) (lc_it_n v5 6) (by decide) (fun i hi => ?_) ?_ 6 0 100000 rfl (by decide)
      · rw [(lc_it_at 6 i hi).1]
        exact ⟨by decide, by decide⟩
      · rw [um_J_c (q := 2) (by decide), lc_it_n v5 6]
        exact hq
    exact p_lay42 v8 v5 hb1 (f := 0) (by decide) (p_lay42 v8 v5 hb1 (f := 1) (by decide) (p_lay42 v8 v5 hb1 (f := 2) (by decide) (p_lay42 v8 v5 hb1 (f := 3) (by decide) (p_lay42 v8 v5 hb1 (f := 4) (by decide) (p_lay42 v8 v5 hb1 (f := 5) (by decide) fin)))))
  · refine p_Mlay ?_
    unfold wp_Mo_laysAll
    have go : ∀ f fuel, f < 6 → ∀ Q2 : um_S → Prop, wp_Mo_laysAll_2 Q2 fuel (nI (f + 1)) (um_J b (lm_it (lm_start m e) (f + 1))) → wp_Mo_laysAll_2 Q2 (fuel + 1) (nI f) (um_J b (lm_it (lm_start m e) f)) := by
      intro f fuel hf Q2 h
      exact p_Mfun0 (n := f) hf (by rw [lm_it_38 (by decide), w35]) (by rw [lm_it_38 (by decide), w36]) (lm_it_n w10 f) (by omega) (by rw [lm_it_row (by decide)]; exact hb2 f hf) h
    refine go 0 99999 (by decide) _ (go 1 99998 (by decide) _ (go 2 99997 (by decide) _ (go 3 99996 (by decide) _ (go 4 99995 (by decide) _ (go 5 99994 (by decide) _ ?_)))))
    show wp_Mo_laysAll_2 _ (99993 + 1) (nI 6) _
    unfold wp_Mo_laysAll_2
    refine um_yes (by decide) ?_
    have k35 : lm_it (lm_start m e) 6 38 35 = 0 := by rw [lm_it_38 (by decide), w35]
    have k36 : lm_it (lm_start m e) 6 38 36 = 0 := by rw [lm_it_38 (by decide), w36]
    refine p_lay68 (Qi := Q) k35 k36 (by rw [lm_it_38 (by decide), w23]) ?_ 151 100000 (by decide) (by decide)
    unfold wp_Mo_lay_139
    refine um_yes' (by rw [um_J_m (by decide)]; exact k35) (um_yes' (by rw [um_J_m (by decide)]; exact k36) ?_)
    rintro σ1 rfl
    rw [um_J_um (by decide)]
    unfold wp_Mo_lay_162
    refine um_yes (by rw [um_J_m (by decide), um_up_ne (by decide)]; exact k36) (um_yes (by rw [um_J_m (by decide), um_up_ne (by decide)]; exact k35) ?_)
    rw [um_J_m (q := 38) (by decide), um_up_ne (by decide), lm_it_n w10 6]
    exact hq
  · refine ⟨by decide, by decide, by decide, lc_it_n v5 6, ?_, ?_, ?_, fun p hp => ?_, fun i hi => by omega, fun i hi => by omega, fun f hf => ⟨f, hf, (lc_it_at 6 f hf).2.2, ?_, rfl⟩, ⟨N, hT2⟩, ?_, ?_, um_up_self⟩
    · rw [um_up_ne (by decide), lm_it_n w10 6]
    · rw [lc_it_2 (by decide), v6]
      rfl
    · rw [um_up_ne (by decide), lm_it_38 (by decide), w14]
      rfl
    · rw [um_up_q (by decide), um_up_q (by decide), (lc_it_at 6 p hp).1, (lc_it_at 6 p hp).2.1, (lm_it_at 6 p hp).1, (lm_it_at 6 p hp).2.1]
      exact ⟨rfl, rfl, by unfold um_ins; simp⟩
    · rw [um_up_q (by decide)]
      exact (lm_it_at 6 f hf).2.2
    · rw [lc_it_2 (by decide), v7, um_up_ne (by decide), lm_it_38 (by decide), w20]
    · rw [lc_it_2 (by decide), v28, um_up_ne (by decide), lm_it_38 (by decide), w21]
  · exact um_R_of hG.2.2 (rc 4 (by decide)) (rc 17 (by decide)) (rc 18 (by decide)) (rc 19 (by decide)) (rc 22 (by decide)) (fun k h1 h2 => rm38 k (Or.inr h1)) (rm 70 (by decide)) (rm 71 (by decide)) (rm 75 (by decide))
end LayEmpty
