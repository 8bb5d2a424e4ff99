/-! lay: a node is begun -/
section LayBegin
variable {N a n B t r I : Nat} {D nd kd sd bd : Nat → Nat} {X : Nat → Prop} {c m : um_S} {k2 w2 b2 ab fi : Nat} {x y : Int32}
theorem ly_begin_inv {C : Prop} (hc : ly_core N a n B t I D nd kd sd bd (ly_X t kd sd c) c m) (hat : a ≤ t) (ha : a ≤ 1 ∧ (a = 1 → ¬ kd 0 = 12)) (hB : B < 2000) (ht : t ≤ B + a ∧ C) (hk : k2 < N) (hw : m 39 k2 = nI w2) (hw2 : w2 ≤ 18)
    (hf : (w2 ≤ 7 ∧ b2 + k2 ≤ 149 ∧ ly_cy I (c 24) (m 56) x y) ∨ (8 ≤ w2 ∧ b2 = 0 ∧ ly_cx I (c 24) (m 56) x y)) (hup : ly_up I (c 24) (c 25) (c 27) (c 28) x ab fi) (h149 : ab + k2 ≤ 149 ∧ fi + k2 ≤ 149)
    (hD : D n = b2) (hl : a < t → b2 + ly_isE w2 = bd (t - 1) + ly_pd (kd (t - 1)) (sd (t - 1))) (hb : t = a → b2 = 0 ∧ 8 ≤ w2) (hba : a < t → bd a = 0 ∧ 8 ≤ kd a) (ho : ly_open a t I kd sd m) :
    ly_inv N a n (B + 1) (t + 1) I D (ly_g nd t k2) (ly_g kd t w2) (ly_g sd t 0) (ly_g bd t b2) (lc_begin c t B (nI k2) x) (lm_begin m t B (nI k2) y (nI ab) (nI fi)) := by
  obtain ⟨h1, h2, h3, h4, h5, h6, h7, h8, h9, h10⟩ := id hc
  have hF : ly_fr I c m (lc_begin c t B (nI k2) x) (lm_begin m t B (nI k2) y (nI ab) (nI fi)) := ⟨fun q s a1 a2 a3 => by rw [lc_begin_row (by omega)], fun q j a1 a2 a3 => by rw [lm_begin_row (by omega)], fun q a1 a2 => lm_begin_row (by omega)⟩
  have hT : um_tree N (lc_begin c t B (nI k2) x) (lm_begin m t B (nI k2) y (nI ab) (nI fi)) := um_tree_of h5 (by rw [lc_begin_row (by decide)]) (lc_begin_row (by decide)) (lc_begin_row (by decide)) (lc_begin_row (by decide)) (by rw [lc_begin_row (by decide)]) (by rw [lc_begin_row (by decide)]) (by rw [lc_begin_row (by decide)])
    (lm_begin_38 (by decide)) (lm_begin_row (by decide)) (lm_begin_row (by decide)) (lm_begin_row (by decide)) (lm_begin_row (by decide)) (lm_begin_row (by decide)) (lm_begin_row (by decide)) (lm_begin_row (by decide))
  have g : ∀ i, i < t → ly_g nd t k2 i = nd i ∧ ly_g kd t w2 i = kd i ∧ ly_g sd t 0 i = sd i ∧ ly_g bd t b2 i = bd i := fun i hi => ⟨ly_g_ne (by omega), ly_g_ne (by omega), ly_g_ne (by omega), ly_g_ne (by omega)⟩
  have hXX : ∀ p, p < n → ly_X t kd sd c p → ly_X (t + 1) (ly_g kd t w2) (ly_g sd t 0) (lc_begin c t B (nI k2) x) p := by
    rintro p - ⟨i, a1, a2, a3, a4⟩
    obtain ⟨-, g2, g3, -⟩ := g i a1
    exact ⟨i, by omega, by rw [g2]; exact a2, by rw [g3]; exact a3, by rw [lc_begin_old (by decide) (by decide) a1]; exact a4⟩
  have hc1 := ly_core_keep (c2 := lc_begin c t B (nI k2) x) (m2 := lm_begin m t B (nI k2) y (nI ab) (nI fi)) (B2 := B + 1) hc ⟨by rw [lc_begin_row (by decide)]; exact h1.1, by rw [lm_begin_38 (by decide)]; exact h1.2.1, by rw [lm_begin_38 (by decide)]; exact h1.2.2⟩ ⟨by rw [lc_begin_2 (by decide)]; exact h2.1, by rw [lm_begin_38 (by decide)]; exact h2.2.1⟩ ⟨lc_begin_B, lm_begin_B, by omega, by omega⟩ ⟨by rw [lc_begin_row (by decide)], by rw [lm_begin_38 (by decide)]⟩ hT hF hXX
    (fun q p a1 a2 a3 => by rw [lc_begin_row (by omega)]) (fun q p a1 a2 a3 => by rw [lm_begin_row (by omega)]) (fun q i a1 a2 a3 => lc_begin_old a1 a2 a3) (fun q i a1 a2 a3 => lm_begin_old a1 a2 a3)
  have hc2 := ly_core_gh hc1 g
  obtain ⟨c1, c2, c3, c4⟩ := lc_begin_at (c := c) (t := t) (B := B) (node := nI k2) (ctx := x)
  obtain ⟨d1, d2, d3, d4, d5⟩ := lm_begin_at (m := m) (t := t) (B := B) (node := nI k2) (ctx := y) (ab := nI ab) (fi := nI fi)
  have hent : ly_ent N n (n + 1) I (B + 1) D (lc_begin c t B (nI k2) x) (lm_begin m t B (nI k2) y (nI ab) (nI fi)) t k2 w2 0 b2 := by
    refine ⟨hk, by rw [lm_begin_row (by decide)]; exact hw, hw2, c1, d1, c3, d5, ab, fi, d3, d4, h149.1, h149.2, ?_⟩
    rcases hf with ⟨f1, f2, f3⟩ | ⟨f1, f2, f3⟩
    · refine Or.inl ⟨f1, by omega, fun _ => rfl, f2, ?_, ?_⟩
      · rw [c2, d2]
        exact ly_cy_mono (Nat.le_refl I) hF f3
      · rw [c2]
        exact ly_up_mono (Nat.le_refl I) hF hup
    · refine Or.inr (Or.inl ⟨f2, f1, ?_, ?_, Or.inl rfl⟩)
      · rw [c2, d2]
        exact ly_cx_mono (Nat.le_refl I) hF f3
      · rw [c2]
        exact ly_up_mono (Nat.le_refl I) hF hup
  have e68 : ∀ i, i < t → lm_begin m t B (nI k2) y (nI ab) (nI fi) 68 i = m 68 i := fun i hi => lm_begin_old (by decide) (by decide) hi
  refine ⟨ly_core_top hc2 (fun _ => by rw [ly_g_at, ly_g_at, ly_g_at, ly_g_at]; exact hent) (fun h0 => ?_), ⟨lc_begin_t, lm_begin_t, by omega, ha.1, fun z => by rw [ly_g_ne (by omega)]; exact ha.2 z⟩, fun _ => ⟨?_, ?_⟩, fun e => by omega, ?_, ?_⟩
  · rw [ly_g_at, ly_g_at, ly_g_ne (by omega), ly_g_ne (by omega), ly_g_ne (by omega)]
    exact hl h0
  · rw [Nat.add_sub_cancel, ly_g_at, ly_g_at, ly_g_at, hD]
    unfold ly_pd
    by_cases q1 : 2 ≤ w2 ∧ w2 ≤ 7
    · rw [if_pos q1]
      omega
    · rw [if_neg q1, if_neg (by omega)]
      omega
  · by_cases e : t = a
    · subst e
      rw [ly_g_at, ly_g_at]
      exact hb rfl
    · rw [ly_g_ne (by omega), ly_g_ne (by omega)]
      exact hba (by omega)
  · intro j hj hj2
    rw [lm_begin_row (by decide)] at hj2
    obtain ⟨i, a1, a2, a3, a4, a5⟩ := ho.1 j hj hj2
    refine ⟨i, a1, by omega, ?_⟩
    obtain ⟨-, g2, g3, -⟩ := g i a2
    rw [g2, g3, e68 i a2]
    exact ⟨a3, a4, a5⟩
  · intro i i2 j j2 a1 a2 a3 a4 a5 a6 a7 a8 a9
    by_cases e : i2 = t
    · subst e
      rw [ly_g_at] at a7
      omega
    · obtain ⟨-, g2, g3, -⟩ := g i (by omega)
      obtain ⟨-, k2', k3, -⟩ := g i2 (by omega)
      rw [g2] at a4
      rw [g3] at a5
      rw [k2'] at a6
      rw [k3] at a7
      rw [e68 i (by omega)] at a8
      rw [e68 i2 (by omega)] at a9
      exact ho.2 i i2 j j2 a1 a2 (by omega) a4 a5 a6 a7 a8 a9
/-- the measure falls when a node is begun -/
theorem ly_mu_begin {kd2 sd2 : Nat → Nat} (hB : B < 2000) (hat : a ≤ t) (h : ∀ i, i < t → ly_rs (kd2 i) (sd2 i) ≤ ly_rs (kd i) (sd i)) (ht : sd2 t = 0) : ly_mu a (B + 1) (t + 1) kd2 sd2 < ly_mu a B t kd sd := by
  have key : ∀ T, (∀ i, i < T → ly_rs (kd2 i) (sd2 i) ≤ ly_rs (kd i) (sd i)) → ly_sum (fun r => ly_rs (kd2 r) (sd2 r)) a T ≤ ly_sum (fun r => ly_rs (kd r) (sd r)) a T := by
    intro T
    induction T with
    | zero => intro _; exact Nat.le_refl _
    | succ T ih =>
      intro hT
      have h1 := ih (fun i hi => hT i (by omega))
      have h2 := hT T (by omega)
      show ly_sum _ a T + (if a ≤ T then ly_rs (kd2 T) (sd2 T) else 0) ≤ ly_sum _ a T + (if a ≤ T then ly_rs (kd T) (sd T) else 0)
      by_cases e : a ≤ T
      · rw [if_pos e, if_pos e]
        omega
      · rw [if_neg e, if_neg e]
        omega
  have h1 := key t h
  unfold ly_mu
  show 10 * (2000 - (B + 1)) + (ly_sum (fun r => ly_rs (kd2 r) (sd2 r)) a t + (if a ≤ t then ly_rs (kd2 t) (sd2 t) else 0)) < _
  have h2 : ly_rs (kd2 t) (sd2 t) ≤ 4 := by
    unfold ly_rs
    by_cases e : kd2 t = 16 ∨ kd2 t = 17
    · rw [if_pos e]
      omega
    · rw [if_neg e]
      omega
  rw [if_pos hat]
  omega
/-- and when one has ended -/
theorem ly_mu_pop (har : a ≤ r) (h : 1 ≤ ly_rs (kd r) (sd r)) : ly_mu a B r kd sd < ly_mu a B (r + 1) kd sd := by
  unfold ly_mu
  show _ < 10 * (2000 - B) + (ly_sum (fun r => ly_rs (kd r) (sd r)) a r + (if a ≤ r then ly_rs (kd r) (sd r) else 0))
  rw [if_pos har]
  omega
end LayBegin
