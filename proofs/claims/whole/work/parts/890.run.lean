/-! lay: turns, one after another -/
/-- k turns of the class and kr steps of the reference's loop lead from (c, m) to (c1, m1) -/
def ly_sts (k kr : Nat) (c m c1 m1 : um_S) : Prop :=
  (∀ (fuel v : Nat) (b : um_S) (Q : um_S → Prop), v + k ≤ 1000000 → wp_La_takeTurns_2 Q fuel (nI (v + k)) (um_J c1 b) → wp_La_takeTurns_2 Q (fuel + k) (nI v) (um_J c b)) ∧
  ∀ (fuel : Nat) (b : um_S) (Q : um_S → Prop) (K2 : Int32 → um_S → Prop) (v1 v2 v3 : Int32), wp_Mo_laysAll_67 Q K2 fuel v1 v2 v3 (um_J b m1) → wp_Mo_laysAll_67 Q K2 (fuel + kr) v1 v2 v3 (um_J b m)
/-- what the turns come to until the pile is down to a entries -/
def ly_end (N a v0 n B t I dc : Nat) (D dn tn kd sd : Nat → Nat) (c m : um_S) : Prop :=
  ∃ c1 m1 k, ly_sts k k c m c1 m1 ∧ ly_kq a c m c1 m1 ∧ k ≤ ly_mu a B t kd sd + 1 ∧
    ((∃ n1 B1 I1 dc1 D1 dn1 tn1 nd1 kd1 sd1 bd1, ly_inv N a n1 B1 a I1 D1 nd1 kd1 sd1 bd1 c1 m1 ∧ ly_dl N v0 dc1 I1 dn1 tn1 c1 m1 ∧ n ≤ n1 ∧ k + 10 * (2000 - B1) ≤ ly_mu a B t kd sd ∧ ly_gx I I1 dc dc1 dn1 m m1 ∧ dc ≤ dc1 ∧ (∀ i, i < dc → dn1 i = dn i ∧ tn1 i = tn i) ∧ a + dc1 + B ≤ B1 + t + dc ∧ ∀ k, k < n + 1 → D1 k = D k) ∨ ly_fail c1 m1)
section LayRun
variable {N a n B r I v0 dc t : Nat} {D nd kd sd bd dn tn : Nat → Nat} {c m c1 m1 c2 m2 : um_S} {k kr k2 kr2 : Nat}
theorem ly_sts.rf : ly_sts 0 0 c m c m := ⟨fun _ _ _ _ _ h => h, fun _ _ _ _ _ _ _ h => h⟩
theorem ly_sts.trans (h : ly_sts k kr c m c1 m1) (g : ly_sts k2 kr2 c1 m1 c2 m2) : ly_sts (k + k2) (kr + kr2) c m c2 m2 := by
  refine ⟨fun fuel v b Q hv hq => ?_, fun fuel b Q K2 v1 v2 v3 hq => ?_⟩
  · have := h.1 (fuel + k2) v b Q (by omega) (g.1 fuel (v + k) b Q (by omega) (by rw [Nat.add_assoc]; exact hq))
    rwa [show fuel + (k + k2) = fuel + k2 + k by omega]
  · have := h.2 (fuel + kr2) b Q K2 v1 v2 v3 (g.2 fuel b Q K2 v1 v2 v3 hq)
    rwa [show fuel + (kr + kr2) = fuel + kr2 + kr by omega]
theorem ly_sts1 (h : ly_st c m c1 m1) (h35 : m 38 35 = 0) (h36 : m 38 36 = 0) (h37 : m 38 37 = nI (r + 1)) (hr : r < 2002) : ly_sts 1 1 c m c1 m1 := by
  refine ⟨fun fuel v b Q hv hq => h.1 fuel v b Q (by omega) hq, fun fuel b Q K2 v1 v2 v3 hq => ?_⟩
  unfold wp_Mo_laysAll_67 wp_Mo_laysAll_100
  rw [um_J_m (q := 38) (by decide), h35, h36, h37]
  exact um_yes' rfl (um_yes' rfl (um_yes (nI_lt (a := 0) (b := r + 1) (by omega) (by omega)) (um_no (nI_nle (by omega) (by omega)) (h.2 b _ hq))))
/-- one turn, but for a TRY's last one -/
theorem ly_step (h : ly_inv N a n B (r + 1) I D nd kd sd bd c m) (har : a ≤ r) (hno : ¬ (kd r = 18 ∧ sd r = 2)) : ly_to N a n B (r + 1) I D kd sd c m := by
  obtain ⟨e1, e2, e3, -⟩ := ly_inv_ent h har
  by_cases w1 : kd r ≤ 1
  · exact ly_step_leaf h har w1
  by_cases w7 : kd r ≤ 7
  · exact ly_step_bin h har (by omega) w7
  by_cases w8 : kd r = 8
  · exact ly_step_8 h har w8
  by_cases w9 : kd r = 9
  · exact ly_step_9 h har w9
  by_cases w10 : kd r = 10
  · exact ly_step_10 h har w10
  by_cases w11 : kd r = 11
  · exact ly_step_11 h har w11
  by_cases w12 : kd r = 12
  · obtain ⟨ab, fi, -, -, -, -, ⟨-, -, -, -, f5⟩, -⟩ := ly_topS h har (by rw [w12]; decide)
    have hs : sd r ≤ 3 := by
      rcases f5 with z | ⟨z, -⟩ | ⟨z, -⟩ | ⟨-, z, -⟩ | ⟨-, z, -⟩ <;> omega
    by_cases s0 : sd r = 0
    · exact ly_step_12a h har w12 s0
    by_cases s1 : sd r = 1
    · exact ly_step_12b h har w12 s1
    by_cases s2 : sd r = 2
    · exact ly_step_12c h har w12 s2
    · exact ly_step_12d h har w12 (by omega)
  by_cases w13 : kd r = 13
  · by_cases s0 : sd r = 0
    · exact ly_step_13a h har w13 s0
    obtain ⟨ab, fi, j, p, -, -, -, -, -, -, hs, -⟩ := ly_topW h har w13 s0
    rcases hs with hs | hs
    · exact ly_step_13b h har w13 hs
    · exact ly_step_13c h har w13 hs
  by_cases w14 : kd r = 14
  · exact ly_step_14 h har w14
  by_cases w15 : kd r = 15
  · exact ly_step_15 h har w15
  by_cases w16 : kd r = 16
  · exact ly_step_16 h har w16
  by_cases w17 : kd r = 17
  · exact ly_step_17 h har w17
  have w18 : kd r = 18 := by omega
  by_cases s0 : sd r = 0
  · exact ly_step_18a h har w18 s0
  obtain ⟨ab, fi, j, -, -, -, -, -, -, hs, -⟩ := ly_topT h har w18 s0
  rcases hs with hs | hs
  · exact ly_step_18b h har w18 hs
  · exact absurd ⟨w18, hs⟩ hno
theorem ly_run : ∀ (M n B t I dc : Nat) (D dn tn nd kd sd bd : Nat → Nat) (c m : um_S), ly_mu a B t kd sd = M → a ≤ t → ly_inv N a n B t I D nd kd sd bd c m → ly_dl N v0 dc I dn tn c m → v0 + dc + t ≤ B + a → ly_end N a v0 n B t I dc D dn tn kd sd c m := by
  intro M
  induction M using Nat.strongRecOn with
  | ind M ih =>
    intro n B t I dc D dn tn nd kd sd bd c m hM hat h hdl hb
    by_cases ht : t = a
    · subst ht
      refine ⟨c, m, 0, ly_sts.rf, ly_kq.rf, Nat.zero_le _, Or.inl ⟨n, B, I, dc, D, dn, tn, nd, kd, sd, bd, h, hdl, Nat.le_refl _, ?_, ly_gx_of ⟨Nat.le_refl _, fun _ _ => ⟨rfl, rfl, fun _ => rfl⟩, fun j nd a1 _ _ _ a5 => ⟨a1, a5⟩⟩, Nat.le_refl _, fun _ _ => ⟨rfl, rfl⟩, by omega, fun _ _ => rfl⟩⟩
      unfold ly_mu
      omega
    · obtain ⟨r, rfl⟩ : ∃ r, t = r + 1 := ⟨t - 1, by omega⟩
      have har : a ≤ r := by omega
      obtain ⟨hr, hN⟩ := ly_bound h
      obtain ⟨⟨⟨s1, s2, s3⟩, -⟩, ⟨t1, t2, t3, t4⟩, -⟩ := id h
      by_cases h18 : kd r = 18 ∧ sd r = 2
      · obtain ⟨c1, m1, j, q1, q2, q3, q4, q5, q6⟩ := ly_step_18c h har h18.1 h18.2 hdl hb
        have st := ly_sts1 q1 s2 s3 t2 (by omega)
        obtain ⟨c2, m2, k, x1, x2, x3, x4⟩ := ih (ly_mu a B r kd sd) (by omega) n B r I (dc + 1) D _ _ nd kd sd bd c1 m1 rfl har q3 q5 (by omega)
        have e39 : m1 39 = m 39 := q2.2.2.2.2.2.1 39 (by decide)
        refine ⟨c2, m2, 1 + k, st.trans x1, q2.trans x2, by omega, ?_⟩
        rcases x4 with ⟨n1, B1, I1, dc1, D1, dn1, tn1, nd1, kd1, sd1, bd1, y1, y2, y3, y4, y5, y6, y7, y8, y9⟩ | y
        · refine Or.inl ⟨n1, B1, I1, dc1, D1, dn1, tn1, nd1, kd1, sd1, bd1, y1, y2, y3, by omega, q6.trans y5 e39 (fun i hi => (y7 i hi).1) ⟨by omega, y6⟩, by omega, fun i hi => ?_, by omega, y9⟩
          obtain ⟨z1, z2⟩ := y7 i (by omega)
          rw [z1, z2, ly_g_ne (by omega), ly_g_ne (by omega)]
          exact ⟨rfl, rfl⟩
        · exact Or.inr y
      · obtain ⟨c1, m1, q1, q2, q3⟩ := ly_step h har h18
        have st := ly_sts1 q1 s2 s3 t2 (by omega)
        have kq := ly_kq_of q2
        have e39 : m1 39 = m 39 := kq.2.2.2.2.2.1 39 (by decide)
        rcases q3 with ⟨n1, B1, t1', I1, D1, nd1, kd1, sd1, bd1, p1, p2, p3, p4, p5, p6⟩ | q3
        · obtain ⟨c2, m2, k, x1, x2, x3, x4⟩ := ih (ly_mu a B1 t1' kd1 sd1) (by omega) n1 B1 t1' I1 dc D1 dn tn nd1 kd1 sd1 bd1 c1 m1 rfl p5.2 p1 (ly_dl_kp hdl q2 p4) (by omega)
          refine ⟨c2, m2, 1 + k, st.trans x1, kq.trans x2, by omega, ?_⟩
          rcases x4 with ⟨n2, B2, I2, dc2, D2, dn2, tn2, nd2, kd2, sd2, bd2, y1, y2, y3, y4, y5, y6, y7, y8, y9⟩ | y
          · refine Or.inl ⟨n2, B2, I2, dc2, D2, dn2, tn2, nd2, kd2, sd2, bd2, y1, y2, by omega, by omega, (ly_gx_of (dc := dc) (dn := dn) p4).trans y5 e39 (fun i hi => (y7 i hi).1) ⟨Nat.le_refl _, y6⟩, y6, y7, by omega, fun i hi => ?_⟩
            rw [y9 i (by omega), p6 i hi]
          · exact Or.inr y
        · exact ⟨c1, m1, 1, st, kq, by omega, Or.inr q3⟩
end LayRun
