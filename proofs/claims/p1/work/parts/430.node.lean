/-! node, catchBehind, body: the calls -/
theorem um_G_tree {c m c2 m2 : um_S} (hG : um_G c m) (hT : ∃ N, um_tree N c2 m2) (ec : ∀ q, q ≠ 1 → q ≠ 8 → q ≠ 9 → q ≠ 10 → c2 q = c q) (em : ∀ q, 46 ≤ q → m2 q = m q) (eo : ∀ k, ¬ k = 0 → ¬ k = 1 → m2 38 k = m 38 k) : um_G c2 m2 := by
  obtain ⟨-, h2, h3⟩ := hG
  refine ⟨hT, ?_, ?_⟩
  · rcases h2 with ⟨a1, a2, a3⟩ | ⟨n, r, D, hC⟩
    · exact Or.inl ⟨by rw [eo _ (by omega) (by omega)]; exact a1, by rw [ec _ (by omega) (by omega) (by omega) (by omega)]; exact a2, by rw [ec _ (by omega) (by omega) (by omega) (by omega)]; exact a3⟩
    · exact Or.inr ⟨n, r, D, um_code_of hC hT (ec _ (by omega) (by omega) (by omega) (by omega)) (ec _ (by omega) (by omega) (by omega) (by omega)) (ec _ (by omega) (by omega) (by omega) (by omega)) (ec _ (by omega) (by omega) (by omega) (by omega)) (ec _ (by omega) (by omega) (by omega) (by omega)) (eo _ (by omega) (by omega)) (eo _ (by omega) (by omega)) (eo _ (by omega) (by omega)) (eo _ (by omega) (by omega)) (eo _ (by omega) (by omega)) (em _ (by omega)) (em _ (by omega)) (em _ (by omega)) (em _ (by omega)) (em _ (by omega)) (em _ (by omega)) (em _ (by omega)) (em _ (by omega))⟩
  · have e4 := ec 4 (by omega) (by omega) (by omega) (by omega)
    have e17 := ec 17 (by omega) (by omega) (by omega) (by omega)
    have e18 := ec 18 (by omega) (by omega) (by omega) (by omega)
    have e19 := ec 19 (by omega) (by omega) (by omega) (by omega)
    have e22 := ec 22 (by omega) (by omega) (by omega) (by omega)
    have g1 := em 70 (by omega)
    have g2 := em 71 (by omega)
    have g3 := em 75 (by omega)
    have k46 := eo 46 (by omega) (by omega)
    have k47 := eo 47 (by omega) (by omega)
    have k48 := eo 48 (by omega) (by omega)
    have k49 := eo 49 (by omega) (by omega)
    have k51 := eo 51 (by omega) (by omega)
    have k52 := eo 52 (by omega) (by omega)
    unfold um_R um_seen at *
    simp only [e4, e17, e18, e19, e22, g1, g2, g3, k46, k47, k48, k49, k51, k52]
    exact h3
theorem um_G_add {c m : um_S} {N w : Nat} {a1 a2 a3 a4 a5 : Int32} (hG : um_G c m) (hT : um_tree N c m) (hN : N < 150) (he : (w = 20 → m 44 N = a5) ∧ (¬ w = 20 → a5 = -1)) (hw : w ≤ 20) (hn : um_node (um_addM m N (nI w) a1 a2 a3 a4) N) : um_G (um_addC c N (nI w) a1 a2 a3 a4 a5) (um_addM m N (nI w) a1 a2 a3 a4) := by
  refine um_G_tree hG ⟨N + 1, um_tree_add hT hN he hw hn⟩ (fun q h1 h2 h3 h4 => ?_) (fun q hq => ?_) (fun k h0 h1 => ?_)
  · unfold um_addC
    rw [um_up_q h1, um_up_q h3, um_up_q h3, um_up_q h3, um_up_q h3, um_up_q h3, um_up_q h2]
  · unfold um_addM
    rw [um_up_q (by omega), um_up_q (by omega), um_up_q (by omega), um_up_q (by omega), um_up_q (by omega), um_up_q (by omega)]
  · unfold um_addM
    rw [um_up_ne (by omega), um_up_ne (by omega), um_up_ne (by omega), um_up_ne (by omega), um_up_ne (by omega), um_up_ne (by omega)]
theorem p_add_out {c b m : um_S} {N : Nat} {a0 a1 a2 a3 a4 a5 : Int32} {Q : Int32 → um_S → Prop} (hT : um_tree N c m) (h : ¬ N < 150 ∨ (∀ k : Nat, k ≤ 20 → ¬ a0 = nI k)) (hq : Q (-1) (um_J c b)) : wp_Tr_add a0 a1 a2 a3 a4 a5 (um_J c b) Q := by
  have hN := hT.1.1
  unfold wp_Tr_add
  rw [um_J_c (by decide), hT.2.1]
  refine ⟨fun _ => hq, fun z0 => ⟨fun _ => hq, fun z1 => ⟨fun z2 => ?_, fun _ => hq⟩⟩⟩
  rcases h with h | h
  · exact absurd z2 (nI_nlt (a := N) (b := 150) (by omega) (by omega))
  · obtain ⟨k, k1, k2⟩ := nI_of2 (x := a0) (M := 20) (n := 20) (by decide) z0 (Int32.not_lt.mp z1)
    exact absurd k2 (h k k1)
/-- a refused node changes nothing that is seen -/
theorem t_refuse {c m : um_S} {P R : um_S → (Int32 → um_S → Prop) → Prop} (hG : um_G c m) (hc : ∀ b Q, Q (-1) (um_J c b) → P (um_J c b) Q) (hm : ∀ b Q, Q (-1) (um_J b (um_up m 38 0 0)) → R (um_J b m) Q) : um_alike Int32 P R c m :=
  ⟨-1, c, um_up m 38 0 0, hc, hm, um_G_thrown hG⟩
theorem t_node {c m : um_S} (hG : um_G c m) (a0 a1 a2 a3 a4 : Int32) : um_alike Int32 (wp_UM_node a0 a1 a2 a3 a4) (wp_Mo_node a0 a1 a2 a3 a4) c m := by
  obtain ⟨N, hT⟩ := hG.1
  have hN := hT.1.1
  have hG0 := um_G_thrown (v := 0) hG
  have hT0 : um_tree N c (um_up m 38 0 0) := um_tree_um hT (by omega)
  have hmN : ∀ b, um_J b (um_up m 38 0 0) 38 1 = nI N := fun b => by rw [um_J_m (by decide)]; exact hT0.2.2.1
  have goM : ∀ b Q, (N < 150 → wp_Mo_can a0 a1 a2 a3 a4 (um_J b (um_up m 38 0 0)) (fun t3 σ2 => (t3 = true → wp_Mo_adds a0 a1 a2 a3 a4 σ2 (fun x5 σ4 => Q x5 σ4)) ∧ (t3 = false → Q (-1) σ2))) → (¬ N < 150 → Q (-1) (um_J b (um_up m 38 0 0))) → wp_Mo_node a0 a1 a2 a3 a4 (um_J b m) Q := by
    intro b Q h1 h2
    unfold wp_Mo_node
    refine um_thr0 ?_
    rw [hmN]
    by_cases h : N < 150
    · exact um_no (fun z => by
        have := (nI_eq (a := N) (b := 150) (by omega) (by decide)).mp z
        omega) (h1 h)
    · have : N = 150 := by omega
      subst this
      exact um_yes rfl (h2 h)
  by_cases hlt : N < 150
  · by_cases hk : ∃ k : Nat, k ≤ 20 ∧ a0 = nI k
    · obtain ⟨w, hw, rfl⟩ := hk
      rcases (show w = 0 ∨ w = 1 ∨ w = 2 ∨ w = 3 ∨ w = 4 ∨ w = 5 ∨ w = 6 ∨ w = 7 ∨ w = 8 ∨ w = 9 ∨ w = 10 ∨ w = 11 ∨ w = 12 ∨ w = 13 ∨ w = 14 ∨ w = 15 ∨ w = 16 ∨ w = 17 ∨ w = 18 ∨ w = 19 ∨ w = 20 by omega) with rfl | rfl | rfl | rfl | rfl | rfl | rfl | rfl | rfl | rfl | rfl | rfl | rfl | rfl | rfl | rfl | rfl | rfl | rfl | rfl | rfl
      · by_cases hf : um_fit (um_up m 38 0 0) N 0 a1 ∧ um_fit (um_up m 38 0 0) N 0 a2 ∧ um_fit (um_up m 38 0 0) N 0 a3 ∧ um_fit (um_up m 38 0 0) N 0 a4
        · refine ⟨nI N, um_addC c N (nI 0) a1 a2 a3 a4 (-1), um_addM (um_up m 38 0 0) N (nI 0) a1 a2 a3 a4, fun b Q hq => ?_, fun b Q hq => ?_, um_G_add hG0 hT0 hlt ⟨fun z => absurd z (by decide), fun _ => rfl⟩ (by decide) (um_new_0 )⟩
          · unfold wp_UM_node
            refine p_add (w := 0) (s0 := 0) (s1 := 0) (s2 := 0) (s3 := 0) (s4 := 0) hT0 hw hlt (by decide) (by decide) (by decide) (by decide) (by decide) (by decide) (fun _ _ _ _ _ => p_add115 hT.2.1 hlt hq) (fun h => absurd ⟨hf.1, hf.2.1, hf.2.2.1, hf.2.2.2, trivial⟩ h)
          · exact goM b Q (fun _ => p_can_0 hT0 (fun _ _ _ _ => ⟨fun _ => p_adds hT0.2.2.1 hlt hq, fun z => absurd z (by decide)⟩) (fun h => absurd hf h)) (fun h => absurd hlt h)
        · refine t_refuse hG (fun b Q hq => ?_) (fun b Q hq => ?_)
          · unfold wp_UM_node
            refine p_add (w := 0) (s0 := 0) (s1 := 0) (s2 := 0) (s3 := 0) (s4 := 0) hT0 hw hlt (by decide) (by decide) (by decide) (by decide) (by decide) (by decide) (fun g0 g1 g2 g3 _ => absurd ⟨g0, g1, g2, g3⟩ hf) (fun _ => hq)
          · exact goM b Q (fun _ => p_can_0 hT0 (fun g0 g1 g2 g3 => absurd ⟨g0, g1, g2, g3⟩ hf) (fun _ => ⟨fun z => absurd z (by decide), fun _ => hq⟩)) (fun h => absurd hlt h)
      · by_cases hf : um_fit (um_up m 38 0 0) N 1 a1 ∧ um_fit (um_up m 38 0 0) N 0 a2 ∧ um_fit (um_up m 38 0 0) N 0 a3 ∧ um_fit (um_up m 38 0 0) N 0 a4
        · refine ⟨nI N, um_addC c N (nI 1) a1 a2 a3 a4 (-1), um_addM (um_up m 38 0 0) N (nI 1) a1 a2 a3 a4, fun b Q hq => ?_, fun b Q hq => ?_, um_G_add hG0 hT0 hlt ⟨fun z => absurd z (by decide), fun _ => rfl⟩ (by decide) (um_new_1 (g0 := hf.1))⟩
          · unfold wp_UM_node
            refine p_add (w := 1) (s0 := 1) (s1 := 0) (s2 := 0) (s3 := 0) (s4 := 0) hT0 hw hlt (by decide) (by decide) (by decide) (by decide) (by decide) (by decide) (fun _ _ _ _ _ => p_add115 hT.2.1 hlt hq) (fun h => absurd ⟨hf.1, hf.2.1, hf.2.2.1, hf.2.2.2, trivial⟩ h)
          · exact goM b Q (fun _ => p_can_1 hT0 (fun _ _ _ _ => ⟨fun _ => p_adds hT0.2.2.1 hlt hq, fun z => absurd z (by decide)⟩) (fun h => absurd hf h)) (fun h => absurd hlt h)
        · refine t_refuse hG (fun b Q hq => ?_) (fun b Q hq => ?_)
          · unfold wp_UM_node
            refine p_add (w := 1) (s0 := 1) (s1 := 0) (s2 := 0) (s3 := 0) (s4 := 0) hT0 hw hlt (by decide) (by decide) (by decide) (by decide) (by decide) (by decide) (fun g0 g1 g2 g3 _ => absurd ⟨g0, g1, g2, g3⟩ hf) (fun _ => hq)
          · exact goM b Q (fun _ => p_can_1 hT0 (fun g0 g1 g2 g3 => absurd ⟨g0, g1, g2, g3⟩ hf) (fun _ => ⟨fun z => absurd z (by decide), fun _ => hq⟩)) (fun h => absurd hlt h)
      · by_cases hf : um_fit (um_up m 38 0 0) N 3 a1 ∧ um_fit (um_up m 38 0 0) N 3 a2 ∧ um_fit (um_up m 38 0 0) N 0 a3 ∧ um_fit (um_up m 38 0 0) N 0 a4
        · refine ⟨nI N, um_addC c N (nI 2) a1 a2 a3 a4 (-1), um_addM (um_up m 38 0 0) N (nI 2) a1 a2 a3 a4, fun b Q hq => ?_, fun b Q hq => ?_, um_G_add hG0 hT0 hlt ⟨fun z => absurd z (by decide), fun _ => rfl⟩ (by decide) (um_new_2 (g0 := hf.1) (g1 := hf.2.1))⟩
          · unfold wp_UM_node
            refine p_add (w := 2) (s0 := 3) (s1 := 3) (s2 := 0) (s3 := 0) (s4 := 0) hT0 hw hlt (by decide) (by decide) (by decide) (by decide) (by decide) (by decide) (fun _ _ _ _ _ => p_add115 hT.2.1 hlt hq) (fun h => absurd ⟨hf.1, hf.2.1, hf.2.2.1, hf.2.2.2, trivial⟩ h)
          · exact goM b Q (fun _ => p_can_2 hT0 (fun _ _ _ _ => ⟨fun _ => p_adds hT0.2.2.1 hlt hq, fun z => absurd z (by decide)⟩) (fun h => absurd hf h)) (fun h => absurd hlt h)
        · refine t_refuse hG (fun b Q hq => ?_) (fun b Q hq => ?_)
          · unfold wp_UM_node
            refine p_add (w := 2) (s0 := 3) (s1 := 3) (s2 := 0) (s3 := 0) (s4 := 0) hT0 hw hlt (by decide) (by decide) (by decide) (by decide) (by decide) (by decide) (fun g0 g1 g2 g3 _ => absurd ⟨g0, g1, g2, g3⟩ hf) (fun _ => hq)
          · exact goM b Q (fun _ => p_can_2 hT0 (fun g0 g1 g2 g3 => absurd ⟨g0, g1, g2, g3⟩ hf) (fun _ => ⟨fun z => absurd z (by decide), fun _ => hq⟩)) (fun h => absurd hlt h)
      · by_cases hf : um_fit (um_up m 38 0 0) N 3 a1 ∧ um_fit (um_up m 38 0 0) N 3 a2 ∧ um_fit (um_up m 38 0 0) N 0 a3 ∧ um_fit (um_up m 38 0 0) N 0 a4
        · refine ⟨nI N, um_addC c N (nI 3) a1 a2 a3 a4 (-1), um_addM (um_up m 38 0 0) N (nI 3) a1 a2 a3 a4, fun b Q hq => ?_, fun b Q hq => ?_, um_G_add hG0 hT0 hlt ⟨fun z => absurd z (by decide), fun _ => rfl⟩ (by decide) (um_new_3 (g0 := hf.1) (g1 := hf.2.1))⟩
          · unfold wp_UM_node
            refine p_add (w := 3) (s0 := 3) (s1 := 3) (s2 := 0) (s3 := 0) (s4 := 0) hT0 hw hlt (by decide) (by decide) (by decide) (by decide) (by decide) (by decide) (fun _ _ _ _ _ => p_add115 hT.2.1 hlt hq) (fun h => absurd ⟨hf.1, hf.2.1, hf.2.2.1, hf.2.2.2, trivial⟩ h)
          · exact goM b Q (fun _ => p_can_3 hT0 (fun _ _ _ _ => ⟨fun _ => p_adds hT0.2.2.1 hlt hq, fun z => absurd z (by decide)⟩) (fun h => absurd hf h)) (fun h => absurd hlt h)
        · refine t_refuse hG (fun b Q hq => ?_) (fun b Q hq => ?_)
          · unfold wp_UM_node
            refine p_add (w := 3) (s0 := 3) (s1 := 3) (s2 := 0) (s3 := 0) (s4 := 0) hT0 hw hlt (by decide) (by decide) (by decide) (by decide) (by decide) (by decide) (fun g0 g1 g2 g3 _ => absurd ⟨g0, g1, g2, g3⟩ hf) (fun _ => hq)
          · exact goM b Q (fun _ => p_can_3 hT0 (fun g0 g1 g2 g3 => absurd ⟨g0, g1, g2, g3⟩ hf) (fun _ => ⟨fun z => absurd z (by decide), fun _ => hq⟩)) (fun h => absurd hlt h)
      · by_cases hf : um_fit (um_up m 38 0 0) N 3 a1 ∧ um_fit (um_up m 38 0 0) N 3 a2 ∧ um_fit (um_up m 38 0 0) N 0 a3 ∧ um_fit (um_up m 38 0 0) N 0 a4
        · refine ⟨nI N, um_addC c N (nI 4) a1 a2 a3 a4 (-1), um_addM (um_up m 38 0 0) N (nI 4) a1 a2 a3 a4, fun b Q hq => ?_, fun b Q hq => ?_, um_G_add hG0 hT0 hlt ⟨fun z => absurd z (by decide), fun _ => rfl⟩ (by decide) (um_new_4 (g0 := hf.1) (g1 := hf.2.1))⟩
          · unfold wp_UM_node
            refine p_add (w := 4) (s0 := 3) (s1 := 3) (s2 := 0) (s3 := 0) (s4 := 0) hT0 hw hlt (by decide) (by decide) (by decide) (by decide) (by decide) (by decide) (fun _ _ _ _ _ => p_add115 hT.2.1 hlt hq) (fun h => absurd ⟨hf.1, hf.2.1, hf.2.2.1, hf.2.2.2, trivial⟩ h)
          · exact goM b Q (fun _ => p_can_4 hT0 (fun _ _ _ _ => ⟨fun _ => p_adds hT0.2.2.1 hlt hq, fun z => absurd z (by decide)⟩) (fun h => absurd hf h)) (fun h => absurd hlt h)
        · refine t_refuse hG (fun b Q hq => ?_) (fun b Q hq => ?_)
          · unfold wp_UM_node
            refine p_add (w := 4) (s0 := 3) (s1 := 3) (s2 := 0) (s3 := 0) (s4 := 0) hT0 hw hlt (by decide) (by decide) (by decide) (by decide) (by decide) (by decide) (fun g0 g1 g2 g3 _ => absurd ⟨g0, g1, g2, g3⟩ hf) (fun _ => hq)
          · exact goM b Q (fun _ => p_can_4 hT0 (fun g0 g1 g2 g3 => absurd ⟨g0, g1, g2, g3⟩ hf) (fun _ => ⟨fun z => absurd z (by decide), fun _ => hq⟩)) (fun h => absurd hlt h)
      · by_cases hf : um_fit (um_up m 38 0 0) N 3 a1 ∧ um_fit (um_up m 38 0 0) N 3 a2 ∧ um_fit (um_up m 38 0 0) N 0 a3 ∧ um_fit (um_up m 38 0 0) N 0 a4
        · refine ⟨nI N, um_addC c N (nI 5) a1 a2 a3 a4 (-1), um_addM (um_up m 38 0 0) N (nI 5) a1 a2 a3 a4, fun b Q hq => ?_, fun b Q hq => ?_, um_G_add hG0 hT0 hlt ⟨fun z => absurd z (by decide), fun _ => rfl⟩ (by decide) (um_new_5 (g0 := hf.1) (g1 := hf.2.1))⟩
          · unfold wp_UM_node
            refine p_add (w := 5) (s0 := 3) (s1 := 3) (s2 := 0) (s3 := 0) (s4 := 0) hT0 hw hlt (by decide) (by decide) (by decide) (by decide) (by decide) (by decide) (fun _ _ _ _ _ => p_add115 hT.2.1 hlt hq) (fun h => absurd ⟨hf.1, hf.2.1, hf.2.2.1, hf.2.2.2, trivial⟩ h)
          · exact goM b Q (fun _ => p_can_5 hT0 (fun _ _ _ _ => ⟨fun _ => p_adds hT0.2.2.1 hlt hq, fun z => absurd z (by decide)⟩) (fun h => absurd hf h)) (fun h => absurd hlt h)
        · refine t_refuse hG (fun b Q hq => ?_) (fun b Q hq => ?_)
          · unfold wp_UM_node
            refine p_add (w := 5) (s0 := 3) (s1 := 3) (s2 := 0) (s3 := 0) (s4 := 0) hT0 hw hlt (by decide) (by decide) (by decide) (by decide) (by decide) (by decide) (fun g0 g1 g2 g3 _ => absurd ⟨g0, g1, g2, g3⟩ hf) (fun _ => hq)
          · exact goM b Q (fun _ => p_can_5 hT0 (fun g0 g1 g2 g3 => absurd ⟨g0, g1, g2, g3⟩ hf) (fun _ => ⟨fun z => absurd z (by decide), fun _ => hq⟩)) (fun h => absurd hlt h)
      · by_cases hf : um_fit (um_up m 38 0 0) N 3 a1 ∧ um_fit (um_up m 38 0 0) N 3 a2 ∧ um_fit (um_up m 38 0 0) N 0 a3 ∧ um_fit (um_up m 38 0 0) N 0 a4
        · refine ⟨nI N, um_addC c N (nI 6) a1 a2 a3 a4 (-1), um_addM (um_up m 38 0 0) N (nI 6) a1 a2 a3 a4, fun b Q hq => ?_, fun b Q hq => ?_, um_G_add hG0 hT0 hlt ⟨fun z => absurd z (by decide), fun _ => rfl⟩ (by decide) (um_new_6 (g0 := hf.1) (g1 := hf.2.1))⟩
          · unfold wp_UM_node
            refine p_add (w := 6) (s0 := 3) (s1 := 3) (s2 := 0) (s3 := 0) (s4 := 0) hT0 hw hlt (by decide) (by decide) (by decide) (by decide) (by decide) (by decide) (fun _ _ _ _ _ => p_add115 hT.2.1 hlt hq) (fun h => absurd ⟨hf.1, hf.2.1, hf.2.2.1, hf.2.2.2, trivial⟩ h)
          · exact goM b Q (fun _ => p_can_6 hT0 (fun _ _ _ _ => ⟨fun _ => p_adds hT0.2.2.1 hlt hq, fun z => absurd z (by decide)⟩) (fun h => absurd hf h)) (fun h => absurd hlt h)
        · refine t_refuse hG (fun b Q hq => ?_) (fun b Q hq => ?_)
          · unfold wp_UM_node
            refine p_add (w := 6) (s0 := 3) (s1 := 3) (s2 := 0) (s3 := 0) (s4 := 0) hT0 hw hlt (by decide) (by decide) (by decide) (by decide) (by decide) (by decide) (fun g0 g1 g2 g3 _ => absurd ⟨g0, g1, g2, g3⟩ hf) (fun _ => hq)
          · exact goM b Q (fun _ => p_can_6 hT0 (fun g0 g1 g2 g3 => absurd ⟨g0, g1, g2, g3⟩ hf) (fun _ => ⟨fun z => absurd z (by decide), fun _ => hq⟩)) (fun h => absurd hlt h)
      · by_cases hf : um_fit (um_up m 38 0 0) N 3 a1 ∧ um_fit (um_up m 38 0 0) N 3 a2 ∧ um_fit (um_up m 38 0 0) N 0 a3 ∧ um_fit (um_up m 38 0 0) N 0 a4
        · refine ⟨nI N, um_addC c N (nI 7) a1 a2 a3 a4 (-1), um_addM (um_up m 38 0 0) N (nI 7) a1 a2 a3 a4, fun b Q hq => ?_, fun b Q hq => ?_, um_G_add hG0 hT0 hlt ⟨fun z => absurd z (by decide), fun _ => rfl⟩ (by decide) (um_new_7 (g0 := hf.1) (g1 := hf.2.1))⟩
          · unfold wp_UM_node
            refine p_add (w := 7) (s0 := 3) (s1 := 3) (s2 := 0) (s3 := 0) (s4 := 0) hT0 hw hlt (by decide) (by decide) (by decide) (by decide) (by decide) (by decide) (fun _ _ _ _ _ => p_add115 hT.2.1 hlt hq) (fun h => absurd ⟨hf.1, hf.2.1, hf.2.2.1, hf.2.2.2, trivial⟩ h)
          · exact goM b Q (fun _ => p_can_7 hT0 (fun _ _ _ _ => ⟨fun _ => p_adds hT0.2.2.1 hlt hq, fun z => absurd z (by decide)⟩) (fun h => absurd hf h)) (fun h => absurd hlt h)
        · refine t_refuse hG (fun b Q hq => ?_) (fun b Q hq => ?_)
          · unfold wp_UM_node
            refine p_add (w := 7) (s0 := 3) (s1 := 3) (s2 := 0) (s3 := 0) (s4 := 0) hT0 hw hlt (by decide) (by decide) (by decide) (by decide) (by decide) (by decide) (fun g0 g1 g2 g3 _ => absurd ⟨g0, g1, g2, g3⟩ hf) (fun _ => hq)
          · exact goM b Q (fun _ => p_can_7 hT0 (fun g0 g1 g2 g3 => absurd ⟨g0, g1, g2, g3⟩ hf) (fun _ => ⟨fun z => absurd z (by decide), fun _ => hq⟩)) (fun h => absurd hlt h)
      · by_cases hf : um_fit (um_up m 38 0 0) N 0 a1 ∧ um_fit (um_up m 38 0 0) N 0 a2 ∧ um_fit (um_up m 38 0 0) N 0 a3 ∧ um_fit (um_up m 38 0 0) N 0 a4
        · refine ⟨nI N, um_addC c N (nI 8) a1 a2 a3 a4 (-1), um_addM (um_up m 38 0 0) N (nI 8) a1 a2 a3 a4, fun b Q hq => ?_, fun b Q hq => ?_, um_G_add hG0 hT0 hlt ⟨fun z => absurd z (by decide), fun _ => rfl⟩ (by decide) (um_new_8 )⟩
          · unfold wp_UM_node
            refine p_add (w := 8) (s0 := 0) (s1 := 0) (s2 := 0) (s3 := 0) (s4 := 0) hT0 hw hlt (by decide) (by decide) (by decide) (by decide) (by decide) (by decide) (fun _ _ _ _ _ => p_add115 hT.2.1 hlt hq) (fun h => absurd ⟨hf.1, hf.2.1, hf.2.2.1, hf.2.2.2, trivial⟩ h)
          · exact goM b Q (fun _ => p_can_8 hT0 (fun _ _ _ _ => ⟨fun _ => p_adds hT0.2.2.1 hlt hq, fun z => absurd z (by decide)⟩) (fun h => absurd hf h)) (fun h => absurd hlt h)
        · refine t_refuse hG (fun b Q hq => ?_) (fun b Q hq => ?_)
          · unfold wp_UM_node
            refine p_add (w := 8) (s0 := 0) (s1 := 0) (s2 := 0) (s3 := 0) (s4 := 0) hT0 hw hlt (by decide) (by decide) (by decide) (by decide) (by decide) (by decide) (fun g0 g1 g2 g3 _ => absurd ⟨g0, g1, g2, g3⟩ hf) (fun _ => hq)
          · exact goM b Q (fun _ => p_can_8 hT0 (fun g0 g1 g2 g3 => absurd ⟨g0, g1, g2, g3⟩ hf) (fun _ => ⟨fun z => absurd z (by decide), fun _ => hq⟩)) (fun h => absurd hlt h)
      · by_cases hf : um_fit (um_up m 38 0 0) N 1 a1 ∧ um_fit (um_up m 38 0 0) N 3 a2 ∧ um_fit (um_up m 38 0 0) N 0 a3 ∧ um_fit (um_up m 38 0 0) N 0 a4
        · refine ⟨nI N, um_addC c N (nI 9) a1 a2 a3 a4 (-1), um_addM (um_up m 38 0 0) N (nI 9) a1 a2 a3 a4, fun b Q hq => ?_, fun b Q hq => ?_, um_G_add hG0 hT0 hlt ⟨fun z => absurd z (by decide), fun _ => rfl⟩ (by decide) (um_new_9 (g0 := hf.1) (g1 := hf.2.1))⟩
          · unfold wp_UM_node
            refine p_add (w := 9) (s0 := 1) (s1 := 3) (s2 := 0) (s3 := 0) (s4 := 0) hT0 hw hlt (by decide) (by decide) (by decide) (by decide) (by decide) (by decide) (fun _ _ _ _ _ => p_add115 hT.2.1 hlt hq) (fun h => absurd ⟨hf.1, hf.2.1, hf.2.2.1, hf.2.2.2, trivial⟩ h)
          · exact goM b Q (fun _ => p_can_9 hT0 (fun _ _ _ _ => ⟨fun _ => p_adds hT0.2.2.1 hlt hq, fun z => absurd z (by decide)⟩) (fun h => absurd hf h)) (fun h => absurd hlt h)
        · refine t_refuse hG (fun b Q hq => ?_) (fun b Q hq => ?_)
          · unfold wp_UM_node
            refine p_add (w := 9) (s0 := 1) (s1 := 3) (s2 := 0) (s3 := 0) (s4 := 0) hT0 hw hlt (by decide) (by decide) (by decide) (by decide) (by decide) (by decide) (fun g0 g1 g2 g3 _ => absurd ⟨g0, g1, g2, g3⟩ hf) (fun _ => hq)
          · exact goM b Q (fun _ => p_can_9 hT0 (fun g0 g1 g2 g3 => absurd ⟨g0, g1, g2, g3⟩ hf) (fun _ => ⟨fun z => absurd z (by decide), fun _ => hq⟩)) (fun h => absurd hlt h)
      · by_cases hf : um_fit (um_up m 38 0 0) N 3 a1 ∧ um_fit (um_up m 38 0 0) N 0 a2 ∧ um_fit (um_up m 38 0 0) N 0 a3 ∧ um_fit (um_up m 38 0 0) N 0 a4
        · refine ⟨nI N, um_addC c N (nI 10) a1 a2 a3 a4 (-1), um_addM (um_up m 38 0 0) N (nI 10) a1 a2 a3 a4, fun b Q hq => ?_, fun b Q hq => ?_, um_G_add hG0 hT0 hlt ⟨fun z => absurd z (by decide), fun _ => rfl⟩ (by decide) (um_new_10 (g0 := hf.1))⟩
          · unfold wp_UM_node
            refine p_add (w := 10) (s0 := 3) (s1 := 0) (s2 := 0) (s3 := 0) (s4 := 0) hT0 hw hlt (by decide) (by decide) (by decide) (by decide) (by decide) (by decide) (fun _ _ _ _ _ => p_add115 hT.2.1 hlt hq) (fun h => absurd ⟨hf.1, hf.2.1, hf.2.2.1, hf.2.2.2, trivial⟩ h)
          · exact goM b Q (fun _ => p_can_10 hT0 (fun _ _ _ _ => ⟨fun _ => p_adds hT0.2.2.1 hlt hq, fun z => absurd z (by decide)⟩) (fun h => absurd hf h)) (fun h => absurd hlt h)
        · refine t_refuse hG (fun b Q hq => ?_) (fun b Q hq => ?_)
          · unfold wp_UM_node
            refine p_add (w := 10) (s0 := 3) (s1 := 0) (s2 := 0) (s3 := 0) (s4 := 0) hT0 hw hlt (by decide) (by decide) (by decide) (by decide) (by decide) (by decide) (fun g0 g1 g2 g3 _ => absurd ⟨g0, g1, g2, g3⟩ hf) (fun _ => hq)
          · exact goM b Q (fun _ => p_can_10 hT0 (fun g0 g1 g2 g3 => absurd ⟨g0, g1, g2, g3⟩ hf) (fun _ => ⟨fun z => absurd z (by decide), fun _ => hq⟩)) (fun h => absurd hlt h)
      · by_cases hf : um_fit (um_up m 38 0 0) N 4 a1 ∧ um_fit (um_up m 38 0 0) N 4 a2 ∧ um_fit (um_up m 38 0 0) N 0 a3 ∧ um_fit (um_up m 38 0 0) N 0 a4
        · refine ⟨nI N, um_addC c N (nI 11) a1 a2 a3 a4 (-1), um_addM (um_up m 38 0 0) N (nI 11) a1 a2 a3 a4, fun b Q hq => ?_, fun b Q hq => ?_, um_G_add hG0 hT0 hlt ⟨fun z => absurd z (by decide), fun _ => rfl⟩ (by decide) (um_new_11 (g0 := hf.1) (g1 := hf.2.1))⟩
          · unfold wp_UM_node
            refine p_add (w := 11) (s0 := 4) (s1 := 4) (s2 := 0) (s3 := 0) (s4 := 0) hT0 hw hlt (by decide) (by decide) (by decide) (by decide) (by decide) (by decide) (fun _ _ _ _ _ => p_add115 hT.2.1 hlt hq) (fun h => absurd ⟨hf.1, hf.2.1, hf.2.2.1, hf.2.2.2, trivial⟩ h)
          · exact goM b Q (fun _ => p_can_11 hT0 (fun _ _ _ _ => ⟨fun _ => p_adds hT0.2.2.1 hlt hq, fun z => absurd z (by decide)⟩) (fun h => absurd hf h)) (fun h => absurd hlt h)
        · refine t_refuse hG (fun b Q hq => ?_) (fun b Q hq => ?_)
          · unfold wp_UM_node
            refine p_add (w := 11) (s0 := 4) (s1 := 4) (s2 := 0) (s3 := 0) (s4 := 0) hT0 hw hlt (by decide) (by decide) (by decide) (by decide) (by decide) (by decide) (fun g0 g1 g2 g3 _ => absurd ⟨g0, g1, g2, g3⟩ hf) (fun _ => hq)
          · exact goM b Q (fun _ => p_can_11 hT0 (fun g0 g1 g2 g3 => absurd ⟨g0, g1, g2, g3⟩ hf) (fun _ => ⟨fun z => absurd z (by decide), fun _ => hq⟩)) (fun h => absurd hlt h)
      · by_cases hf : um_fit (um_up m 38 0 0) N 3 a1 ∧ um_fit (um_up m 38 0 0) N 4 a2 ∧ um_fit (um_up m 38 0 0) N 4 a3 ∧ um_fit (um_up m 38 0 0) N 0 a4
        · refine ⟨nI N, um_addC c N (nI 12) a1 a2 a3 a4 (-1), um_addM (um_up m 38 0 0) N (nI 12) a1 a2 a3 a4, fun b Q hq => ?_, fun b Q hq => ?_, um_G_add hG0 hT0 hlt ⟨fun z => absurd z (by decide), fun _ => rfl⟩ (by decide) (um_new_12 (g0 := hf.1) (g1 := hf.2.1) (g2 := hf.2.2.1))⟩
          · unfold wp_UM_node
            refine p_add (w := 12) (s0 := 3) (s1 := 4) (s2 := 4) (s3 := 0) (s4 := 0) hT0 hw hlt (by decide) (by decide) (by decide) (by decide) (by decide) (by decide) (fun _ _ _ _ _ => p_add115 hT.2.1 hlt hq) (fun h => absurd ⟨hf.1, hf.2.1, hf.2.2.1, hf.2.2.2, trivial⟩ h)
          · exact goM b Q (fun _ => p_can_12 hT0 (fun _ _ _ _ => ⟨fun _ => p_adds hT0.2.2.1 hlt hq, fun z => absurd z (by decide)⟩) (fun h => absurd hf h)) (fun h => absurd hlt h)
        · refine t_refuse hG (fun b Q hq => ?_) (fun b Q hq => ?_)
          · unfold wp_UM_node
            refine p_add (w := 12) (s0 := 3) (s1 := 4) (s2 := 4) (s3 := 0) (s4 := 0) hT0 hw hlt (by decide) (by decide) (by decide) (by decide) (by decide) (by decide) (fun g0 g1 g2 g3 _ => absurd ⟨g0, g1, g2, g3⟩ hf) (fun _ => hq)
          · exact goM b Q (fun _ => p_can_12 hT0 (fun g0 g1 g2 g3 => absurd ⟨g0, g1, g2, g3⟩ hf) (fun _ => ⟨fun z => absurd z (by decide), fun _ => hq⟩)) (fun h => absurd hlt h)
      · by_cases hf : um_fit (um_up m 38 0 0) N 3 a1 ∧ um_fit (um_up m 38 0 0) N 4 a2 ∧ um_fit (um_up m 38 0 0) N 0 a3 ∧ um_fit (um_up m 38 0 0) N 0 a4
        · refine ⟨nI N, um_addC c N (nI 13) a1 a2 a3 a4 (-1), um_addM (um_up m 38 0 0) N (nI 13) a1 a2 a3 a4, fun b Q hq => ?_, fun b Q hq => ?_, um_G_add hG0 hT0 hlt ⟨fun z => absurd z (by decide), fun _ => rfl⟩ (by decide) (um_new_13 (g0 := hf.1) (g1 := hf.2.1))⟩
          · unfold wp_UM_node
            refine p_add (w := 13) (s0 := 3) (s1 := 4) (s2 := 0) (s3 := 0) (s4 := 0) hT0 hw hlt (by decide) (by decide) (by decide) (by decide) (by decide) (by decide) (fun _ _ _ _ _ => p_add115 hT.2.1 hlt hq) (fun h => absurd ⟨hf.1, hf.2.1, hf.2.2.1, hf.2.2.2, trivial⟩ h)
          · exact goM b Q (fun _ => p_can_13 hT0 (fun _ _ _ _ => ⟨fun _ => p_adds hT0.2.2.1 hlt hq, fun z => absurd z (by decide)⟩) (fun h => absurd hf h)) (fun h => absurd hlt h)
        · refine t_refuse hG (fun b Q hq => ?_) (fun b Q hq => ?_)
          · unfold wp_UM_node
            refine p_add (w := 13) (s0 := 3) (s1 := 4) (s2 := 0) (s3 := 0) (s4 := 0) hT0 hw hlt (by decide) (by decide) (by decide) (by decide) (by decide) (by decide) (fun g0 g1 g2 g3 _ => absurd ⟨g0, g1, g2, g3⟩ hf) (fun _ => hq)
          · exact goM b Q (fun _ => p_can_13 hT0 (fun g0 g1 g2 g3 => absurd ⟨g0, g1, g2, g3⟩ hf) (fun _ => ⟨fun z => absurd z (by decide), fun _ => hq⟩)) (fun h => absurd hlt h)
      · by_cases hf : um_fit (um_up m 38 0 0) N 3 a1 ∧ um_fit (um_up m 38 0 0) N 0 a2 ∧ um_fit (um_up m 38 0 0) N 0 a3 ∧ um_fit (um_up m 38 0 0) N 0 a4
        · refine ⟨nI N, um_addC c N (nI 14) a1 a2 a3 a4 (-1), um_addM (um_up m 38 0 0) N (nI 14) a1 a2 a3 a4, fun b Q hq => ?_, fun b Q hq => ?_, um_G_add hG0 hT0 hlt ⟨fun z => absurd z (by decide), fun _ => rfl⟩ (by decide) (um_new_14 (g0 := hf.1))⟩
          · unfold wp_UM_node
            refine p_add (w := 14) (s0 := 3) (s1 := 0) (s2 := 0) (s3 := 0) (s4 := 0) hT0 hw hlt (by decide) (by decide) (by decide) (by decide) (by decide) (by decide) (fun _ _ _ _ _ => p_add115 hT.2.1 hlt hq) (fun h => absurd ⟨hf.1, hf.2.1, hf.2.2.1, hf.2.2.2, trivial⟩ h)
          · exact goM b Q (fun _ => p_can_14 hT0 (fun _ _ _ _ => ⟨fun _ => p_adds hT0.2.2.1 hlt hq, fun z => absurd z (by decide)⟩) (fun h => absurd hf h)) (fun h => absurd hlt h)
        · refine t_refuse hG (fun b Q hq => ?_) (fun b Q hq => ?_)
          · unfold wp_UM_node
            refine p_add (w := 14) (s0 := 3) (s1 := 0) (s2 := 0) (s3 := 0) (s4 := 0) hT0 hw hlt (by decide) (by decide) (by decide) (by decide) (by decide) (by decide) (fun g0 g1 g2 g3 _ => absurd ⟨g0, g1, g2, g3⟩ hf) (fun _ => hq)
          · exact goM b Q (fun _ => p_can_14 hT0 (fun g0 g1 g2 g3 => absurd ⟨g0, g1, g2, g3⟩ hf) (fun _ => ⟨fun z => absurd z (by decide), fun _ => hq⟩)) (fun h => absurd hlt h)
      · by_cases hf : um_fit (um_up m 38 0 0) N 2 a1 ∧ um_fit (um_up m 38 0 0) N 0 a2 ∧ um_fit (um_up m 38 0 0) N 0 a3 ∧ um_fit (um_up m 38 0 0) N 0 a4
        · refine ⟨nI N, um_addC c N (nI 15) a1 a2 a3 a4 (-1), um_addM (um_up m 38 0 0) N (nI 15) a1 a2 a3 a4, fun b Q hq => ?_, fun b Q hq => ?_, um_G_add hG0 hT0 hlt ⟨fun z => absurd z (by decide), fun _ => rfl⟩ (by decide) (um_new_15 (g0 := hf.1))⟩
          · unfold wp_UM_node
            refine p_add (w := 15) (s0 := 2) (s1 := 0) (s2 := 0) (s3 := 0) (s4 := 0) hT0 hw hlt (by decide) (by decide) (by decide) (by decide) (by decide) (by decide) (fun _ _ _ _ _ => p_add115 hT.2.1 hlt hq) (fun h => absurd ⟨hf.1, hf.2.1, hf.2.2.1, hf.2.2.2, trivial⟩ h)
          · exact goM b Q (fun _ => p_can_15 hT0 (fun _ _ _ _ => ⟨fun _ => p_adds hT0.2.2.1 hlt hq, fun z => absurd z (by decide)⟩) (fun h => absurd hf h)) (fun h => absurd hlt h)
        · refine t_refuse hG (fun b Q hq => ?_) (fun b Q hq => ?_)
          · unfold wp_UM_node
            refine p_add (w := 15) (s0 := 2) (s1 := 0) (s2 := 0) (s3 := 0) (s4 := 0) hT0 hw hlt (by decide) (by decide) (by decide) (by decide) (by decide) (by decide) (fun g0 g1 g2 g3 _ => absurd ⟨g0, g1, g2, g3⟩ hf) (fun _ => hq)
          · exact goM b Q (fun _ => p_can_15 hT0 (fun g0 g1 g2 g3 => absurd ⟨g0, g1, g2, g3⟩ hf) (fun _ => ⟨fun z => absurd z (by decide), fun _ => hq⟩)) (fun h => absurd hlt h)
      · by_cases hf : um_fit (um_up m 38 0 0) N 0 a1 ∧ um_fit (um_up m 38 0 0) N 0 a2 ∧ um_fit (um_up m 38 0 0) N 0 a3 ∧ um_fit (um_up m 38 0 0) N 0 a4
        · refine ⟨nI N, um_addC c N (nI 16) a1 a2 a3 a4 (-1), um_addM (um_up m 38 0 0) N (nI 16) a1 a2 a3 a4, fun b Q hq => ?_, fun b Q hq => ?_, um_G_add hG0 hT0 hlt ⟨fun z => absurd z (by decide), fun _ => rfl⟩ (by decide) (um_new_16 )⟩
          · unfold wp_UM_node
            refine p_add (w := 16) (s0 := 0) (s1 := 0) (s2 := 0) (s3 := 0) (s4 := 0) hT0 hw hlt (by decide) (by decide) (by decide) (by decide) (by decide) (by decide) (fun _ _ _ _ _ => p_add115 hT.2.1 hlt hq) (fun h => absurd ⟨hf.1, hf.2.1, hf.2.2.1, hf.2.2.2, trivial⟩ h)
          · exact goM b Q (fun _ => p_can_16 hT0 (fun _ _ _ _ => ⟨fun _ => p_adds hT0.2.2.1 hlt hq, fun z => absurd z (by decide)⟩) (fun h => absurd hf h)) (fun h => absurd hlt h)
        · refine t_refuse hG (fun b Q hq => ?_) (fun b Q hq => ?_)
          · unfold wp_UM_node
            refine p_add (w := 16) (s0 := 0) (s1 := 0) (s2 := 0) (s3 := 0) (s4 := 0) hT0 hw hlt (by decide) (by decide) (by decide) (by decide) (by decide) (by decide) (fun g0 g1 g2 g3 _ => absurd ⟨g0, g1, g2, g3⟩ hf) (fun _ => hq)
          · exact goM b Q (fun _ => p_can_16 hT0 (fun g0 g1 g2 g3 => absurd ⟨g0, g1, g2, g3⟩ hf) (fun _ => ⟨fun z => absurd z (by decide), fun _ => hq⟩)) (fun h => absurd hlt h)
      · by_cases hf : um_fit (um_up m 38 0 0) N 0 a1 ∧ um_fit (um_up m 38 0 0) N 0 a2 ∧ um_fit (um_up m 38 0 0) N 0 a3 ∧ um_fit (um_up m 38 0 0) N 0 a4
        · refine ⟨nI N, um_addC c N (nI 17) a1 a2 a3 a4 (-1), um_addM (um_up m 38 0 0) N (nI 17) a1 a2 a3 a4, fun b Q hq => ?_, fun b Q hq => ?_, um_G_add hG0 hT0 hlt ⟨fun z => absurd z (by decide), fun _ => rfl⟩ (by decide) (um_new_17 )⟩
          · unfold wp_UM_node
            refine p_add (w := 17) (s0 := 0) (s1 := 0) (s2 := 0) (s3 := 0) (s4 := 0) hT0 hw hlt (by decide) (by decide) (by decide) (by decide) (by decide) (by decide) (fun _ _ _ _ _ => p_add115 hT.2.1 hlt hq) (fun h => absurd ⟨hf.1, hf.2.1, hf.2.2.1, hf.2.2.2, trivial⟩ h)
          · exact goM b Q (fun _ => p_can_17 hT0 (fun _ _ _ _ => ⟨fun _ => p_adds hT0.2.2.1 hlt hq, fun z => absurd z (by decide)⟩) (fun h => absurd hf h)) (fun h => absurd hlt h)
        · refine t_refuse hG (fun b Q hq => ?_) (fun b Q hq => ?_)
          · unfold wp_UM_node
            refine p_add (w := 17) (s0 := 0) (s1 := 0) (s2 := 0) (s3 := 0) (s4 := 0) hT0 hw hlt (by decide) (by decide) (by decide) (by decide) (by decide) (by decide) (fun g0 g1 g2 g3 _ => absurd ⟨g0, g1, g2, g3⟩ hf) (fun _ => hq)
          · exact goM b Q (fun _ => p_can_17 hT0 (fun g0 g1 g2 g3 => absurd ⟨g0, g1, g2, g3⟩ hf) (fun _ => ⟨fun z => absurd z (by decide), fun _ => hq⟩)) (fun h => absurd hlt h)
      · by_cases hf : um_fit (um_up m 38 0 0) N 4 a1 ∧ um_fit (um_up m 38 0 0) N 7 a2 ∧ um_fit (um_up m 38 0 0) N 6 a3 ∧ um_fit (um_up m 38 0 0) N 0 a4
        · refine ⟨nI N, um_addC c N (nI 18) a1 a2 a3 a4 (-1), um_addM (um_up m 38 0 0) N (nI 18) a1 a2 a3 a4, fun b Q hq => ?_, fun b Q hq => ?_, um_G_add hG0 hT0 hlt ⟨fun z => absurd z (by decide), fun _ => rfl⟩ (by decide) (um_new_18 (g0 := hf.1) (g1 := hf.2.1) (g2 := hf.2.2.1))⟩
          · unfold wp_UM_node
            refine p_add (w := 18) (s0 := 4) (s1 := 7) (s2 := 6) (s3 := 0) (s4 := 0) hT0 hw hlt (by decide) (by decide) (by decide) (by decide) (by decide) (by decide) (fun _ _ _ _ _ => p_add115 hT.2.1 hlt hq) (fun h => absurd ⟨hf.1, hf.2.1, hf.2.2.1, hf.2.2.2, trivial⟩ h)
          · exact goM b Q (fun _ => p_can_18 hT0 (fun _ _ _ _ => ⟨fun _ => p_adds hT0.2.2.1 hlt hq, fun z => absurd z (by decide)⟩) (fun h => absurd hf h)) (fun h => absurd hlt h)
        · refine t_refuse hG (fun b Q hq => ?_) (fun b Q hq => ?_)
          · unfold wp_UM_node
            refine p_add (w := 18) (s0 := 4) (s1 := 7) (s2 := 6) (s3 := 0) (s4 := 0) hT0 hw hlt (by decide) (by decide) (by decide) (by decide) (by decide) (by decide) (fun g0 g1 g2 g3 _ => absurd ⟨g0, g1, g2, g3⟩ hf) (fun _ => hq)
          · exact goM b Q (fun _ => p_can_18 hT0 (fun g0 g1 g2 g3 => absurd ⟨g0, g1, g2, g3⟩ hf) (fun _ => ⟨fun z => absurd z (by decide), fun _ => hq⟩)) (fun h => absurd hlt h)
      · by_cases hf : um_fit (um_up m 38 0 0) N 0 a1 ∧ um_fit (um_up m 38 0 0) N 0 a2 ∧ um_fit (um_up m 38 0 0) N 1 a3 ∧ um_fit (um_up m 38 0 0) N 4 a4
        · refine ⟨nI N, um_addC c N (nI 19) a1 a2 a3 a4 (-1), um_addM (um_up m 38 0 0) N (nI 19) a1 a2 a3 a4, fun b Q hq => ?_, fun b Q hq => ?_, um_G_add hG0 hT0 hlt ⟨fun z => absurd z (by decide), fun _ => rfl⟩ (by decide) (um_new_19 (g2 := hf.2.2.1) (g3 := hf.2.2.2))⟩
          · unfold wp_UM_node
            refine p_add (w := 19) (s0 := 0) (s1 := 0) (s2 := 1) (s3 := 4) (s4 := 0) hT0 hw hlt (by decide) (by decide) (by decide) (by decide) (by decide) (by decide) (fun _ _ _ _ _ => p_add115 hT.2.1 hlt hq) (fun h => absurd ⟨hf.1, hf.2.1, hf.2.2.1, hf.2.2.2, trivial⟩ h)
          · exact goM b Q (fun _ => p_can_19 hT0 (fun _ _ _ _ => ⟨fun _ => p_adds hT0.2.2.1 hlt hq, fun z => absurd z (by decide)⟩) (fun h => absurd hf h)) (fun h => absurd hlt h)
        · refine t_refuse hG (fun b Q hq => ?_) (fun b Q hq => ?_)
          · unfold wp_UM_node
            refine p_add (w := 19) (s0 := 0) (s1 := 0) (s2 := 1) (s3 := 4) (s4 := 0) hT0 hw hlt (by decide) (by decide) (by decide) (by decide) (by decide) (by decide) (fun g0 g1 g2 g3 _ => absurd ⟨g0, g1, g2, g3⟩ hf) (fun _ => hq)
          · exact goM b Q (fun _ => p_can_19 hT0 (fun g0 g1 g2 g3 => absurd ⟨g0, g1, g2, g3⟩ hf) (fun _ => ⟨fun z => absurd z (by decide), fun _ => hq⟩)) (fun h => absurd hlt h)
      · refine t_refuse hG (fun b Q hq => ?_) (fun b Q hq => ?_)
        · unfold wp_UM_node
          refine p_add (w := 20) (s0 := 0) (s1 := 0) (s2 := 1) (s3 := 4) (s4 := 5) hT hw hlt (by decide) (by decide) (by decide) (by decide) (by decide) (by decide) (fun _ _ _ _ g => ?_) (fun _ => hq)
          obtain ⟨j, w2, g1, g2, -⟩ := g
          exact absurd g2.symm (um_nm1 (by omega))
        · refine goM b Q (fun _ => p_can_no (fun k hk => ?_) ⟨fun z => absurd z (by decide), fun _ => hq⟩) (fun h => absurd hlt h)
          intro z
          have := (nI_eq (a := 20) (b := k) (by decide) (by omega)).mp z
          omega
    · refine t_refuse hG (fun b Q hq => ?_) (fun b Q hq => ?_)
      · unfold wp_UM_node
        exact p_add_out hT (Or.inr (fun k h1 h2 => hk ⟨k, h1, h2⟩)) hq
      · exact goM b Q (fun _ => p_can_no (fun k h1 h2 => hk ⟨k, by omega, h2⟩) ⟨fun z => absurd z (by decide), fun _ => hq⟩) (fun h => absurd hlt h)
  · refine t_refuse hG (fun b Q hq => ?_) (fun b Q hq => ?_)
    · unfold wp_UM_node
      exact p_add_out hT (Or.inl hlt) hq
    · exact goM b Q (fun h => absurd h hlt) (fun _ => hq)
theorem um_G_E {c m : um_S} {N : Nat} {v : Int32} (hG : um_G c m) (hT : um_tree N c m) : um_G c (um_up m 44 N v) ∧ um_tree N c (um_up m 44 N v) := by
  have hT2 : um_tree N c (um_up m 44 N v) := by
    obtain ⟨h1, h2, h3, h4, h5⟩ := hT
    have o : ∀ q j, (39 ≤ q ∧ q ≤ 45) → j < N → um_up m 44 N v q j = m q j := fun q j hq hj => um_up_ne (by omega)
    refine ⟨h1, h2, by rw [um_up_ne (by omega)]; exact h3, fun k hk => ?_, fun f hf => ?_⟩
    · obtain ⟨b1, b2, b3, b4, b5, b6, b7, b8⟩ := h4 k hk
      rw [o _ k (by omega) hk, o _ k (by omega) hk, o _ k (by omega) hk, o _ k (by omega) hk, o _ k (by omega) hk, o _ k (by omega) hk]
      exact ⟨b1, b2, b3, b4, b5, b6, b7, um_node_ext b8 (fun j hj => o _ j (by omega) (by omega)) (o _ k (by omega) hk) (o _ k (by omega) hk) (o _ k (by omega) hk) (o _ k (by omega) hk) (o _ k (by omega) hk)⟩
    · rw [um_up_q (by decide)]
      exact ⟨(h5 f hf).1, (h5 f hf).2.imp id (fun z => um_isS_ext z (fun j hj => o _ j (by omega) hj) (by omega))⟩
  exact ⟨um_G_tree hG ⟨N, hT2⟩ (fun _ _ _ _ _ => rfl) (fun q hq => um_up_q (by omega)) (fun k _ _ => um_up_ne (by omega)), hT2⟩
theorem t_catchBehind {c m : um_S} (hG : um_G c m) (a1 a2 a3 a4 a5 : Int32) : um_alike Int32 (wp_UM_catchBehind a1 a2 a3 a4 a5) (wp_Mo_catchBehind a1 a2 a3 a4 a5) c m := by
  obtain ⟨N, hT⟩ := hG.1
  have hN := hT.1.1
  have hG0 := um_G_thrown (v := 0) hG
  have hT0 : um_tree N c (um_up m 38 0 0) := um_tree_um hT (by omega)
  have hmN : ∀ b, um_J b (um_up m 38 0 0) 38 1 = nI N := fun b => by rw [um_J_m (by decide)]; exact hT0.2.2.1
  by_cases hlt : N < 150
  · have n150 : ¬ nI N = 150 := fun z => by
      have := (nI_eq (a := N) (b := 150) (by omega) (by decide)).mp z
      omega
    by_cases hf : um_fit (um_up m 38 0 0) N 1 a3 ∧ um_fit (um_up m 38 0 0) N 4 a4 ∧ um_fit (um_up m 38 0 0) N 5 a5
    · obtain ⟨f1, f2, f3⟩ := hf
      obtain ⟨hG1, hT1⟩ := um_G_E (v := a5) hG0 hT0
      have hk1 : ∀ j, j < N → um_up (um_up m 38 0 0) 44 N a5 39 j = um_up m 38 0 0 39 j := fun j hj => um_up_ne (by omega)
      refine ⟨nI N, um_addC c N (nI 20) a1 a2 a3 a4 a5, um_addM (um_up (um_up m 38 0 0) 44 N a5) N (nI 20) a1 a2 a3 a4, fun b Q hq => ?_, fun b Q hq => ?_, um_G_add hG1 hT1 hlt ⟨fun _ => um_up_self, fun z => absurd rfl z⟩ (by decide) (um_new_20 (g2 := f1) (g3 := um_isS_ext f2 hk1 (by omega)) (g4 := ?_))⟩
      · unfold wp_UM_catchBehind
        exact p_add (w := 20) (s0 := 0) (s1 := 0) (s2 := 1) (s3 := 4) (s4 := 5) hT0 (by decide) hlt (by decide) (by decide) (by decide) (by decide) (by decide) (by decide) (fun _ _ _ _ _ => p_add115 hT.2.1 hlt hq) (fun h => absurd ⟨trivial, trivial, f1, f2, f3⟩ h)
      · unfold wp_Mo_catchBehind
        refine um_thr0 ?_
        rw [hmN]
        refine um_no n150 (p_can_19 hT0 (fun _ _ _ _ => ⟨fun z => absurd z (by decide), fun _ => ?_⟩) (fun h => absurd ⟨trivial, trivial, f1, f2⟩ h))
        refine p_MoisC hT0 (fun _ => ⟨fun _ => ?_, fun z => absurd z (by decide)⟩) (fun h => absurd f3 h)
        rw [hmN, um_cl1 (by omega)]
        refine ⟨vp_in_nI hlt (by decide), ?_⟩
        rintro σ6 rfl
        rw [um_J_um (by decide)]
        exact p_adds hT1.2.2.1 hlt hq
      · rw [um_up_self]
        exact um_isC_ext f3 hk1 (by omega)
    · refine t_refuse hG (fun b Q hq => ?_) (fun b Q hq => ?_)
      · unfold wp_UM_catchBehind
        exact p_add (w := 20) (s0 := 0) (s1 := 0) (s2 := 1) (s3 := 4) (s4 := 5) hT0 (by decide) hlt (by decide) (by decide) (by decide) (by decide) (by decide) (by decide) (fun _ _ g2 g3 g4 => absurd ⟨g2, g3, g4⟩ hf) (fun _ => hq)
      · unfold wp_Mo_catchBehind
        refine um_thr0 ?_
        rw [hmN]
        refine um_no n150 (p_can_19 hT0 (fun _ _ g2 g3 => ⟨fun z => absurd z (by decide), fun _ => ?_⟩) (fun _ => ⟨fun _ => hq, fun z => absurd z (by decide)⟩))
        exact p_MoisC hT0 (fun g4 => absurd ⟨g2, g3, g4⟩ hf) (fun _ => ⟨fun z => absurd z (by decide), fun _ => hq⟩)
  · refine t_refuse hG (fun b Q hq => ?_) (fun b Q hq => ?_)
    · unfold wp_UM_catchBehind
      exact p_add_out hT (Or.inl hlt) hq
    · unfold wp_Mo_catchBehind
      refine um_thr0 ?_
      rw [hmN, show N = 150 by omega]
      exact um_yes rfl hq
theorem t_body {c m : um_S} (hG : um_G c m) (a1 a2 : Int32) : um_alike Bool (wp_UM_body a1 a2) (wp_Mo_body a1 a2) c m := by
  obtain ⟨N, hT⟩ := hG.1
  have hN := hT.1.1
  have hG0 := um_G_thrown (v := 0) hG
  have hT0 : um_tree N c (um_up m 38 0 0) := um_tree_um hT (by omega)
  rcases um_ix a1 (N := 6) (by decide) with hout | ⟨f, hf, rfl⟩
  · refine ⟨false, c, um_up m 38 0 0, fun b Q hq => ?_, fun b Q hq => ?_, hG0⟩
    · unfold wp_UM_body wp_Tr_setBody
      refine p_isFun (fun g => ?_) (fun _ => ⟨fun _ => hq, fun z => absurd z (by decide)⟩)
      obtain ⟨v, hv, g⟩ := g
      exact absurd g (um_out_no (by decide) hout v hv)
    · unfold wp_Mo_body
      refine um_thr0 ⟨fun _ => hq, fun z0 => ⟨fun _ => hq, fun z1 => ?_⟩⟩
      rcases hout with z | ⟨-, z⟩
      · exact absurd z z0
      · exact absurd (Int32.le_trans z (Int32.not_lt.mp z1)) (by decide)
  · have n0 : ¬ nI f < 0 := nI_pos (by omega)
    have n5 : ¬ 5 < nI f := nI_nlt (a := 5) (b := f) (by omega) (by decide)
    have isF : um_isF (nI f) := ⟨f, hf, rfl⟩
    by_cases hs : um_fit (um_up m 38 0 0) N 6 a2
    · have hG2 : um_G (um_up c 10 f a2) (um_up (um_up m 38 0 0) 45 f a2) := by
        refine um_G_tree hG0 ⟨N, ?_⟩ (fun q h1 h2 h3 h4 => um_up_q h4) (fun q hq => um_up_q (by omega)) (fun k _ _ => um_up_ne (by omega))
        obtain ⟨h1, h2, h3, h4, h5⟩ := hT0
        have o : ∀ q, (39 ≤ q ∧ q ≤ 44) → um_up (um_up m 38 0 0) 45 f a2 q = um_up m 38 0 0 q := fun q hq => um_up_q (by omega)
        refine ⟨⟨h1.1, by rw [um_up_ne (by omega)]; exact h1.2.1, by rw [um_up_ne (by omega)]; exact h1.2.2.1, by rw [um_up_ne (by omega)]; exact h1.2.2.2⟩, by rw [um_up_ne (by omega)]; exact h2, by rw [um_up_ne (by omega)]; exact h3, fun k hk => ?_, fun i hi => ?_⟩
        · rw [o _ (by omega), o _ (by omega), o _ (by omega), o _ (by omega), o _ (by omega), o _ (by omega), um_up_q (by decide), um_up_q (by decide)]
          obtain ⟨b1, b2, b3, b4, b5, b6, b7, b8⟩ := h4 k hk
          exact ⟨b1, b2, b3, b4, b5, b6, b7, um_node_ext b8 (fun j hj => by rw [o _ (by omega)]) (by rw [o _ (by omega)]) (by rw [o _ (by omega)]) (by rw [o _ (by omega)]) (by rw [o _ (by omega)]) (by rw [o _ (by omega)])⟩
        · by_cases hz : i = f
          · subst hz
            rw [um_up_self, um_up_self]
            exact ⟨rfl, hs.imp id (fun z => um_isS_ext z (fun j hj => by rw [o _ (by omega)]) (by omega))⟩
          · rw [um_up_ne (by omega), um_up_ne (by omega)]
            exact ⟨(h5 i hi).1, (h5 i hi).2.imp id (fun z => um_isS_ext z (fun j hj => by rw [o _ (by omega)]) (by omega))⟩
      refine ⟨true, _, _, fun b Q hq => ?_, fun b Q hq => ?_, hG2⟩
      · unfold wp_UM_body wp_Tr_setBody
        refine p_isFun (fun _ => ⟨fun z => absurd z (by decide), fun _ => ?_⟩) (fun h => absurd isF h)
        refine p_fits (s := 6) hT0 (by decide) (fun _ => ⟨fun _ => ?_, fun z => absurd z (by decide)⟩) (fun h => absurd hs h)
        rw [um_cl1 (by omega), um_J_uc (by decide)]
        exact ⟨vp_in_nI hf (by decide), fun σ5 e => e ▸ hq⟩
      · have fin : wp_Mo_body_29 Q (nI f) a2 (um_J b (um_up m 38 0 0)) := by
          unfold wp_Mo_body_29
          rw [um_cl1 (by omega), um_J_um (by decide)]
          exact ⟨vp_in_nI hf (by decide), fun σ5 e => e ▸ hq⟩
        unfold wp_Mo_body
        refine um_thr0 (um_no n0 (um_no n5 ⟨fun _ => fin, fun z => p_MoisS hT0 (fun _ => ⟨fun _ => fin, fun z => absurd z (by decide)⟩) (fun h => ?_)⟩))
        exact absurd hs (fun y => y.elim z h)
    · refine ⟨false, c, um_up m 38 0 0, fun b Q hq => ?_, fun b Q hq => ?_, hG0⟩
      · unfold wp_UM_body wp_Tr_setBody
        refine p_isFun (fun _ => ⟨fun z => absurd z (by decide), fun _ => ?_⟩) (fun h => absurd isF h)
        exact p_fits (s := 6) hT0 (by decide) (fun h => absurd h hs) (fun _ => ⟨fun z => absurd z (by decide), fun _ => hq⟩)
      · unfold wp_Mo_body
        refine um_thr0 (um_no n0 (um_no n5 ⟨fun z => absurd (Or.inl z) hs, fun z => p_MoisS hT0 (fun h => absurd (Or.inr h) hs) (fun _ => ⟨fun z => absurd z (by decide), fun _ => hq⟩)⟩))
