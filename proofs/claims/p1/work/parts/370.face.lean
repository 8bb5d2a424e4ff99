/-! between the calls: what holds of both sides -/
def um_R (c m : um_S) : Prop :=
  (c 4 4 = 0 ∧ m 38 46 = -1 ∧ c 19 3 = nI 0 ∧ m 38 49 = nI 0 ∧ (∀ v, v < 8 → c 17 v = m 70 v) ∧ (∀ j a, j < 12 → a < 150 → c 22 (j * 150 + a) = m 75 (200 * j + a))) ∨
  (¬ m 38 46 = -1 ∧ ∃ o, um_seen o c m)
def um_G (c m : um_S) : Prop :=
  (∃ N, um_tree N c m) ∧ ((m 38 9 = 0 ∧ c 2 5 = 0 ∧ c 2 6 = 0) ∨ ∃ n r D, um_code n r D c m) ∧ um_R c m
/-- a call answers alike on both sides, and what holds of both sides holds again -/
def um_alike (α : Type) (P R : um_S → (α → um_S → Prop) → Prop) (c m : um_S) : Prop :=
  ∃ (x : α) (c1 m1 : um_S), (∀ b Q, Q x (um_J c1 b) → P (um_J c b) Q) ∧ (∀ b Q, Q x (um_J b m1) → R (um_J b m) Q) ∧ um_G c1 m1
theorem um_G_thrown {c m : um_S} {v : Int32} (h : um_G c m) : um_G c (um_up m 38 0 v) := by
  obtain ⟨⟨N, h1⟩, h2, h3⟩ := h
  refine ⟨⟨N, um_tree_um h1 (by omega)⟩, ?_, ?_⟩
  · rcases h2 with ⟨a1, a2, a3⟩ | ⟨n, r, D, h2⟩
    · exact Or.inl ⟨by rw [um_up_ne (by omega)]; exact a1, a2, a3⟩
    · exact Or.inr ⟨n, r, D, um_code_um h2 (by omega)⟩
  · rcases h3 with ⟨a1, a2, a3, a4, a5, a6⟩ | ⟨a2, o, a3⟩
    · exact Or.inl ⟨a1, by rw [um_up_ne (by omega)]; exact a2, a3, by rw [um_up_ne (by omega)]; exact a4, fun v hv => by rw [um_up_ne (by omega)]; exact a5 v hv, fun j a hj ha => by rw [um_up_ne (by omega)]; exact a6 j a hj ha⟩
    · exact Or.inr ⟨by rw [um_up_ne (by omega)]; exact a2, o, um_seen_um a3 (by omega)⟩
theorem um_thr0 {b m : um_S} {P : um_S → Prop} (h : P (um_J b (um_up m 38 0 0))) : ∀ σ1 : um_S, σ1 = um_up (um_J b m) 38 0 0 → P σ1 := by
  rintro σ1 rfl
  rw [um_J_um (by decide)]
  exact h
theorem p_stands {c b : um_S} {n : Nat} {Q : Bool → um_S → Prop} (hn : c 2 5 = nI n) (h0 : 0 < n) (h1 : n ≤ 1000) (hq : Q true (um_J c b)) : wp_Co_stands (um_J c b) Q := by
  unfold wp_Co_stands
  rw [um_J_c (by decide), hn]
  exact um_no (nI_nle h0 (by omega)) hq
theorem p_standsNot {c b : um_S} {Q : Bool → um_S → Prop} (hn : c 2 5 = 0) (hq : Q false (um_J c b)) : wp_Co_stands (um_J c b) Q := by
  unfold wp_Co_stands
  rw [um_J_c (by decide), hn]
  exact um_yes (Int32.le_refl _) hq
theorem t_laid {c m : um_S} (hG : um_G c m) (a : Int32) : um_alike Int32 (wp_UM_laid a) (wp_Mo_laid a) c m := by
  rcases hG.2.1 with ⟨h1, h2, h3⟩ | ⟨n, r, D, hC⟩
  · refine ⟨-1, c, um_up m 38 0 0, fun b Q hq => ?_, fun b Q hq => ?_, um_G_thrown hG⟩
    · unfold wp_UM_laid
      exact p_standsNot h2 ⟨fun z => absurd z (by decide), fun _ => hq⟩
    · unfold wp_Mo_laid
      refine um_thr0 ?_
      rw [um_J_m (by decide), um_up_ne (by omega), h1]
      exact um_yes' rfl hq
  · have hC' := hC
    obtain ⟨g1, g2, g3, g4, g5, g6, g7, -, -, -, -, -, k1, k2, k3⟩ := hC'
    have key : ∀ x : Int32, (a = 0 → x = nI n) → (a = 1 → x = nI r) → (a = 2 → x = m 38 20) → (a = 3 → x = m 38 21) → (¬ a = 0 → ¬ a = 1 → ¬ a = 2 → ¬ a = 3 → x = -1) → um_alike Int32 (wp_UM_laid a) (wp_Mo_laid a) c m := by
      intro x x0 x1 x2 x3 x4
      refine ⟨x, c, um_up m 38 0 0, fun b Q hq => ?_, fun b Q hq => ?_, um_G_thrown hG⟩
      · unfold wp_UM_laid
        refine p_stands g4 g1 g2 ⟨fun _ => ?_, fun z => absurd z (by decide)⟩
        simp only [um_J_c (q := 2) (by decide), g4, g6, k1, k2]
        exact ⟨fun z => x0 z ▸ hq, fun z0 => ⟨fun z => x1 z ▸ hq, fun z1 => ⟨fun z => x2 z ▸ hq, fun z2 => ⟨fun z => x3 z ▸ hq, fun z3 => x4 z0 z1 z2 z3 ▸ hq⟩⟩⟩⟩
      · unfold wp_Mo_laid
        refine um_thr0 ?_
        have e1 : um_J b (um_up m 38 0 0) 38 9 = 1 := by rw [um_J_m (by decide), um_up_ne (by omega)]; exact k3
        have e2 : um_J b (um_up m 38 0 0) 38 10 = nI n := by rw [um_J_m (by decide), um_up_ne (by omega)]; exact g5
        have e3 : um_J b (um_up m 38 0 0) 38 14 = nI r := by rw [um_J_m (by decide), um_up_ne (by omega)]; exact g7
        have e4 : um_J b (um_up m 38 0 0) 38 20 = m 38 20 := by rw [um_J_m (by decide), um_up_ne (by omega)]
        have e5 : um_J b (um_up m 38 0 0) 38 21 = m 38 21 := by rw [um_J_m (by decide), um_up_ne (by omega)]
        rw [e1, e2, e3, e4, e5]
        refine um_no' (by decide) ?_
        exact ⟨fun z => x0 z ▸ hq, fun z0 => ⟨fun z => x1 z ▸ hq, fun z1 => ⟨fun z => x2 z ▸ hq, fun z2 => ⟨fun z => x3 z ▸ hq, fun z3 => x4 z0 z1 z2 z3 ▸ hq⟩⟩⟩⟩
    by_cases h0 : a = 0
    · exact key (nI n) (fun _ => rfl) (fun z => absurd (h0.symm.trans z) (by decide)) (fun z => absurd (h0.symm.trans z) (by decide)) (fun z => absurd (h0.symm.trans z) (by decide)) (fun z => absurd h0 z)
    by_cases h1 : a = 1
    · exact key (nI r) (fun z => absurd z h0) (fun _ => rfl) (fun z => absurd (h1.symm.trans z) (by decide)) (fun z => absurd (h1.symm.trans z) (by decide)) (fun _ z => absurd h1 z)
    by_cases h2 : a = 2
    · exact key (m 38 20) (fun z => absurd z h0) (fun z => absurd z h1) (fun _ => rfl) (fun z => absurd (h2.symm.trans z) (by decide)) (fun _ _ z => absurd h2 z)
    by_cases h3 : a = 3
    · exact key (m 38 21) (fun z => absurd z h0) (fun z => absurd z h1) (fun z => absurd z h2) (fun _ => rfl) (fun _ _ _ z => absurd h3 z)
    · exact key (-1) (fun z => absurd z h0) (fun z => absurd z h1) (fun z => absurd z h2) (fun z => absurd z h3) (fun _ _ _ _ => rfl)
/-- an index below N, or not -/
theorem um_ix (a : Int32) {N : Nat} (hN : N < 2147483648) : (a < 0 ∨ (¬ a < 0 ∧ nI N ≤ a)) ∨ ∃ j : Nat, j < N ∧ a = nI j := by
  rcases pk_ix a hN with h | h | h
  · exact Or.inl (Or.inl h)
  · by_cases h0 : a < 0
    · exact Or.inl (Or.inl h0)
    · exact Or.inl (Or.inr ⟨h0, h⟩)
  · exact Or.inr h
theorem t_entry {c m : um_S} (hG : um_G c m) (a : Int32) : um_alike Int32 (wp_UM_entry a) (wp_Mo_entry a) c m := by
  rcases hG.2.1 with ⟨h1, h2, h3⟩ | ⟨n, r, D, hC⟩
  · refine ⟨-1, c, um_up m 38 0 0, fun b Q hq => ?_, fun b Q hq => ?_, um_G_thrown hG⟩
    · unfold wp_UM_entry
      exact p_standsNot h2 ⟨fun _ => hq, fun z => absurd z (by decide)⟩
    · unfold wp_Mo_entry
      refine um_thr0 ?_
      rw [um_J_m (by decide), um_up_ne (by omega), h1]
      exact um_yes rfl hq
  · have hC' := hC
    obtain ⟨g1, g2, g3, g4, g5, g6, g7, -, -, -, g11, -, k1, k2, k3⟩ := hC'
    have e1 : ∀ b, um_J b (um_up m 38 0 0) 38 9 = 1 := fun b => by rw [um_J_m (by decide), um_up_ne (by omega)]; exact k3
    rcases um_ix a (N := 6) (by decide) with hout | ⟨f, hf, rfl⟩
    · refine ⟨-1, c, um_up m 38 0 0, fun b Q hq => ?_, fun b Q hq => ?_, um_G_thrown hG⟩
      · unfold wp_UM_entry wp_UM_isFunction
        refine p_stands g4 g1 g2 ⟨fun _ => hq, fun _ => ?_⟩
        exact ⟨fun _ => ⟨fun _ => hq, fun z => absurd z (by decide)⟩, fun z0 => ⟨fun _ => ⟨fun _ => hq, fun z => absurd z (by decide)⟩, fun z1 => (hout.elim (fun z => absurd z z0) (fun z => absurd z.2 z1))⟩⟩
      · unfold wp_Mo_entry
        refine um_thr0 ?_
        rw [e1]
        refine um_no (by decide) ⟨fun _ => hq, fun z0 => ⟨fun _ => hq, fun z1 => (hout.elim (fun z => absurd z z0) (fun z => absurd z.2 z1))⟩⟩
    · obtain ⟨t, t1, t2, t3, t4⟩ := g11 f hf
      have n0 : ¬ nI f < 0 := nI_pos (by omega)
      have n6 : ¬ nI 6 ≤ nI f := nI_ge hf (by decide)
      refine ⟨nI t, c, um_up m 38 0 0, fun b Q hq => ?_, fun b Q hq => ?_, um_G_thrown hG⟩
      · unfold wp_UM_entry wp_UM_isFunction
        refine p_stands g4 g1 g2 ⟨fun z => absurd z (by decide), fun _ => ?_⟩
        refine um_no n0 (um_no n6 ⟨fun z => absurd z (by decide), fun _ => ?_⟩)
        rw [um_cl1 (by omega), um_J_c (by decide), t2]
        exact ⟨vp_in_nI hf (by decide), hq⟩
      · unfold wp_Mo_entry
        refine um_thr0 ?_
        rw [e1]
        refine um_no (by decide) (um_no n0 (um_no n6 ?_))
        rw [um_cl1 (by omega), um_J_m (by decide), um_up_q (by decide), t3]
        exact ⟨vp_in_nI hf (by decide), hq⟩
theorem t_variable {c m : um_S} (hG : um_G c m) (a : Int32) : um_alike Int32 (wp_UM_variable a) (wp_Mo_variable a) c m := by
  have hv : ∀ v, v < 8 → c 17 v = m 70 v := by
    rcases hG.2.2 with h | ⟨-, o, h⟩
    · exact h.2.2.2.2.1
    · exact h.2.2.2.2.2.2.2.2.2.1
  rcases um_ix a (N := 8) (by decide) with hout | ⟨f, hf, rfl⟩
  · refine ⟨0, c, um_up m 38 0 0, fun b Q hq => ?_, fun b Q hq => ?_, um_G_thrown hG⟩
    · unfold wp_UM_variable wp_UM_isVariable
      exact ⟨fun _ => ⟨fun _ => hq, fun z => absurd z (by decide)⟩, fun z0 => ⟨fun _ => ⟨fun _ => hq, fun z => absurd z (by decide)⟩, fun z1 => (hout.elim (fun z => absurd z z0) (fun z => absurd z.2 z1))⟩⟩
    · unfold wp_Mo_variable wp_Mo_isVariable
      refine um_thr0 ?_
      exact ⟨fun _ => ⟨fun _ => hq, fun z => absurd z (by decide)⟩, fun z0 => ⟨fun _ => ⟨fun _ => hq, fun z => absurd z (by decide)⟩, fun z1 => (hout.elim (fun z => absurd z z0) (fun z => absurd z.2 z1))⟩⟩
  · have n0 : ¬ nI f < 0 := nI_pos (by omega)
    have n8 : ¬ nI 8 ≤ nI f := nI_ge hf (by decide)
    refine ⟨c 17 f, c, um_up m 38 0 0, fun b Q hq => ?_, fun b Q hq => ?_, um_G_thrown hG⟩
    · unfold wp_UM_variable wp_UM_isVariable
      refine um_no n0 (um_no n8 ⟨fun z => absurd z (by decide), fun _ => ?_⟩)
      rw [um_cl1 (by omega), um_J_c (by decide)]
      exact ⟨vp_in_nI hf (by decide), hq⟩
    · unfold wp_Mo_variable wp_Mo_isVariable
      refine um_thr0 ?_
      refine um_no n0 (um_no n8 ⟨fun z => absurd z (by decide), fun _ => ?_⟩)
      rw [um_cl1 (by omega), um_J_m (by decide), um_up_q (by decide), ← hv f hf]
      exact ⟨vp_in_nI hf (by decide), hq⟩
theorem t_out {c m : um_S} (hG : um_G c m) (a : Int32) : um_alike Int32 (wp_UM_out a) (wp_Mo_out a) c m := by
  obtain ⟨o, o1, o2, o3, o4⟩ : ∃ o, o ≤ 64 ∧ c 19 3 = nI o ∧ m 38 49 = nI o ∧ ∀ i, i < o → c 18 i = m 71 i := by
    rcases hG.2.2 with h | ⟨-, o, h⟩
    · exact ⟨0, by omega, h.2.2.1, h.2.2.2.1, fun i hi => by omega⟩
    · exact ⟨o, h.1.1, h.2.2.2.2.1, h.2.2.2.2.2.1, h.2.2.2.2.2.2.2.2.1⟩
  rcases um_ix a (N := o) (by omega) with hout | ⟨f, hf, rfl⟩
  · refine ⟨0, c, um_up m 38 0 0, fun b Q hq => ?_, fun b Q hq => ?_, um_G_thrown hG⟩
    · unfold wp_UM_out
      rw [um_J_c (by decide), o2]
      exact ⟨fun _ => hq, fun z0 => ⟨fun _ => hq, fun z1 => (hout.elim (fun z => absurd z z0) (fun z => absurd z.2 z1))⟩⟩
    · unfold wp_Mo_out
      refine um_thr0 ?_
      rw [um_J_m (by decide), um_up_ne (by omega), o3]
      exact ⟨fun _ => hq, fun z0 => ⟨fun _ => hq, fun z1 => (hout.elim (fun z => absurd z z0) (fun z => absurd z.2 z1))⟩⟩
  · have n0 : ¬ nI f < 0 := nI_pos (by omega)
    have n8 : ¬ nI o ≤ nI f := nI_ge hf (by omega)
    refine ⟨c 18 f, c, um_up m 38 0 0, fun b Q hq => ?_, fun b Q hq => ?_, um_G_thrown hG⟩
    · unfold wp_UM_out
      rw [um_J_c (by decide), o2, um_cl1 (by omega), um_J_c (by decide)]
      exact um_no n0 (um_no n8 ⟨vp_in_nI (by omega) (by decide), hq⟩)
    · unfold wp_Mo_out
      refine um_thr0 ?_
      rw [um_J_m (by decide), um_up_ne (by omega), o3, um_cl1 (by omega), um_J_m (by decide), um_up_q (by decide), ← o4 f hf]
      exact um_no n0 (um_no n8 ⟨vp_in_nI (by omega) (by decide), hq⟩)
