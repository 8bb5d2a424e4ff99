/-! instruction and row: what both sides answer -/
theorem t_thr {b m : um_S} {kv : Int32} {P : um_S → Prop} (h : P (um_J b (um_up m 38 0 kv))) : ∀ σ1 : um_S, σ1 = um_up (um_J b m) 38 0 kv → P σ1 := by
  rintro σ1 rfl
  rw [um_J_um (by decide)]
  exact h
theorem t_i41 {b m : um_S} {Q : Int32 → um_S → Prop} {i w kv : Int32} (hk : ¬ kv = 0) (hq : Q 0 (um_J b (um_up m 38 0 kv))) : wp_Mo_instruction_41 Q i w (um_J b (um_up m 38 0 kv)) := by
  unfold wp_Mo_instruction_41
  rw [um_J_m (q := 38) (by decide), um_up_self]
  exact ⟨fun z => absurd z hk, fun _ => hq⟩
theorem t_r41 {b m : um_S} {Q : Int32 → um_S → Prop} {i w kv : Int32} (hk : ¬ kv = 0) (hq : Q 0 (um_J b (um_up m 38 0 kv))) : wp_Mo_row_II_41 Q i w (um_J b (um_up m 38 0 kv)) := by
  unfold wp_Mo_row_II_41
  rw [um_J_m (q := 38) (by decide), um_up_self]
  exact ⟨fun z => absurd z hk, fun _ => hq⟩
theorem t_bad {i : Int32} {n : Nat} (h : i < 0 ∨ (¬ i < 0 ∧ nI n ≤ i)) (y0 : ¬ i < 0) (y1 : i < nI n) : False := by
  rcases h with h | ⟨-, h⟩
  · exact y0 h
  · rw [Int32.lt_iff_toInt_lt] at y1
    rw [Int32.le_iff_toInt_le] at h
    omega
theorem t_bad' {i : Int32} {n : Nat} (h : i < 0 ∨ (¬ i < 0 ∧ nI n ≤ i)) : ¬ i < 0 → ¬ i < nI n := fun y0 y1 => t_bad h y0 y1
theorem t_w01 {w : Int32} (h0 : ¬ w < 0) (h1 : w ≤ 1) : w = 0 ∨ w = 1 := by
  rw [Int32.lt_iff_toInt_lt] at h0
  rw [Int32.le_iff_toInt_le] at h1
  have e0 : (0 : Int32).toInt = 0 := rfl
  have e1 : (1 : Int32).toInt = 1 := rfl
  rw [e0] at h0
  rw [e1] at h1
  rcases (show w.toInt = 0 ∨ w.toInt = 1 by omega) with h | h
  · exact Or.inl (Int32.toInt_inj.mp (h.trans e0.symm))
  · exact Or.inr (Int32.toInt_inj.mp (h.trans e1.symm))
theorem t_instruction {c m : um_S} (hG : um_G c m) (i w : Int32) : ∃ (k : Nat) (val : Int32), ((i < 0 ∨ ¬ i < c 2 5) → k = 1) ∧ (¬ i < 0 → i < c 2 5 → ¬ w = 0 → ¬ w = 1 → k = 2) ∧ (¬ i < 0 → i < c 2 5 → (w = 0 ∨ w = 1) → k = 0 ∧ vp_in i 1000 ∧ (w = 0 → val = c 11 i.toNatClampNeg) ∧ (¬ w = 0 → val = c 12 i.toNatClampNeg)) ∧ k ≤ 2 ∧
    ∀ (b : um_S) (Q : Int32 → um_S → Prop), (∀ x, (k = 0 → x = val) → Q x (um_J b (um_up m 38 0 (nI k)))) → wp_Mo_instruction i w (um_J b m) Q := by
  rcases hG.2.1 with ⟨h1, h2, h3⟩ | ⟨n, r, D, hC⟩
  · refine ⟨1, 0, fun _ => rfl, fun y0 y1 => absurd (h2 ▸ y1) y0, fun y0 y1 => absurd (h2 ▸ y1) y0, by omega, fun b Q hq => ?_⟩
    unfold wp_Mo_instruction
    rw [um_J_m (q := 38) (by decide), h1]
    exact um_yes rfl (t_thr (t_i41 (by decide) (hq 0 (fun z => absurd z (by decide)))))
  · obtain ⟨g1, g2, g3, g4, g5, g6, g7, g8, -, -, -, -, k1, k2, k3⟩ := hC
    have e9 : ¬ m 38 9 = 0 := by rw [k3]; decide
    rcases um_ix i (N := n) (by omega) with hbad | ⟨a, ha, rfl⟩
    · refine ⟨1, 0, fun _ => rfl, fun y0 y1 => absurd (g4 ▸ y1) (t_bad' hbad y0), fun y0 y1 => absurd (g4 ▸ y1) (t_bad' hbad y0), by omega, fun b Q hq => ?_⟩
      have h41 : ∀ σ1 : um_S, σ1 = um_up (um_J b m) 38 0 1 → wp_Mo_instruction_41 Q i w σ1 := t_thr (t_i41 (by decide) (hq 0 (fun z => absurd z (by decide))))
      unfold wp_Mo_instruction
      rw [um_J_m (q := 38) (by decide), g5]
      exact um_no e9 ⟨fun _ => h41, fun y0 => um_no (t_bad' hbad y0) h41⟩
    · have y0 : ¬ nI a < 0 := nI_nlt (b := 0) (Nat.zero_le _) (by omega)
      have y1 : nI a < nI n := nI_lt ha (by omega)
      have hin : vp_in (nI a) 1000 := vp_in_nI (by omega) (by decide)
      have hcl : (nI a).toNatClampNeg = a := um_cl1 (by omega)
      by_cases hw : w = 0 ∨ w = 1
      · have w0 : ¬ w < 0 := by rcases hw with rfl | rfl <;> decide
        have w1 : w ≤ 1 := by rcases hw with rfl | rfl <;> decide
        refine ⟨0, if w = 0 then c 11 a else c 12 a, fun z => ?_, fun _ _ n0 n1 => absurd hw (fun z => z.elim n0 n1), fun _ _ _ => ⟨rfl, hin, fun z => by rw [if_pos z, hcl], fun z => by rw [if_neg z, hcl]⟩, by omega, fun b Q hq => ?_⟩
        · rw [g4] at z
          exact absurd z (fun z => z.elim y0 (fun q => q y1))
        · unfold wp_Mo_instruction
          rw [um_J_m (q := 38) (by decide), g5]
          refine um_no e9 (um_no y0 (um_yes y1 (um_no w0 (um_yes w1 (t_thr ?_)))))
          unfold wp_Mo_instruction_41
          rw [um_J_m (q := 38) (by decide), um_J_m (q := 47) (by decide), um_J_m (q := 46) (by decide), um_up_self, hcl, um_up_ne (by omega), um_up_ne (by omega)]
          refine um_yes rfl ⟨fun z => ⟨hin, hq _ (fun _ => ?_)⟩, fun z => ⟨hin, hq _ (fun _ => ?_)⟩⟩
          · rw [if_neg z, (g8 a ha).2.1]
          · rw [if_pos z, (g8 a ha).1]
      · refine ⟨2, 0, fun z => ?_, fun _ _ _ _ => rfl, fun _ _ z => absurd z hw, by omega, fun b Q hq => ?_⟩
        · rw [g4] at z
          exact absurd z (fun z => z.elim y0 (fun q => q y1))
        · have h41 : ∀ σ1 : um_S, σ1 = um_up (um_J b m) 38 0 2 → wp_Mo_instruction_41 Q (nI a) w σ1 := t_thr (t_i41 (by decide) (hq 0 (fun z => absurd z (by decide))))
          unfold wp_Mo_instruction
          rw [um_J_m (q := 38) (by decide), g5]
          exact um_no e9 (um_no y0 (um_yes y1 ⟨fun _ => h41, fun w0 => um_no (fun w1 => hw (t_w01 w0 w1)) h41⟩))
theorem t_row {c m : um_S} (hG : um_G c m) (i w : Int32) : ∃ (k : Nat) (val : Int32), ((i < 0 ∨ ¬ i < c 2 6) → k = 1) ∧ (¬ i < 0 → i < c 2 6 → (w < 0 ∨ ¬ w < 5) → k = 2) ∧ (¬ i < 0 → i < c 2 6 → (¬ w < 0 ∧ w < 5) → k = 0 ∧ vp_in (i * 5 + w) 1500 ∧ val = c 15 (i * 5 + w).toNatClampNeg) ∧ k ≤ 2 ∧
    ∀ (b : um_S) (Q : Int32 → um_S → Prop), (∀ x, (k = 0 → x = val) → Q x (um_J b (um_up m 38 0 (nI k)))) → wp_Mo_row_II i w (um_J b m) Q := by
  rcases hG.2.1 with ⟨h1, h2, h3⟩ | ⟨n, r, D, hC⟩
  · refine ⟨1, 0, fun _ => rfl, fun y0 y1 => absurd (h3 ▸ y1) y0, fun y0 y1 => absurd (h3 ▸ y1) y0, by omega, fun b Q hq => ?_⟩
    unfold wp_Mo_row_II
    rw [um_J_m (q := 38) (by decide), h1]
    exact um_yes rfl (t_thr (t_r41 (by decide) (hq 0 (fun z => absurd z (by decide)))))
  · obtain ⟨g1, g2, g3, g4, g5, g6, g7, g8, g9, -, -, -, k1, k2, k3⟩ := hC
    have e9 : ¬ m 38 9 = 0 := by rw [k3]; decide
    rcases um_ix i (N := r) (by omega) with hbad | ⟨a, ha, rfl⟩
    · refine ⟨1, 0, fun _ => rfl, fun y0 y1 => absurd (g6 ▸ y1) (t_bad' hbad y0), fun y0 y1 => absurd (g6 ▸ y1) (t_bad' hbad y0), by omega, fun b Q hq => ?_⟩
      have h41 : ∀ σ1 : um_S, σ1 = um_up (um_J b m) 38 0 1 → wp_Mo_row_II_41 Q i w σ1 := t_thr (t_r41 (by decide) (hq 0 (fun z => absurd z (by decide))))
      unfold wp_Mo_row_II
      rw [um_J_m (q := 38) (by decide), g7]
      exact um_no e9 ⟨fun _ => h41, fun y0 => um_no (t_bad' hbad y0) h41⟩
    · have y0 : ¬ nI a < 0 := nI_nlt (b := 0) (Nat.zero_le _) (by omega)
      have y1 : nI a < nI r := nI_lt ha (by omega)
      have hin : vp_in (nI a) 300 := vp_in_nI (by omega) (by decide)
      have hcl : (nI a).toNatClampNeg = a := um_cl1 (by omega)
      rcases um_ix w (N := 5) (by decide) with hw | ⟨j, hj, rfl⟩
      · refine ⟨2, 0, fun z => ?_, fun _ _ _ => rfl, fun _ _ z => absurd z.2 (t_bad' hw z.1), by omega, fun b Q hq => ?_⟩
        · rw [g6] at z
          exact absurd z (fun z => z.elim y0 (fun q => q y1))
        · have h41 : ∀ σ1 : um_S, σ1 = um_up (um_J b m) 38 0 2 → wp_Mo_row_II_41 Q (nI a) w σ1 := t_thr (t_r41 (by decide) (hq 0 (fun z => absurd z (by decide))))
          unfold wp_Mo_row_II
          rw [um_J_m (q := 38) (by decide), g7]
          refine um_no e9 (um_no y0 (um_yes y1 ⟨fun _ => h41, fun w0 => um_no (fun w1 => t_bad' hw w0 ?_) h41⟩))
          rw [Int32.le_iff_toInt_le] at w1
          rw [Int32.lt_iff_toInt_lt]
          have e4 : (4 : Int32).toInt = 4 := rfl
          have e5 : (nI 5).toInt = 5 := rfl
          omega
      · have w0 : ¬ nI j < 0 := nI_nlt (b := 0) (Nat.zero_le _) (by omega)
        have w1 : nI j < 5 := nI_lt (b := 5) hj (by decide)
        have w4 : nI j ≤ 4 := nI_le (b := 4) (by omega) (by decide)
        have em : nI a * 5 + nI j = nI (a * 5 + j) := by rw [show nI a * 5 = nI (a * 5) from pk_mul a 5, nI_add]
        have ec : (nI (a * 5 + j)).toNatClampNeg = a * 5 + j := um_cl1 (by omega)
        refine ⟨0, c 15 (a * 5 + j), fun z => ?_, fun _ _ z => absurd z (fun z => z.elim w0 (fun q => q w1)), fun _ _ _ => ⟨rfl, by rw [em]; exact vp_in_nI (by omega) (by decide), by rw [em, ec]⟩, by omega, fun b Q hq => ?_⟩
        · rw [g6] at z
          exact absurd z (fun z => z.elim y0 (fun q => q y1))
        · unfold wp_Mo_row_II
          rw [um_J_m (q := 38) (by decide), g7]
          refine um_no e9 (um_no y0 (um_yes y1 (um_no w0 (um_yes w4 (t_thr ?_)))))
          unfold wp_Mo_row_II_41
          rw [um_J_m (q := 38) (by decide), um_J_m (q := 49) (by decide), um_J_m (q := 50) (by decide), um_J_m (q := 51) (by decide), um_J_m (q := 52) (by decide), um_J_m (q := 53) (by decide), um_up_self, hcl, um_up_ne (by omega), um_up_ne (by omega), um_up_ne (by omega), um_up_ne (by omega), um_up_ne (by omega)]
          obtain ⟨r0, r1, r2, r3, r4⟩ := g9 a ha
          refine um_yes rfl ?_
          rcases (show j = 0 ∨ j = 1 ∨ j = 2 ∨ j = 3 ∨ j = 4 by omega) with rfl | rfl | rfl | rfl | rfl
          · exact um_yes' rfl ⟨hin, hq _ (fun _ => r0.symm)⟩
          · exact um_no' (by decide) (um_yes' rfl ⟨hin, hq _ (fun _ => r1.symm)⟩)
          · exact um_no' (by decide) (um_no' (by decide) (um_yes' rfl ⟨hin, hq _ (fun _ => r2.symm)⟩))
          · exact um_no' (by decide) (um_no' (by decide) (um_no' (by decide) (um_yes' rfl ⟨hin, hq _ (fun _ => r3.symm)⟩)))
          · exact um_no' (by decide) (um_no' (by decide) (um_no' (by decide) (um_no' (by decide) ⟨hin, hq _ (fun _ => r4.symm)⟩)))
