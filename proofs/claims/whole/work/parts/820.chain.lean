/-! lay: what lies around a context, on both sides -/
section LayChain
variable {c m b : um_S} {N u I : Nat} {D : Nat → Nat}
theorem ly_cx_sc {K O : Nat → Int32} {x y : Int32} (h : ly_cx I K O x y) : ∃ s p : Nat, p < 3 ∧ s ≤ I ∧ x = nI (4 * s + p) := by
  rcases h with ⟨rfl, -⟩ | ⟨j, hj, ⟨rfl, -⟩ | ⟨rfl, -⟩ | ⟨-, rfl, -⟩⟩
  · exact ⟨0, 0, by decide, by omega, rfl⟩
  · exact ⟨j + 1, 0, by decide, by omega, rfl⟩
  · exact ⟨j + 1, 1, by decide, by omega, rfl⟩
  · exact ⟨j + 1, 2, by decide, by omega, rfl⟩
theorem ly_sc_eq {s p s' p' : Nat} (hp : p < 3) (hp' : p' < 3) (hs : s ≤ 2001) (hs' : s' ≤ 2001) (h : nI (4 * s + p) = nI (4 * s' + p')) : s = s' := by
  have := (nI_eq (a := 4 * s + p) (b := 4 * s' + p') (by omega) (by omega)).mp h
  omega
/-- the innermost WHILE -/
theorem p_Mloop (hN : N ≤ 150) (h26 : c 26 0 = 0) : ∀ k, k ≤ 2000 → (∀ j, j < k → ly_item N u D c m j) → ∀ x y, ly_cx k (c 24) (m 56) x y → ∀ s p : Nat, p < 3 → s ≤ 2001 → x = nI (4 * s + p) →
    (c 26 s = 0 ∧ ∀ fuel, k < fuel → ∀ Q : Int32 → um_S → Prop, Q (-1) (um_J b m) → wp_Mo_loop_2 Q fuel y (um_J b m)) ∨
    ∃ j, j < k ∧ c 24 (j + 1) = -1 ∧ c 26 s = nI (j + 1) ∧ ∀ fuel, k < fuel → ∀ Q : Int32 → um_S → Prop, Q (nI j) (um_J b m) → wp_Mo_loop_2 Q fuel y (um_J b m) := by
  intro k
  induction k using Nat.strongRecOn with
  | ind k ih =>
    intro hk hI x y hx s p hp hs hxs
    rcases hx with ⟨rfl, rfl⟩ | ⟨j, hj, hx⟩
    · have e : s = 0 := ly_sc_eq hp (p' := 0) (by decide) hs (by decide) (show nI (4 * s + p) = nI (4 * 0 + 0) from hxs.symm)
      subst e
      refine Or.inl ⟨h26, fun fuel hf Q hq => ?_⟩
      obtain ⟨f, rfl⟩ : ∃ f, fuel = f + 1 := ⟨fuel - 1, by omega⟩
      unfold wp_Mo_loop_2 wp_Mo_loop_37
      exact um_yes rfl (um_yes' rfl hq)
    · obtain ⟨nd, ov, dp, h1, h2, h3, h4, h5, h6, h7, h8, h9, h10, h11⟩ := hI j hj
      -- what lies around the item
      have rest := fun (s' p' : Nat) (hp' : p' < 3) (hs' : s' ≤ 2001) (e : c 23 (j + 1) = nI (4 * s' + p')) => ih j hj (by omega) (fun i hi => hI i (by omega)) (c 23 (j + 1)) (m 56 j) h9 s' p' hp' hs' e
      have es : s = j + 1 := by
        rcases hx with ⟨e, -⟩ | ⟨e, -⟩ | ⟨-, e, -⟩
        · exact ly_sc_eq hp (p' := 0) (by decide) hs (by omega) (hxs.symm.trans e)
        · exact ly_sc_eq hp (p' := 1) (by decide) hs (by omega) (hxs.symm.trans e)
        · exact ly_sc_eq hp (p' := 2) (by decide) hs (by omega) (hxs.symm.trans e)
      subst es
      -- the reference at 2 * j + q
      have step : ∀ q, q < 2 → y = nI (2 * j + q) → ((m 39 nd = 13 → ∀ fuel, k < fuel → ∀ Q : Int32 → um_S → Prop, Q (nI j) (um_J b m) → wp_Mo_loop_2 Q fuel y (um_J b m)) ∧
          (¬ m 39 nd = 13 → ∀ fuel, ∀ Q : Int32 → um_S → Prop, wp_Mo_loop_2 Q fuel (m 56 j) (um_J b m) → wp_Mo_loop_2 Q (fuel + 1) y (um_J b m))) := by
        intro q hq hy
        have hne : ¬ nI (2 * j + q) = -1 := ly_ne (by omega)
        have hh : nI (2 * j + q) / 2 = nI j := ly_half hq (by omega)
        have hc : (nI j).toNatClampNeg = j := um_cl1 (by omega)
        have hc2 : (nI nd).toNatClampNeg = nd := um_cl1 (by omega)
        rw [hy]
        refine ⟨fun z fuel hf Q hq2 => ?_, fun z fuel Q hq2 => ?_⟩
        · obtain ⟨f, rfl⟩ : ∃ f, fuel = f + 1 := ⟨fuel - 1, by omega⟩
          unfold wp_Mo_loop_2 wp_Mo_loop_37
          rw [hh, hc, um_J_m (q := 55) (by decide), h2, hc2, um_J_m (q := 39) (by decide)]
          exact um_no hne ⟨vp_in_nI (by omega) (by decide), vp_in_nI (by omega) (by decide), um_yes z (um_no' hne hq2)⟩
        · unfold wp_Mo_loop_2
          rw [hh, hc, um_J_m (q := 55) (by decide), h2, hc2, um_J_m (q := 39) (by decide), um_J_m (q := 56) (by decide)]
          refine um_no hne ⟨vp_in_nI (by omega) (by decide), vp_in_nI (by omega) (by decide), um_no z ⟨vp_in_nI (by omega) (by decide), ?_⟩⟩
          rintro x1 rfl
          exact hq2
      have around : (∃ q, q < 2 ∧ y = nI (2 * j + q)) ∨ (¬ c 24 (j + 1) = -1 ∧ y = m 56 j) := by
        rcases hx with ⟨-, e⟩ | ⟨-, e⟩ | ⟨z, -, e⟩
        · exact Or.inl ⟨0, by decide, e⟩
        · exact Or.inl ⟨1, by decide, e⟩
        · exact Or.inr ⟨z, e⟩
      rcases h10 with ⟨w13, k1, k2, k3⟩ | ⟨w18, k1, k2, s', p', hp', hs', e', k3⟩
      · rcases around with ⟨q, hq, hy⟩ | ⟨z, -⟩
        · exact Or.inr ⟨j, hj, k1, k3, (step q hq hy).1 w13⟩
        · exact absurd k1 z
      · have n13 : ¬ m 39 nd = 13 := by rw [w18]; decide
        have r := rest s' p' hp' (by omega) e'
        rcases around with ⟨q, hq, hy⟩ | ⟨-, hy⟩
        · have go := (step q hq hy).2 n13
          rcases r with ⟨r1, r2⟩ | ⟨i, hi, r1, r2, r3⟩
          · refine Or.inl ⟨k3.trans r1, fun fuel hf Q hq2 => ?_⟩
            obtain ⟨f, rfl⟩ : ∃ f, fuel = f + 1 := ⟨fuel - 1, by omega⟩
            exact go f Q (r2 f (by omega) Q hq2)
          · refine Or.inr ⟨i, by omega, r1, k3.trans r2, fun fuel hf Q hq2 => ?_⟩
            obtain ⟨f, rfl⟩ : ∃ f, fuel = f + 1 := ⟨fuel - 1, by omega⟩
            exact go f Q (r3 f (by omega) Q hq2)
        · subst hy
          rcases r with ⟨r1, r2⟩ | ⟨i, hi, r1, r2, r3⟩
          · exact Or.inl ⟨k3.trans r1, fun fuel hf Q hq2 => r2 fuel (by omega) Q hq2⟩
          · exact Or.inr ⟨i, by omega, r1, k3.trans r2, fun fuel hf Q hq2 => r3 fuel (by omega) Q hq2⟩
end LayChain
