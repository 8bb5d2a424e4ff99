/-! lay: what holds behind an item's end -/
section LayEnds2
variable {N a n B T I j : Nat} {D nd kd sd bd : Nat → Nat} {c m : um_S} {X : Nat → Prop}
theorem ly_core_ends (h : ly_core N a n B T I D nd kd sd bd X c m) (hI : I ≤ 2000) (hj : j < I) (hDn : D n = 0) (h59 : c 24 (j + 1) = -1 → m 59 j = -1) (hne : ∀ r, a ≤ r → r < T → (kd r = 13 ∨ kd r = 18) → 1 ≤ sd r → ¬ m 68 r = nI j) : ly_core N a n B T I D nd kd sd bd X (um_up c 29 (j + 1) (nI n)) (lm_ends m j n) := by
  obtain ⟨h1, h2, h3, h4, h5, h6, h7, h8, h9, h10⟩ := h
  have E : ∀ q, ¬ q = 29 → (um_up c 29 (j + 1) (nI n)) q = c q := fun q hq => um_up_q hq
  have G : ∀ q, ¬ (q = 47 ∨ q = 59) → lm_ends m j n q = m q := fun q hq => lm_ends_row hq
  have g59 : ∀ i, ¬ i = j → lm_ends m j n 59 i = m 59 i := fun i hi => by
    unfold lm_ends
    rw [lm_endk_row (by decide), um_up_ne (by omega)]
  have g59j : lm_ends m j n 59 j = nI n := by
    unfold lm_ends
    rw [lm_endk_row (by decide), um_up_self]
  have hT : um_tree N (um_up c 29 (j + 1) (nI n)) (lm_ends m j n) := um_tree_of h5 (by rw [E 1 (by decide)]) (E 8 (by decide)) (E 9 (by decide)) (E 10 (by decide)) (by rw [E 26 (by decide)]) (by rw [E 27 (by decide)]) (by rw [E 28 (by decide)])
    (by rw [G 38 (by decide)]) (G 39 (by decide)) (G 40 (by decide)) (G 41 (by decide)) (G 42 (by decide)) (G 43 (by decide)) (G 44 (by decide)) (G 45 (by decide))
  refine ⟨by rw [E 3 (by decide), G 38 (by decide)]; exact h1, by rw [E 2 (by decide), G 38 (by decide)]; exact h2, by rw [E 2 (by decide), G 38 (by decide)]; exact h3, by rw [E 5 (by decide), G 38 (by decide)]; exact h4, hT, by rw [E 24 (by decide), E 25 (by decide)]; exact h6, fun i hi => ?_, fun p hp => ?_, fun r a1 a2 => ?_, h10⟩
  · obtain ⟨nd0, ov, dp, i1, i2, i3, i4, i5, i6, i7, i8, i9, i10, i11⟩ := h7 i hi
    unfold ly_item
    rw [G 55 (by decide), G 57 (by decide), G 58 (by decide), G 56 (by decide), G 39 (by decide), G 42 (by decide), E 27 (by decide), E 28 (by decide), E 24 (by decide), E 23 (by decide), E 25 (by decide), E 26 (by decide)]
    refine ⟨nd0, ov, dp, i1, i2, i3, i4, i5, i6, i7, i8, i9, i10, ?_⟩
    by_cases e : i = j
    · subst e
      rw [g59j, um_up_self]
      exact Or.inr ⟨n, by omega, hDn, rfl, rfl⟩
    · rw [g59 i e, um_up_ne (by omega)]
      exact i11
  · obtain ⟨k1, k2, k3⟩ := h8 p hp
    rw [E 11 (by decide), E 12 (by decide), E 13 (by decide), E 24 (by decide), G 46 (by decide), G 48 (by decide), G 56 (by decide)]
    refine ⟨k1, k2, ?_⟩
    have keep : ¬ ((m 46 p = 10 ∨ m 46 p = 11) ∧ m 47 p = -1 - nI j) → lm_ends m j n 47 p = m 47 p := fun z => lm_endk_miss (fun y => z y.2)
    rcases k3 with ⟨y1, y2⟩ | ⟨y1, y2⟩
    · have : lm_ends m j n 47 p = m 47 p := by
        refine keep (fun z => ?_)
        obtain ⟨z1, z2⟩ := z
        unfold um_ins at y2
        rcases y2 with ⟨w, -⟩ | ⟨w, -⟩ | ⟨w, w1, w2, w3, -⟩ | ⟨w, -⟩ | ⟨w, -⟩ | ⟨-, -, -, -, t, t1, t2, -⟩ | ⟨-, t, t1, t2, -⟩ | ⟨w, -⟩ | ⟨w, -⟩ | ⟨w, -⟩ | ⟨w, -⟩ | ⟨w, -⟩
        · rw [w] at z1; revert z1; decide
        · rw [w] at z1; revert z1; decide
        · rw [w3] at z1
          rcases z1 with z1 | z1
          · have := (nI_eq (a := w) (b := 10) (by omega) (by decide)).mp z1; omega
          · have := (nI_eq (a := w) (b := 11) (by omega) (by decide)).mp z1; omega
        · rw [w] at z1; revert z1; decide
        · rw [w] at z1; revert z1; decide
        · exact ly_goal (by have := h2.2.2; omega) (by omega) (t2.symm.trans z2)
        · exact ly_goal (by have := h2.2.2; omega) (by omega) (t2.symm.trans z2)
        · rw [w] at z1; revert z1; decide
        · rw [w] at z1; revert z1; decide
        · rw [w] at z1; revert z1; decide
        · rw [w] at z1; revert z1; decide
        · rw [w] at z1; revert z1; decide
      rw [this]
      exact Or.inl ⟨y1, y2⟩
    · refine Or.inr ⟨y1, ?_⟩
      have hop : m 46 p = 10 ∨ m 46 p = 11 := y1.elim (fun z => Or.inl z.1) (fun z => Or.inr z.1)
      rcases y2 with ⟨z1, z2, z3⟩ | ⟨i, hi, z1, z2, z3⟩
      · refine Or.inl ⟨z1, z2, ?_⟩
        rw [keep (fun w => ly_goal (t := 0) (by decide) (by omega) (z3.symm.trans w.2))]
        exact z3
      · refine Or.inr ⟨i, hi, z1, z2, ?_⟩
        by_cases e : i = j
        · subst e
          have hm1 := h59 z1
          have e47 : m 47 p = -(nI (i + 1)) := by
            rcases z3 with ⟨-, z⟩ | ⟨z, -⟩
            · exact z
            · exact absurd hm1 z
          refine Or.inr ⟨?_, ?_⟩
          · rw [g59j]
            exact ly_ne (by have := h2.2.2; omega)
          · rw [g59j]
            exact lm_endk_hit hp hop (by rw [e47, ly_neg])
        · have e47 : lm_ends m j n 47 p = m 47 p := by
            refine keep (fun w => ?_)
            rcases z3 with ⟨-, z⟩ | ⟨z, z4⟩
            · exact e (ly_wait (by omega) (by omega) (z.symm.trans w.2))
            · obtain ⟨nd0, ov, dp, i1, i2, i3, i4, i5, i6, i7, i8, i9, i10, i11⟩ := h7 i hi
              rcases i11 with y | ⟨e0, y1, y2, y3, y4⟩
              · exact z y
              · exact ly_goal (t := e0) (by have := h2.2.2; omega) (by omega) (y3.symm.trans (z4.symm.trans w.2))
          rw [e47, g59 i e]
          exact z3
  · obtain ⟨k1, k2, k3, k4, k5, k6, k7, ab, fi, k8, k9, k10, k11, hform⟩ := h9 r a1 a2
    unfold ly_ent
    rw [G 39 (by decide), E 31 (by decide), G 63 (by decide), E 33 (by decide), G 67 (by decide), G 65 (by decide), G 66 (by decide)]
    refine ⟨k1, k2, k3, k4, k5, k6, k7, ab, fi, k8, k9, k10, k11, ?_⟩
    simp only [ly_eE, ly_eS, ly_eW, ly_eR, ly_eT, E 24 (by decide), E 25 (by decide), E 26 (by decide), E 27 (by decide), E 28 (by decide), E 32 (by decide), E 34 (by decide), G 46 (by decide), G 55 (by decide), G 56 (by decide), G 57 (by decide), G 58 (by decide), G 64 (by decide), G 68 (by decide), G 69 (by decide)]
    rcases hform with z | z | z | z | z
    · exact Or.inl z
    · exact Or.inr (Or.inl z)
    · refine Or.inr (Or.inr (Or.inl ?_))
      obtain ⟨z1, z2, z3, i, p, hi, z4, z5, z6, z7, z8, z9, z10, z11, z12, z13, z14, z15⟩ := z
      have e : ¬ i = j := by
        rintro rfl
        exact hne r a1 a2 (Or.inl z2) (by omega) z4
      exact ⟨z1, z2, z3, i, p, hi, z4, z5, z6, z7, z8, z9, z10, by rw [g59 i e]; exact z11, z12, z13, z14, z15⟩
    · exact Or.inr (Or.inr (Or.inr (Or.inl z)))
    · refine Or.inr (Or.inr (Or.inr (Or.inr ?_)))
      obtain ⟨z1, z2, z3, i, hi, z4, z5, z6, z7, z8, z9, z10, z11⟩ := z
      have e : ¬ i = j := by
        rintro rfl
        exact hne r a1 a2 (Or.inr z2) (by omega) z4
      exact ⟨z1, z2, z3, i, hi, z4, z5, z6, z7, z8, z9, z10, by rw [g59 i e]; exact z11⟩
end LayEnds2
