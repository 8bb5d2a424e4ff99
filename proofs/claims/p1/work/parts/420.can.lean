/-! can: the reference asks as the class does -/
section Can
variable {N : Nat} {c m b : um_S} {a1 a2 a3 a4 : Int32} {Q : Bool → um_S → Prop}
theorem p_can_0 (hT : um_tree N c m) (yes : um_fit m N 0 a1 → um_fit m N 0 a2 → um_fit m N 0 a3 → um_fit m N 0 a4 → Q true (um_J b m)) (no : ¬ (um_fit m N 0 a1 ∧ um_fit m N 0 a2 ∧ um_fit m N 0 a3 ∧ um_fit m N 0 a4) → Q false (um_J b m)) : wp_Mo_can (nI 0) a1 a2 a3 a4 (um_J b m) Q := by
  unfold wp_Mo_can
  exact um_yes rfl (yes trivial trivial trivial trivial)
theorem p_can_1 (hT : um_tree N c m) (yes : um_fit m N 1 a1 → um_fit m N 0 a2 → um_fit m N 0 a3 → um_fit m N 0 a4 → Q true (um_J b m)) (no : ¬ (um_fit m N 1 a1 ∧ um_fit m N 0 a2 ∧ um_fit m N 0 a3 ∧ um_fit m N 0 a4) → Q false (um_J b m)) : wp_Mo_can (nI 1) a1 a2 a3 a4 (um_J b m) Q := by
  unfold wp_Mo_can
  exact um_no (by decide) (um_yes rfl (p_MoisVar (fun g0 => yes g0 trivial trivial trivial) (fun g => no (fun z => g z.1))))
theorem p_can_2 (hT : um_tree N c m) (yes : um_fit m N 3 a1 → um_fit m N 3 a2 → um_fit m N 0 a3 → um_fit m N 0 a4 → Q true (um_J b m)) (no : ¬ (um_fit m N 3 a1 ∧ um_fit m N 3 a2 ∧ um_fit m N 0 a3 ∧ um_fit m N 0 a4) → Q false (um_J b m)) : wp_Mo_can (nI 2) a1 a2 a3 a4 (um_J b m) Q := by
  unfold wp_Mo_can
  exact um_no (by decide) (um_no (by decide) (um_yes rfl (p_MoisE hT (fun g0 => ⟨fun z => absurd z (by decide), fun _ => p_MoisE hT (fun g1 => ⟨fun z => absurd z (by decide), fun _ => yes g0 g1 trivial trivial⟩) (fun g => ⟨fun _ => no (fun z => g z.2.1), fun z => absurd z (by decide)⟩)⟩) (fun g => ⟨fun _ => no (fun z => g z.1), fun z => absurd z (by decide)⟩))))
theorem p_can_3 (hT : um_tree N c m) (yes : um_fit m N 3 a1 → um_fit m N 3 a2 → um_fit m N 0 a3 → um_fit m N 0 a4 → Q true (um_J b m)) (no : ¬ (um_fit m N 3 a1 ∧ um_fit m N 3 a2 ∧ um_fit m N 0 a3 ∧ um_fit m N 0 a4) → Q false (um_J b m)) : wp_Mo_can (nI 3) a1 a2 a3 a4 (um_J b m) Q := by
  unfold wp_Mo_can
  exact um_no (by decide) (um_no (by decide) (um_no (by decide) (um_yes rfl (p_MoisE hT (fun g0 => ⟨fun z => absurd z (by decide), fun _ => p_MoisE hT (fun g1 => ⟨fun z => absurd z (by decide), fun _ => yes g0 g1 trivial trivial⟩) (fun g => ⟨fun _ => no (fun z => g z.2.1), fun z => absurd z (by decide)⟩)⟩) (fun g => ⟨fun _ => no (fun z => g z.1), fun z => absurd z (by decide)⟩)))))
theorem p_can_4 (hT : um_tree N c m) (yes : um_fit m N 3 a1 → um_fit m N 3 a2 → um_fit m N 0 a3 → um_fit m N 0 a4 → Q true (um_J b m)) (no : ¬ (um_fit m N 3 a1 ∧ um_fit m N 3 a2 ∧ um_fit m N 0 a3 ∧ um_fit m N 0 a4) → Q false (um_J b m)) : wp_Mo_can (nI 4) a1 a2 a3 a4 (um_J b m) Q := by
  unfold wp_Mo_can
  exact um_no (by decide) (um_no (by decide) (um_no (by decide) (um_no (by decide) (um_yes rfl (p_MoisE hT (fun g0 => ⟨fun z => absurd z (by decide), fun _ => p_MoisE hT (fun g1 => ⟨fun z => absurd z (by decide), fun _ => yes g0 g1 trivial trivial⟩) (fun g => ⟨fun _ => no (fun z => g z.2.1), fun z => absurd z (by decide)⟩)⟩) (fun g => ⟨fun _ => no (fun z => g z.1), fun z => absurd z (by decide)⟩))))))
theorem p_can_5 (hT : um_tree N c m) (yes : um_fit m N 3 a1 → um_fit m N 3 a2 → um_fit m N 0 a3 → um_fit m N 0 a4 → Q true (um_J b m)) (no : ¬ (um_fit m N 3 a1 ∧ um_fit m N 3 a2 ∧ um_fit m N 0 a3 ∧ um_fit m N 0 a4) → Q false (um_J b m)) : wp_Mo_can (nI 5) a1 a2 a3 a4 (um_J b m) Q := by
  unfold wp_Mo_can
  exact um_no (by decide) (um_no (by decide) (um_no (by decide) (um_no (by decide) (um_no (by decide) (um_yes rfl (p_MoisE hT (fun g0 => ⟨fun z => absurd z (by decide), fun _ => p_MoisE hT (fun g1 => ⟨fun z => absurd z (by decide), fun _ => yes g0 g1 trivial trivial⟩) (fun g => ⟨fun _ => no (fun z => g z.2.1), fun z => absurd z (by decide)⟩)⟩) (fun g => ⟨fun _ => no (fun z => g z.1), fun z => absurd z (by decide)⟩)))))))
theorem p_can_6 (hT : um_tree N c m) (yes : um_fit m N 3 a1 → um_fit m N 3 a2 → um_fit m N 0 a3 → um_fit m N 0 a4 → Q true (um_J b m)) (no : ¬ (um_fit m N 3 a1 ∧ um_fit m N 3 a2 ∧ um_fit m N 0 a3 ∧ um_fit m N 0 a4) → Q false (um_J b m)) : wp_Mo_can (nI 6) a1 a2 a3 a4 (um_J b m) Q := by
  unfold wp_Mo_can
  exact um_no (by decide) (um_no (by decide) (um_no (by decide) (um_no (by decide) (um_no (by decide) (um_no (by decide) (um_yes rfl (p_MoisE hT (fun g0 => ⟨fun z => absurd z (by decide), fun _ => p_MoisE hT (fun g1 => ⟨fun z => absurd z (by decide), fun _ => yes g0 g1 trivial trivial⟩) (fun g => ⟨fun _ => no (fun z => g z.2.1), fun z => absurd z (by decide)⟩)⟩) (fun g => ⟨fun _ => no (fun z => g z.1), fun z => absurd z (by decide)⟩))))))))
theorem p_can_7 (hT : um_tree N c m) (yes : um_fit m N 3 a1 → um_fit m N 3 a2 → um_fit m N 0 a3 → um_fit m N 0 a4 → Q true (um_J b m)) (no : ¬ (um_fit m N 3 a1 ∧ um_fit m N 3 a2 ∧ um_fit m N 0 a3 ∧ um_fit m N 0 a4) → Q false (um_J b m)) : wp_Mo_can (nI 7) a1 a2 a3 a4 (um_J b m) Q := by
  unfold wp_Mo_can
  exact um_no (by decide) (um_no (by decide) (um_no (by decide) (um_no (by decide) (um_no (by decide) (um_no (by decide) (um_no (by decide) (um_yes rfl (p_MoisE hT (fun g0 => ⟨fun z => absurd z (by decide), fun _ => p_MoisE hT (fun g1 => ⟨fun z => absurd z (by decide), fun _ => yes g0 g1 trivial trivial⟩) (fun g => ⟨fun _ => no (fun z => g z.2.1), fun z => absurd z (by decide)⟩)⟩) (fun g => ⟨fun _ => no (fun z => g z.1), fun z => absurd z (by decide)⟩)))))))))
theorem p_can_8 (hT : um_tree N c m) (yes : um_fit m N 0 a1 → um_fit m N 0 a2 → um_fit m N 0 a3 → um_fit m N 0 a4 → Q true (um_J b m)) (no : ¬ (um_fit m N 0 a1 ∧ um_fit m N 0 a2 ∧ um_fit m N 0 a3 ∧ um_fit m N 0 a4) → Q false (um_J b m)) : wp_Mo_can (nI 8) a1 a2 a3 a4 (um_J b m) Q := by
  unfold wp_Mo_can
  exact um_no (by decide) (um_no (by decide) (um_no (by decide) (um_no (by decide) (um_no (by decide) (um_no (by decide) (um_no (by decide) (um_no (by decide) (um_yes rfl (yes trivial trivial trivial trivial)))))))))
theorem p_can_9 (hT : um_tree N c m) (yes : um_fit m N 1 a1 → um_fit m N 3 a2 → um_fit m N 0 a3 → um_fit m N 0 a4 → Q true (um_J b m)) (no : ¬ (um_fit m N 1 a1 ∧ um_fit m N 3 a2 ∧ um_fit m N 0 a3 ∧ um_fit m N 0 a4) → Q false (um_J b m)) : wp_Mo_can (nI 9) a1 a2 a3 a4 (um_J b m) Q := by
  unfold wp_Mo_can
  exact um_no (by decide) (um_no (by decide) (um_no (by decide) (um_no (by decide) (um_no (by decide) (um_no (by decide) (um_no (by decide) (um_no (by decide) (um_no (by decide) (um_yes rfl (p_MoisVar (fun g0 => ⟨fun z => absurd z (by decide), fun _ => p_MoisE hT (fun g1 => ⟨fun z => absurd z (by decide), fun _ => yes g0 g1 trivial trivial⟩) (fun g => ⟨fun _ => no (fun z => g z.2.1), fun z => absurd z (by decide)⟩)⟩) (fun g => ⟨fun _ => no (fun z => g z.1), fun z => absurd z (by decide)⟩)))))))))))
theorem p_can_10 (hT : um_tree N c m) (yes : um_fit m N 3 a1 → um_fit m N 0 a2 → um_fit m N 0 a3 → um_fit m N 0 a4 → Q true (um_J b m)) (no : ¬ (um_fit m N 3 a1 ∧ um_fit m N 0 a2 ∧ um_fit m N 0 a3 ∧ um_fit m N 0 a4) → Q false (um_J b m)) : wp_Mo_can (nI 10) a1 a2 a3 a4 (um_J b m) Q := by
  unfold wp_Mo_can
  exact um_no (by decide) (um_no (by decide) (um_no (by decide) (um_no (by decide) (um_no (by decide) (um_no (by decide) (um_no (by decide) (um_no (by decide) (um_no (by decide) (um_no (by decide) (um_yes rfl (p_MoisE hT (fun g0 => yes g0 trivial trivial trivial) (fun g => no (fun z => g z.1)))))))))))))
theorem p_can_11 (hT : um_tree N c m) (yes : um_fit m N 4 a1 → um_fit m N 4 a2 → um_fit m N 0 a3 → um_fit m N 0 a4 → Q true (um_J b m)) (no : ¬ (um_fit m N 4 a1 ∧ um_fit m N 4 a2 ∧ um_fit m N 0 a3 ∧ um_fit m N 0 a4) → Q false (um_J b m)) : wp_Mo_can (nI 11) a1 a2 a3 a4 (um_J b m) Q := by
  unfold wp_Mo_can
  exact um_no (by decide) (um_no (by decide) (um_no (by decide) (um_no (by decide) (um_no (by decide) (um_no (by decide) (um_no (by decide) (um_no (by decide) (um_no (by decide) (um_no (by decide) (um_no (by decide) (um_yes rfl (p_MoisS hT (fun g0 => ⟨fun z => absurd z (by decide), fun _ => p_MoisS hT (fun g1 => ⟨fun z => absurd z (by decide), fun _ => yes g0 g1 trivial trivial⟩) (fun g => ⟨fun _ => no (fun z => g z.2.1), fun z => absurd z (by decide)⟩)⟩) (fun g => ⟨fun _ => no (fun z => g z.1), fun z => absurd z (by decide)⟩)))))))))))))
theorem p_can_12 (hT : um_tree N c m) (yes : um_fit m N 3 a1 → um_fit m N 4 a2 → um_fit m N 4 a3 → um_fit m N 0 a4 → Q true (um_J b m)) (no : ¬ (um_fit m N 3 a1 ∧ um_fit m N 4 a2 ∧ um_fit m N 4 a3 ∧ um_fit m N 0 a4) → Q false (um_J b m)) : wp_Mo_can (nI 12) a1 a2 a3 a4 (um_J b m) Q := by
  unfold wp_Mo_can
  exact um_no (by decide) (um_no (by decide) (um_no (by decide) (um_no (by decide) (um_no (by decide) (um_no (by decide) (um_no (by decide) (um_no (by decide) (um_no (by decide) (um_no (by decide) (um_no (by decide) (um_no (by decide) (um_yes rfl (p_MoisE hT (fun g0 => ⟨fun z => absurd z (by decide), fun _ => p_MoisS hT (fun g1 => ⟨fun z => absurd z (by decide), fun _ => p_MoisS hT (fun g2 => ⟨fun z => absurd z (by decide), fun _ => yes g0 g1 g2 trivial⟩) (fun g => ⟨fun _ => no (fun z => g z.2.2.1), fun z => absurd z (by decide)⟩)⟩) (fun g => ⟨fun _ => no (fun z => g z.2.1), fun z => absurd z (by decide)⟩)⟩) (fun g => ⟨fun _ => no (fun z => g z.1), fun z => absurd z (by decide)⟩))))))))))))))
theorem p_can_13 (hT : um_tree N c m) (yes : um_fit m N 3 a1 → um_fit m N 4 a2 → um_fit m N 0 a3 → um_fit m N 0 a4 → Q true (um_J b m)) (no : ¬ (um_fit m N 3 a1 ∧ um_fit m N 4 a2 ∧ um_fit m N 0 a3 ∧ um_fit m N 0 a4) → Q false (um_J b m)) : wp_Mo_can (nI 13) a1 a2 a3 a4 (um_J b m) Q := by
  unfold wp_Mo_can
  exact um_no (by decide) (um_no (by decide) (um_no (by decide) (um_no (by decide) (um_no (by decide) (um_no (by decide) (um_no (by decide) (um_no (by decide) (um_no (by decide) (um_no (by decide) (um_no (by decide) (um_no (by decide) (um_no (by decide) (um_yes rfl (p_MoisE hT (fun g0 => ⟨fun z => absurd z (by decide), fun _ => p_MoisS hT (fun g1 => ⟨fun z => absurd z (by decide), fun _ => yes g0 g1 trivial trivial⟩) (fun g => ⟨fun _ => no (fun z => g z.2.1), fun z => absurd z (by decide)⟩)⟩) (fun g => ⟨fun _ => no (fun z => g z.1), fun z => absurd z (by decide)⟩)))))))))))))))
theorem p_can_14 (hT : um_tree N c m) (yes : um_fit m N 3 a1 → um_fit m N 0 a2 → um_fit m N 0 a3 → um_fit m N 0 a4 → Q true (um_J b m)) (no : ¬ (um_fit m N 3 a1 ∧ um_fit m N 0 a2 ∧ um_fit m N 0 a3 ∧ um_fit m N 0 a4) → Q false (um_J b m)) : wp_Mo_can (nI 14) a1 a2 a3 a4 (um_J b m) Q := by
  unfold wp_Mo_can
  exact um_no (by decide) (um_no (by decide) (um_no (by decide) (um_no (by decide) (um_no (by decide) (um_no (by decide) (um_no (by decide) (um_no (by decide) (um_no (by decide) (um_no (by decide) (um_no (by decide) (um_no (by decide) (um_no (by decide) (um_no (by decide) (um_yes rfl (p_MoisE hT (fun g0 => yes g0 trivial trivial trivial) (fun g => no (fun z => g z.1)))))))))))))))))
theorem p_can_15 (hT : um_tree N c m) (yes : um_fit m N 2 a1 → um_fit m N 0 a2 → um_fit m N 0 a3 → um_fit m N 0 a4 → Q true (um_J b m)) (no : ¬ (um_fit m N 2 a1 ∧ um_fit m N 0 a2 ∧ um_fit m N 0 a3 ∧ um_fit m N 0 a4) → Q false (um_J b m)) : wp_Mo_can (nI 15) a1 a2 a3 a4 (um_J b m) Q := by
  unfold wp_Mo_can
  refine um_no (by decide) (um_no (by decide) (um_no (by decide) (um_no (by decide) (um_no (by decide) (um_no (by decide) (um_no (by decide) (um_no (by decide) (um_no (by decide) (um_no (by decide) (um_no (by decide) (um_no (by decide) (um_no (by decide) (um_no (by decide) (um_no (by decide) (um_yes rfl ?_)))))))))))))))
  rcases um_isF_in a1 with ⟨h, h1, h2⟩ | ⟨h, h1⟩
  · exact um_no h1 (um_no h2 (yes h trivial trivial trivial))
  · have hn := no (fun z => h z.1)
    exact ⟨fun _ => hn, fun z0 => ⟨fun _ => hn, fun z1 => (h1.elim (fun z => absurd z z0) (fun z => absurd z z1))⟩⟩
theorem p_can_16 (hT : um_tree N c m) (yes : um_fit m N 0 a1 → um_fit m N 0 a2 → um_fit m N 0 a3 → um_fit m N 0 a4 → Q true (um_J b m)) (no : ¬ (um_fit m N 0 a1 ∧ um_fit m N 0 a2 ∧ um_fit m N 0 a3 ∧ um_fit m N 0 a4) → Q false (um_J b m)) : wp_Mo_can (nI 16) a1 a2 a3 a4 (um_J b m) Q := by
  unfold wp_Mo_can
  exact um_no (by decide) (um_no (by decide) (um_no (by decide) (um_no (by decide) (um_no (by decide) (um_no (by decide) (um_no (by decide) (um_no (by decide) (um_no (by decide) (um_no (by decide) (um_no (by decide) (um_no (by decide) (um_no (by decide) (um_no (by decide) (um_no (by decide) (um_no (by decide) (um_yes rfl (yes trivial trivial trivial trivial)))))))))))))))))
theorem p_can_17 (hT : um_tree N c m) (yes : um_fit m N 0 a1 → um_fit m N 0 a2 → um_fit m N 0 a3 → um_fit m N 0 a4 → Q true (um_J b m)) (no : ¬ (um_fit m N 0 a1 ∧ um_fit m N 0 a2 ∧ um_fit m N 0 a3 ∧ um_fit m N 0 a4) → Q false (um_J b m)) : wp_Mo_can (nI 17) a1 a2 a3 a4 (um_J b m) Q := by
  unfold wp_Mo_can
  exact um_no (by decide) (um_no (by decide) (um_no (by decide) (um_no (by decide) (um_no (by decide) (um_no (by decide) (um_no (by decide) (um_no (by decide) (um_no (by decide) (um_no (by decide) (um_no (by decide) (um_no (by decide) (um_no (by decide) (um_no (by decide) (um_no (by decide) (um_no (by decide) (um_no (by decide) (um_yes rfl (yes trivial trivial trivial trivial))))))))))))))))))
theorem p_can_18 (hT : um_tree N c m) (yes : um_fit m N 4 a1 → um_fit m N 7 a2 → um_fit m N 6 a3 → um_fit m N 0 a4 → Q true (um_J b m)) (no : ¬ (um_fit m N 4 a1 ∧ um_fit m N 7 a2 ∧ um_fit m N 6 a3 ∧ um_fit m N 0 a4) → Q false (um_J b m)) : wp_Mo_can (nI 18) a1 a2 a3 a4 (um_J b m) Q := by
  unfold wp_Mo_can
  have k3 : ∀ g0 : um_fit m N 4 a1, ∀ g1 : um_fit m N 7 a2, wp_Mo_can_264 Q a3 (um_J b m) := by
    intro g0 g1
    unfold wp_Mo_can_264
    refine ⟨fun z => yes g0 g1 (Or.inl z) trivial, fun z0 => p_MoisS hT (fun g => ⟨fun z => absurd z (by decide), fun _ => yes g0 g1 (Or.inr g) trivial⟩) (fun g => ⟨fun _ => no (fun z => z.2.2.1.elim z0 g), fun z => absurd z (by decide)⟩)⟩
  refine um_no (by decide) (um_no (by decide) (um_no (by decide) (um_no (by decide) (um_no (by decide) (um_no (by decide) (um_no (by decide) (um_no (by decide) (um_no (by decide) (um_no (by decide) (um_no (by decide) (um_no (by decide) (um_no (by decide) (um_no (by decide) (um_no (by decide) (um_no (by decide) (um_no (by decide) (um_no (by decide) (um_yes rfl ?_))))))))))))))))))
  exact p_MoisS hT (fun g0 => ⟨fun z => absurd z (by decide), fun _ => ⟨fun z => k3 g0 (Or.inl z), fun z0 => p_MoisC hT (fun g => ⟨fun z => absurd z (by decide), fun _ => k3 g0 (Or.inr g)⟩) (fun g => ⟨fun _ => no (fun z => z.2.1.elim z0 g), fun z => absurd z (by decide)⟩)⟩⟩) (fun g => ⟨fun _ => no (fun z => g z.1), fun z => absurd z (by decide)⟩)
theorem p_can_19 (hT : um_tree N c m) (yes : um_fit m N 0 a1 → um_fit m N 0 a2 → um_fit m N 1 a3 → um_fit m N 4 a4 → Q true (um_J b m)) (no : ¬ (um_fit m N 0 a1 ∧ um_fit m N 0 a2 ∧ um_fit m N 1 a3 ∧ um_fit m N 4 a4) → Q false (um_J b m)) : wp_Mo_can (nI 19) a1 a2 a3 a4 (um_J b m) Q := by
  unfold wp_Mo_can
  exact um_no (by decide) (um_no (by decide) (um_no (by decide) (um_no (by decide) (um_no (by decide) (um_no (by decide) (um_no (by decide) (um_no (by decide) (um_no (by decide) (um_no (by decide) (um_no (by decide) (um_no (by decide) (um_no (by decide) (um_no (by decide) (um_no (by decide) (um_no (by decide) (um_no (by decide) (um_no (by decide) (um_no (by decide) (um_yes rfl (p_MoisVar (fun g2 => ⟨fun z => absurd z (by decide), fun _ => p_MoisS hT (fun g3 => ⟨fun z => absurd z (by decide), fun _ => yes trivial trivial g2 g3⟩) (fun g => ⟨fun _ => no (fun z => g z.2.2.2), fun z => absurd z (by decide)⟩)⟩) (fun g => ⟨fun _ => no (fun z => g z.2.2.1), fun z => absurd z (by decide)⟩)))))))))))))))))))))
theorem p_can_no {w : Int32} (h : ∀ k : Nat, k < 20 → ¬ w = nI k) (no : Q false (um_J b m)) : wp_Mo_can w a1 a2 a3 a4 (um_J b m) Q := by
  unfold wp_Mo_can
  exact um_no (h 0 (by omega)) (um_no (h 1 (by omega)) (um_no (h 2 (by omega)) (um_no (h 3 (by omega)) (um_no (h 4 (by omega)) (um_no (h 5 (by omega)) (um_no (h 6 (by omega)) (um_no (h 7 (by omega)) (um_no (h 8 (by omega)) (um_no (h 9 (by omega)) (um_no (h 10 (by omega)) (um_no (h 11 (by omega)) (um_no (h 12 (by omega)) (um_no (h 13 (by omega)) (um_no (h 14 (by omega)) (um_no (h 15 (by omega)) (um_no (h 16 (by omega)) (um_no (h 17 (by omega)) (um_no (h 18 (by omega)) (um_no (h 19 (by omega)) (no))))))))))))))))))))
end Can
section New
variable {N : Nat} {c m : um_S} {a1 a2 a3 a4 a5 : Int32}
theorem um_addM_k {w : Int32} : ∀ j, j < N → um_addM m N w a1 a2 a3 a4 39 j = m 39 j := by
  intro j hj
  have : ¬ j = N := by omega
  simp [um_addM, um_up, this]
theorem um_addM_old {w : Int32} {q : Nat} (hq : 39 ≤ q ∧ q ≤ 45) : ∀ j, j < N → um_addM m N w a1 a2 a3 a4 q j = m q j := by
  intro j hj
  unfold um_addM
  rw [um_up_ne (by omega), um_up_ne (by omega), um_up_ne (by omega), um_up_ne (by omega), um_up_ne (by omega), um_up_ne (by omega)]
theorem um_tree_add {w : Nat} (hT : um_tree N c m) (hN : N < 150) (he : (w = 20 → m 44 N = a5) ∧ (¬ w = 20 → a5 = -1)) (hw : w ≤ 20) (hn : um_node (um_addM m N (nI w) a1 a2 a3 a4) N) : um_tree (N + 1) (um_addC c N (nI w) a1 a2 a3 a4 a5) (um_addM m N (nI w) a1 a2 a3 a4) := by
  obtain ⟨h1, h2, h3, h4, h5⟩ := hT
  have hk := um_addM_k (m := m) (N := N) (w := nI w) (a1 := a1) (a2 := a2) (a3 := a3) (a4 := a4)
  refine ⟨⟨by omega, by simpa [um_addC, um_up] using h1.2.1, by simpa [um_addC, um_up] using h1.2.2.1, by simpa [um_addC, um_up] using h1.2.2.2⟩, by simp [um_addC, um_up], by simp [um_addM, um_up], fun k hk1 => ?_, fun f hf => ?_⟩
  · by_cases hz : k = N
    · subst hz
      refine ⟨by simp [um_addC, um_addM, um_up], by simp [um_addC, um_addM, um_up], by simp [um_addC, um_addM, um_up], by simp [um_addC, um_addM, um_up], by simp [um_addC, um_addM, um_up], fun z => ?_, fun z => ?_, hn⟩
      · have z2 : nI w = 20 := by simpa [um_addM, um_up] using z
        have z3 : w = 20 := (nI_eq (a := w) (b := 20) (by omega) (by decide)).mp z2
        have := he.1 z3
        simp [um_addC, um_addM, um_up, this]
      · have z3 : ¬ w = 20 := fun y => z (by rw [y]; simp [um_addM, um_up]; rfl)
        have := he.2 z3
        simp [um_addC, um_up, this]
    · have hk2 : k < N := by omega
      obtain ⟨b1, b2, b3, b4, b5, b6, b7, b8⟩ := h4 k hk2
      have o : ∀ q, 39 ≤ q ∧ q ≤ 45 → um_addM m N (nI w) a1 a2 a3 a4 q k = m q k := fun q hq => um_addM_old hq k hk2
      have oc : ∀ i, i < 5 → um_addC c N (nI w) a1 a2 a3 a4 a5 9 (k * 5 + i) = c 9 (k * 5 + i) := by
        intro i hi
        unfold um_addC
        rw [um_up_ne (by omega), um_up_ne (by omega), um_up_ne (by omega), um_up_ne (by omega), um_up_ne (by omega), um_up_ne (by omega), um_up_ne (by omega)]
      have ok : um_addC c N (nI w) a1 a2 a3 a4 a5 8 k = c 8 k := by
        unfold um_addC
        rw [um_up_ne (by omega), um_up_ne (by omega), um_up_ne (by omega), um_up_ne (by omega), um_up_ne (by omega), um_up_ne (by omega), um_up_ne (by omega)]
      refine ⟨by rw [ok, o _ (by omega)]; exact b1, by rw [o _ (by omega)]; exact (oc 0 (by omega)).trans b2, by rw [o _ (by omega), oc 1 (by omega)]; exact b3, by rw [o _ (by omega), oc 2 (by omega)]; exact b4, by rw [o _ (by omega), oc 3 (by omega)]; exact b5, ?_, ?_, ?_⟩
      · rw [o _ (by omega), o _ (by omega), oc 4 (by omega)]; exact b6
      · rw [o _ (by omega), oc 4 (by omega)]; exact b7
      · exact um_node_ext b8 (fun j hj => um_addM_old (by omega) j (by omega)) (o _ (by omega)) (o _ (by omega)) (o _ (by omega)) (o _ (by omega)) (o _ (by omega))
  · have ob : um_addC c N (nI w) a1 a2 a3 a4 a5 10 = c 10 := by
      unfold um_addC
      rw [um_up_q (by decide), um_up_q (by decide), um_up_q (by decide), um_up_q (by decide), um_up_q (by decide), um_up_q (by decide), um_up_q (by decide)]
    have om : um_addM m N (nI w) a1 a2 a3 a4 45 = m 45 := by
      unfold um_addM
      rw [um_up_q (by decide), um_up_q (by decide), um_up_q (by decide), um_up_q (by decide), um_up_q (by decide), um_up_q (by decide)]
    rw [ob, om]
    exact ⟨(h5 f hf).1, (h5 f hf).2.imp id (fun z => um_isS_ext z hk (by omega))⟩
theorem um_new_0  : um_node (um_addM m N (nI 0) a1 a2 a3 a4) N := by
  have hk := um_addM_k (m := m) (N := N) (w := nI 0) (a1 := a1) (a2 := a2) (a3 := a3) (a4 := a4)
  refine ⟨0, by omega, by simp [um_addM, um_up], ?_⟩
  have eA : um_addM m N (nI 0) a1 a2 a3 a4 40 N = a1 := by simp [um_addM, um_up]
  have eB : um_addM m N (nI 0) a1 a2 a3 a4 41 N = a2 := by simp [um_addM, um_up]
  have eC : um_addM m N (nI 0) a1 a2 a3 a4 42 N = a3 := by simp [um_addM, um_up]
  have eD : um_addM m N (nI 0) a1 a2 a3 a4 43 N = a4 := by simp [um_addM, um_up]
  have eE : um_addM m N (nI 0) a1 a2 a3 a4 44 N = m 44 N := by simp [um_addM, um_up]
  rw [eA, eB, eC, eD, eE]
  exact ⟨fun h => absurd h (by omega), fun h => absurd h (by omega), fun h => absurd h (by omega), fun h => absurd h (by omega), fun h => absurd h (by omega), fun h => absurd h (by omega), fun h => absurd h (by omega), fun h => absurd h (by omega), fun h => absurd h (by omega), fun h => absurd h (by omega), fun h => absurd h (by omega)⟩
theorem um_new_1 (g0 : um_fit m N 1 a1) : um_node (um_addM m N (nI 1) a1 a2 a3 a4) N := by
  have hk := um_addM_k (m := m) (N := N) (w := nI 1) (a1 := a1) (a2 := a2) (a3 := a3) (a4 := a4)
  refine ⟨1, by omega, by simp [um_addM, um_up], ?_⟩
  have eA : um_addM m N (nI 1) a1 a2 a3 a4 40 N = a1 := by simp [um_addM, um_up]
  have eB : um_addM m N (nI 1) a1 a2 a3 a4 41 N = a2 := by simp [um_addM, um_up]
  have eC : um_addM m N (nI 1) a1 a2 a3 a4 42 N = a3 := by simp [um_addM, um_up]
  have eD : um_addM m N (nI 1) a1 a2 a3 a4 43 N = a4 := by simp [um_addM, um_up]
  have eE : um_addM m N (nI 1) a1 a2 a3 a4 44 N = m 44 N := by simp [um_addM, um_up]
  rw [eA, eB, eC, eD, eE]
  exact ⟨fun _ => g0, fun h => absurd h (by omega), fun h => absurd h (by omega), fun h => absurd h (by omega), fun h => absurd h (by omega), fun h => absurd h (by omega), fun h => absurd h (by omega), fun h => absurd h (by omega), fun h => absurd h (by omega), fun h => absurd h (by omega), fun h => absurd h (by omega)⟩
theorem um_new_2 (g0 : um_fit m N 3 a1) (g1 : um_fit m N 3 a2) : um_node (um_addM m N (nI 2) a1 a2 a3 a4) N := by
  have hk := um_addM_k (m := m) (N := N) (w := nI 2) (a1 := a1) (a2 := a2) (a3 := a3) (a4 := a4)
  refine ⟨2, by omega, by simp [um_addM, um_up], ?_⟩
  have eA : um_addM m N (nI 2) a1 a2 a3 a4 40 N = a1 := by simp [um_addM, um_up]
  have eB : um_addM m N (nI 2) a1 a2 a3 a4 41 N = a2 := by simp [um_addM, um_up]
  have eC : um_addM m N (nI 2) a1 a2 a3 a4 42 N = a3 := by simp [um_addM, um_up]
  have eD : um_addM m N (nI 2) a1 a2 a3 a4 43 N = a4 := by simp [um_addM, um_up]
  have eE : um_addM m N (nI 2) a1 a2 a3 a4 44 N = m 44 N := by simp [um_addM, um_up]
  rw [eA, eB, eC, eD, eE]
  exact ⟨fun h => absurd h (by omega), fun _ _ => ⟨um_isE_ext g0 hk (by omega), um_isE_ext g1 hk (by omega)⟩, fun h => absurd h (by omega), fun h => absurd h (by omega), fun h => absurd h (by omega), fun h => absurd h (by omega), fun h => absurd h (by omega), fun h => absurd h (by omega), fun h => absurd h (by omega), fun h => absurd h (by omega), fun h => absurd h (by omega)⟩
theorem um_new_3 (g0 : um_fit m N 3 a1) (g1 : um_fit m N 3 a2) : um_node (um_addM m N (nI 3) a1 a2 a3 a4) N := by
  have hk := um_addM_k (m := m) (N := N) (w := nI 3) (a1 := a1) (a2 := a2) (a3 := a3) (a4 := a4)
  refine ⟨3, by omega, by simp [um_addM, um_up], ?_⟩
  have eA : um_addM m N (nI 3) a1 a2 a3 a4 40 N = a1 := by simp [um_addM, um_up]
  have eB : um_addM m N (nI 3) a1 a2 a3 a4 41 N = a2 := by simp [um_addM, um_up]
  have eC : um_addM m N (nI 3) a1 a2 a3 a4 42 N = a3 := by simp [um_addM, um_up]
  have eD : um_addM m N (nI 3) a1 a2 a3 a4 43 N = a4 := by simp [um_addM, um_up]
  have eE : um_addM m N (nI 3) a1 a2 a3 a4 44 N = m 44 N := by simp [um_addM, um_up]
  rw [eA, eB, eC, eD, eE]
  exact ⟨fun h => absurd h (by omega), fun _ _ => ⟨um_isE_ext g0 hk (by omega), um_isE_ext g1 hk (by omega)⟩, fun h => absurd h (by omega), fun h => absurd h (by omega), fun h => absurd h (by omega), fun h => absurd h (by omega), fun h => absurd h (by omega), fun h => absurd h (by omega), fun h => absurd h (by omega), fun h => absurd h (by omega), fun h => absurd h (by omega)⟩
theorem um_new_4 (g0 : um_fit m N 3 a1) (g1 : um_fit m N 3 a2) : um_node (um_addM m N (nI 4) a1 a2 a3 a4) N := by
  have hk := um_addM_k (m := m) (N := N) (w := nI 4) (a1 := a1) (a2 := a2) (a3 := a3) (a4 := a4)
  refine ⟨4, by omega, by simp [um_addM, um_up], ?_⟩
  have eA : um_addM m N (nI 4) a1 a2 a3 a4 40 N = a1 := by simp [um_addM, um_up]
  have eB : um_addM m N (nI 4) a1 a2 a3 a4 41 N = a2 := by simp [um_addM, um_up]
  have eC : um_addM m N (nI 4) a1 a2 a3 a4 42 N = a3 := by simp [um_addM, um_up]
  have eD : um_addM m N (nI 4) a1 a2 a3 a4 43 N = a4 := by simp [um_addM, um_up]
  have eE : um_addM m N (nI 4) a1 a2 a3 a4 44 N = m 44 N := by simp [um_addM, um_up]
  rw [eA, eB, eC, eD, eE]
  exact ⟨fun h => absurd h (by omega), fun _ _ => ⟨um_isE_ext g0 hk (by omega), um_isE_ext g1 hk (by omega)⟩, fun h => absurd h (by omega), fun h => absurd h (by omega), fun h => absurd h (by omega), fun h => absurd h (by omega), fun h => absurd h (by omega), fun h => absurd h (by omega), fun h => absurd h (by omega), fun h => absurd h (by omega), fun h => absurd h (by omega)⟩
theorem um_new_5 (g0 : um_fit m N 3 a1) (g1 : um_fit m N 3 a2) : um_node (um_addM m N (nI 5) a1 a2 a3 a4) N := by
  have hk := um_addM_k (m := m) (N := N) (w := nI 5) (a1 := a1) (a2 := a2) (a3 := a3) (a4 := a4)
  refine ⟨5, by omega, by simp [um_addM, um_up], ?_⟩
  have eA : um_addM m N (nI 5) a1 a2 a3 a4 40 N = a1 := by simp [um_addM, um_up]
  have eB : um_addM m N (nI 5) a1 a2 a3 a4 41 N = a2 := by simp [um_addM, um_up]
  have eC : um_addM m N (nI 5) a1 a2 a3 a4 42 N = a3 := by simp [um_addM, um_up]
  have eD : um_addM m N (nI 5) a1 a2 a3 a4 43 N = a4 := by simp [um_addM, um_up]
  have eE : um_addM m N (nI 5) a1 a2 a3 a4 44 N = m 44 N := by simp [um_addM, um_up]
  rw [eA, eB, eC, eD, eE]
  exact ⟨fun h => absurd h (by omega), fun _ _ => ⟨um_isE_ext g0 hk (by omega), um_isE_ext g1 hk (by omega)⟩, fun h => absurd h (by omega), fun h => absurd h (by omega), fun h => absurd h (by omega), fun h => absurd h (by omega), fun h => absurd h (by omega), fun h => absurd h (by omega), fun h => absurd h (by omega), fun h => absurd h (by omega), fun h => absurd h (by omega)⟩
theorem um_new_6 (g0 : um_fit m N 3 a1) (g1 : um_fit m N 3 a2) : um_node (um_addM m N (nI 6) a1 a2 a3 a4) N := by
  have hk := um_addM_k (m := m) (N := N) (w := nI 6) (a1 := a1) (a2 := a2) (a3 := a3) (a4 := a4)
  refine ⟨6, by omega, by simp [um_addM, um_up], ?_⟩
  have eA : um_addM m N (nI 6) a1 a2 a3 a4 40 N = a1 := by simp [um_addM, um_up]
  have eB : um_addM m N (nI 6) a1 a2 a3 a4 41 N = a2 := by simp [um_addM, um_up]
  have eC : um_addM m N (nI 6) a1 a2 a3 a4 42 N = a3 := by simp [um_addM, um_up]
  have eD : um_addM m N (nI 6) a1 a2 a3 a4 43 N = a4 := by simp [um_addM, um_up]
  have eE : um_addM m N (nI 6) a1 a2 a3 a4 44 N = m 44 N := by simp [um_addM, um_up]
  rw [eA, eB, eC, eD, eE]
  exact ⟨fun h => absurd h (by omega), fun _ _ => ⟨um_isE_ext g0 hk (by omega), um_isE_ext g1 hk (by omega)⟩, fun h => absurd h (by omega), fun h => absurd h (by omega), fun h => absurd h (by omega), fun h => absurd h (by omega), fun h => absurd h (by omega), fun h => absurd h (by omega), fun h => absurd h (by omega), fun h => absurd h (by omega), fun h => absurd h (by omega)⟩
theorem um_new_7 (g0 : um_fit m N 3 a1) (g1 : um_fit m N 3 a2) : um_node (um_addM m N (nI 7) a1 a2 a3 a4) N := by
  have hk := um_addM_k (m := m) (N := N) (w := nI 7) (a1 := a1) (a2 := a2) (a3 := a3) (a4 := a4)
  refine ⟨7, by omega, by simp [um_addM, um_up], ?_⟩
  have eA : um_addM m N (nI 7) a1 a2 a3 a4 40 N = a1 := by simp [um_addM, um_up]
  have eB : um_addM m N (nI 7) a1 a2 a3 a4 41 N = a2 := by simp [um_addM, um_up]
  have eC : um_addM m N (nI 7) a1 a2 a3 a4 42 N = a3 := by simp [um_addM, um_up]
  have eD : um_addM m N (nI 7) a1 a2 a3 a4 43 N = a4 := by simp [um_addM, um_up]
  have eE : um_addM m N (nI 7) a1 a2 a3 a4 44 N = m 44 N := by simp [um_addM, um_up]
  rw [eA, eB, eC, eD, eE]
  exact ⟨fun h => absurd h (by omega), fun _ _ => ⟨um_isE_ext g0 hk (by omega), um_isE_ext g1 hk (by omega)⟩, fun h => absurd h (by omega), fun h => absurd h (by omega), fun h => absurd h (by omega), fun h => absurd h (by omega), fun h => absurd h (by omega), fun h => absurd h (by omega), fun h => absurd h (by omega), fun h => absurd h (by omega), fun h => absurd h (by omega)⟩
theorem um_new_8  : um_node (um_addM m N (nI 8) a1 a2 a3 a4) N := by
  have hk := um_addM_k (m := m) (N := N) (w := nI 8) (a1 := a1) (a2 := a2) (a3 := a3) (a4 := a4)
  refine ⟨8, by omega, by simp [um_addM, um_up], ?_⟩
  have eA : um_addM m N (nI 8) a1 a2 a3 a4 40 N = a1 := by simp [um_addM, um_up]
  have eB : um_addM m N (nI 8) a1 a2 a3 a4 41 N = a2 := by simp [um_addM, um_up]
  have eC : um_addM m N (nI 8) a1 a2 a3 a4 42 N = a3 := by simp [um_addM, um_up]
  have eD : um_addM m N (nI 8) a1 a2 a3 a4 43 N = a4 := by simp [um_addM, um_up]
  have eE : um_addM m N (nI 8) a1 a2 a3 a4 44 N = m 44 N := by simp [um_addM, um_up]
  rw [eA, eB, eC, eD, eE]
  exact ⟨fun h => absurd h (by omega), fun _ h => absurd h (by omega), fun h => absurd h (by omega), fun h => absurd h (by omega), fun h => absurd h (by omega), fun h => absurd h (by omega), fun h => absurd h (by omega), fun h => absurd h (by omega), fun h => absurd h (by omega), fun h => absurd h (by omega), fun h => absurd h (by omega)⟩
theorem um_new_9 (g0 : um_fit m N 1 a1) (g1 : um_fit m N 3 a2) : um_node (um_addM m N (nI 9) a1 a2 a3 a4) N := by
  have hk := um_addM_k (m := m) (N := N) (w := nI 9) (a1 := a1) (a2 := a2) (a3 := a3) (a4 := a4)
  refine ⟨9, by omega, by simp [um_addM, um_up], ?_⟩
  have eA : um_addM m N (nI 9) a1 a2 a3 a4 40 N = a1 := by simp [um_addM, um_up]
  have eB : um_addM m N (nI 9) a1 a2 a3 a4 41 N = a2 := by simp [um_addM, um_up]
  have eC : um_addM m N (nI 9) a1 a2 a3 a4 42 N = a3 := by simp [um_addM, um_up]
  have eD : um_addM m N (nI 9) a1 a2 a3 a4 43 N = a4 := by simp [um_addM, um_up]
  have eE : um_addM m N (nI 9) a1 a2 a3 a4 44 N = m 44 N := by simp [um_addM, um_up]
  rw [eA, eB, eC, eD, eE]
  exact ⟨fun h => absurd h (by omega), fun _ h => absurd h (by omega), fun _ => ⟨g0, um_isE_ext g1 hk (by omega)⟩, fun h => absurd h (by omega), fun h => absurd h (by omega), fun h => absurd h (by omega), fun h => absurd h (by omega), fun h => absurd h (by omega), fun h => absurd h (by omega), fun h => absurd h (by omega), fun h => absurd h (by omega)⟩
theorem um_new_10 (g0 : um_fit m N 3 a1) : um_node (um_addM m N (nI 10) a1 a2 a3 a4) N := by
  have hk := um_addM_k (m := m) (N := N) (w := nI 10) (a1 := a1) (a2 := a2) (a3 := a3) (a4 := a4)
  refine ⟨10, by omega, by simp [um_addM, um_up], ?_⟩
  have eA : um_addM m N (nI 10) a1 a2 a3 a4 40 N = a1 := by simp [um_addM, um_up]
  have eB : um_addM m N (nI 10) a1 a2 a3 a4 41 N = a2 := by simp [um_addM, um_up]
  have eC : um_addM m N (nI 10) a1 a2 a3 a4 42 N = a3 := by simp [um_addM, um_up]
  have eD : um_addM m N (nI 10) a1 a2 a3 a4 43 N = a4 := by simp [um_addM, um_up]
  have eE : um_addM m N (nI 10) a1 a2 a3 a4 44 N = m 44 N := by simp [um_addM, um_up]
  rw [eA, eB, eC, eD, eE]
  exact ⟨fun h => absurd h (by omega), fun _ h => absurd h (by omega), fun h => absurd h (by omega), fun _ => um_isE_ext g0 hk (by omega), fun h => absurd h (by omega), fun h => absurd h (by omega), fun h => absurd h (by omega), fun h => absurd h (by omega), fun h => absurd h (by omega), fun h => absurd h (by omega), fun h => absurd h (by omega)⟩
theorem um_new_11 (g0 : um_fit m N 4 a1) (g1 : um_fit m N 4 a2) : um_node (um_addM m N (nI 11) a1 a2 a3 a4) N := by
  have hk := um_addM_k (m := m) (N := N) (w := nI 11) (a1 := a1) (a2 := a2) (a3 := a3) (a4 := a4)
  refine ⟨11, by omega, by simp [um_addM, um_up], ?_⟩
  have eA : um_addM m N (nI 11) a1 a2 a3 a4 40 N = a1 := by simp [um_addM, um_up]
  have eB : um_addM m N (nI 11) a1 a2 a3 a4 41 N = a2 := by simp [um_addM, um_up]
  have eC : um_addM m N (nI 11) a1 a2 a3 a4 42 N = a3 := by simp [um_addM, um_up]
  have eD : um_addM m N (nI 11) a1 a2 a3 a4 43 N = a4 := by simp [um_addM, um_up]
  have eE : um_addM m N (nI 11) a1 a2 a3 a4 44 N = m 44 N := by simp [um_addM, um_up]
  rw [eA, eB, eC, eD, eE]
  exact ⟨fun h => absurd h (by omega), fun _ h => absurd h (by omega), fun h => absurd h (by omega), fun h => absurd h (by omega), fun _ => ⟨um_isS_ext g0 hk (by omega), um_isS_ext g1 hk (by omega)⟩, fun h => absurd h (by omega), fun h => absurd h (by omega), fun h => absurd h (by omega), fun h => absurd h (by omega), fun h => absurd h (by omega), fun h => absurd h (by omega)⟩
theorem um_new_12 (g0 : um_fit m N 3 a1) (g1 : um_fit m N 4 a2) (g2 : um_fit m N 4 a3) : um_node (um_addM m N (nI 12) a1 a2 a3 a4) N := by
  have hk := um_addM_k (m := m) (N := N) (w := nI 12) (a1 := a1) (a2 := a2) (a3 := a3) (a4 := a4)
  refine ⟨12, by omega, by simp [um_addM, um_up], ?_⟩
  have eA : um_addM m N (nI 12) a1 a2 a3 a4 40 N = a1 := by simp [um_addM, um_up]
  have eB : um_addM m N (nI 12) a1 a2 a3 a4 41 N = a2 := by simp [um_addM, um_up]
  have eC : um_addM m N (nI 12) a1 a2 a3 a4 42 N = a3 := by simp [um_addM, um_up]
  have eD : um_addM m N (nI 12) a1 a2 a3 a4 43 N = a4 := by simp [um_addM, um_up]
  have eE : um_addM m N (nI 12) a1 a2 a3 a4 44 N = m 44 N := by simp [um_addM, um_up]
  rw [eA, eB, eC, eD, eE]
  exact ⟨fun h => absurd h (by omega), fun _ h => absurd h (by omega), fun h => absurd h (by omega), fun h => absurd h (by omega), fun h => absurd h (by omega), fun _ => ⟨um_isE_ext g0 hk (by omega), um_isS_ext g1 hk (by omega), um_isS_ext g2 hk (by omega)⟩, fun h => absurd h (by omega), fun h => absurd h (by omega), fun h => absurd h (by omega), fun h => absurd h (by omega), fun h => absurd h (by omega)⟩
theorem um_new_13 (g0 : um_fit m N 3 a1) (g1 : um_fit m N 4 a2) : um_node (um_addM m N (nI 13) a1 a2 a3 a4) N := by
  have hk := um_addM_k (m := m) (N := N) (w := nI 13) (a1 := a1) (a2 := a2) (a3 := a3) (a4 := a4)
  refine ⟨13, by omega, by simp [um_addM, um_up], ?_⟩
  have eA : um_addM m N (nI 13) a1 a2 a3 a4 40 N = a1 := by simp [um_addM, um_up]
  have eB : um_addM m N (nI 13) a1 a2 a3 a4 41 N = a2 := by simp [um_addM, um_up]
  have eC : um_addM m N (nI 13) a1 a2 a3 a4 42 N = a3 := by simp [um_addM, um_up]
  have eD : um_addM m N (nI 13) a1 a2 a3 a4 43 N = a4 := by simp [um_addM, um_up]
  have eE : um_addM m N (nI 13) a1 a2 a3 a4 44 N = m 44 N := by simp [um_addM, um_up]
  rw [eA, eB, eC, eD, eE]
  exact ⟨fun h => absurd h (by omega), fun _ h => absurd h (by omega), fun h => absurd h (by omega), fun h => absurd h (by omega), fun h => absurd h (by omega), fun h => absurd h (by omega), fun _ => ⟨um_isE_ext g0 hk (by omega), um_isS_ext g1 hk (by omega)⟩, fun h => absurd h (by omega), fun h => absurd h (by omega), fun h => absurd h (by omega), fun h => absurd h (by omega)⟩
theorem um_new_14 (g0 : um_fit m N 3 a1) : um_node (um_addM m N (nI 14) a1 a2 a3 a4) N := by
  have hk := um_addM_k (m := m) (N := N) (w := nI 14) (a1 := a1) (a2 := a2) (a3 := a3) (a4 := a4)
  refine ⟨14, by omega, by simp [um_addM, um_up], ?_⟩
  have eA : um_addM m N (nI 14) a1 a2 a3 a4 40 N = a1 := by simp [um_addM, um_up]
  have eB : um_addM m N (nI 14) a1 a2 a3 a4 41 N = a2 := by simp [um_addM, um_up]
  have eC : um_addM m N (nI 14) a1 a2 a3 a4 42 N = a3 := by simp [um_addM, um_up]
  have eD : um_addM m N (nI 14) a1 a2 a3 a4 43 N = a4 := by simp [um_addM, um_up]
  have eE : um_addM m N (nI 14) a1 a2 a3 a4 44 N = m 44 N := by simp [um_addM, um_up]
  rw [eA, eB, eC, eD, eE]
  exact ⟨fun h => absurd h (by omega), fun _ h => absurd h (by omega), fun h => absurd h (by omega), fun _ => um_isE_ext g0 hk (by omega), fun h => absurd h (by omega), fun h => absurd h (by omega), fun h => absurd h (by omega), fun h => absurd h (by omega), fun h => absurd h (by omega), fun h => absurd h (by omega), fun h => absurd h (by omega)⟩
theorem um_new_15 (g0 : um_fit m N 2 a1) : um_node (um_addM m N (nI 15) a1 a2 a3 a4) N := by
  have hk := um_addM_k (m := m) (N := N) (w := nI 15) (a1 := a1) (a2 := a2) (a3 := a3) (a4 := a4)
  refine ⟨15, by omega, by simp [um_addM, um_up], ?_⟩
  have eA : um_addM m N (nI 15) a1 a2 a3 a4 40 N = a1 := by simp [um_addM, um_up]
  have eB : um_addM m N (nI 15) a1 a2 a3 a4 41 N = a2 := by simp [um_addM, um_up]
  have eC : um_addM m N (nI 15) a1 a2 a3 a4 42 N = a3 := by simp [um_addM, um_up]
  have eD : um_addM m N (nI 15) a1 a2 a3 a4 43 N = a4 := by simp [um_addM, um_up]
  have eE : um_addM m N (nI 15) a1 a2 a3 a4 44 N = m 44 N := by simp [um_addM, um_up]
  rw [eA, eB, eC, eD, eE]
  exact ⟨fun h => absurd h (by omega), fun _ h => absurd h (by omega), fun h => absurd h (by omega), fun h => absurd h (by omega), fun h => absurd h (by omega), fun h => absurd h (by omega), fun h => absurd h (by omega), fun _ => g0, fun h => absurd h (by omega), fun h => absurd h (by omega), fun h => absurd h (by omega)⟩
theorem um_new_16  : um_node (um_addM m N (nI 16) a1 a2 a3 a4) N := by
  have hk := um_addM_k (m := m) (N := N) (w := nI 16) (a1 := a1) (a2 := a2) (a3 := a3) (a4 := a4)
  refine ⟨16, by omega, by simp [um_addM, um_up], ?_⟩
  have eA : um_addM m N (nI 16) a1 a2 a3 a4 40 N = a1 := by simp [um_addM, um_up]
  have eB : um_addM m N (nI 16) a1 a2 a3 a4 41 N = a2 := by simp [um_addM, um_up]
  have eC : um_addM m N (nI 16) a1 a2 a3 a4 42 N = a3 := by simp [um_addM, um_up]
  have eD : um_addM m N (nI 16) a1 a2 a3 a4 43 N = a4 := by simp [um_addM, um_up]
  have eE : um_addM m N (nI 16) a1 a2 a3 a4 44 N = m 44 N := by simp [um_addM, um_up]
  rw [eA, eB, eC, eD, eE]
  exact ⟨fun h => absurd h (by omega), fun _ h => absurd h (by omega), fun h => absurd h (by omega), fun h => absurd h (by omega), fun h => absurd h (by omega), fun h => absurd h (by omega), fun h => absurd h (by omega), fun h => absurd h (by omega), fun h => absurd h (by omega), fun h => absurd h (by omega), fun h => absurd h (by omega)⟩
theorem um_new_17  : um_node (um_addM m N (nI 17) a1 a2 a3 a4) N := by
  have hk := um_addM_k (m := m) (N := N) (w := nI 17) (a1 := a1) (a2 := a2) (a3 := a3) (a4 := a4)
  refine ⟨17, by omega, by simp [um_addM, um_up], ?_⟩
  have eA : um_addM m N (nI 17) a1 a2 a3 a4 40 N = a1 := by simp [um_addM, um_up]
  have eB : um_addM m N (nI 17) a1 a2 a3 a4 41 N = a2 := by simp [um_addM, um_up]
  have eC : um_addM m N (nI 17) a1 a2 a3 a4 42 N = a3 := by simp [um_addM, um_up]
  have eD : um_addM m N (nI 17) a1 a2 a3 a4 43 N = a4 := by simp [um_addM, um_up]
  have eE : um_addM m N (nI 17) a1 a2 a3 a4 44 N = m 44 N := by simp [um_addM, um_up]
  rw [eA, eB, eC, eD, eE]
  exact ⟨fun h => absurd h (by omega), fun _ h => absurd h (by omega), fun h => absurd h (by omega), fun h => absurd h (by omega), fun h => absurd h (by omega), fun h => absurd h (by omega), fun h => absurd h (by omega), fun h => absurd h (by omega), fun h => absurd h (by omega), fun h => absurd h (by omega), fun h => absurd h (by omega)⟩
theorem um_new_18 (g0 : um_fit m N 4 a1) (g1 : um_fit m N 7 a2) (g2 : um_fit m N 6 a3) : um_node (um_addM m N (nI 18) a1 a2 a3 a4) N := by
  have hk := um_addM_k (m := m) (N := N) (w := nI 18) (a1 := a1) (a2 := a2) (a3 := a3) (a4 := a4)
  refine ⟨18, by omega, by simp [um_addM, um_up], ?_⟩
  have eA : um_addM m N (nI 18) a1 a2 a3 a4 40 N = a1 := by simp [um_addM, um_up]
  have eB : um_addM m N (nI 18) a1 a2 a3 a4 41 N = a2 := by simp [um_addM, um_up]
  have eC : um_addM m N (nI 18) a1 a2 a3 a4 42 N = a3 := by simp [um_addM, um_up]
  have eD : um_addM m N (nI 18) a1 a2 a3 a4 43 N = a4 := by simp [um_addM, um_up]
  have eE : um_addM m N (nI 18) a1 a2 a3 a4 44 N = m 44 N := by simp [um_addM, um_up]
  rw [eA, eB, eC, eD, eE]
  exact ⟨fun h => absurd h (by omega), fun _ h => absurd h (by omega), fun h => absurd h (by omega), fun h => absurd h (by omega), fun h => absurd h (by omega), fun h => absurd h (by omega), fun h => absurd h (by omega), fun h => absurd h (by omega), fun _ => ⟨um_isS_ext g0 hk (by omega), g1.imp id (fun z => um_isC_ext z hk (by omega)), g2.imp id (fun z => um_isS_ext z hk (by omega))⟩, fun h => absurd h (by omega), fun h => absurd h (by omega)⟩
theorem um_new_19 (g2 : um_fit m N 1 a3) (g3 : um_fit m N 4 a4) : um_node (um_addM m N (nI 19) a1 a2 a3 a4) N := by
  have hk := um_addM_k (m := m) (N := N) (w := nI 19) (a1 := a1) (a2 := a2) (a3 := a3) (a4 := a4)
  refine ⟨19, by omega, by simp [um_addM, um_up], ?_⟩
  have eA : um_addM m N (nI 19) a1 a2 a3 a4 40 N = a1 := by simp [um_addM, um_up]
  have eB : um_addM m N (nI 19) a1 a2 a3 a4 41 N = a2 := by simp [um_addM, um_up]
  have eC : um_addM m N (nI 19) a1 a2 a3 a4 42 N = a3 := by simp [um_addM, um_up]
  have eD : um_addM m N (nI 19) a1 a2 a3 a4 43 N = a4 := by simp [um_addM, um_up]
  have eE : um_addM m N (nI 19) a1 a2 a3 a4 44 N = m 44 N := by simp [um_addM, um_up]
  rw [eA, eB, eC, eD, eE]
  exact ⟨fun h => absurd h (by omega), fun _ h => absurd h (by omega), fun h => absurd h (by omega), fun h => absurd h (by omega), fun h => absurd h (by omega), fun h => absurd h (by omega), fun h => absurd h (by omega), fun h => absurd h (by omega), fun h => absurd h (by omega), fun _ => ⟨g2, um_isS_ext g3 hk (by omega)⟩, fun h => absurd h (by omega)⟩
theorem um_new_20 (g2 : um_fit m N 1 a3) (g3 : um_fit m N 4 a4) (g4 : um_fit m N 5 (m 44 N)) : um_node (um_addM m N (nI 20) a1 a2 a3 a4) N := by
  have hk := um_addM_k (m := m) (N := N) (w := nI 20) (a1 := a1) (a2 := a2) (a3 := a3) (a4 := a4)
  refine ⟨20, by omega, by simp [um_addM, um_up], ?_⟩
  have eA : um_addM m N (nI 20) a1 a2 a3 a4 40 N = a1 := by simp [um_addM, um_up]
  have eB : um_addM m N (nI 20) a1 a2 a3 a4 41 N = a2 := by simp [um_addM, um_up]
  have eC : um_addM m N (nI 20) a1 a2 a3 a4 42 N = a3 := by simp [um_addM, um_up]
  have eD : um_addM m N (nI 20) a1 a2 a3 a4 43 N = a4 := by simp [um_addM, um_up]
  have eE : um_addM m N (nI 20) a1 a2 a3 a4 44 N = m 44 N := by simp [um_addM, um_up]
  rw [eA, eB, eC, eD, eE]
  exact ⟨fun h => absurd h (by omega), fun _ h => absurd h (by omega), fun h => absurd h (by omega), fun h => absurd h (by omega), fun h => absurd h (by omega), fun h => absurd h (by omega), fun h => absurd h (by omega), fun h => absurd h (by omega), fun h => absurd h (by omega), fun _ => ⟨g2, um_isS_ext g3 hk (by omega)⟩, fun _ => um_isC_ext g4 hk (by omega)⟩
end New
