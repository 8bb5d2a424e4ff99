/-! fits, add, can -/
section Fits
variable {N : Nat} {c m b : um_S} {a : Int32}
theorem p_fits {Q : Bool → um_S → Prop} {s : Nat} (hT : um_tree N c m) (hs : s ≤ 7) (yes : um_fit m N s a → Q true (um_J c b)) (no : ¬ um_fit m N s a → Q false (um_J c b)) : wp_Tr_fits (nI s) a (um_J c b) Q := by
  have hN := hT.1.1
  have cls : ∀ j w, j < N → a = nI j → m 39 j = nI w → w ≤ 20 → ∀ j2 w2, j2 < N → a = nI j2 → m 39 j2 = nI w2 → w2 ≤ 20 → w2 = w := by
    intro j w h1 h2 h3 h4 j2 w2 g1 g2 g3 g4
    have : j = j2 := (nI_eq (by omega) (by omega)).mp (h2.symm.trans g2)
    subst this
    exact (nI_eq (by omega) (by omega)).mp (g3.symm.trans h3)
  have nm : ∀ j, j < N → a = nI j → ¬ a = -1 := fun j hj h z => um_nm1 (a := j) (by omega) (h.symm.trans z)
  unfold wp_Tr_fits
  refine p_kindOf hT ?_ ?_
  · intro j w hj ha hw hw2
    have cl := cls j w hj ha hw hw2
    have n1 := nm j hj ha
    have gE : (um_isE m N a ∧ w ≤ 7) ∨ (¬ um_isE m N a ∧ 7 < w) := by
      by_cases h : w ≤ 7
      · exact Or.inl ⟨⟨j, w, hj, ha, hw, h⟩, h⟩
      · refine Or.inr ⟨?_, by omega⟩
        rintro ⟨j2, w2, g1, g2, g3, g4⟩
        have := cl j2 w2 g1 g2 g3 (by omega)
        omega
    have gS : (um_isS m N a ∧ 8 ≤ w ∧ w ≤ 18) ∨ (¬ um_isS m N a ∧ (w < 8 ∨ 18 < w)) := by
      by_cases h : 8 ≤ w ∧ w ≤ 18
      · exact Or.inl ⟨⟨j, w, hj, ha, hw, h⟩, h⟩
      · refine Or.inr ⟨?_, by omega⟩
        rintro ⟨j2, w2, g1, g2, g3, g4⟩
        have := cl j2 w2 g1 g2 g3 (by omega)
        omega
    have gC : (um_isC m N a ∧ 19 ≤ w) ∨ (¬ um_isC m N a ∧ w < 19) := by
      by_cases h : 19 ≤ w
      · exact Or.inl ⟨⟨j, w, hj, ha, hw, h, hw2⟩, h⟩
      · refine Or.inr ⟨?_, by omega⟩
        rintro ⟨j2, w2, g1, g2, g3, g4⟩
        have := cl j2 w2 g1 g2 g3 (by omega)
        omega
    rcases (show s = 0 ∨ s = 1 ∨ s = 2 ∨ s = 3 ∨ s = 4 ∨ s = 5 ∨ s = 6 ∨ s = 7 by omega) with rfl | rfl | rfl | rfl | rfl | rfl | rfl | rfl
    · exact um_no (by decide) (um_no (by decide) (um_no (by decide) (um_no (by decide) (um_no (by decide) (um_no (by decide) (um_no (by decide) (yes trivial)))))))
    · exact um_yes rfl (p_isVar yes no)
    · exact um_no (by decide) (um_yes rfl (p_isFun yes no))
    · refine um_no (by decide) (um_no (by decide) (um_yes rfl (um_no (nI_pos (by omega)) ?_)))
      rcases gE with ⟨g, h⟩ | ⟨g, h⟩
      · exact um_no (nI_nlt (b := w) (a := 7) h (by decide)) (yes g)
      · exact um_yes (nI_lt (a := 7) (b := w) h (by omega)) (no g)
    · refine um_no (by decide) (um_no (by decide) (um_no (by decide) (um_yes rfl ?_)))
      rcases gS with ⟨g, h, h2⟩ | ⟨g, h | h⟩
      · exact um_no (nI_nlt (a := w) (b := 8) h (by omega)) (um_no (nI_nlt (a := 18) (b := w) h2 (by decide)) (yes g))
      · exact um_yes (nI_lt (a := w) (b := 8) h (by decide)) (no g)
      · exact um_no (nI_nlt (a := w) (b := 8) (by omega) (by omega)) (um_yes (nI_lt (a := 18) (b := w) h (by omega)) (no g))
    · refine um_no (by decide) (um_no (by decide) (um_no (by decide) (um_no (by decide) (um_yes rfl ?_))))
      rcases gC with ⟨g, h⟩ | ⟨g, h⟩
      · exact um_no (nI_nlt (a := w) (b := 19) h (by omega)) (yes g)
      · exact um_yes (nI_lt (a := w) (b := 19) h (by decide)) (no g)
    · refine um_no (by decide) (um_no (by decide) (um_no (by decide) (um_no (by decide) (um_no (by decide) (um_yes rfl (um_no n1 ?_))))))
      rcases gS with ⟨g, h, h2⟩ | ⟨g, h | h⟩
      · exact um_no (nI_nlt (a := w) (b := 8) h (by omega)) (um_no (nI_nlt (a := 18) (b := w) h2 (by decide)) (yes (Or.inr g)))
      · exact um_yes (nI_lt (a := w) (b := 8) h (by decide)) (no (fun z => z.elim n1 g))
      · exact um_no (nI_nlt (a := w) (b := 8) (by omega) (by omega)) (um_yes (nI_lt (a := 18) (b := w) h (by omega)) (no (fun z => z.elim n1 g)))
    · refine um_no (by decide) (um_no (by decide) (um_no (by decide) (um_no (by decide) (um_no (by decide) (um_no (by decide) (um_yes rfl (um_no n1 ?_)))))))
      rcases gC with ⟨g, h⟩ | ⟨g, h⟩
      · exact um_no (nI_nlt (a := w) (b := 19) h (by omega)) (yes (Or.inr g))
      · exact um_yes (nI_lt (a := w) (b := 19) h (by decide)) (no (fun z => z.elim n1 g))
  · intro hn
    have gE : ¬ um_isE m N a := by
      rintro ⟨j, w, h1, h2, -⟩
      exact hn j h1 h2
    have gS : ¬ um_isS m N a := by
      rintro ⟨j, w, h1, h2, -⟩
      exact hn j h1 h2
    have gC : ¬ um_isC m N a := by
      rintro ⟨j, w, h1, h2, -⟩
      exact hn j h1 h2
    rcases (show s = 0 ∨ s = 1 ∨ s = 2 ∨ s = 3 ∨ s = 4 ∨ s = 5 ∨ s = 6 ∨ s = 7 by omega) with rfl | rfl | rfl | rfl | rfl | rfl | rfl | rfl
    · exact um_no (by decide) (um_no (by decide) (um_no (by decide) (um_no (by decide) (um_no (by decide) (um_no (by decide) (um_no (by decide) (yes trivial)))))))
    · exact um_yes rfl (p_isVar yes no)
    · exact um_no (by decide) (um_yes rfl (p_isFun yes no))
    · exact um_no (by decide) (um_no (by decide) (um_yes rfl (um_yes (by decide) (no gE))))
    · exact um_no (by decide) (um_no (by decide) (um_no (by decide) (um_yes rfl (um_yes (by decide) (no gS)))))
    · exact um_no (by decide) (um_no (by decide) (um_no (by decide) (um_no (by decide) (um_yes rfl (um_yes (by decide) (no gC))))))
    · refine um_no (by decide) (um_no (by decide) (um_no (by decide) (um_no (by decide) (um_no (by decide) (um_yes rfl ⟨fun z => yes (Or.inl z), fun z => um_yes (by decide) (no (fun y => y.elim z gS))⟩)))))
    · refine um_no (by decide) (um_no (by decide) (um_no (by decide) (um_no (by decide) (um_no (by decide) (um_no (by decide) (um_yes rfl ⟨fun z => yes (Or.inl z), fun z => um_yes (by decide) (no (fun y => y.elim z gC))⟩))))))
/-- a node is added, if its parts fit -/
theorem p_add {Q : Int32 → um_S → Prop} {w s0 s1 s2 s3 s4 : Nat} {a1 a2 a3 a4 a5 : Int32} (hT : um_tree N c m) (hw : w ≤ 20) (hN : N < 150) (t0 : um_SORTS (w * 5) = nI s0) (t1 : um_SORTS (w * 5 + 1) = nI s1) (t2 : um_SORTS (w * 5 + 2) = nI s2) (t3 : um_SORTS (w * 5 + 3) = nI s3) (t4 : um_SORTS (w * 5 + 4) = nI s4)
    (hs : s0 ≤ 7 ∧ s1 ≤ 7 ∧ s2 ≤ 7 ∧ s3 ≤ 7 ∧ s4 ≤ 7) (yes : um_fit m N s0 a1 → um_fit m N s1 a2 → um_fit m N s2 a3 → um_fit m N s3 a4 → um_fit m N s4 a5 → wp_Tr_add_115 Q (nI w) a1 a2 a3 a4 a5 1 (um_J c b))
    (no : ¬ (um_fit m N s0 a1 ∧ um_fit m N s1 a2 ∧ um_fit m N s2 a3 ∧ um_fit m N s3 a4 ∧ um_fit m N s4 a5) → Q (-1) (um_J c b)) : wp_Tr_add (nI w) a1 a2 a3 a4 a5 (um_J c b) Q := by
  have e5 : nI w * 5 = nI (w * 5) := pk_mul w 5
  have f1 : nI (w * 5) + 1 = nI (w * 5 + 1) := nI_add _ 1
  have f2 : nI (w * 5) + 2 = nI (w * 5 + 2) := nI_add _ 2
  have f3 : nI (w * 5) + 3 = nI (w * 5 + 3) := nI_add _ 3
  have f4 : nI (w * 5) + 4 = nI (w * 5 + 4) := nI_add _ 4
  have ref : ∀ h : ¬ (um_fit m N s0 a1 ∧ um_fit m N s1 a2 ∧ um_fit m N s2 a3 ∧ um_fit m N s3 a4 ∧ um_fit m N s4 a5), wp_Tr_add_112 Q (nI w) a1 a2 a3 a4 a5 (um_J c b) := by
    intro h
    unfold wp_Tr_add_112 wp_Tr_add_115
    exact ⟨fun z => absurd rfl z, fun _ => no h⟩
  unfold wp_Tr_add
  rw [um_J_c (by decide), hT.2.1]
  refine um_no (nI_pos (by omega)) (um_no (nI_nlt (a := 20) (b := w) hw (by decide)) (um_yes (nI_lt hN (by decide)) ?_))
  rintro x1 rfl
  rw [e5, f1, f2, f3, f4, um_cl1 (by omega), um_cl1 (by omega), um_cl1 (by omega), um_cl1 (by omega), um_cl1 (by omega), t0, t1, t2, t3, t4]
  refine ⟨vp_in_nI (by omega) (by decide), p_fits hT hs.1 (fun g0 => ⟨fun z => absurd z (by decide), fun _ => ?_⟩) (fun g => ⟨fun _ => ref (fun z => g z.1), fun z => absurd z (by decide)⟩)⟩
  refine ⟨vp_in_nI (by omega) (by decide), p_fits hT hs.2.1 (fun g1 => ⟨fun z => absurd z (by decide), fun _ => ?_⟩) (fun g => ⟨fun _ => ref (fun z => g z.2.1), fun z => absurd z (by decide)⟩)⟩
  refine ⟨vp_in_nI (by omega) (by decide), p_fits hT hs.2.2.1 (fun g2 => ⟨fun z => absurd z (by decide), fun _ => ?_⟩) (fun g => ⟨fun _ => ref (fun z => g z.2.2.1), fun z => absurd z (by decide)⟩)⟩
  refine ⟨vp_in_nI (by omega) (by decide), p_fits hT hs.2.2.2.1 (fun g3 => ⟨fun z => absurd z (by decide), fun _ => ?_⟩) (fun g => ⟨fun _ => ref (fun z => g z.2.2.2.1), fun z => absurd z (by decide)⟩)⟩
  refine ⟨vp_in_nI (by omega) (by decide), p_fits hT hs.2.2.2.2 (fun g4 => ⟨fun z => absurd z (by decide), fun _ => yes g0 g1 g2 g3 g4⟩) (fun g => ⟨fun _ => ref (fun z => g z.2.2.2.2), fun z => absurd z (by decide)⟩)⟩
/-- the class's new node -/
def um_addC (c : um_S) (N : Nat) (w a1 a2 a3 a4 a5 : Int32) : um_S := um_up (um_up (um_up (um_up (um_up (um_up (um_up c 8 N w) 9 (N * 5) a1) 9 (N * 5 + 1) a2) 9 (N * 5 + 2) a3) 9 (N * 5 + 3) a4) 9 (N * 5 + 4) a5) 1 3 (nI (N + 1))
theorem p_add115 {Q : Int32 → um_S → Prop} {w a1 a2 a3 a4 a5 : Int32} (hc : c 1 3 = nI N) (hN : N < 150) (hq : Q (nI N) (um_J (um_addC c N w a1 a2 a3 a4 a5) b)) : wp_Tr_add_115 Q w a1 a2 a3 a4 a5 1 (um_J c b) := by
  have e5 : nI N * 5 = nI (N * 5) := pk_mul N 5
  have f1 : nI (N * 5) + 1 = nI (N * 5 + 1) := nI_add _ 1
  have f2 : nI (N * 5) + 2 = nI (N * 5 + 2) := nI_add _ 2
  have f3 : nI (N * 5) + 3 = nI (N * 5 + 3) := nI_add _ 3
  have f4 : nI (N * 5) + 4 = nI (N * 5 + 4) := nI_add _ 4
  unfold wp_Tr_add_115
  refine um_no' (by decide) ?_
  rw [um_J_c (by decide), hc, um_cl1 (by omega)]
  rintro x1 rfl
  rw [e5, f1, f2, f3, f4, um_cl1 (by omega), um_cl1 (by omega), um_cl1 (by omega), um_cl1 (by omega), um_cl1 (by omega)]
  refine ⟨vp_in_nI hN (by decide), ?_⟩
  rintro σ2 rfl
  rw [um_J_uc (by decide)]
  refine ⟨vp_in_nI (by omega) (by decide), ?_⟩
  rintro σ3 rfl
  rw [um_J_uc (by decide)]
  refine ⟨vp_in_nI (by omega) (by decide), ?_⟩
  rintro σ4 rfl
  rw [um_J_uc (by decide)]
  refine ⟨vp_in_nI (by omega) (by decide), ?_⟩
  rintro σ5 rfl
  rw [um_J_uc (by decide)]
  refine ⟨vp_in_nI (by omega) (by decide), ?_⟩
  rintro σ6 rfl
  rw [um_J_uc (by decide)]
  refine ⟨vp_in_nI (by omega) (by decide), ?_⟩
  rintro σ7 rfl
  rw [um_J_uc (by decide), um_J_c (by decide), um_up_q (by decide), um_up_q (by decide), um_up_q (by decide), um_up_q (by decide), um_up_q (by decide), um_up_q (by decide), hc, um_succ, um_J_uc (by decide)]
  rintro σ8 rfl
  rw [um_J_c (by decide), um_up_self, nI_pred]
  exact hq
def um_addM (m : um_S) (N : Nat) (w a1 a2 a3 a4 : Int32) : um_S := um_up (um_up (um_up (um_up (um_up (um_up m 39 N w) 40 N a1) 41 N a2) 42 N a3) 43 N a4) 38 1 (nI (N + 1))
theorem p_adds {Q : Int32 → um_S → Prop} {w a1 a2 a3 a4 : Int32} (hc : m 38 1 = nI N) (hN : N < 150) (hq : Q (nI N) (um_J b (um_addM m N w a1 a2 a3 a4))) : wp_Mo_adds w a1 a2 a3 a4 (um_J b m) Q := by
  have i1 : vp_in (nI N) 150 := vp_in_nI hN (by decide)
  unfold wp_Mo_adds
  rw [um_J_m (by decide), hc, um_cl1 (by omega)]
  refine ⟨i1, ?_⟩
  rintro σ1 rfl
  rw [um_J_um (by decide), um_J_m (by decide), um_up_q (by decide), hc, um_cl1 (by omega)]
  refine ⟨i1, ?_⟩
  rintro σ2 rfl
  rw [um_J_um (by decide), um_J_m (by decide), um_up_q (by decide), um_up_q (by decide), hc, um_cl1 (by omega)]
  refine ⟨i1, ?_⟩
  rintro σ3 rfl
  rw [um_J_um (by decide), um_J_m (by decide), um_up_q (by decide), um_up_q (by decide), um_up_q (by decide), hc, um_cl1 (by omega)]
  refine ⟨i1, ?_⟩
  rintro σ4 rfl
  rw [um_J_um (by decide), um_J_m (by decide), um_up_q (by decide), um_up_q (by decide), um_up_q (by decide), um_up_q (by decide), hc, um_cl1 (by omega)]
  refine ⟨i1, ?_⟩
  rintro σ5 rfl
  rw [um_J_um (by decide), um_J_m (by decide), um_up_q (by decide), um_up_q (by decide), um_up_q (by decide), um_up_q (by decide), um_up_q (by decide), hc, um_succ, um_J_um (by decide)]
  rintro σ6 rfl
  rw [um_J_m (by decide), um_up_self, nI_pred]
  exact hq
end Fits
