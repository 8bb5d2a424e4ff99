/-! node, catchBehind, body -/
theorem um_code_of {n r : Nat} {D : Nat → Nat} {c m c2 m2 : um_S} (h : um_code n r D c m) (hT : ∃ N, um_tree N c2 m2) (e1 : c2 2 = c 2) (e2 : c2 11 = c 11) (e3 : c2 12 = c 12) (e4 : c2 14 = c 14) (e5 : c2 15 = c 15)
    (g1 : m2 38 10 = m 38 10) (g2 : m2 38 14 = m 38 14) (g3 : m2 38 20 = m 38 20) (g4 : m2 38 21 = m 38 21) (g5 : m2 38 9 = m 38 9) (g6 : m2 46 = m 46) (g7 : m2 47 = m 47)
    (g8 : m2 49 = m 49) (g9 : m2 50 = m 50) (g10 : m2 51 = m 51) (g11 : m2 52 = m 52) (g12 : m2 53 = m 53) (g13 : m2 54 = m 54) : um_code n r D c2 m2 := by
  obtain ⟨h1, h2, h3, h4, h5, h6, h7, h8, h9, h10, h11, -, h13, h14, h15⟩ := h
  refine ⟨h1, h2, h3, by rw [e1]; exact h4, g1.trans h5, by rw [e1]; exact h6, g2.trans h7, fun p hp => ?_, fun i hi => ?_, fun i hi => ?_, fun f hf => ?_, hT, ?_, ?_, g5.trans h15⟩
  · rw [e2, e3, g6, g7]; exact h8 p hp
  · rw [e5, g8, g9, g10, g11, g12]; exact h9 i hi
  · rw [g10]; exact h10 i hi
  · rw [e4, g13]; exact h11 f hf
  · rw [e1, g3]; exact h13
  · rw [e1, g4]; exact h14
theorem um_isE_ext {m m2 : um_S} {K : Nat} {x : Int32} (h : um_isE m K x) (e : ∀ j, j < K → m2 39 j = m 39 j) {K2 : Nat} (hK : K ≤ K2) : um_isE m2 K2 x := by
  obtain ⟨j, w, h1, h2, h3, h4⟩ := h
  exact ⟨j, w, by omega, h2, by rw [e j h1]; exact h3, h4⟩
theorem um_isS_ext {m m2 : um_S} {K : Nat} {x : Int32} (h : um_isS m K x) (e : ∀ j, j < K → m2 39 j = m 39 j) {K2 : Nat} (hK : K ≤ K2) : um_isS m2 K2 x := by
  obtain ⟨j, w, h1, h2, h3, h4⟩ := h
  exact ⟨j, w, by omega, h2, by rw [e j h1]; exact h3, h4⟩
theorem um_isC_ext {m m2 : um_S} {K : Nat} {x : Int32} (h : um_isC m K x) (e : ∀ j, j < K → m2 39 j = m 39 j) {K2 : Nat} (hK : K ≤ K2) : um_isC m2 K2 x := by
  obtain ⟨j, w, h1, h2, h3, h4⟩ := h
  exact ⟨j, w, by omega, h2, by rw [e j h1]; exact h3, h4⟩
theorem um_node_ext {m m2 : um_S} {k : Nat} (h : um_node m k) (e : ∀ j, j ≤ k → m2 39 j = m 39 j) (eA : m2 40 k = m 40 k) (eB : m2 41 k = m 41 k) (eC : m2 42 k = m 42 k) (eD : m2 43 k = m 43 k) (eE : m2 44 k = m 44 k) : um_node m2 k := by
  obtain ⟨w, w1, w2, a1, a2, a3, a4, a5, a6, a7, a8, a9, a10, a11⟩ := h
  have ek : ∀ j, j < k → m2 39 j = m 39 j := fun j hj => e j (by omega)
  refine ⟨w, w1, by rw [e k (by omega)]; exact w2, ?_⟩
  rw [eA, eB, eC, eD, eE]
  refine ⟨a1, fun h1 h2 => ⟨um_isE_ext (a2 h1 h2).1 ek (by omega), um_isE_ext (a2 h1 h2).2 ek (by omega)⟩, fun h => ⟨(a3 h).1, um_isE_ext (a3 h).2 ek (by omega)⟩, fun h => um_isE_ext (a4 h) ek (by omega), fun h => ⟨um_isS_ext (a5 h).1 ek (by omega), um_isS_ext (a5 h).2 ek (by omega)⟩, fun h => ⟨um_isE_ext (a6 h).1 ek (by omega), um_isS_ext (a6 h).2.1 ek (by omega), um_isS_ext (a6 h).2.2 ek (by omega)⟩, fun h => ⟨um_isE_ext (a7 h).1 ek (by omega), um_isS_ext (a7 h).2 ek (by omega)⟩, a8, fun h => ⟨um_isS_ext (a9 h).1 ek (by omega), (a9 h).2.1.imp id (fun z => um_isC_ext z ek (by omega)), (a9 h).2.2.imp id (fun z => um_isS_ext z ek (by omega))⟩, fun h => ⟨(a10 h).1, um_isS_ext (a10 h).2 ek (by omega)⟩, fun h => um_isC_ext (a11 h) ek (by omega)⟩
/-- of what sort a part is -/
def um_fit (m : um_S) (N s : Nat) (a : Int32) : Prop := match s with
  | 1 => um_isV a
  | 2 => um_isF a
  | 3 => um_isE m N a
  | 4 => um_isS m N a
  | 5 => um_isC m N a
  | 6 => a = -1 ∨ um_isS m N a
  | 7 => a = -1 ∨ um_isC m N a
  | _ => True
theorem um_isV_in (a : Int32) : (um_isV a ∧ ¬ a < 0 ∧ ¬ 8 ≤ a) ∨ (¬ um_isV a ∧ (a < 0 ∨ 8 ≤ a)) := by
  rcases um_ix a (N := 8) (by decide) with h | ⟨j, hj, rfl⟩
  · refine Or.inr ⟨?_, h.imp id (fun z => z.2)⟩
    rintro ⟨v, hv, rfl⟩
    rcases h with h | h
    · exact nI_pos (by omega) h
    · exact nI_ge hv (by decide) h.2
  · exact Or.inl ⟨⟨j, hj, rfl⟩, nI_pos (by omega), nI_ge hj (by decide)⟩
theorem um_isF_in (a : Int32) : (um_isF a ∧ ¬ a < 0 ∧ ¬ 6 ≤ a) ∨ (¬ um_isF a ∧ (a < 0 ∨ 6 ≤ a)) := by
  rcases um_ix a (N := 6) (by decide) with h | ⟨j, hj, rfl⟩
  · refine Or.inr ⟨?_, h.imp id (fun z => z.2)⟩
    rintro ⟨v, hv, rfl⟩
    rcases h with h | h
    · exact nI_pos (by omega) h
    · exact nI_ge hv (by decide) h.2
  · exact Or.inl ⟨⟨j, hj, rfl⟩, nI_pos (by omega), nI_ge hj (by decide)⟩
theorem p_isVar {c b : um_S} {a : Int32} {Q : Bool → um_S → Prop} (yes : um_isV a → Q true (um_J c b)) (no : ¬ um_isV a → Q false (um_J c b)) : wp_UM_isVariable a (um_J c b) Q := by
  unfold wp_UM_isVariable
  rcases um_isV_in a with ⟨h, h1, h2⟩ | ⟨h, h1⟩
  · exact um_no h1 (um_no h2 (yes h))
  · exact ⟨fun _ => no h, fun z0 => ⟨fun _ => no h, fun z1 => (h1.elim (fun z => absurd z z0) (fun z => absurd z z1))⟩⟩
theorem p_isFun {c b : um_S} {a : Int32} {Q : Bool → um_S → Prop} (yes : um_isF a → Q true (um_J c b)) (no : ¬ um_isF a → Q false (um_J c b)) : wp_UM_isFunction a (um_J c b) Q := by
  unfold wp_UM_isFunction
  rcases um_isF_in a with ⟨h, h1, h2⟩ | ⟨h, h1⟩
  · exact um_no h1 (um_no h2 (yes h))
  · exact ⟨fun _ => no h, fun z0 => ⟨fun _ => no h, fun z1 => (h1.elim (fun z => absurd z z0) (fun z => absurd z z1))⟩⟩
theorem p_MoisVar {b m : um_S} {a : Int32} {Q : Bool → um_S → Prop} (yes : um_isV a → Q true (um_J b m)) (no : ¬ um_isV a → Q false (um_J b m)) : wp_Mo_isVariable a (um_J b m) Q := by
  unfold wp_Mo_isVariable
  rcases um_isV_in a with ⟨h, h1, h2⟩ | ⟨h, h1⟩
  · exact um_no h1 (um_no h2 (yes h))
  · exact ⟨fun _ => no h, fun z0 => ⟨fun _ => no h, fun z1 => (h1.elim (fun z => absurd z z0) (fun z => absurd z z1))⟩⟩
section Sorts
variable {N : Nat} {c m b : um_S} {a : Int32}
/-- a part is a node of kind w, or no node -/
theorem um_kd (hT : um_tree N c m) (a : Int32) : (∃ j w, j < N ∧ a = nI j ∧ m 39 j = nI w ∧ w ≤ 20) ∨ (a < 0 ∨ (¬ a < 0 ∧ nI N ≤ a)) := by
  rcases um_ix a (N := N) (by have := hT.1.1; omega) with h | ⟨j, hj, rfl⟩
  · exact Or.inr h
  · obtain ⟨w, w1, w2, -⟩ := (hT.2.2.2.1 j hj).2.2.2.2.2.2.2
    exact Or.inl ⟨j, w, hj, rfl, w2, w1⟩
theorem um_out_no {K : Nat} (hK : K < 2147483648) (h : a < 0 ∨ (¬ a < 0 ∧ nI K ≤ a)) : ∀ j, j < K → ¬ a = nI j := by
  intro j hj z
  subst z
  rcases h with h | h
  · exact nI_pos (by omega) h
  · exact nI_ge hj hK h.2
theorem p_kindOf {Q : Int32 → um_S → Prop} (hT : um_tree N c m) (yes : ∀ j w, j < N → a = nI j → m 39 j = nI w → w ≤ 20 → Q (nI w) (um_J c b)) (no : (∀ j, j < N → ¬ a = nI j) → Q (-1) (um_J c b)) : wp_Tr_kindOf a (um_J c b) Q := by
  have hN := hT.1.1
  unfold wp_Tr_kindOf
  rw [um_J_c (by decide), hT.2.1]
  rcases um_kd hT a with ⟨j, w, hj, rfl, hw, hw2⟩ | h
  · rw [um_cl1 (by omega), um_J_c (by decide), (hT.2.2.2.1 j hj).1, hw]
    exact um_no (nI_pos (by omega)) (um_no (nI_ge hj (by omega)) ⟨vp_in_nI (by omega) (by decide), yes j w hj rfl hw hw2⟩)
  · have hn := no (um_out_no (by omega) h)
    exact ⟨fun _ => hn, fun z0 => ⟨fun _ => hn, fun z1 => (h.elim (fun z => absurd z z0) (fun z => absurd z.2 z1))⟩⟩
theorem p_isThere {Q : Bool → um_S → Prop} {lo hi : Nat} (hT : um_tree N c m) (hlo : lo < 100) (hhi : hi < 100) (yes : (∃ j w, j < N ∧ a = nI j ∧ m 39 j = nI w ∧ lo ≤ w ∧ w ≤ hi) → Q true (um_J b m)) (no : ¬ (∃ j w, j < N ∧ a = nI j ∧ m 39 j = nI w ∧ lo ≤ w ∧ w ≤ hi) → Q false (um_J b m)) : wp_Mo_isThere a (nI lo) (nI hi) (um_J b m) Q := by
  have hN := hT.1.1
  unfold wp_Mo_isThere
  rw [um_J_m (by decide), hT.2.2.1]
  rcases um_kd hT a with ⟨j, w, hj, rfl, hw, hw2⟩ | h
  · have cls : ∀ j2 w2, j2 < N → nI j = nI j2 → m 39 j2 = nI w2 → w2 < 100 → w2 = w := by
      intro j2 w2 h1 h2 h3 h4
      have : j = j2 := (nI_eq (by omega) (by omega)).mp h2
      subst this
      exact (nI_eq (by omega) (by omega)).mp (h3.symm.trans hw)
    rw [um_cl1 (by omega), um_J_m (by decide), hw]
    refine um_no (nI_pos (by omega)) (um_no (nI_ge hj (by omega)) ⟨vp_in_nI (by omega) (by decide), ?_⟩)
    by_cases h1 : w < lo
    · refine um_yes (nI_lt h1 (by omega)) (no ?_)
      rintro ⟨j2, w2, a1, a2, a3, a4, a5⟩
      have := cls j2 w2 a1 a2 a3 (by omega)
      omega
    · refine um_no (nI_nlt (by omega) (by omega)) ⟨vp_in_nI (by omega) (by decide), ?_⟩
      by_cases h2 : hi < w
      · refine um_yes (nI_lt h2 (by omega)) (no ?_)
        rintro ⟨j2, w2, a1, a2, a3, a4, a5⟩
        have := cls j2 w2 a1 a2 a3 (by omega)
        omega
      · exact um_no (nI_nlt (by omega) (by omega)) (yes ⟨j, w, hj, rfl, hw, by omega, by omega⟩)
  · have hn := no (by
      rintro ⟨j2, w2, a1, a2, -⟩
      exact um_out_no (by omega) h j2 a1 a2)
    exact ⟨fun _ => hn, fun z0 => ⟨fun _ => hn, fun z1 => (h.elim (fun z => absurd z z0) (fun z => absurd z.2 z1))⟩⟩
theorem p_MoisE {Q : Bool → um_S → Prop} (hT : um_tree N c m) (yes : um_isE m N a → Q true (um_J b m)) (no : ¬ um_isE m N a → Q false (um_J b m)) : wp_Mo_isExpression a (um_J b m) Q := by
  unfold wp_Mo_isExpression
  refine p_isThere (lo := 0) (hi := 7) hT (by omega) (by omega) ?_ ?_
  · rintro ⟨j, w, h1, h2, h3, h4, h5⟩
    exact yes ⟨j, w, h1, h2, h3, h5⟩
  · intro h
    refine no ?_
    rintro ⟨j, w, h1, h2, h3, h5⟩
    exact h ⟨j, w, h1, h2, h3, by omega, h5⟩
theorem p_MoisS {Q : Bool → um_S → Prop} (hT : um_tree N c m) (yes : um_isS m N a → Q true (um_J b m)) (no : ¬ um_isS m N a → Q false (um_J b m)) : wp_Mo_isStatement a (um_J b m) Q := by
  unfold wp_Mo_isStatement
  exact p_isThere (lo := 8) (hi := 18) hT (by omega) (by omega) yes no
theorem p_MoisC {Q : Bool → um_S → Prop} (hT : um_tree N c m) (yes : um_isC m N a → Q true (um_J b m)) (no : ¬ um_isC m N a → Q false (um_J b m)) : wp_Mo_isCatch a (um_J b m) Q := by
  unfold wp_Mo_isCatch
  exact p_isThere (lo := 19) (hi := 20) hT (by omega) (by omega) yes no
end Sorts
