/-! the tree: what the class and the reference hold of it, and that it is well formed -/
def um_isE (m : um_S) (K : Nat) (x : Int32) : Prop := ∃ j w : Nat, j < K ∧ x = nI j ∧ m 39 j = nI w ∧ w ≤ 7
def um_isS (m : um_S) (K : Nat) (x : Int32) : Prop := ∃ j w : Nat, j < K ∧ x = nI j ∧ m 39 j = nI w ∧ 8 ≤ w ∧ w ≤ 18
def um_isC (m : um_S) (K : Nat) (x : Int32) : Prop := ∃ j w : Nat, j < K ∧ x = nI j ∧ m 39 j = nI w ∧ 19 ≤ w ∧ w ≤ 20
def um_isV (x : Int32) : Prop := ∃ v : Nat, v < 8 ∧ x = nI v
def um_isF (x : Int32) : Prop := ∃ v : Nat, v < 6 ∧ x = nI v
def um_node (m : um_S) (k : Nat) : Prop := ∃ w : Nat, w ≤ 20 ∧ m 39 k = nI w ∧
  (w = 1 → um_isV (m 40 k)) ∧ (2 ≤ w → w ≤ 7 → um_isE m k (m 40 k) ∧ um_isE m k (m 41 k)) ∧ (w = 9 → um_isV (m 40 k) ∧ um_isE m k (m 41 k)) ∧
  (w = 10 ∨ w = 14 → um_isE m k (m 40 k)) ∧ (w = 11 → um_isS m k (m 40 k) ∧ um_isS m k (m 41 k)) ∧ (w = 12 → um_isE m k (m 40 k) ∧ um_isS m k (m 41 k) ∧ um_isS m k (m 42 k)) ∧
  (w = 13 → um_isE m k (m 40 k) ∧ um_isS m k (m 41 k)) ∧ (w = 15 → um_isF (m 40 k)) ∧
  (w = 18 → um_isS m k (m 40 k) ∧ (m 41 k = -1 ∨ um_isC m k (m 41 k)) ∧ (m 42 k = -1 ∨ um_isS m k (m 42 k))) ∧
  (w = 19 ∨ w = 20 → um_isV (m 42 k) ∧ um_isS m k (m 43 k)) ∧ (w = 20 → um_isC m k (m 44 k))
def um_tree (N : Nat) (c m : um_S) : Prop :=
  (N ≤ 150 ∧ c 26 0 = 0 ∧ c 27 0 = 0 ∧ c 28 0 = 0) ∧ c 1 3 = nI N ∧ m 38 1 = nI N ∧
  (∀ k, k < N → c 8 k = m 39 k ∧ c 9 (k * 5) = m 40 k ∧ c 9 (k * 5 + 1) = m 41 k ∧ c 9 (k * 5 + 2) = m 42 k ∧ c 9 (k * 5 + 3) = m 43 k ∧
    (m 39 k = 20 → c 9 (k * 5 + 4) = m 44 k) ∧ (¬ m 39 k = 20 → c 9 (k * 5 + 4) = -1) ∧ um_node m k) ∧
  (∀ f, f < 6 → c 10 f = m 45 f ∧ (m 45 f = -1 ∨ um_isS m N (m 45 f)))
theorem um_tree_of {N : Nat} {c m c2 m2 : um_S} (h : um_tree N c m) (e0 : c2 1 3 = c 1 3) (e1 : c2 8 = c 8) (e2 : c2 9 = c 9) (e3 : c2 10 = c 10) (e4 : c2 26 0 = c 26 0) (e5 : c2 27 0 = c 27 0) (e6 : c2 28 0 = c 28 0)
    (g0 : m2 38 1 = m 38 1) (g1 : m2 39 = m 39) (g2 : m2 40 = m 40) (g3 : m2 41 = m 41) (g4 : m2 42 = m 42) (g5 : m2 43 = m 43) (g6 : m2 44 = m 44) (g7 : m2 45 = m 45) : um_tree N c2 m2 := by
  unfold um_tree um_node um_isE um_isS um_isC at *
  simp only [e0, e1, e2, e3, e4, e5, e6, g0, g1, g2, g3, g4, g5, g6, g7]
  exact h
theorem um_tree_uc {N q k : Nat} {c m : um_S} {v : Int32} (h : um_tree N c m) (hq : ¬ (q = 1 ∨ q = 8 ∨ q = 9 ∨ q = 10 ∨ q = 26 ∨ q = 27 ∨ q = 28)) : um_tree N (um_up c q k v) m :=
  um_tree_of h (by rw [um_up_q (by omega)]) (um_up_q (by omega)) (um_up_q (by omega)) (um_up_q (by omega)) (by rw [um_up_q (by omega)]) (by rw [um_up_q (by omega)]) (by rw [um_up_q (by omega)]) rfl rfl rfl rfl rfl rfl rfl rfl
theorem um_tree_um {N q k : Nat} {c m : um_S} {v : Int32} (h : um_tree N c m) (hq : 46 ≤ q ∨ (q = 38 ∧ ¬ k = 1)) : um_tree N c (um_up m q k v) :=
  um_tree_of h rfl rfl rfl rfl rfl rfl rfl (um_up_ne (by omega)) (um_up_q (by omega)) (um_up_q (by omega)) (um_up_q (by omega)) (um_up_q (by omega)) (um_up_q (by omega)) (um_up_q (by omega)) (um_up_q (by omega))
/-- what stays over a run: the tree, and how much was laid down -/
def um_fix (c m : um_S) : Prop := (∃ N, um_tree N c m) ∧ c 2 7 = m 38 20 ∧ c 2 8 = m 38 21 ∧ m 38 9 = 1
