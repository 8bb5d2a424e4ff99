/-! lay: what holds of both sides between the turns -/
/-- a class context x against the reference's y, for statements: of the first I items; K: the class's TRY nodes, O: the reference's outers -/
def ly_cx (I : Nat) (K O : Nat → Int32) (x y : Int32) : Prop :=
  (x = 0 ∧ y = -1) ∨ ∃ j, j < I ∧ ((x = nI (4 * (j + 1)) ∧ y = nI (2 * j)) ∨ (x = nI (4 * (j + 1) + 1) ∧ y = nI (2 * j + 1)) ∨ (¬ K (j + 1) = -1 ∧ x = nI (4 * (j + 1) + 2) ∧ y = O j))
/-- of instructions and expressions: a WHILE's own rows lie in the loop for the class, outside it for the reference -/
def ly_cy (I : Nat) (K O : Nat → Int32) (x y : Int32) : Prop :=
  ly_cx I K O x y ∨ ∃ j, j < I ∧ K (j + 1) = -1 ∧ x = nI (4 * (j + 1)) ∧ y = O j
/-- how many TRYs are over what lies at x, and how many with a finally: K, F, V, P the class's tries, finallies, overs, keeps -/
def ly_up (I : Nat) (K F V P : Nat → Int32) (x : Int32) (ab fi : Nat) : Prop :=
  (x = 0 ∧ ab = 0 ∧ fi = 0) ∨ ∃ j p ov kp : Nat, j < I ∧ p < 3 ∧ x = nI (4 * (j + 1) + p) ∧ V (j + 1) = nI ov ∧ P (j + 1) = nI kp ∧ ab = ov + (if K (j + 1) = -1 then 0 else 1) ∧ fi = kp + (if F (j + 1) = -1 then 0 else 1)
/-- the depth behind a node's part, or ahead of its first: kind w, state s -/
def ly_pd (w s : Nat) : Nat :=
  if 2 ≤ w ∧ w ≤ 7 then s else if (w = 9 ∨ w = 10 ∨ w = 12 ∨ w = 13 ∨ w = 14) ∧ s = 1 then 1 else 0
def ly_isE (w : Nat) : Nat := if w ≤ 7 then 1 else 0
/-- item j: a TRY or a WHILE that was begun -/
def ly_item (N u : Nat) (D : Nat → Nat) (c m : um_S) (j : Nat) : Prop :=
  ∃ nd ov dp : Nat, nd < N ∧ m 55 j = nI nd ∧ m 57 j = nI ov ∧ c 27 (j + 1) = nI ov ∧ m 58 j = nI dp ∧ c 28 (j + 1) = nI dp ∧ ov + nd ≤ 149 ∧ dp + nd ≤ 149 ∧ ly_cx j (c 24) (m 56) (c 23 (j + 1)) (m 56 j) ∧
  ((m 39 nd = 13 ∧ c 24 (j + 1) = -1 ∧ c 25 (j + 1) = -1 ∧ c 26 (j + 1) = nI (j + 1)) ∨
   (m 39 nd = 18 ∧ c 24 (j + 1) = nI nd ∧ c 25 (j + 1) = m 42 nd ∧ ∃ s p : Nat, p < 3 ∧ s ≤ j ∧ c 23 (j + 1) = nI (4 * s + p) ∧ c 26 (j + 1) = c 26 s)) ∧
  (m 59 j = -1 ∨ ∃ e, e < u ∧ D e = 0 ∧ m 59 j = nI e ∧ c 29 (j + 1) = nI e)
/-- what is laid down: n instructions; targets below u; X: jumps of open IFs, whose goals wait -/
def ly_ins (n u I : Nat) (D : Nat → Nat) (X : Nat → Prop) (c m : um_S) : Prop :=
  ∀ p, p < n → c 11 p = m 46 p ∧ ly_cy I (c 24) (m 56) (c 13 p) (m 48 p) ∧
    ((c 12 p = m 47 p ∧ um_ins u D p (m 46 p) (m 47 p)) ∨
     (((m 46 p = 10 ∧ D p = 1 ∧ p + 1 < u ∧ D (p + 1) = 0) ∨ (m 46 p = 11 ∧ D p = 0)) ∧
      ((X p ∧ c 12 p = 0 ∧ m 47 p = 0) ∨
       ∃ j, j < I ∧ c 24 (j + 1) = -1 ∧ c 12 p = -(nI (j + 1)) ∧ ((m 59 j = -1 ∧ m 47 p = -(nI (j + 1))) ∨ (¬ m 59 j = -1 ∧ m 47 p = m 59 j)))))
