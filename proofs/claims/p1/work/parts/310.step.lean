/-! one step of a run, on both sides -/
theorem um_no {A B : Prop} {c : Prop} (h : ¬ c) (k : B) : (c → A) ∧ (¬ c → B) := ⟨fun z => absurd z h, fun _ => k⟩
theorem um_yes {A B : Prop} {c : Prop} (h : c) (k : A) : (c → A) ∧ (¬ c → B) := ⟨fun _ => k, fun z => absurd h z⟩
theorem um_no' {A B : Prop} {c : Prop} (h : ¬ c) (k : A) : (¬ c → A) ∧ (c → B) := ⟨fun _ => k, fun z => absurd z h⟩
theorem um_yes' {A B : Prop} {c : Prop} (h : c) (k : B) : (¬ c → A) ∧ (c → B) := ⟨fun z => absurd h z, fun _ => k⟩
/-- an instruction at p fits its place: D says how many numbers lie on the pile ahead of each instruction -/
def um_ins (n : Nat) (D : Nat → Nat) (p : Nat) (op arg : Int32) : Prop :=
  (op = 0 ∧ D p < 150 ∧ p + 1 < n ∧ D (p + 1) = D p + 1) ∨
  (op = 1 ∧ D p < 150 ∧ p + 1 < n ∧ D (p + 1) = D p + 1 ∧ ∃ v, v < 8 ∧ arg = nI v) ∨
  (∃ w, 2 ≤ w ∧ w ≤ 7 ∧ op = nI w ∧ p + 1 < n ∧ D p ≤ 150 ∧ D p = D (p + 1) + 1 ∧ 1 ≤ D (p + 1)) ∨
  (op = 8 ∧ D p ≤ 150 ∧ p + 1 < n ∧ D p = D (p + 1) + 1 ∧ ∃ v, v < 8 ∧ arg = nI v) ∨
  (op = 9 ∧ D p ≤ 150 ∧ p + 1 < n ∧ D p = D (p + 1) + 1) ∨
  (op = 10 ∧ D p ≤ 150 ∧ p + 1 < n ∧ D p = D (p + 1) + 1 ∧ ∃ t, t < n ∧ arg = nI t ∧ D p = D t + 1) ∨
  (op = 11 ∧ ∃ t, t < n ∧ arg = nI t ∧ D t = D p) ∨
  (op = 12 ∧ D p ≤ 150 ∧ 1 ≤ D p) ∨
  (op = 13 ∧ D p = 0 ∧ p + 1 < n ∧ D (p + 1) = 0 ∧ ∃ f, f < 6 ∧ arg = nI f) ∨
  (op = 14 ∧ D p = 0) ∨
  (op = 15 ∧ D p ≤ 150 ∧ p + 1 < n ∧ D p = D (p + 1) + 1 ∧ ∃ v, v < 150 ∧ arg = nI v) ∨
  (op = 16 ∧ ∃ v, v < 150 ∧ arg = nI v)
/-- what is laid down stands, the same on both sides, and fits -/
def um_code (n r : Nat) (D : Nat → Nat) (c m : um_S) : Prop :=
  0 < n ∧ n ≤ 1000 ∧ r ≤ 300 ∧ c 2 5 = nI n ∧ m 38 10 = nI n ∧ c 2 6 = nI r ∧ m 38 14 = nI r ∧
  (∀ p, p < n → c 11 p = m 46 p ∧ c 12 p = m 47 p ∧ um_ins n D p (m 46 p) (m 47 p)) ∧
  um_rowsEq r c m ∧ (∀ i, i < r → ∃ t, t < n ∧ m 51 i = nI t ∧ D t = 1) ∧
  (∀ f, f < 6 → ∃ t, t < n ∧ c 14 f = nI t ∧ m 54 f = nI t ∧ D t = 0) ∧ um_fix c m
/-- what a run shows -/
def um_seen (o : Nat) (c m : um_S) : Prop :=
  (o ≤ 64 ∧ c 4 4 = 1) ∧ c 19 0 = m 38 46 ∧ c 19 1 = m 38 47 ∧ c 19 2 = m 38 48 ∧ c 19 3 = nI o ∧ m 38 49 = nI o ∧ c 19 4 = m 38 51 ∧ c 19 5 = m 38 52 ∧
  (∀ i, i < o → c 18 i = m 71 i) ∧ (∀ v, v < 8 → c 17 v = m 70 v) ∧
  (∀ j a, j < 12 → a < 150 → c 22 (j * 150 + a) = m 75 (200 * j + a))
/-- a run is under way at p, in k frames -/
def um_fr (n : Nat) (D : Nat → Nat) (k p : Nat) (c m : um_S) : Prop :=
  1 ≤ k ∧ k ≤ 12 ∧ p < n ∧ c 4 9 = nI k ∧ m 38 53 = nI k ∧ c 4 10 = nI p ∧ m 72 (k - 1) = nI p ∧
  (∀ j, j + 1 < k → ∃ t, t + 1 < n ∧ c 21 j = nI t ∧ m 72 j = nI t ∧ D (t + 1) = 0 ∧ m 73 j = 0)
def um_pl (D : Nat → Nat) (k p : Nat) (c m : um_S) : Prop :=
  c 4 6 = nI (D p) ∧ m 73 (k - 1) = nI (D p) ∧ D p ≤ 150 ∧ (∀ i, i < D p → c 20 i = m 74 (200 * (k - 1) + i))
def um_next (n r : Nat) (D : Nat → Nat) (st : Int32) (c m : um_S) : Prop :=
  m 38 48 = st ∧ um_code n r D c m ∧ ∃ o, um_seen o c m ∧ ((¬ m 38 46 = 0 ∧ ¬ m 38 46 = -1) ∨ (m 38 46 = 0 ∧ ∃ k p, um_fr n D k p c m ∧ um_pl D k p c m))
section Keep
variable {n r q k : Nat} {D : Nat → Nat} {c m : um_S} {v : Int32}
theorem um_code_uc (h : um_code n r D c m) (hq : q = 4 ∨ (17 ≤ q ∧ q ≤ 22)) : um_code n r D (um_up c q k v) m := by
  obtain ⟨h1, h2, h3, h4, h5, h6, h7, h8, h9, h10, h11, ⟨N, h12⟩, h13, h14, h15⟩ := h
  have e : ∀ a b, ¬ (a = 4 ∨ (17 ≤ a ∧ a ≤ 22)) → um_up c q k v a b = c a b := fun a b ha => um_up_ne (fun z => ha (z.1 ▸ hq))
  refine ⟨h1, h2, h3, ?_, h5, ?_, h7, fun p hp => ?_, fun i hi => ?_, h10, fun f hf => ?_, ⟨N, um_tree_uc h12 (by omega)⟩, ?_, ?_, h15⟩
  · rw [e _ _ (by omega)]; exact h4
  · rw [e _ _ (by omega)]; exact h6
  · rw [e _ _ (by omega), e _ _ (by omega)]; exact h8 p hp
  · rw [e _ _ (by omega), e _ _ (by omega), e _ _ (by omega), e _ _ (by omega), e _ _ (by omega)]; exact h9 i hi
  · rw [e _ _ (by omega)]; exact h11 f hf
  · rw [e _ _ (by omega)]; exact h13
  · rw [e _ _ (by omega)]; exact h14
theorem um_code_um (h : um_code n r D c m) (hq : 70 ≤ q ∨ (q = 38 ∧ (k = 0 ∨ 46 ≤ k))) : um_code n r D c (um_up m q k v) := by
  obtain ⟨h1, h2, h3, h4, h5, h6, h7, h8, h9, h10, h11, ⟨N, h12⟩, h13, h14, h15⟩ := h
  have e : ∀ a b, ¬ (70 ≤ a ∨ (a = 38 ∧ (b = 0 ∨ 46 ≤ b))) → um_up m q k v a b = m a b := fun a b ha => um_up_ne (fun z => ha (z.1 ▸ z.2 ▸ hq))
  refine ⟨h1, h2, h3, h4, ?_, h6, ?_, fun p hp => ?_, fun i hi => ?_, fun i hi => ?_, fun f hf => ?_, ⟨N, um_tree_um h12 (by omega)⟩, ?_, ?_, ?_⟩
  · rw [e _ _ (by omega)]; exact h5
  · rw [e _ _ (by omega)]; exact h7
  · rw [e _ _ (by omega), e _ _ (by omega)]; exact h8 p hp
  · rw [e _ _ (by omega), e _ _ (by omega), e _ _ (by omega), e _ _ (by omega), e _ _ (by omega)]; exact h9 i hi
  · rw [e _ _ (by omega)]; exact h10 i hi
  · rw [e _ _ (by omega)]; exact h11 f hf
  · rw [e _ _ (by omega)]; exact h13
  · rw [e _ _ (by omega)]; exact h14
  · rw [e _ _ (by omega)]; exact h15
/-- places that a run doesn't show -/
theorem um_seen_uc {o : Nat} (h : um_seen o c m) (hq : (q = 4 ∧ ¬ k = 4) ∨ q = 20 ∨ q = 21) : um_seen o (um_up c q k v) m := by
  obtain ⟨h1, h2, h3, h4, h5, h6, h7, h8, h9, h10, h11⟩ := h
  have e : ∀ a b, ¬ ((a = 4 ∧ ¬ b = 4) ∨ a = 20 ∨ a = 21) → um_up c q k v a b = c a b := fun a b ha => um_up_ne (fun z => ha (z.1 ▸ z.2 ▸ hq))
  refine ⟨⟨h1.1, by rw [e _ _ (by omega)]; exact h1.2⟩, ?_, ?_, ?_, ?_, h6, ?_, ?_, fun i hi => ?_, fun i hi => ?_, fun i a hi ha => ?_⟩
  · rw [e _ _ (by omega)]; exact h2
  · rw [e _ _ (by omega)]; exact h3
  · rw [e _ _ (by omega)]; exact h4
  · rw [e _ _ (by omega)]; exact h5
  · rw [e _ _ (by omega)]; exact h7
  · rw [e _ _ (by omega)]; exact h8
  · rw [e _ _ (by omega)]; exact h9 i hi
  · rw [e _ _ (by omega)]; exact h10 i hi
  · rw [e _ _ (by omega)]; exact h11 i a hi ha
theorem um_seen_um {o : Nat} (h : um_seen o c m) (hq : q = 72 ∨ q = 73 ∨ q = 74 ∨ (q = 38 ∧ (k = 0 ∨ k = 53))) : um_seen o c (um_up m q k v) := by
  obtain ⟨h1, h2, h3, h4, h5, h6, h7, h8, h9, h10, h11⟩ := h
  have e : ∀ a b, ¬ (a = 72 ∨ a = 73 ∨ a = 74 ∨ (a = 38 ∧ (b = 0 ∨ b = 53))) → um_up m q k v a b = m a b := fun a b ha => um_up_ne (fun z => ha (z.1 ▸ z.2 ▸ hq))
  refine ⟨h1, ?_, ?_, ?_, h5, ?_, ?_, ?_, fun i hi => ?_, fun i hi => ?_, fun i a hi ha => ?_⟩
  · rw [e _ _ (by omega)]; exact h2
  · rw [e _ _ (by omega)]; exact h3
  · rw [e _ _ (by omega)]; exact h4
  · rw [e _ _ (by omega)]; exact h6
  · rw [e _ _ (by omega)]; exact h7
  · rw [e _ _ (by omega)]; exact h8
  · rw [e _ _ (by omega)]; exact h9 i hi
  · rw [e _ _ (by omega)]; exact h10 i hi
  · rw [e _ _ (by omega)]; exact h11 i a hi ha
end Keep
section Search
variable {c b m : um_S} {r : Nat} {p x : Int32}
theorem um_rowFor_none {Q : Int32 → um_S → Prop} (hr : c 2 6 = nI r) (hr3 : r ≤ 300) (he : um_rowsEq r c m) (hno : ∀ i, i < r → ¬ um_hit m p x i) (hq : Q (-1) (um_J c b)) : wp_Co_rowFor p x (um_J c b) Q := by
  have key : ∀ d i fu, i + d = r → d < fu → wp_Co_rowFor_2 Q fu p x (nI i) (um_J c b) := by
    intro d
    induction d with
    | zero =>
      intro i fu h1 h2
      obtain ⟨f, rfl⟩ : ∃ f, fu = f + 1 := ⟨fu - 1, by omega⟩
      have : i = r := by omega
      subst this
      exact p_rowFor_end hr hq
    | succ d ih =>
      intro i fu h1 h2
      obtain ⟨f, rfl⟩ : ∃ f, fu = f + 1 := ⟨fu - 1, by omega⟩
      exact p_rowFor_at hr hr3 (by omega) he (fun _ => ih (i + 1) f (by omega) (by omega)) (fun h => absurd h (hno i (by omega)))
  exact key r 0 100000 (by omega) (by omega)
theorem um_rowFor_some {Q : Int32 → um_S → Prop} {j : Nat} (hr : c 2 6 = nI r) (hr3 : r ≤ 300) (he : um_rowsEq r c m) (hj : j < r) (hit : um_hit m p x j) (hno : ∀ i, i < j → ¬ um_hit m p x i) (hq : Q (nI j) (um_J c b)) : wp_Co_rowFor p x (um_J c b) Q := by
  have key : ∀ d i fu, i + d = j → d < fu → wp_Co_rowFor_2 Q fu p x (nI i) (um_J c b) := by
    intro d
    induction d with
    | zero =>
      intro i fu h1 h2
      obtain ⟨f, rfl⟩ : ∃ f, fu = f + 1 := ⟨fu - 1, by omega⟩
      have : i = j := by omega
      subst this
      exact p_rowFor_at hr hr3 hj he (fun h => absurd hit h) (fun _ => hq)
    | succ d ih =>
      intro i fu h1 h2
      obtain ⟨f, rfl⟩ : ∃ f, fu = f + 1 := ⟨fu - 1, by omega⟩
      exact p_rowFor_at hr hr3 (by omega) he (fun _ => ih (i + 1) f (by omega) (by omega)) (fun h => absurd h (hno i (by omega)))
  exact key j 0 100000 (by omega) (by omega)
theorem um_thr_none {Q : um_S → Prop} {K : Int32 → um_S → Prop} {k : Nat} (hr : m 38 14 = nI r) (hr3 : r ≤ 300) (hk : m 38 53 = nI k) (h1 : 1 ≤ k) (h2 : k ≤ 12) (hno : ∀ i, i < r → ¬ um_hit m p x i) (hq : K x (um_J b (um_up m 38 53 (m 38 53 - 1)))) : wp_Mo_throwing_31 Q K 100000 x p 0 (um_J b m) := by
  have key : ∀ d i fu, i + d = r → d < fu → wp_Mo_throwing_31 Q K fu x p (nI i) (um_J b m) := by
    intro d
    induction d with
    | zero =>
      intro i fu g1 g2
      obtain ⟨f, rfl⟩ : ∃ f, fu = f + 1 := ⟨fu - 1, by omega⟩
      have : i = r := by omega
      subst this
      exact p_thr_end hr hq
    | succ d ih =>
      intro i fu g1 g2
      obtain ⟨f, rfl⟩ : ∃ f, fu = f + 1 := ⟨fu - 1, by omega⟩
      exact p_thr_at hr hr3 (by omega) hk h1 h2 (fun _ => ih (i + 1) f (by omega) (by omega)) (fun h => absurd h (hno i (by omega)))
  exact key r 0 100000 (by omega) (by omega)
theorem um_thr_some {Q : um_S → Prop} {K : Int32 → um_S → Prop} {k j : Nat} (hr : m 38 14 = nI r) (hr3 : r ≤ 300) (hk : m 38 53 = nI k) (h1 : 1 ≤ k) (h2 : k ≤ 12) (hj : j < r) (hit : um_hit m p x j) (hno : ∀ i, i < j → ¬ um_hit m p x i)
    (hq : Q (um_J b (um_up (um_up (um_up (um_up m 73 (k - 1) 0) 74 (200 * (k - 1)) x) 73 (k - 1) 1) 72 (k - 1) (m 51 j)))) : wp_Mo_throwing_31 Q K 100000 x p 0 (um_J b m) := by
  have key : ∀ d i fu, i + d = j → d < fu → wp_Mo_throwing_31 Q K fu x p (nI i) (um_J b m) := by
    intro d
    induction d with
    | zero =>
      intro i fu g1 g2
      obtain ⟨f, rfl⟩ : ∃ f, fu = f + 1 := ⟨fu - 1, by omega⟩
      have : i = j := by omega
      subst this
      exact p_thr_at hr hr3 hj hk h1 h2 (fun h => absurd hit h) (fun _ => hq)
    | succ d ih =>
      intro i fu g1 g2
      obtain ⟨f, rfl⟩ : ∃ f, fu = f + 1 := ⟨fu - 1, by omega⟩
      exact p_thr_at hr hr3 (by omega) hk h1 h2 (fun _ => ih (i + 1) f (by omega) (by omega)) (fun h => absurd h (hno i (by omega)))
  exact key j 0 100000 (by omega) (by omega)
end Search
