/-! lay: how many handlers there are, and which come before which -/
def ly_T (f : Nat → Nat) : Nat → Nat
  | 0 => 0
  | k + 1 => ly_T f k + f k
def ly_ov (m : um_S) (k : Nat) : Nat := (m 57 k).toNatClampNeg
/-- the handlers of items above level v, or of level v and below i -/
def ly_bf (ov bs : Nat → Nat) (v i : Nat) : Nat := ly_T (fun k => if v < ov k ∨ (ov k = v ∧ k < i) then bs k else 0) 2001
section LaySums
variable {f g ov bs : Nat → Nat} {i j v K d : Nat}
theorem ly_T_eq : ∀ K, (∀ k, k < K → f k = g k) → ly_T f K = ly_T g K
  | 0, _ => rfl
  | K + 1, h => by
    show ly_T f K + f K = ly_T g K + g K
    rw [ly_T_eq K (fun k hk => h k (by omega)), h K (by omega)]
theorem ly_T_le : ∀ K, (∀ k, k < K → f k ≤ g k) → ly_T f K ≤ ly_T g K
  | 0, _ => Nat.le_refl _
  | K + 1, h => by
    have h1 := ly_T_le K (fun k hk => h k (by omega))
    have h2 := h K (by omega)
    show ly_T f K + f K ≤ ly_T g K + g K
    omega
theorem ly_T_at : ∀ K, i < K → (∀ k, k < K → ¬ k = i → f k = g k) → f i = g i + d → ly_T f K = ly_T g K + d
  | 0, h, _, _ => by omega
  | K + 1, h, h1, h2 => by
    show ly_T f K + f K = ly_T g K + g K + d
    by_cases z : i = K
    · subst z
      rw [ly_T_eq (f := f) (g := g) i (fun k hk => h1 k (by omega) (by omega))]
      omega
    · rw [ly_T_at K (by omega) (fun k hk => h1 k (by omega)) h2, h1 K (by omega) (by omega)]
      omega
theorem ly_T_0 : ∀ K, (∀ k, k < K → f k = 0) → ly_T f K = 0
  | 0, _ => rfl
  | K + 1, h => by
    show ly_T f K + f K = 0
    rw [ly_T_0 K (fun k hk => h k (by omega)), h K (by omega)]
/-- i comes before j -/
theorem ly_bf_lt (hi : i < 2001) (h : ov j < ov i ∨ (ov i = ov j ∧ i < j)) : ly_bf ov bs (ov i) i + bs i ≤ ly_bf ov bs (ov j) j := by
  unfold ly_bf
  have e : ly_T (fun k => (if ov i < ov k ∨ (ov k = ov i ∧ k < i) then bs k else 0) + (if k = i then bs i else 0)) 2001 = ly_T (fun k => if ov i < ov k ∨ (ov k = ov i ∧ k < i) then bs k else 0) 2001 + bs i := by
    refine ly_T_at (i := i) 2001 hi (fun k hk z => ?_) ?_
    · show _ + (if k = i then bs i else 0) = _
      rw [if_neg z]
      rfl
    · show _ + (if i = i then bs i else 0) = _
      rw [if_pos rfl]
  rw [← e]
  refine ly_T_le 2001 (fun k hk => ?_)
  show (if ov i < ov k ∨ (ov k = ov i ∧ k < i) then bs k else 0) + (if k = i then bs i else 0) ≤ (if ov j < ov k ∨ (ov k = ov j ∧ k < j) then bs k else 0)
  by_cases z : k = i
  · subst z
    rw [if_neg (by omega), if_pos rfl, if_pos h]
    omega
  · rw [if_neg z]
    by_cases y : ov i < ov k ∨ (ov k = ov i ∧ k < i)
    · rw [if_pos y, if_pos (by omega)]
      omega
    · rw [if_neg y]
      omega
theorem ly_bf_all (hi : i < 2001) : ly_bf ov bs (ov i) i + bs i ≤ ly_T bs 2001 := by
  unfold ly_bf
  have e : ly_T (fun k => (if ov i < ov k ∨ (ov k = ov i ∧ k < i) then bs k else 0) + (if k = i then bs i else 0)) 2001 = ly_T (fun k => if ov i < ov k ∨ (ov k = ov i ∧ k < i) then bs k else 0) 2001 + bs i := by
    refine ly_T_at (i := i) 2001 hi (fun k hk z => ?_) ?_
    · show _ + (if k = i then bs i else 0) = _
      rw [if_neg z]
      rfl
    · show _ + (if i = i then bs i else 0) = _
      rw [if_pos rfl]
  rw [← e]
  refine ly_T_le 2001 (fun k hk => ?_)
  show (if ov i < ov k ∨ (ov k = ov i ∧ k < i) then bs k else 0) + (if k = i then bs i else 0) ≤ bs k
  by_cases z : k = i
  · subst z
    rw [if_neg (by omega), if_pos rfl]
    omega
  · rw [if_neg z]
    by_cases y : ov i < ov k ∨ (ov k = ov i ∧ k < i)
    · rw [if_pos y]
      omega
    · rw [if_neg y]
      omega
/-- one more handler of item j -/
theorem ly_bf_more (hj : j < 2001) : ly_bf ov (ly_g bs j (bs j + 1)) v i = ly_bf ov bs v i + (if v < ov j ∨ (ov j = v ∧ j < i) then 1 else 0) := by
  unfold ly_bf
  refine ly_T_at (i := j) 2001 hj (fun k hk z => ?_) ?_
  · show (if v < ov k ∨ (ov k = v ∧ k < i) then ly_g bs j (bs j + 1) k else 0) = _
    rw [ly_g_ne z]
  · show (if v < ov j ∨ (ov j = v ∧ j < i) then ly_g bs j (bs j + 1) j else 0) = (if v < ov j ∨ (ov j = v ∧ j < i) then bs j else 0) + (if v < ov j ∨ (ov j = v ∧ j < i) then 1 else 0)
    by_cases y : v < ov j ∨ (ov j = v ∧ j < i)
    · rw [if_pos y, if_pos y, if_pos y, ly_g_at]
    · rw [if_neg y, if_neg y, if_neg y]
theorem ly_T_more (hj : j < 2001) : ly_T (ly_g bs j (bs j + 1)) 2001 = ly_T bs 2001 + 1 :=
  ly_T_at (i := j) 2001 hj (fun k hk z => ly_g_ne z) ly_g_at
/-- the reference's walk over the items -/
theorem ly_bf_next (hi : i < 2001) : ly_bf ov bs v (i + 1) = ly_bf ov bs v i + (if ov i = v then bs i else 0) := by
  unfold ly_bf
  refine ly_T_at (i := i) 2001 hi (fun k hk z => ?_) ?_
  · show (if v < ov k ∨ (ov k = v ∧ k < i + 1) then bs k else 0) = (if v < ov k ∨ (ov k = v ∧ k < i) then bs k else 0)
    by_cases y : v < ov k ∨ (ov k = v ∧ k < i)
    · rw [if_pos y, if_pos (by omega)]
    · rw [if_neg y, if_neg (by omega)]
  · show (if v < ov i ∨ (ov i = v ∧ i < i + 1) then bs i else 0) = (if v < ov i ∨ (ov i = v ∧ i < i) then bs i else 0) + (if ov i = v then bs i else 0)
    by_cases y : ov i = v
    · rw [if_pos (by omega), if_neg (by omega), if_pos y]
      omega
    · by_cases w : v < ov i
      · rw [if_pos (Or.inl w), if_pos (Or.inl w), if_neg y]
        rfl
      · rw [if_neg (by omega), if_neg (by omega), if_neg y]
theorem ly_bf_down : ly_bf ov bs v 0 = ly_bf ov bs (v + 1) 2001 := by
  unfold ly_bf
  refine ly_T_eq 2001 (fun k hk => ?_)
  show (if v < ov k ∨ (ov k = v ∧ k < 0) then bs k else 0) = (if v + 1 < ov k ∨ (ov k = v + 1 ∧ k < 2001) then bs k else 0)
  by_cases y : v < ov k
  · rw [if_pos (Or.inl y), if_pos (by omega)]
  · rw [if_neg (by omega), if_neg (by omega)]
theorem ly_bf_top (h : ∀ k, k < 2001 → 0 < bs k → ov k ≤ v) : ly_bf ov bs v 0 = 0 := by
  unfold ly_bf
  refine ly_T_0 2001 (fun k hk => ?_)
  show (if v < ov k ∨ (ov k = v ∧ k < 0) then bs k else 0) = 0
  by_cases y : v < ov k
  · rw [if_pos (Or.inl y)]
    have := h k hk
    omega
  · rw [if_neg (by omega)]
theorem ly_bf_end : ly_bf ov bs 0 2001 = ly_T bs 2001 := by
  unfold ly_bf
  refine ly_T_eq 2001 (fun k hk => ?_)
  show (if 0 < ov k ∨ (ov k = 0 ∧ k < 2001) then bs k else 0) = bs k
  rw [if_pos (by omega)]
theorem ly_bf_of {ov2 : Nat → Nat} (h : ∀ k, 0 < bs k → ov2 k = ov k) : ly_bf ov2 bs v i = ly_bf ov bs v i := by
  unfold ly_bf
  refine ly_T_eq 2001 (fun k hk => ?_)
  show (if v < ov2 k ∨ (ov2 k = v ∧ k < i) then bs k else 0) = (if v < ov k ∨ (ov k = v ∧ k < i) then bs k else 0)
  by_cases z : 0 < bs k
  · rw [h k z]
  · have e : bs k = 0 := by omega
    rw [e]
    by_cases y : v < ov2 k ∨ (ov2 k = v ∧ k < i)
    · rw [if_pos y]
      by_cases w : v < ov k ∨ (ov k = v ∧ k < i)
      · rw [if_pos w]
      · rw [if_neg w]
    · rw [if_neg y]
      by_cases w : v < ov k ∨ (ov k = v ∧ k < i)
      · rw [if_pos w]
      · rw [if_neg w]
end LaySums
