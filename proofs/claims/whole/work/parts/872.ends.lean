/-! lay: an item ends: its goals become known -/
/-- the reference's rows when item j ends behind n instructions, of which i were looked at -/
def lm_endk (m : um_S) (j n i : Nat) : um_S := fun q k => if q = 47 ∧ k < i ∧ (m 46 k = 10 ∨ m 46 k = 11) ∧ m 47 k = -1 - nI j then nI n else um_up m 59 j (nI n) q k
def lm_ends (m : um_S) (j n : Nat) : um_S := lm_endk m j n n
section LayEnds
variable {N a n B T I i j : Nat} {D nd kd sd bd : Nat → Nat} {c m b : um_S} {X : Nat → Prop} {Q : um_S → Prop} {q k : Nat}
theorem lm_endk_row (h : ¬ q = 47) : lm_endk m j n i q = um_up m 59 j (nI n) q := by
  funext k
  unfold lm_endk
  rw [if_neg (fun z => h z.1)]
theorem lm_ends_row (h : ¬ (q = 47 ∨ q = 59)) : lm_ends m j n q = m q := by
  unfold lm_ends
  rw [lm_endk_row (by omega), um_up_q (by omega)]
theorem lm_endk_hit (h : k < i) (h1 : m 46 k = 10 ∨ m 46 k = 11) (h2 : m 47 k = -1 - nI j) : lm_endk m j n i 47 k = nI n := by
  unfold lm_endk
  rw [if_pos ⟨rfl, h, h1, h2⟩]
theorem lm_endk_miss (h : ¬ (k < i ∧ (m 46 k = 10 ∨ m 46 k = 11) ∧ m 47 k = -1 - nI j)) : lm_endk m j n i 47 k = m 47 k := by
  unfold lm_endk
  rw [if_neg (fun z => h z.2), um_up_q (by decide)]
theorem lm_endk_same (h : ¬ ((m 46 i = 10 ∨ m 46 i = 11) ∧ m 47 i = -1 - nI j)) : lm_endk m j n (i + 1) = lm_endk m j n i := by
  funext q k
  unfold lm_endk
  by_cases e : k = i
  · subst e
    rw [if_neg (fun z => h z.2.2), if_neg (fun z => h z.2.2)]
  · by_cases z : q = 47 ∧ k < i ∧ (m 46 k = 10 ∨ m 46 k = 11) ∧ m 47 k = -1 - nI j
    · rw [if_pos z, if_pos ⟨z.1, by omega, z.2.2⟩]
    · rw [if_neg z, if_neg (fun y => z ⟨y.1, by omega, y.2.2⟩)]
theorem lm_endk_more (h : (m 46 i = 10 ∨ m 46 i = 11) ∧ m 47 i = -1 - nI j) : um_up (lm_endk m j n i) 47 i (nI n) = lm_endk m j n (i + 1) := by
  funext q k
  by_cases e : q = 47 ∧ k = i
  · obtain ⟨rfl, rfl⟩ := e
    rw [um_up_self, lm_endk_hit (by omega) h.1 h.2]
  · rw [um_up_ne e]
    unfold lm_endk
    by_cases z : q = 47 ∧ k < i ∧ (m 46 k = 10 ∨ m 46 k = 11) ∧ m 47 k = -1 - nI j
    · rw [if_pos z, if_pos ⟨z.1, by omega, z.2.2⟩]
    · rw [if_neg z, if_neg (fun y => z ⟨y.1, by omega, y.2.2⟩)]
theorem p_Mends12 (hn : m 38 10 = nI n) (hn2 : n ≤ 1000) (hq : Q (um_J b (lm_ends m j n))) : ∀ d i fuel, i + d = n → d < fuel → wp_Mo_ends_12 Q fuel (nI j) (nI i) (um_J b (lm_endk m j n i)) := by
  intro d
  induction d with
  | zero =>
    intro i fuel h1 h2
    obtain ⟨f, rfl⟩ : ∃ f, fuel = f + 1 := ⟨fuel - 1, by omega⟩
    have e : i = n := by omega
    subst e
    unfold wp_Mo_ends_12
    refine um_yes ?_ hq
    rw [um_J_m (q := 38) (by decide), lm_endk_row (by decide), um_up_q (by decide), hn]
    exact nI_le (Nat.le_refl _) (by omega)
  | succ d ih =>
    intro i fuel h1 h2
    obtain ⟨f, rfl⟩ : ∃ f, fuel = f + 1 := ⟨fuel - 1, by omega⟩
    have iv : vp_in (nI i) 1000 := vp_in_nI (by omega) (by decide)
    have go := ih (i + 1) f (by omega) (by omega)
    have e46 : lm_endk m j n i 46 = m 46 := by rw [lm_endk_row (by decide), um_up_q (by decide)]
    have e47 : lm_endk m j n i 47 i = m 47 i := lm_endk_miss (fun z => by omega)
    have e38 : lm_endk m j n i 38 = m 38 := by rw [lm_endk_row (by decide), um_up_q (by decide)]
    unfold wp_Mo_ends_12
    rw [um_cl1 (show i < 2147483648 by omega), um_J_m (q := 38) (by decide), um_J_m (q := 46) (by decide), um_J_m (q := 47) (by decide), e46, e47, e38, hn, show nI i + 1 = nI (i + 1) from um_succ]
    have same : ¬ ((m 46 i = 10 ∨ m 46 i = 11) ∧ m 47 i = -1 - nI j) → ∀ σ1 : um_S, σ1 = um_up (um_J b (lm_endk m j n i)) 47 i (m 47 i) → wp_Mo_ends_12 Q f (nI j) (nI (i + 1)) σ1 := by
      rintro z σ1 rfl
      have e : um_up (um_J b (lm_endk m j n i)) 47 i (m 47 i) = um_J b (lm_endk m j n (i + 1)) := by
        rw [um_J_um (by decide), lm_endk_same z]
        have := um_up_id (σ := lm_endk m j n i) (q := 47) (k := i)
        rw [e47] at this
        rw [this]
      rw [e]
      exact go
    have more : (m 46 i = 10 ∨ m 46 i = 11) ∧ m 47 i = -1 - nI j → ∀ σ1 : um_S, σ1 = um_up (um_J b (lm_endk m j n i)) 47 i (nI n) → wp_Mo_ends_12 Q f (nI j) (nI (i + 1)) σ1 := by
      rintro z σ1 rfl
      rw [um_J_um (by decide), lm_endk_more z]
      exact go
    refine um_no (fun z => ?_) ⟨iv, fun z => ⟨iv, fun y => ⟨iv, iv, same (fun w => y w.2)⟩, fun y => ⟨iv, more ⟨Or.inl z, y⟩⟩⟩, fun z => ⟨iv, fun y => ⟨iv, iv, same (fun w => w.1.elim z y)⟩, fun y => ⟨iv, fun w => ⟨iv, iv, same (fun u => w u.2)⟩, fun w => ⟨iv, more ⟨Or.inr y, w⟩⟩⟩⟩⟩
    have := (nI_leI (a := n) (b := i) (by omega) (by omega)).mp z
    omega
theorem p_Mends (hn : m 38 10 = nI n) (hn2 : n ≤ 1000) (hj : j < 2001) (hq : Q (um_J b (lm_ends m j n))) : wp_Mo_ends (nI j) (um_J b m) Q := by
  unfold wp_Mo_ends
  rw [um_cl1 (show j < 2147483648 by omega), um_J_m (q := 38) (by decide), hn, um_J_um (by decide)]
  refine ⟨vp_in_nI hj (by decide), ?_⟩
  rintro σ1 rfl
  have e : um_up m 59 j (nI n) = lm_endk m j n 0 := by
    funext q k
    unfold lm_endk
    rw [if_neg (fun z => by omega)]
  rw [e]
  exact p_Mends12 hn hn2 hq n 0 100000 (by omega) (by omega)
/-- a goal below n is told from what waits for item j -/
theorem ly_goal {t : Nat} (ht : t ≤ 1001) (hj : j ≤ 2000) : ¬ nI t = -1 - nI j := by
  rw [ly_neg]
  intro z
  have h1 := congrArg Int32.toInt z
  rw [nI_toInt (by omega), Int32.toInt_neg, nI_toInt (by omega)] at h1
  have : ((-((j + 1 : Nat) : Int)).bmod (2 ^ 32)) = -((j + 1 : Nat) : Int) := by
    apply Int.bmod_eq_of_le <;> omega
  rw [this] at h1
  omega
theorem ly_wait {j2 : Nat} (hj : j ≤ 2000) (hj2 : j2 ≤ 2000) (h : -(nI (j2 + 1)) = -1 - nI j) : j2 = j := by
  rw [ly_neg] at h
  have h1 := congrArg (fun x => -x) h
  simp only [Int32.neg_neg] at h1
  have := (nI_eq (a := j2 + 1) (b := j + 1) (by omega) (by omega)).mp h1
  omega
end LayEnds
