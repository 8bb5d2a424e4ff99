/-! lay: the catches of a TRY -/
/-- the i-th of l catches, or -1 behind them -/
def ly_cv (l : Nat) (ch : Nat → Nat) (i : Nat) : Int32 := if i < l then nI (ch i) else -1
/-- the l catches from x on: x itself first, which is asked last -/
def ly_chain (m : um_S) (K : Nat) (x : Int32) (l : Nat) (ch : Nat → Nat) : Prop :=
  l ≤ K ∧ x = ly_cv l ch 0 ∧ ∀ i, i < l → ch i < K ∧ (∀ i2, i < i2 → i2 < l → ch i2 < ch i) ∧ um_isV (m 42 (ch i)) ∧ um_isS m (ch i) (m 43 (ch i)) ∧ ((m 39 (ch i) = 20 ∧ m 44 (ch i) = ly_cv l ch (i + 1)) ∨ (m 39 (ch i) = 19 ∧ i + 1 = l))
section LayChain
variable {N K l : Nat} {ch : Nat → Nat} {c m b : um_S} {x : Int32}
theorem ly_chain_ex (hT : um_tree N c m) : ∀ K, K ≤ N → ∀ x, um_isC m K x → ∃ l ch, 0 < l ∧ ly_chain m K x l ch := by
  intro K
  induction K using Nat.strongRecOn with
  | ind K ih =>
    rintro hK x ⟨j, w, hj, rfl, hw, w1, w2⟩
    obtain ⟨w0, y1, y2, -, -, -, -, -, -, -, -, -, y12, y13⟩ := (hT.2.2.2.1 j (by omega)).2.2.2.2.2.2.2
    have ew : w0 = w := (nI_eq (a := w0) (b := w) (by omega) (by omega)).mp (y2.symm.trans hw)
    subst ew
    obtain ⟨v1, v2⟩ := y12 (by omega)
    by_cases h19 : w0 = 19
    · refine ⟨1, fun _ => j, by omega, by omega, rfl, fun i hi => ⟨hj, fun i2 a1 a2 => by omega, v1, v2, Or.inr ⟨by rw [hw, h19]; rfl, by omega⟩⟩⟩
    · have h20 : w0 = 20 := by omega
      obtain ⟨l, ch, hl, g1, g2, g3⟩ := ih j hj (by omega) (m 44 j) (y13 h20)
      refine ⟨l + 1, fun i => if i = 0 then j else ch (i - 1), by omega, by omega, rfl, fun i hi => ?_⟩
      have cv : ∀ i, ly_cv (l + 1) (fun i => if i = 0 then j else ch (i - 1)) (i + 1) = ly_cv l ch i := by
        intro i
        unfold ly_cv
        by_cases z : i < l
        · rw [if_pos z, if_pos (by omega)]
          show nI (if i + 1 = 0 then j else ch (i + 1 - 1)) = _
          rw [if_neg (by omega), Nat.add_sub_cancel]
        · rw [if_neg z, if_neg (by omega)]
      by_cases z : i = 0
      · subst z
        refine ⟨hj, fun i2 a1 a2 => ?_, v1, v2, Or.inl ⟨by show m 39 j = 20; rw [hw, h20]; rfl, ?_⟩⟩
        · show (if i2 = 0 then j else ch (i2 - 1)) < (if 0 = 0 then j else ch (0 - 1))
          rw [if_neg (by omega), if_pos rfl]
          exact (g3 (i2 - 1) (by omega)).1
        · show m 44 j = _
          rw [cv 0]
          exact g2
      · obtain ⟨k1, k2, k3, k4, k5⟩ := g3 (i - 1) (by omega)
        have e : (if i = 0 then j else ch (i - 1)) = ch (i - 1) := if_neg z
        have ei : i - 1 + 1 = i := by omega
        rw [ei] at k5
        show (if i = 0 then j else ch (i - 1)) < K ∧ (∀ i2, i < i2 → i2 < l + 1 → (if i2 = 0 then j else ch (i2 - 1)) < (if i = 0 then j else ch (i - 1))) ∧ um_isV (m 42 (if i = 0 then j else ch (i - 1))) ∧ um_isS m (if i = 0 then j else ch (i - 1)) (m 43 (if i = 0 then j else ch (i - 1))) ∧ ((m 39 (if i = 0 then j else ch (i - 1)) = 20 ∧ m 44 (if i = 0 then j else ch (i - 1)) = ly_cv (l + 1) (fun i => if i = 0 then j else ch (i - 1)) (i + 1)) ∨ (m 39 (if i = 0 then j else ch (i - 1)) = 19 ∧ i + 1 = l + 1))
        rw [e, cv i]
        refine ⟨by omega, fun i2 a1 a2 => ?_, k3, k4, ?_⟩
        · rw [if_neg (by omega)]
          exact k2 (i2 - 1) (by omega) (by omega)
        · rcases k5 with z1 | ⟨z1, z2⟩
          · exact Or.inl z1
          · exact Or.inr ⟨z1, by omega⟩
/-- the catches of a TRY node -/
theorem ly_chain_try {k : Nat} (hT : um_tree N c m) (hk : k < N) (h18 : m 39 k = 18) : ∃ l ch, ly_chain m k (m 41 k) l ch ∧ (l = 0 ↔ m 41 k = -1) := by
  obtain ⟨w, y1, y2, y3, y4, y5, y6, y7, y8, y9, y10, y11, -⟩ := (hT.2.2.2.1 k hk).2.2.2.2.2.2.2
  have hN := hT.1.1
  have hw : w = 18 := (nI_eq (a := w) (b := 18) (by omega) (by decide)).mp (y2.symm.trans h18)
  rcases (y11 hw).2.1 with z | z
  · exact ⟨0, fun _ => 0, ⟨by omega, z, fun i hi => by omega⟩, ⟨fun _ => z, fun _ => rfl⟩⟩
  · obtain ⟨l, ch, hl, hc⟩ := ly_chain_ex hT k (by omega) _ z
    refine ⟨l, ch, hc, ⟨fun y => by omega, fun y => ?_⟩⟩
    obtain ⟨j, w, hj, e, -⟩ := z
    rw [y] at e
    exact absurd e.symm (ly_ne (by omega))
theorem p_catches20 {R : Int32 → um_S → Prop} (hK : K ≤ 150) (h : ly_chain m K x l ch) (hq : R (nI l) (um_J b m)) : ∀ d i fuel, i + d = l → d < fuel → wp_Mo_catches_20 R fuel (nI i) (ly_cv l ch i) (um_J b m) := by
  intro d
  induction d with
  | zero =>
    intro i fuel h1 h2
    obtain ⟨f, rfl⟩ : ∃ f, fuel = f + 1 := ⟨fuel - 1, by omega⟩
    have e : i = l := by omega
    subst e
    unfold wp_Mo_catches_20 ly_cv
    rw [if_neg (by omega)]
    exact um_yes rfl hq
  | succ d ih =>
    intro i fuel h1 h2
    obtain ⟨f, rfl⟩ : ∃ f, fuel = f + 1 := ⟨fuel - 1, by omega⟩
    obtain ⟨k1, -, -, -, k5⟩ := h.2.2 i (by omega)
    have go := ih (i + 1) f (by omega) (by omega)
    have e : ly_cv l ch i = nI (ch i) := by unfold ly_cv; rw [if_pos (by omega)]
    have iv : vp_in (nI (ch i)) 150 := vp_in_nI (by omega) (by decide)
    rw [e]
    unfold wp_Mo_catches_20
    rw [um_cl1 (show ch i < 2147483648 by omega), um_J_m (q := 39) (by decide), um_J_m (q := 44) (by decide), show nI i + 1 = nI (i + 1) from um_succ]
    refine um_no (ly_ne (by omega)) ⟨iv, fun z => ?_, fun z => ⟨iv, ?_⟩⟩
    · rcases k5 with ⟨y, -⟩ | ⟨-, y⟩
      · exact absurd y z
      · have e2 : ly_cv l ch (i + 1) = -1 := by unfold ly_cv; rw [if_neg (by omega)]
        rw [e2] at go
        exact go
    · rintro x1 rfl
      rcases k5 with ⟨-, y⟩ | ⟨y, -⟩
      · rw [y]
        exact go
      · rw [y] at z
        exact absurd z (by decide)
/-- how many catches a TRY is laid down with -/
def ly_nc (m : um_S) (l : Nat) : Nat := if m 38 34 = 0 then l else 0
theorem p_catches {R : Int32 → um_S → Prop} {k : Nat} (hk : k < 150) (h : ly_chain m k (m 41 k) l ch) (hq : R (nI (ly_nc m l)) (um_J b m)) : wp_Mo_catches (nI k) (um_J b m) R := by
  unfold wp_Mo_catches
  rw [um_cl1 (show k < 2147483648 by omega), um_J_m (q := 38) (by decide), um_J_m (q := 41) (by decide)]
  have hl := h.1
  unfold ly_nc at hq
  refine ⟨fun z => ⟨vp_in_nI hk (by decide), ?_⟩, fun z => ?_⟩
  · rw [if_pos z] at hq
    rintro x1 rfl
    rw [h.2.1]
    exact p_catches20 (by omega) h hq l 0 100000 (by omega) (by omega)
  · rw [if_neg z] at hq
    show wp_Mo_catches_20 R (99999 + 1) 0 (-1) (um_J b m)
    unfold wp_Mo_catches_20
    exact um_yes rfl hq
/-- the i-th that is asked -/
theorem p_catchAt {R : Int32 → um_S → Prop} {k i : Nat} (hk : k < 150) (h : ly_chain m k (m 41 k) l ch) (h0 : m 38 34 = 0) (hi : i < l) (hq : R (nI (ch (l - 1 - i))) (um_J b m)) : wp_Mo_catchAt (nI k) (nI i) (um_J b m) R := by
  have hl := h.1
  have key : ∀ d p fuel, p + d + i + 1 = l → d < fuel → wp_Mo_catchAt_16 R fuel (nI i) (nI (ch p)) (nI (i + d)) (um_J b m) := by
    intro d
    induction d with
    | zero =>
      intro p fuel h1 h2
      obtain ⟨f, rfl⟩ : ∃ f, fuel = f + 1 := ⟨fuel - 1, by omega⟩
      unfold wp_Mo_catchAt_16
      refine um_yes (nI_le (Nat.le_refl _) (by omega)) ?_
      rw [show p = l - 1 - i by omega]
      exact hq
    | succ d ih =>
      intro p fuel h1 h2
      obtain ⟨f, rfl⟩ : ∃ f, fuel = f + 1 := ⟨fuel - 1, by omega⟩
      obtain ⟨k1, -, -, -, k5⟩ := h.2.2 p (by omega)
      unfold wp_Mo_catchAt_16
      rw [um_cl1 (show ch p < 2147483648 by omega), um_J_m (q := 44) (by decide)]
      refine um_no (fun z => ?_) ⟨vp_in_nI (by omega) (by decide), ?_⟩
      · have := (nI_leI (a := i + (d + 1)) (b := i) (by omega) (by omega)).mp z
        omega
      · rintro x1 rfl
        have e : nI (i + (d + 1)) + (-1) = nI (i + d) := pk_m1 (i + d)
        have e44 : m 44 (ch p) = nI (ch (p + 1)) := by
          rcases k5 with ⟨-, y⟩ | ⟨-, y⟩
          · rw [y]
            unfold ly_cv
            rw [if_pos (by omega)]
          · omega
        rw [e, e44]
        exact ih (p + 1) f (by omega) (by omega)
  unfold wp_Mo_catchAt
  rw [um_cl1 (show k < 2147483648 by omega), um_J_m (q := 41) (by decide)]
  refine ⟨vp_in_nI hk (by decide), ?_⟩
  rintro x1 rfl
  refine p_catches hk h ?_
  rintro x4 rfl
  have e0 : m 41 k = nI (ch 0) := by
    rw [h.2.1]
    unfold ly_cv
    rw [if_pos (by omega)]
  have e1 : nI (ly_nc m l) - 1 = nI (i + (l - 1 - i)) := by
    unfold ly_nc
    rw [if_pos h0, um_pred (by omega)]
    congr 1
    omega
  rw [e0, e1]
  exact key (l - 1 - i) 0 100000 (by omega) (by omega)
/-- the class comes to the same one -/
theorem p_catchAfter {R : Int32 → um_S → Prop} {k i : Nat} (hT : um_tree N c m) (hk : k < N) (h : ly_chain m k (m 41 k) l ch) (hi : i ≤ l) (hq : R (if i < l then nI (ch (l - 1 - i)) else -1) (um_J c b)) : wp_Tr_catchAfter (nI k) (ly_cv l ch (l - i)) (um_J c b) R := by
  have hN := hT.1.1
  have hl := h.1
  have key : ∀ d p fuel lf, p + d + i = l → d < fuel → d ≤ lf → lf < 1000 → wp_Tr_catchAfter_16 R fuel (ly_cv l ch (l - i)) (if 0 < p then nI (ch (p - 1)) else -1) (ly_cv l ch p) (nI lf) (um_J c b) := by
    intro d
    induction d with
    | zero =>
      intro p fuel lf h1 h2 h3 h4
      obtain ⟨f, rfl⟩ : ∃ f, fuel = f + 1 := ⟨fuel - 1, by omega⟩
      have hq2 : R (if 0 < p then nI (ch (p - 1)) else -1) (um_J c b) := by
        by_cases z : 0 < p
        · rw [if_pos z]
          rw [if_pos (by omega), show l - 1 - i = p - 1 by omega] at hq
          exact hq
        · rw [if_neg z]
          rw [if_neg (by omega)] at hq
          exact hq
      unfold wp_Tr_catchAfter_16
      rw [show l - i = p by omega]
      exact ⟨fun _ => hq2, fun _ => ⟨fun _ => hq2, fun _ => ⟨fun _ => hq2, fun z => absurd rfl z⟩⟩⟩
    | succ d ih =>
      intro p fuel lf h1 h2 h3 h4
      obtain ⟨f, rfl⟩ : ∃ f, fuel = f + 1 := ⟨fuel - 1, by omega⟩
      obtain ⟨k1, k2, -, -, k5⟩ := h.2.2 p (by omega)
      have e : ly_cv l ch p = nI (ch p) := by unfold ly_cv; rw [if_pos (by omega)]
      have ne : ¬ nI (ch p) = ly_cv l ch (l - i) := by
        unfold ly_cv
        by_cases z : l - i < l
        · rw [if_pos z]
          intro y
          have := (nI_eq (a := ch p) (b := ch (l - i)) (by omega) (by have := (h.2.2 (l - i) z).1; omega)).mp y
          have := k2 (l - i) (by omega) z
          omega
        · rw [if_neg z]
          exact ly_ne (by omega)
      have e4 : c 9 (ch p * 5 + 4) = ly_cv l ch (p + 1) := by
        obtain ⟨-, -, -, -, -, t4, t5, -⟩ := hT.2.2.2.1 (ch p) (by omega)
        rcases k5 with ⟨y1, y2⟩ | ⟨y1, y2⟩
        · rw [t4 y1, y2]
        · rw [t5 (by rw [y1]; decide)]
          unfold ly_cv
          rw [if_neg (by omega)]
      rw [e]
      unfold wp_Tr_catchAfter_16
      refine um_no (nI_nle (by omega) (by omega)) (um_no (ly_ne (by omega)) (um_no ne (p_part (i := 4) hT (by omega) (by decide) ?_)))
      have go := ih (p + 1) f (lf - 1) (by omega) (by omega) (by omega) (by omega)
      rw [if_pos (by omega), Nat.add_sub_cancel] at go
      have e1 : nI lf + (-1) = nI (lf - 1) := by
        have := pk_m1 (lf - 1)
        rwa [show lf - 1 + 1 = lf by omega] at this
      rw [e4, e1]
      exact go
  unfold wp_Tr_catchAfter
  refine p_part (i := 1) hT hk (by decide) ?_
  rw [(hT.2.2.2.1 k hk).2.2.1, um_J_c (q := 1) (by decide), hT.2.1, h.2.1]
  rintro x3 rfl
  exact key (l - i) 0 100000 N (by omega) (by omega) (by omega) (by omega)
end LayChain
