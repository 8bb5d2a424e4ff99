/-! lay: the stretches of one handler, on both sides -/
section LayRowsOf
variable {N I n j hh tg : Nat} {cat : Bool} {lo hi : Int32}
/-- too many rows: the class goes on to the end, and nothing more happens -/
theorem p_rows_bad : ∀ (d i : Nat) (first : Int32) (c m : um_S), i + d = n + 1 → n ≤ 1000 → ly_sf N I n j hh cat tg lo hi c m → c 2 5 = nI n → c 2 6 = nI 300 → c 3 8 = -2 → ∀ (b : um_S) (Q : um_S → Prop) (fuel : Nat), d < fuel → Q (um_J c b) → wp_La_addRows_20 Q fuel (nI hh) first (nI i) (um_J c b) := by
  intro d
  induction d with
  | zero =>
    intro i first c m h1 hn hsf h5 h6 h8 b Q fuel hf hq
    obtain ⟨g, rfl⟩ : ∃ g, fuel = g + 1 := ⟨fuel - 1, by omega⟩
    unfold wp_La_addRows_20
    rw [um_J_c (q := 2) (by decide), h5]
    exact um_yes (nI_lt (by omega) (by omega)) hq
  | succ d ih =>
    intro i first c m h1 hn hsf h5 h6 h8 b Q fuel hf hq
    obtain ⟨g, rfl⟩ : ∃ g, fuel = g + 1 := ⟨fuel - 1, by omega⟩
    have go : ∀ first, wp_La_addRows_20 Q g (nI hh) first (nI (i + 1)) (um_J c b) := fun first => ih (i + 1) first c m (by omega) hn hsf h5 h6 h8 b Q g (by omega) hq
    have e : um_up c 3 8 (-2) = c := by
      have := um_up_id (σ := c) (q := 3) (k := 8)
      rw [h8] at this
      exact this
    have no : wp_La_addRows_55 Q (fun v1 v2 v3 σ => wp_La_addRows_20 Q g v1 v2 v3 σ) (nI hh) first (nI i) (um_J c b) := by
      unfold wp_La_addRows_55 wp_La_addRows_58 wp_La_addRows_73
      rw [show nI i + 1 = nI (i + 1) from um_succ]
      refine um_yes rfl (um_yes' rfl ⟨fun _ => go _, fun _ => p_addRowFull h6 ?_⟩)
      rw [e]
      exact go _
    have yes : wp_La_addRows_58 Q (fun v1 v2 v3 σ => wp_La_addRows_20 Q g v1 v2 v3 σ) (nI hh) first (nI i) 1 (um_J c b) := by
      unfold wp_La_addRows_58 wp_La_addRows_73
      rw [show nI i + 1 = nI (i + 1) from um_succ]
      exact um_no (by decide) ⟨fun _ => um_no' (by decide) (go _), fun _ => go _⟩
    unfold wp_La_addRows_20
    rw [um_J_c (q := 2) (by decide), h5]
    refine um_no (fun z => ?_) ⟨fun _ => no, fun z => ?_⟩
    · have := (nI_ltI (a := n) (b := i) (by omega) (by omega)).mp z
      omega
    · have hi2 : i < n := by
        have : ¬ n ≤ i := fun w => z (nI_le w (by omega))
        omega
      obtain ⟨t, t1, -⟩ := p_takes hsf hi2 hn
      exact t1 b _ ⟨fun _ => no, fun _ => yes⟩
/-- the stretches from instruction i on -/
theorem ly_stretch : ∀ (d i r : Nat) (first : Int32) (c m : um_S), i + d = n + 1 → ly_sf N I n j hh cat tg lo hi c m → ly_rw n r c m →
    ∃ c1 m1, (∀ (b : um_S) (Q : um_S → Prop) (fuel : Nat), d < fuel → Q (um_J c1 b) → wp_La_addRows_20 Q fuel (nI hh) first (nI i) (um_J c b)) ∧ (∀ (b : um_S) (Q : um_S → Prop) (fuel : Nat), d < fuel → Q (um_J b m1) → wp_Mo_stretches_6 Q fuel (nI j) (if cat then 1 else 0) (nI tg) lo hi first (nI i) (um_J b m)) ∧ ly_rk c m c1 m1 ∧
      ((∃ r1, ly_rw n r1 c1 m1 ∧ r ≤ r1 ∧ (∀ k, k < r → m1 51 k = m 51 k) ∧ ∀ k, r ≤ k → k < r1 → m1 51 k = nI tg) ∨ (c1 3 8 = -2 ∧ m1 38 35 = 1 ∧ m1 38 36 = 0)) := by
  intro d
  induction d with
  | zero =>
    intro i r first c m h1 hsf hrw
    obtain ⟨⟨n1, n2, n3⟩, ⟨r1, r2, r3⟩, req, s1, s2, s3⟩ := id hrw
    refine ⟨c, m, fun b Q fuel hf hq => ?_, fun b Q fuel hf hq => ?_, ly_rk.rf, Or.inl ⟨r, hrw, Nat.le_refl _, fun _ _ => rfl, fun k a1 a2 => by omega⟩⟩
    · obtain ⟨g, rfl⟩ : ∃ g, fuel = g + 1 := ⟨fuel - 1, by omega⟩
      unfold wp_La_addRows_20
      rw [um_J_c (q := 2) (by decide), n1]
      exact um_yes (nI_lt (by omega) (by omega)) hq
    · obtain ⟨g, rfl⟩ : ∃ g, fuel = g + 1 := ⟨fuel - 1, by omega⟩
      unfold wp_Mo_stretches_6
      rw [um_J_m (q := 38) (by decide), n2]
      exact um_yes (nI_lt (by omega) (by omega)) hq
  | succ d ih =>
    intro i r first c m h1 hsf hrw
    obtain ⟨⟨n1, n2, n3⟩, ⟨r1, r2, r3⟩, req, s1, s2, s3⟩ := id hrw
    have hin : ¬ n < i := by omega
    -- both loops at i, where t tells whether it is taken
    have cl : ∀ (b : um_S) (Q : um_S → Prop) (g : Nat) (t : Bool), (i = n → t = false) → (∀ (R : Bool → um_S → Prop), i < n → R t (um_J c b) → wp_La_takesFrom (nI hh) (nI i) (um_J c b) R) → (t = false → wp_La_addRows_55 Q (fun v1 v2 v3 σ => wp_La_addRows_20 Q g v1 v2 v3 σ) (nI hh) first (nI i) (um_J c b)) → (t = true → wp_La_addRows_58 Q (fun v1 v2 v3 σ => wp_La_addRows_20 Q g v1 v2 v3 σ) (nI hh) first (nI i) 1 (um_J c b)) → wp_La_addRows_20 Q (g + 1) (nI hh) first (nI i) (um_J c b) := by
      intro b Q g t ht hR q1 q2
      unfold wp_La_addRows_20
      rw [um_J_c (q := 2) (by decide), n1]
      refine um_no (fun z => ?_) ⟨fun z => q1 (ht ?_), fun z => hR _ ?_ ⟨q1, q2⟩⟩
      · exact hin ((nI_ltI (a := n) (b := i) (by omega) (by omega)).mp z)
      · have := (nI_leI (a := n) (b := i) (by omega) (by omega)).mp z
        omega
      · have : ¬ n ≤ i := fun w => z (nI_le w (by omega))
        omega
    have rf : ∀ (b : um_S) (Q : um_S → Prop) (g : Nat) (t : Bool), (i = n → t = false) → (i < n → (t = true → wp_Mo_stretches_60 Q (fun v1 v2 v3 v4 v5 v6 v7 σ => wp_Mo_stretches_6 Q g v1 v2 v3 v4 v5 v6 v7 σ) (nI j) (if cat then 1 else 0) (nI tg) lo hi first (nI i) (um_J b m)) → (t = false → wp_Mo_stretches_64 Q (fun v1 v2 v3 v4 v5 v6 v7 σ => wp_Mo_stretches_6 Q g v1 v2 v3 v4 v5 v6 v7 σ) (nI j) (if cat then 1 else 0) (nI tg) lo hi first (nI i) (um_J b m)) → wp_Mo_isAround (nI j) (nI i) (um_J b m) (fun x2 σ1 => wp_Mo_stretches_44 Q (fun v1 v2 v3 v4 v5 v6 v7 σ => wp_Mo_stretches_6 Q g v1 v2 v3 v4 v5 v6 v7 σ) (nI j) (if cat then 1 else 0) (nI tg) lo hi first (nI i) x2 σ1)) →
        (t = true → wp_Mo_stretches_60 Q (fun v1 v2 v3 v4 v5 v6 v7 σ => wp_Mo_stretches_6 Q g v1 v2 v3 v4 v5 v6 v7 σ) (nI j) (if cat then 1 else 0) (nI tg) lo hi first (nI i) (um_J b m)) → (t = false → wp_Mo_stretches_64 Q (fun v1 v2 v3 v4 v5 v6 v7 σ => wp_Mo_stretches_6 Q g v1 v2 v3 v4 v5 v6 v7 σ) (nI j) (if cat then 1 else 0) (nI tg) lo hi first (nI i) (um_J b m)) → wp_Mo_stretches_6 Q (g + 1) (nI j) (if cat then 1 else 0) (nI tg) lo hi first (nI i) (um_J b m) := by
      intro b Q g t ht hR q1 q2
      unfold wp_Mo_stretches_6
      rw [um_J_m (q := 38) (by decide), n2, s2]
      refine um_no (fun z => ?_) (um_yes' rfl ⟨fun z => ?_, fun z => hR ?_ q1 q2⟩)
      · exact hin ((nI_ltI (a := n) (b := i) (by omega) (by omega)).mp z)
      · have := (nI_leI (a := n) (b := i) (by omega) (by omega)).mp z
        unfold wp_Mo_stretches_44
        exact um_no (by decide) (um_no' (by decide) (q2 (ht (by omega))))
      · have : ¬ n ≤ i := fun w => z (nI_le w (by omega))
        omega
    obtain ⟨t, ht, t1, t2⟩ : ∃ t : Bool, (i = n → t = false) ∧ (∀ (b : um_S) (R : Bool → um_S → Prop), i < n → R t (um_J c b) → wp_La_takesFrom (nI hh) (nI i) (um_J c b) R) ∧ ∀ (b : um_S) (Q : um_S → Prop) (K6 : Int32 → Int32 → Int32 → Int32 → Int32 → Int32 → Int32 → um_S → Prop) (v3 v4 v5 v6 : Int32), i < n → (t = true → wp_Mo_stretches_60 Q K6 (nI j) (if cat then 1 else 0) v3 v4 v5 v6 (nI i) (um_J b m)) → (t = false → wp_Mo_stretches_64 Q K6 (nI j) (if cat then 1 else 0) v3 v4 v5 v6 (nI i) (um_J b m)) → wp_Mo_isAround (nI j) (nI i) (um_J b m) (fun x2 σ1 => wp_Mo_stretches_44 Q K6 (nI j) (if cat then 1 else 0) v3 v4 v5 v6 (nI i) x2 σ1) := by
      by_cases z : i < n
      · obtain ⟨t, t1, t2⟩ := p_takes hsf z n3
        exact ⟨t, fun w => by omega, fun b R _ => t1 b R, fun b Q K6 v3 v4 v5 v6 _ => t2 b Q K6 v3 v4 v5 v6⟩
      · exact ⟨false, fun _ => rfl, fun b R w => absurd w z, fun b Q K6 v3 v4 v5 v6 w => absurd w z⟩
    cases t with
    | true =>
      -- taken
      obtain ⟨c1, m1, z1, z2, z3, z4⟩ := ih (i + 1) r (if first = -1 then nI i else first) c m (by omega) hsf hrw
      refine ⟨c1, m1, fun b Q fuel hf hq => ?_, fun b Q fuel hf hq => ?_, z3, z4⟩
      · obtain ⟨g, rfl⟩ : ∃ g, fuel = g + 1 := ⟨fuel - 1, by omega⟩
        have go := z1 b Q g (by omega) hq
        refine cl b Q g true ht (t1 b) (fun w => absurd w (by decide)) (fun _ => ?_)
        unfold wp_La_addRows_58 wp_La_addRows_73
        rw [show nI i + 1 = nI (i + 1) from um_succ]
        refine um_no (by decide) ⟨fun w => um_no' (by decide) ?_, fun w => ?_⟩
        · rw [if_neg w] at go
          exact go
        · rw [if_pos w] at go
          exact go
      · obtain ⟨g, rfl⟩ : ∃ g, fuel = g + 1 := ⟨fuel - 1, by omega⟩
        have go := z2 b Q g (by omega) hq
        refine rf b Q g true ht (t2 b Q _ (nI tg) lo hi first) (fun _ => ?_) (fun w => absurd w (by decide))
        unfold wp_Mo_stretches_60 wp_Mo_stretches_67 wp_Mo_stretches_82
        rw [show nI i + 1 = nI (i + 1) from um_succ]
        refine um_no (by decide) ⟨fun w => um_no' (by decide) ?_, fun w => um_no' (by decide) ?_⟩
        · rw [if_neg w] at go
          exact go
        · rw [if_pos w] at go
          exact go
    | false =>
      by_cases hfi : first = -1
      · -- none is open
        obtain ⟨c1, m1, z1, z2, z3, z4⟩ := ih (i + 1) r first c m (by omega) hsf hrw
        refine ⟨c1, m1, fun b Q fuel hf hq => ?_, fun b Q fuel hf hq => ?_, z3, z4⟩
        · obtain ⟨g, rfl⟩ : ∃ g, fuel = g + 1 := ⟨fuel - 1, by omega⟩
          refine cl b Q g false ht (t1 b) (fun _ => ?_) (fun w => absurd w (by decide))
          unfold wp_La_addRows_55 wp_La_addRows_58 wp_La_addRows_73
          rw [show nI i + 1 = nI (i + 1) from um_succ]
          exact um_yes rfl (um_yes' rfl (um_yes hfi (z1 b Q g (by omega) hq)))
        · obtain ⟨g, rfl⟩ : ∃ g, fuel = g + 1 := ⟨fuel - 1, by omega⟩
          refine rf b Q g false ht (t2 b Q _ (nI tg) lo hi first) (fun w => absurd w (by decide)) (fun _ => ?_)
          unfold wp_Mo_stretches_64 wp_Mo_stretches_67 wp_Mo_stretches_82
          rw [show nI i + 1 = nI (i + 1) from um_succ]
          exact um_yes rfl (um_yes' rfl (um_yes hfi (z2 b Q g (by omega) hq)))
      · by_cases hr : r < 300
        · -- a row
          have hrk : ly_rk c m (lc_row c r first (nI i) (nI tg) lo hi) (lm_row m r first (nI i) (nI tg) lo hi) := ly_rk_row
          obtain ⟨c1, m1, z1, z2, z3, z4⟩ := ih (i + 1) (r + 1) (-1) (lc_row c r first (nI i) (nI tg) lo hi) (lm_row m r first (nI i) (nI tg) lo hi) (by omega) (ly_sf_rk hsf hrk) (ly_rw_row hrw hr)
          refine ⟨c1, m1, fun b Q fuel hf hq => ?_, fun b Q fuel hf hq => ?_, hrk.trans z3, ?_⟩
          · obtain ⟨g, rfl⟩ : ∃ g, fuel = g + 1 := ⟨fuel - 1, by omega⟩
            refine cl b Q g false ht (t1 b) (fun _ => ?_) (fun w => absurd w (by decide))
            unfold wp_La_addRows_55 wp_La_addRows_58 wp_La_addRows_73
            rw [show nI i + 1 = nI (i + 1) from um_succ]
            exact um_yes rfl (um_yes' rfl (um_no hfi (p_addRow hsf r1 hr (z1 b Q g (by omega) hq))))
          · obtain ⟨g, rfl⟩ : ∃ g, fuel = g + 1 := ⟨fuel - 1, by omega⟩
            refine rf b Q g false ht (t2 b Q _ (nI tg) lo hi first) (fun w => absurd w (by decide)) (fun _ => ?_)
            unfold wp_Mo_stretches_64 wp_Mo_stretches_67 wp_Mo_stretches_82
            rw [show nI i + 1 = nI (i + 1) from um_succ]
            exact um_yes rfl (um_yes' rfl (um_no hfi (p_Mrow r2 hr (z2 b Q g (by omega) hq))))
          · rcases z4 with ⟨r1', y1, y2, y3, y4⟩ | y
            · refine Or.inl ⟨r1', y1, by omega, fun k hk => ?_, fun k a1 a2 => ?_⟩
              · rw [y3 k (by omega), lm_row_old (by decide) (by decide) (by omega)]
              · by_cases w : k = r
                · subst w
                  rw [y3 k (by omega)]
                  exact lm_row_at.2.2.1
                · exact y4 k (by omega) a2
            · exact Or.inr y
        · -- too many
          have er : r = 300 := by omega
          rw [er] at r1 r2
          have hrk : ly_rk c m (um_up c 3 8 (-2)) (um_up m 38 35 1) := ly_rk_bad
          refine ⟨um_up c 3 8 (-2), um_up m 38 35 1, fun b Q fuel hf hq => ?_, fun b Q fuel hf hq => ?_, hrk, Or.inr ⟨um_up_self, um_up_self, by rw [um_up_ne (by decide)]; exact s3⟩⟩
          · obtain ⟨g, rfl⟩ : ∃ g, fuel = g + 1 := ⟨fuel - 1, by omega⟩
            refine cl b Q g false ht (t1 b) (fun _ => ?_) (fun w => absurd w (by decide))
            unfold wp_La_addRows_55 wp_La_addRows_58 wp_La_addRows_73
            rw [show nI i + 1 = nI (i + 1) from um_succ]
            refine um_yes rfl (um_yes' rfl (um_no hfi (p_addRowFull r1 ?_)))
            exact p_rows_bad d (i + 1) (-1) _ _ (by omega) n3 (ly_sf_rk hsf hrk) (by rw [um_up_q (by decide)]; exact n1) (by rw [um_up_q (by decide)]; exact r1) um_up_self b Q g (by omega) hq
          · obtain ⟨g, rfl⟩ : ∃ g, fuel = g + 1 + 1 := ⟨fuel - 2, by omega⟩
            refine rf b Q (g + 1) false ht (t2 b Q _ (nI tg) lo hi first) (fun w => absurd w (by decide)) (fun _ => ?_)
            unfold wp_Mo_stretches_64 wp_Mo_stretches_67 wp_Mo_stretches_82
            rw [show nI i + 1 = nI (i + 1) from um_succ]
            refine um_yes rfl (um_yes' rfl (um_no hfi (p_MrowFull r2 ?_)))
            show wp_Mo_stretches_6 Q (g + 1) _ _ _ _ _ _ _ _
            unfold wp_Mo_stretches_6
            rw [um_J_m (q := 38) (by decide), um_up_self]
            exact ⟨fun _ => hq, fun _ => um_no' (by decide) hq⟩
end LayRowsOf
