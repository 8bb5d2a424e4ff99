/-! lay: the innermost TRY with a finally around a RETURN, and around a BREAK inside its WHILE -/
section LayFins
variable {c m b b2 : um_S} {N u I : Nat} {D : Nat → Nat}
/-- the class's way out of scope j + 1, where it has no finally or lies in it -/
theorem p_fin47 {Q : Int32 → um_S → Prop} {K : Int32 → Int32 → Int32 → um_S → Prop} {v left : Int32} {s p : Nat} (hp : p < 3) (hs : s ≤ 2000) (hq : K v (c 23 s) (left + (-1)) (um_J c b)) : wp_Sc_finallyAround_47 Q K v (nI (4 * s + p)) left (um_J c b) := by
  unfold wp_Sc_finallyAround_47
  refine p_scopeOf (by omega) (by omega) ⟨vp_in_nI (by omega) (by decide), ?_⟩
  rw [um_cl1 (by omega), um_J_c (q := 23) (by decide)]
  rintro x rfl
  exact hq
/-- one turn of the class's search at scope s -/
theorem p_fin8 {Q : Int32 → um_S → Prop} {fuel left s p L : Nat} (hp : p < 3) (hs : s ≤ 2000) (hL : L ≤ 2000) (hl : 0 < left) (hl2 : left < 2147483648)
    (stop : s ≤ L → Q (-1) (um_J c b)) (found : L < s → ¬ c 25 s = -1 → ¬ p = 2 → Q (nI s) (um_J c b))
    (out : L < s → (c 25 s = -1 ∨ p = 2) → wp_Sc_finallyAround_8 Q fuel (nI L) (c 23 s) (nI (left - 1)) (um_J c b)) : wp_Sc_finallyAround_8 Q (fuel + 1) (nI L) (nI (4 * s + p)) (nI left) (um_J c b) := by
  unfold wp_Sc_finallyAround_8
  refine um_no (nI_nle hl (by omega)) (p_scopeOf (by omega) (by omega) ?_)
  by_cases hsl : s ≤ L
  · exact um_yes (nI_le hsl (by omega)) (stop hsl)
  · have hsl2 : L < s := by omega
    have e1 : nI left + (-1) = nI (left - 1) := by
      have := pk_m1 (left - 1)
      rwa [show left - 1 + 1 = left by omega] at this
    refine um_no (nI_ge hsl2 (by omega)) (p_scopeOf (by omega) (by omega) ⟨vp_in_nI (by omega) (by decide), ?_⟩)
    rw [um_cl1 (by omega), um_J_c (q := 25) (by decide)]
    by_cases h25 : c 25 s = -1
    · refine um_yes h25 (p_fin47 hp hs ?_)
      rw [e1]
      exact out hsl2 (Or.inl h25)
    · refine um_no h25 (p_partOf (by omega) (by omega) ?_)
      by_cases h2 : p = 2
      · subst h2
        refine um_yes rfl (p_fin47 (by decide) hs ?_)
        rw [e1]
        exact out hsl2 (Or.inr rfl)
      · refine um_no (fun z => h2 ((nI_eq (a := p) (b := 2) (by omega) (by decide)).mp z)) (p_scopeOf (by omega) (by omega) ?_)
        exact found hsl2 h25 h2
/-- has an item a finally -/
theorem p_hasF {Q : Bool → um_S → Prop} {j : Nat} (hN : N ≤ 150) (hj : j ≤ 2000) (h : ly_item N u D c m j) (yes : ¬ c 25 (j + 1) = -1 → Q true (um_J b2 m)) (no : c 25 (j + 1) = -1 → Q false (um_J b2 m)) : wp_Mo_hasFinally (nI j) (um_J b2 m) Q := by
  obtain ⟨nd, ov, dp, h1, h2, h3, h4, h5, h6, h7, h8, h9, h10, h11⟩ := h
  have hc2 : (nI nd).toNatClampNeg = nd := um_cl1 (by omega)
  unfold wp_Mo_hasFinally
  rw [um_cl1 (by omega), um_J_m (q := 55) (by decide), h2, hc2, um_J_m (q := 39) (by decide), um_J_m (q := 42) (by decide)]
  refine ⟨vp_in_nI (by omega) (by decide), vp_in_nI (by omega) (by decide), ?_⟩
  rcases h10 with ⟨w, k1, k2, k3⟩ | ⟨w, k1, k2, k3⟩
  · exact um_no' (by rw [w]; decide) (no k2)
  · refine um_yes' w ⟨vp_in_nI (by omega) (by decide), vp_in_nI (by omega) (by decide), ?_⟩
    rw [k2] at yes no
    exact ⟨fun z => no z, fun z => yes z⟩
/-- one turn of the reference's search at item j -/
theorem p_lv78 {Q : um_S → Prop} {v1 v2 v3 : Int32} {j q : Nat} {K : Int32 → Int32 → Int32 → Int32 → um_S → Prop} (hN : N ≤ 150) (hj : j ≤ 2000) (hq : q < 2) (h : ly_item N u D c m j)
    (yes : ¬ c 25 (j + 1) = -1 → wp_Mo_leaves_103 Q v1 v2 v3 (nI (2 * j + q)) (um_J b2 m)) (no : c 25 (j + 1) = -1 → K v1 v2 v3 (m 56 j) (um_J b2 m)) : wp_Mo_leaves_78 Q K v1 v2 v3 (nI (2 * j + q)) (um_J b2 m) := by
  unfold wp_Mo_leaves_78
  rw [ly_half hq (by omega), um_cl1 (by omega)]
  refine p_hasF hN hj h (fun z => ?_) (fun z => ?_)
  · exact ⟨fun _ => yes z, fun y => absurd y (by decide)⟩
  · refine ⟨fun y => absurd y (by decide), fun _ => ⟨vp_in_nI (by omega) (by decide), ?_⟩⟩
    rw [um_J_m (q := 56) (by decide)]
    rintro x rfl
    exact no z
/-- around a RETURN -/
theorem p_finR (hN : N ≤ 150) : ∀ k, k ≤ 2000 → (∀ j, j < k → ly_item N u D c m j) → ∀ x y, ly_cx k (c 24) (m 56) x y →
    ((∀ (b : um_S) (fuel left : Nat), k < fuel → k < left → left ≤ 2001 → ∀ Q : Int32 → um_S → Prop, Q (-1) (um_J c b) → wp_Sc_finallyAround_8 Q fuel 0 x (nI left) (um_J c b)) ∧
      ∀ (v1 v3 : Int32) (b2 : um_S) (fuel : Nat), k < fuel → ∀ Q : um_S → Prop, wp_Mo_leaves_103 Q v1 16 v3 (-1) (um_J b2 m) → wp_Mo_leaves_58 Q fuel v1 16 v3 y (um_J b2 m)) ∨
    ∃ j q, j < k ∧ q < 2 ∧ ¬ c 25 (j + 1) = -1 ∧ (∀ (b : um_S) (fuel left : Nat), k < fuel → k < left → left ≤ 2001 → ∀ Q : Int32 → um_S → Prop, Q (nI (j + 1)) (um_J c b) → wp_Sc_finallyAround_8 Q fuel 0 x (nI left) (um_J c b)) ∧
      ∀ (v1 v3 : Int32) (b2 : um_S) (fuel : Nat), k < fuel → ∀ Q : um_S → Prop, wp_Mo_leaves_103 Q v1 16 v3 (nI (2 * j + q)) (um_J b2 m) → wp_Mo_leaves_58 Q fuel v1 16 v3 y (um_J b2 m) := by
  intro k
  induction k using Nat.strongRecOn with
  | ind k ih =>
    intro hk hI x y hx
    rcases hx with ⟨rfl, rfl⟩ | ⟨j, hj, hx⟩
    · refine Or.inl ⟨fun b fuel left hf hl hl2 Q hq => ?_, fun v1 v3 b2 fuel hf Q hq => ?_⟩
      · obtain ⟨f, rfl⟩ : ∃ f, fuel = f + 1 := ⟨fuel - 1, by omega⟩
        exact p_fin8 (s := 0) (p := 0) (L := 0) (by decide) (by decide) (by decide) (by omega) (by omega) (fun _ => hq) (fun z => absurd z (by decide)) (fun z => absurd z (by decide))
      · obtain ⟨f, rfl⟩ : ∃ f, fuel = f + 1 := ⟨fuel - 1, by omega⟩
        unfold wp_Mo_leaves_58
        exact um_yes rfl hq
    · have hit := hI j hj
      have hcx : ly_cx j (c 24) (m 56) (c 23 (j + 1)) (m 56 j) := by
        obtain ⟨nd, ov, dp, h1, h2, h3, h4, h5, h6, h7, h8, h9, h10, h11⟩ := hit
        exact h9
      have r := ih j hj (by omega) (fun i hi => hI i (by omega)) _ _ hcx
      -- the class goes out of scope j + 1
      have cls : ∀ (b : um_S) (p : Nat), p < 3 → (c 25 (j + 1) = -1 ∨ p = 2) → ∀ Q : Int32 → um_S → Prop, (∀ fuel left, j < fuel → j < left → left ≤ 2001 → wp_Sc_finallyAround_8 Q fuel 0 (c 23 (j + 1)) (nI left) (um_J c b)) → ∀ fuel left, k < fuel → k < left → left ≤ 2001 → wp_Sc_finallyAround_8 Q fuel 0 (nI (4 * (j + 1) + p)) (nI left) (um_J c b) := by
        intro b p hp hz Q h fuel left hf hl hl2
        obtain ⟨f, rfl⟩ : ∃ f, fuel = f + 1 := ⟨fuel - 1, by omega⟩
        refine p_fin8 (L := 0) hp (by omega) (by decide) (by omega) (by omega) (fun z => absurd z (by omega)) (fun _ n1 n2 => hz.elim (fun z => absurd z n1) (fun z => absurd z n2)) (fun _ _ => ?_)
        exact h f (left - 1) (by omega) (by omega) (by omega)
      have ref : ∀ (v1 v3 : Int32) (b2 : um_S) (q : Nat), q < 2 → c 25 (j + 1) = -1 → ∀ Q : um_S → Prop, (∀ fuel, j < fuel → wp_Mo_leaves_58 Q fuel v1 16 v3 (m 56 j) (um_J b2 m)) → ∀ fuel, k < fuel → wp_Mo_leaves_58 Q fuel v1 16 v3 (nI (2 * j + q)) (um_J b2 m) := by
        intro v1 v3 b2 q hq hz Q h fuel hf
        obtain ⟨f, rfl⟩ : ∃ f, fuel = f + 1 := ⟨fuel - 1, by omega⟩
        unfold wp_Mo_leaves_58
        exact um_no (ly_ne (by omega)) (um_no' (by decide) (p_lv78 hN (by omega) hq hit (fun z => absurd hz z) (fun _ => h f (by omega))))
      have pq : (∃ q, q < 2 ∧ x = nI (4 * (j + 1) + q) ∧ y = nI (2 * j + q)) ∨ (x = nI (4 * (j + 1) + 2) ∧ y = m 56 j) := by
        rcases hx with ⟨e1, e2⟩ | ⟨e1, e2⟩ | ⟨-, e1, e2⟩
        · exact Or.inl ⟨0, by decide, e1, e2⟩
        · exact Or.inl ⟨1, by decide, e1, e2⟩
        · exact Or.inr ⟨e1, e2⟩
      rcases pq with ⟨q, hq, rfl, rfl⟩ | ⟨rfl, rfl⟩
      · by_cases hz : c 25 (j + 1) = -1
        · rcases r with ⟨r1, r2⟩ | ⟨i, q', hi, hq', z, r1, r2⟩
          · exact Or.inl ⟨fun b fuel left hf hl hl2 Q hq2 => cls b q (by omega) (Or.inl hz) Q (fun f l a1 a2 a3 => r1 b f l a1 a2 a3 Q hq2) fuel left hf hl hl2, fun v1 v3 b2 fuel hf Q hq2 => ref v1 v3 b2 q hq hz Q (fun f a1 => r2 v1 v3 b2 f a1 Q hq2) fuel hf⟩
          · exact Or.inr ⟨i, q', by omega, hq', z, fun b fuel left hf hl hl2 Q hq2 => cls b q (by omega) (Or.inl hz) Q (fun f l a1 a2 a3 => r1 b f l a1 a2 a3 Q hq2) fuel left hf hl hl2, fun v1 v3 b2 fuel hf Q hq2 => ref v1 v3 b2 q hq hz Q (fun f a1 => r2 v1 v3 b2 f a1 Q hq2) fuel hf⟩
        · refine Or.inr ⟨j, q, hj, hq, hz, fun b fuel left hf hl hl2 Q hq2 => ?_, fun v1 v3 b2 fuel hf Q hq2 => ?_⟩
          · obtain ⟨f, rfl⟩ : ∃ f, fuel = f + 1 := ⟨fuel - 1, by omega⟩
            exact p_fin8 (L := 0) (by omega) (by omega) (by decide) (by omega) (by omega) (fun z => absurd z (by omega)) (fun _ _ _ => hq2) (fun _ z => z.elim (fun z => absurd z hz) (fun z => by omega))
          · obtain ⟨f, rfl⟩ : ∃ f, fuel = f + 1 := ⟨fuel - 1, by omega⟩
            unfold wp_Mo_leaves_58
            exact um_no (ly_ne (by omega)) (um_no' (by decide) (p_lv78 hN (by omega) hq hit (fun _ => hq2) (fun z => absurd z hz)))
      · rcases r with ⟨r1, r2⟩ | ⟨i, q', hi, hq', z, r1, r2⟩
        · exact Or.inl ⟨fun b fuel left hf hl hl2 Q hq2 => cls b 2 (by decide) (Or.inr rfl) Q (fun f l a1 a2 a3 => r1 b f l a1 a2 a3 Q hq2) fuel left hf hl hl2, fun v1 v3 b2 fuel hf Q hq2 => r2 v1 v3 b2 fuel (by omega) Q hq2⟩
        · exact Or.inr ⟨i, q', by omega, hq', z, fun b fuel left hf hl hl2 Q hq2 => cls b 2 (by decide) (Or.inr rfl) Q (fun f l a1 a2 a3 => r1 b f l a1 a2 a3 Q hq2) fuel left hf hl hl2, fun v1 v3 b2 fuel hf Q hq2 => r2 v1 v3 b2 fuel (by omega) Q hq2⟩
/-- around a BREAK, inside its WHILE: item jl -/
theorem p_finB (hN : N ≤ 150) (h26 : c 26 0 = 0) {jl : Nat} (hjl : jl ≤ 2000) : ∀ k, k ≤ 2000 → (∀ j, j < k → ly_item N u D c m j) → ∀ x y, ly_cx k (c 24) (m 56) x y → ∀ s p : Nat, p < 3 → s ≤ 2001 → x = nI (4 * s + p) → c 26 s = nI (jl + 1) →
    jl < k ∧
    ((∃ q, q < 2 ∧ (∀ (b : um_S) (fuel left : Nat), k < fuel → k < left → left ≤ 2001 → ∀ Q : Int32 → um_S → Prop, Q (-1) (um_J c b) → wp_Sc_finallyAround_8 Q fuel (nI (jl + 1)) x (nI left) (um_J c b)) ∧
      ∀ (v1 : Int32) (b2 : um_S) (fuel : Nat), k < fuel → ∀ Q : um_S → Prop, wp_Mo_leaves_103 Q v1 17 (nI jl) (nI (2 * jl + q)) (um_J b2 m) → wp_Mo_leaves_58 Q fuel v1 17 (nI jl) y (um_J b2 m)) ∨
    ∃ j q, j < k ∧ q < 2 ∧ ¬ c 25 (j + 1) = -1 ∧ (∃ s' p', p' < 3 ∧ s' ≤ j ∧ c 23 (j + 1) = nI (4 * s' + p') ∧ c 26 s' = nI (jl + 1)) ∧ (∀ (b : um_S) (fuel left : Nat), k < fuel → k < left → left ≤ 2001 → ∀ Q : Int32 → um_S → Prop, Q (nI (j + 1)) (um_J c b) → wp_Sc_finallyAround_8 Q fuel (nI (jl + 1)) x (nI left) (um_J c b)) ∧
      ∀ (v1 : Int32) (b2 : um_S) (fuel : Nat), k < fuel → ∀ Q : um_S → Prop, wp_Mo_leaves_103 Q v1 17 (nI jl) (nI (2 * j + q)) (um_J b2 m) → wp_Mo_leaves_58 Q fuel v1 17 (nI jl) y (um_J b2 m)) := by
  intro k
  induction k using Nat.strongRecOn with
  | ind k ih =>
    intro hk hI x y hx s p hp hs hxs hlp
    rcases hx with ⟨rfl, rfl⟩ | ⟨j, hj, hx⟩
    · have e : s = 0 := ly_sc_eq hp (p' := 0) (by decide) hs (by decide) (show nI (4 * s + p) = nI (4 * 0 + 0) from hxs.symm)
      subst e
      rw [h26] at hlp
      exact absurd hlp.symm (nI_ne0 (by omega) (by omega))
    · have hit := hI j hj
      obtain ⟨nd, ov, dp, h1, h2, h3, h4, h5, h6, h7, h8, h9, h10, h11⟩ := id hit
      have es : s = j + 1 := by
        rcases hx with ⟨e, -⟩ | ⟨e, -⟩ | ⟨-, e, -⟩
        · exact ly_sc_eq hp (p' := 0) (by decide) hs (by omega) (hxs.symm.trans e)
        · exact ly_sc_eq hp (p' := 1) (by decide) hs (by omega) (hxs.symm.trans e)
        · exact ly_sc_eq hp (p' := 2) (by decide) hs (by omega) (hxs.symm.trans e)
      subst es
      have pq : (∃ q, q < 2 ∧ x = nI (4 * (j + 1) + q) ∧ y = nI (2 * j + q)) ∨ (¬ c 24 (j + 1) = -1 ∧ x = nI (4 * (j + 1) + 2) ∧ y = m 56 j) := by
        rcases hx with ⟨e1, e2⟩ | ⟨e1, e2⟩ | ⟨z, e1, e2⟩
        · exact Or.inl ⟨0, by decide, e1, e2⟩
        · exact Or.inl ⟨1, by decide, e1, e2⟩
        · exact Or.inr ⟨z, e1, e2⟩
      rcases h10 with ⟨w13, k1, k2, k3⟩ | ⟨w18, k1, k2, s', p', hp', hs', e', k3⟩
      · have ej : j = jl := by
          have := (nI_eq (a := j + 1) (b := jl + 1) (by omega) (by omega)).mp (k3.symm.trans hlp)
          omega
        subst ej
        rcases pq with ⟨q, hq, rfl, rfl⟩ | ⟨z, -, -⟩
        · refine ⟨hj, Or.inl ⟨q, hq, fun b fuel left hf hl hl2 Q hq2 => ?_, fun v1 b2 fuel hf Q hq2 => ?_⟩⟩
          · obtain ⟨f, rfl⟩ : ∃ f, fuel = f + 1 := ⟨fuel - 1, by omega⟩
            exact p_fin8 (L := j + 1) (by omega) (by omega) (by omega) (by omega) (by omega) (fun _ => hq2) (fun z => absurd z (by omega)) (fun z => absurd z (by omega))
          · obtain ⟨f, rfl⟩ : ∃ f, fuel = f + 1 := ⟨fuel - 1, by omega⟩
            unfold wp_Mo_leaves_58
            rw [ly_half hq (by omega)]
            exact um_no (ly_ne (by omega)) (um_yes' rfl (um_yes rfl hq2))
        · exact absurd k1 z
      · obtain ⟨jlt, r⟩ := ih j hj (by omega) (fun i hi => hI i (by omega)) _ _ h9 s' p' hp' (by omega) e' (k3.symm.trans hlp)
        refine ⟨by omega, ?_⟩
        have cls : ∀ (b : um_S) (p : Nat), p < 3 → (c 25 (j + 1) = -1 ∨ p = 2) → ∀ Q : Int32 → um_S → Prop, (∀ fuel left, j < fuel → j < left → left ≤ 2001 → wp_Sc_finallyAround_8 Q fuel (nI (jl + 1)) (c 23 (j + 1)) (nI left) (um_J c b)) → ∀ fuel left, k < fuel → k < left → left ≤ 2001 → wp_Sc_finallyAround_8 Q fuel (nI (jl + 1)) (nI (4 * (j + 1) + p)) (nI left) (um_J c b) := by
          intro b p hp hz Q h fuel left hf hl hl2
          obtain ⟨f, rfl⟩ : ∃ f, fuel = f + 1 := ⟨fuel - 1, by omega⟩
          refine p_fin8 (L := jl + 1) hp (by omega) (by omega) (by omega) (by omega) (fun z => absurd z (by omega)) (fun _ n1 n2 => hz.elim (fun z => absurd z n1) (fun z => absurd z n2)) (fun _ _ => ?_)
          exact h f (left - 1) (by omega) (by omega) (by omega)
        have nj : ¬ nI j = nI jl := fun z => by
          have := (nI_eq (a := j) (b := jl) (by omega) (by omega)).mp z
          omega
        have ref : ∀ (v1 : Int32) (b2 : um_S) (q : Nat), q < 2 → c 25 (j + 1) = -1 → ∀ Q : um_S → Prop, (∀ fuel, j < fuel → wp_Mo_leaves_58 Q fuel v1 17 (nI jl) (m 56 j) (um_J b2 m)) → ∀ fuel, k < fuel → wp_Mo_leaves_58 Q fuel v1 17 (nI jl) (nI (2 * j + q)) (um_J b2 m) := by
          intro v1 b2 q hq hz Q h fuel hf
          obtain ⟨f, rfl⟩ : ∃ f, fuel = f + 1 := ⟨fuel - 1, by omega⟩
          unfold wp_Mo_leaves_58
          rw [ly_half hq (by omega)]
          exact um_no (ly_ne (by omega)) (um_yes' rfl (um_no nj (p_lv78 hN (by omega) hq hit (fun z => absurd hz z) (fun _ => h f (by omega)))))
        rcases pq with ⟨q, hq, rfl, rfl⟩ | ⟨z, rfl, rfl⟩
        · by_cases hz : c 25 (j + 1) = -1
          · rcases r with ⟨q0, hq0, r1, r2⟩ | ⟨i, q', hi, hq', z, r0, r1, r2⟩
            · exact Or.inl ⟨q0, hq0, fun b fuel left hf hl hl2 Q hq2 => cls b q (by omega) (Or.inl hz) Q (fun f l a1 a2 a3 => r1 b f l a1 a2 a3 Q hq2) fuel left hf hl hl2, fun v1 b2 fuel hf Q hq2 => ref v1 b2 q hq hz Q (fun f a1 => r2 v1 b2 f a1 Q hq2) fuel hf⟩
            · exact Or.inr ⟨i, q', by omega, hq', z, r0, fun b fuel left hf hl hl2 Q hq2 => cls b q (by omega) (Or.inl hz) Q (fun f l a1 a2 a3 => r1 b f l a1 a2 a3 Q hq2) fuel left hf hl hl2, fun v1 b2 fuel hf Q hq2 => ref v1 b2 q hq hz Q (fun f a1 => r2 v1 b2 f a1 Q hq2) fuel hf⟩
          · refine Or.inr ⟨j, q, hj, hq, hz, ⟨s', p', hp', hs', e', k3.symm.trans hlp⟩, fun b fuel left hf hl hl2 Q hq2 => ?_, fun v1 b2 fuel hf Q hq2 => ?_⟩
            · obtain ⟨f, rfl⟩ : ∃ f, fuel = f + 1 := ⟨fuel - 1, by omega⟩
              exact p_fin8 (L := jl + 1) (by omega) (by omega) (by omega) (by omega) (by omega) (fun z => absurd z (by omega)) (fun _ _ _ => hq2) (fun _ z => z.elim (fun z => absurd z hz) (fun z => by omega))
            · obtain ⟨f, rfl⟩ : ∃ f, fuel = f + 1 := ⟨fuel - 1, by omega⟩
              unfold wp_Mo_leaves_58
              rw [ly_half hq (by omega)]
              exact um_no (ly_ne (by omega)) (um_yes' rfl (um_no nj (p_lv78 hN (by omega) hq hit (fun _ => hq2) (fun z => absurd z hz))))
        · rcases r with ⟨q0, hq0, r1, r2⟩ | ⟨i, q', hi, hq', z, r0, r1, r2⟩
          · exact Or.inl ⟨q0, hq0, fun b fuel left hf hl hl2 Q hq2 => cls b 2 (by decide) (Or.inr rfl) Q (fun f l a1 a2 a3 => r1 b f l a1 a2 a3 Q hq2) fuel left hf hl hl2, fun v1 b2 fuel hf Q hq2 => r2 v1 b2 fuel (by omega) Q hq2⟩
          · exact Or.inr ⟨i, q', by omega, hq', z, r0, fun b fuel left hf hl hl2 Q hq2 => cls b 2 (by decide) (Or.inr rfl) Q (fun f l a1 a2 a3 => r1 b f l a1 a2 a3 Q hq2) fuel left hf hl hl2, fun v1 b2 fuel hf Q hq2 => r2 v1 b2 fuel (by omega) Q hq2⟩
end LayFins
