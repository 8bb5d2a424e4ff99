/-! lay: where an instruction lies, seen from a TRY -/
/-- the class's part P and what the reference answers -/
def ly_pr (P : Int32) (a : Nat) : Prop := (P = 0 ∧ a = 1) ∨ (P = 1 ∧ a = 2) ∨ ((P = -1 ∨ P = 2) ∧ a = 0)
def ly_pa (m : um_S) (j s : Nat) (P y : Int32) : Prop := ∃ a : Nat, ly_pr P a ∧ ∀ (b : um_S) (Q : Int32 → um_S → Prop) (fuel : Nat), s < fuel → Q (nI a) (um_J b m) → wp_Mo_isAround_7 Q fuel (nI j) y (um_J b m)
/-- the contexts of the items themselves -/
def ly_its (I : Nat) (c m : um_S) : Prop := ∀ i, i < I → ly_cx i (c 24) (m 56) (c 23 (i + 1)) (m 56 i)
section LayLook
variable {I i j s p : Nat} {c m : um_S} {x y : Int32}
theorem ly_pa_le {s2 : Nat} {P : Int32} (h : ly_pa m j s P y) (hs : s ≤ s2) : ly_pa m j s2 P y := by
  obtain ⟨a, h1, h2⟩ := h
  exact ⟨a, h1, fun b Q fuel hf hq => h2 b Q fuel (by omega) hq⟩
/-- one step outwards, from item i -/
theorem p_out {b : um_S} {Q : Int32 → um_S → Prop} {fuel e : Nat} (hi : i < 2001) (hne : ¬ i = j) (hj : j < 2001) (he : e < 2) (hq : wp_Mo_isAround_7 Q fuel (nI j) (m 56 i) (um_J b m)) : wp_Mo_isAround_7 Q (fuel + 1) (nI j) (nI (2 * i + e)) (um_J b m) := by
  unfold wp_Mo_isAround_7
  rw [ly_half he (by omega), um_cl1 (show i < 2147483648 by omega), um_J_m (q := 56) (by decide)]
  refine um_no (ly_ne (by omega)) (um_no' (fun z => hne ((nI_eq (a := i) (b := j) (by omega) (by omega)).mp z)) ⟨vp_in_nI (by omega) (by decide), ?_⟩)
  rintro x1 rfl
  exact hq
/-- outside the TRY -/
theorem ly_below (hI : I ≤ 2000) (hit : ly_its I c m) (hj : j < I) : ∀ s, s ≤ j → ∀ (x y : Int32) (p : Nat), p < 3 → x = nI (4 * s + p) → ly_cx I (c 24) (m 56) x y → ∀ (b : um_S) (Q : Int32 → um_S → Prop) (fuel : Nat), s < fuel → Q (nI 0) (um_J b m) → wp_Mo_isAround_7 Q fuel (nI j) y (um_J b m) := by
  intro s
  induction s using Nat.strongRecOn with
  | ind s ih =>
    intro hs x y p hp hx hcx b Q fuel hf hq
    obtain ⟨g, rfl⟩ : ∃ g, fuel = g + 1 := ⟨fuel - 1, by omega⟩
    rcases hcx with ⟨-, e⟩ | ⟨i, hi, h⟩
    · rw [e]
      unfold wp_Mo_isAround_7
      exact um_yes rfl hq
    · have hin := hit i hi
      obtain ⟨s2, p2, hp2, hs2, hx2⟩ := ly_cx_sc hin
      have hcx2 : ly_cx I (c 24) (m 56) (c 23 (i + 1)) (m 56 i) := ly_cx_mono (I := i) (by omega) ly_fr.rf hin
      rcases h with ⟨e1, e2⟩ | ⟨e1, e2⟩ | ⟨-, e1, e2⟩
      · have e := (nI_eq (a := 4 * s + p) (b := 4 * (i + 1)) (by omega) (by omega)).mp (hx.symm.trans e1)
        rw [e2]
        exact p_out (e := 0) (by omega) (by omega) (by omega) (by decide) (ih s2 (by omega) (by omega) _ _ p2 hp2 hx2 hcx2 b Q g (by omega) hq)
      · have e := (nI_eq (a := 4 * s + p) (b := 4 * (i + 1) + 1) (by omega) (by omega)).mp (hx.symm.trans e1)
        rw [e2]
        exact p_out (e := 1) (by omega) (by omega) (by omega) (by decide) (ih s2 (by omega) (by omega) _ _ p2 hp2 hx2 hcx2 b Q g (by omega) hq)
      · have e := (nI_eq (a := 4 * s + p) (b := 4 * (i + 1) + 2) (by omega) (by omega)).mp (hx.symm.trans e1)
        rw [e2]
        exact ih s2 (by omega) (by omega) _ _ p2 hp2 hx2 hcx2 b Q (g + 1) (by omega) hq
/-- the part of the looked-at TRY in which x lies: class and reference alike -/
theorem p_look (hI : I ≤ 2000) (hit : ly_its I c m) (hj : j < I) (hK : ¬ c 24 (j + 1) = -1) (h58 : c 5 8 = nI (j + 1)) (hi : i ≤ I + 1) (hpart : ∀ s, j + 1 < s → s < i → ly_pa m j (s - 1) (c 30 s) (m 56 (s - 1))) (hp : p < 3) (hs : s < i) (hx : x = nI (4 * s + p)) (hcy : ly_cy I (c 24) (m 56) x y) :
    ∃ P, ly_pa m j s P y ∧ ∀ (b : um_S) (R : Int32 → um_S → Prop), R P (um_J c b) → wp_Sc_partLookedAt x (um_J c b) R := by
  have cl : ∀ (b : um_S) (R : Int32 → um_S → Prop), (s < j + 1 → R (-1) (um_J c b)) → (s = j + 1 → R (nI p) (um_J c b)) → (j + 1 < s → R (c 30 s) (um_J c b)) → wp_Sc_partLookedAt x (um_J c b) R := by
    intro b R r1 r2 r3
    unfold wp_Sc_partLookedAt
    rw [hx]
    refine p_scopeOf (by omega) (by omega) ?_
    rw [um_J_c (q := 5) (by decide), h58, um_cl1 (show s < 2147483648 by omega), um_J_c (q := 30) (by decide)]
    refine ⟨fun z => ⟨fun w => ⟨vp_in_nI (by omega) (by decide), r3 ?_⟩, fun w => p_partOf (by omega) (by omega) (r2 ?_)⟩, fun z => r1 ?_⟩
    · have h1 := (nI_leI (a := j + 1) (b := s) (by omega) (by omega)).mp z
      have h2 : ¬ s = j + 1 := fun e => w (by rw [e])
      omega
    · exact (nI_eq (a := s) (b := j + 1) (by omega) (by omega)).mp w
    · have h1 : ¬ j + 1 ≤ s := fun e => z (nI_le e (by omega))
      omega
  have out : ∀ i2, i2 < I → ly_cx I (c 24) (m 56) (c 23 (i2 + 1)) (m 56 i2) := fun i2 hi2 => ly_cx_mono (I := i2) (by omega) ly_fr.rf (hit i2 hi2)
  rcases Nat.lt_trichotomy s (j + 1) with h | h | h
  · refine ⟨-1, ⟨0, Or.inr (Or.inr ⟨Or.inl rfl, rfl⟩), fun b Q fuel hf hq => ?_⟩, fun b R hr => cl b R (fun _ => hr) (fun w => by omega) (fun w => by omega)⟩
    rcases hcy with hcx | ⟨i2, hi2, -, e1, e2⟩
    · exact ly_below hI hit hj s (by omega) x y p hp hx hcx b Q fuel hf hq
    · have e := (nI_eq (a := 4 * s + p) (b := 4 * (i2 + 1)) (by omega) (by omega)).mp (hx.symm.trans e1)
      obtain ⟨s2, p2, hp2, hs2, hx2⟩ := ly_cx_sc (hit i2 hi2)
      rw [e2]
      exact ly_below hI hit hj s2 (by omega) _ _ p2 hp2 hx2 (out i2 hi2) b Q fuel (by omega) hq
  · refine ⟨nI p, ?_, fun b R hr => cl b R (fun w => by omega) (fun _ => hr) (fun w => by omega)⟩
    have one : ∀ (b : um_S) (Q : Int32 → um_S → Prop) (fuel e : Nat), e < 2 → s < fuel → Q (nI (1 + e)) (um_J b m) → wp_Mo_isAround_7 Q fuel (nI j) (nI (2 * j + e)) (um_J b m) := by
      intro b Q fuel e he hf hq
      obtain ⟨g, rfl⟩ : ∃ g, fuel = g + 1 := ⟨fuel - 1, by omega⟩
      unfold wp_Mo_isAround_7
      have e2 : (1 : Int32) + (nI (2 * j + e) - nI (2 * j + e) / 2 * 2) = nI (1 + e) := by
        rw [ly_odd he (by omega), show (1 : Int32) = nI 1 from rfl, nI_add]
      rw [e2, ly_half he (by omega)]
      exact um_no (ly_ne (by omega)) (um_yes' rfl hq)
    rcases hcy with (⟨e, -⟩ | ⟨i2, hi2, ⟨e1, e2⟩ | ⟨e1, e2⟩ | ⟨-, e1, e2⟩⟩) | ⟨i2, hi2, k, e1, -⟩
    · have := (nI_eq (a := 4 * s + p) (b := 0) (by omega) (by omega)).mp (hx.symm.trans e)
      omega
    · have e := (nI_eq (a := 4 * s + p) (b := 4 * (i2 + 1)) (by omega) (by omega)).mp (hx.symm.trans e1)
      have e3 : i2 = j := by omega
      have e4 : p = 0 := by omega
      subst e3
      subst e4
      rw [e2]
      exact ⟨1, Or.inl ⟨rfl, rfl⟩, fun b Q fuel hf hq => one b Q fuel 0 (by decide) hf hq⟩
    · have e := (nI_eq (a := 4 * s + p) (b := 4 * (i2 + 1) + 1) (by omega) (by omega)).mp (hx.symm.trans e1)
      have e3 : i2 = j := by omega
      have e4 : p = 1 := by omega
      subst e3
      subst e4
      rw [e2]
      exact ⟨2, Or.inr (Or.inl ⟨rfl, rfl⟩), fun b Q fuel hf hq => one b Q fuel 1 (by decide) hf hq⟩
    · have e := (nI_eq (a := 4 * s + p) (b := 4 * (i2 + 1) + 2) (by omega) (by omega)).mp (hx.symm.trans e1)
      have e3 : i2 = j := by omega
      have e4 : p = 2 := by omega
      subst e3
      subst e4
      obtain ⟨s2, p2, hp2, hs2, hx2⟩ := ly_cx_sc (hit i2 hi2)
      rw [e2]
      exact ⟨0, Or.inr (Or.inr ⟨Or.inr rfl, rfl⟩), fun b Q fuel hf hq => ly_below hI hit hj s2 (by omega) _ _ p2 hp2 hx2 (out i2 hi2) b Q fuel (by omega) hq⟩
    · have e := (nI_eq (a := 4 * s + p) (b := 4 * (i2 + 1)) (by omega) (by omega)).mp (hx.symm.trans e1)
      have e3 : i2 = j := by omega
      subst e3
      exact absurd k hK
  · obtain ⟨a, h1, h2⟩ := hpart s h hs
    refine ⟨c 30 s, ⟨a, h1, fun b Q fuel hf hq => ?_⟩, fun b R hr => cl b R (fun w => by omega) (fun w => by omega) (fun _ => hr)⟩
    obtain ⟨g, rfl⟩ : ∃ g, fuel = g + 1 := ⟨fuel - 1, by omega⟩
    rcases hcy with (⟨e, -⟩ | ⟨i2, hi2, ⟨e1, e2⟩ | ⟨e1, e2⟩ | ⟨-, e1, e2⟩⟩) | ⟨i2, hi2, k, e1, e2⟩
    · have := (nI_eq (a := 4 * s + p) (b := 0) (by omega) (by omega)).mp (hx.symm.trans e)
      omega
    · have e := (nI_eq (a := 4 * s + p) (b := 4 * (i2 + 1)) (by omega) (by omega)).mp (hx.symm.trans e1)
      have e3 : s - 1 = i2 := by omega
      rw [e3] at h2
      rw [e2]
      exact p_out (e := 0) (by omega) (by omega) (by omega) (by decide) (h2 b Q g (by omega) hq)
    · have e := (nI_eq (a := 4 * s + p) (b := 4 * (i2 + 1) + 1) (by omega) (by omega)).mp (hx.symm.trans e1)
      have e3 : s - 1 = i2 := by omega
      rw [e3] at h2
      rw [e2]
      exact p_out (e := 1) (by omega) (by omega) (by omega) (by decide) (h2 b Q g (by omega) hq)
    · have e := (nI_eq (a := 4 * s + p) (b := 4 * (i2 + 1) + 2) (by omega) (by omega)).mp (hx.symm.trans e1)
      have e3 : s - 1 = i2 := by omega
      rw [e3] at h2
      rw [e2]
      exact h2 b Q (g + 1) (by omega) hq
    · have e := (nI_eq (a := 4 * s + p) (b := 4 * (i2 + 1)) (by omega) (by omega)).mp (hx.symm.trans e1)
      have e3 : s - 1 = i2 := by omega
      rw [e3] at h2
      rw [e2]
      exact h2 b Q (g + 1) (by omega) hq
/-- item j is looked at -/
theorem p_lookAt (hI : I ≤ 2000) (hit : ly_its I c m) (hj : j < I) (hK : ¬ c 24 (j + 1) = -1) (h59 : c 5 9 = nI (I + 1)) (hlk : c 5 8 = nI (j + 1) → ∀ s, j + 1 < s → s < I + 1 → ly_pa m j (s - 1) (c 30 s) (m 56 (s - 1))) :
    ∃ c1, (∀ (b : um_S) (Q : um_S → Prop), Q (um_J c1 b) → wp_Sc_lookAt (nI (j + 1)) (um_J c b) Q) ∧ c1 5 8 = nI (j + 1) ∧ (∀ s, j + 1 < s → s < I + 1 → ly_pa m j (s - 1) (c1 30 s) (m 56 (s - 1))) ∧ (∀ q, ¬ (q = 5 ∨ q = 30) → c1 q = c q) ∧ ∀ k, ¬ k = 8 → c1 5 k = c 5 k := by
  have loop : ∀ (d i : Nat) (c0 : um_S), i + d = I + 1 → j + 1 < i → c0 5 8 = nI (j + 1) → (∀ s, j + 1 < s → s < i → ly_pa m j (s - 1) (c0 30 s) (m 56 (s - 1))) → (∀ q, ¬ (q = 5 ∨ q = 30) → c0 q = c q) → (∀ k, ¬ k = 8 → c0 5 k = c 5 k) →
      ∃ c1, (∀ (b : um_S) (Q : um_S → Prop) (fuel : Nat), d < fuel → Q (um_J c1 b) → wp_Sc_lookAt_18 Q fuel (nI i) (um_J c0 b)) ∧ c1 5 8 = nI (j + 1) ∧ (∀ s, j + 1 < s → s < I + 1 → ly_pa m j (s - 1) (c1 30 s) (m 56 (s - 1))) ∧ (∀ q, ¬ (q = 5 ∨ q = 30) → c1 q = c q) ∧ ∀ k, ¬ k = 8 → c1 5 k = c 5 k := by
    intro d
    induction d with
    | zero =>
      intro i c0 h1 h2 h3 h4 h5 h6
      refine ⟨c0, fun b Q fuel hf hq => ?_, h3, fun s a1 a2 => h4 s a1 (by omega), h5, h6⟩
      obtain ⟨g, rfl⟩ : ∃ g, fuel = g + 1 := ⟨fuel - 1, by omega⟩
      unfold wp_Sc_lookAt_18
      rw [um_J_c (q := 5) (by decide), h6 9 (by decide), h59]
      exact um_yes (nI_le (by omega) (by omega)) hq
    | succ d ih =>
      intro i c0 h1 h2 h3 h4 h5 h6
      obtain ⟨r, rfl⟩ : ∃ r, i = r + 1 := ⟨i - 1, by omega⟩
      have hit0 : ly_its I c0 m := by
        intro i2 hi2
        rw [h5 24 (by decide), h5 23 (by decide)]
        exact hit i2 hi2
      have hin := hit0 r (by omega)
      obtain ⟨s2, p2, hp2, hs2, hx2⟩ := ly_cx_sc hin
      obtain ⟨P, hP, hcl⟩ := p_look (i := r + 1) hI hit0 hj (by rw [h5 24 (by decide)]; exact hK) h3 (by omega) h4 hp2 (show s2 < r + 1 by omega) hx2 (Or.inl (ly_cx_mono (I := r) (by omega) ly_fr.rf hin))
      obtain ⟨c1, z1, z2, z3, z4, z5⟩ := ih (r + 1 + 1) (um_up c0 30 (r + 1) P) (by omega) (by omega) (by rw [um_up_q (by decide)]; exact h3) (fun s a1 a2 => by
        by_cases e : s = r + 1
        · subst e
          rw [um_up_self]
          exact ly_pa_le hP (by omega)
        · rw [um_up_ne (by omega)]
          exact h4 s a1 (by omega)) (fun q hq => by rw [um_up_q (by omega)]; exact h5 q hq) (fun k hk => by rw [um_up_q (by decide)]; exact h6 k hk)
      refine ⟨c1, fun b Q fuel hf hq => ?_, z2, z3, z4, z5⟩
      obtain ⟨g, rfl⟩ : ∃ g, fuel = g + 1 := ⟨fuel - 1, by omega⟩
      unfold wp_Sc_lookAt_18
      rw [um_cl1 (show r + 1 < 2147483648 by omega), um_J_c (q := 5) (by decide), h6 9 (by decide), h59, um_J_c (q := 23) (by decide)]
      refine um_no (nI_ge (by omega) (by omega)) ⟨vp_in_nI (by omega) (by decide), hcl b _ ⟨vp_in_nI (by omega) (by decide), ?_⟩⟩
      rw [um_J_uc (by decide), show nI (r + 1) + 1 = nI (r + 1 + 1) from um_succ]
      rintro σ3 rfl
      exact z1 b Q g (by omega) hq
  by_cases hz : c 5 8 = nI (j + 1)
  · refine ⟨c, fun b Q hq => ?_, hz, hlk hz, fun _ _ => rfl, fun _ _ => rfl⟩
    unfold wp_Sc_lookAt
    rw [um_J_c (q := 5) (by decide), hz]
    exact um_yes' rfl hq
  · obtain ⟨c1, z1, z2, z3, z4, z5⟩ := loop (I - (j + 1)) (j + 2) (um_up c 5 8 (nI (j + 1))) (by omega) (by omega) um_up_self (fun s a1 a2 => by omega) (fun q hq => um_up_q (by omega)) (fun k hk => um_up_ne (by omega))
    refine ⟨c1, fun b Q hq => ?_, z2, z3, z4, z5⟩
    unfold wp_Sc_lookAt
    rw [um_J_c (q := 5) (by decide), um_J_uc (by decide), show nI (j + 1) + 1 = nI (j + 2) from um_succ]
    refine um_no' (fun z => hz z.symm) ?_
    rintro σ1 rfl x2 rfl
    exact z1 b Q 100000 (by omega) hq
end LayLook
