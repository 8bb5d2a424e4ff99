/-! lay: a turn of the class, a step of the reference -/
/-- one turn and one step lead from (c, m) to (c1, m1) -/
def ly_st (c m c1 m1 : um_S) : Prop :=
  (∀ (fuel v : Nat) (b : um_S) (Q : um_S → Prop), v < 1000000 → wp_La_takeTurns_2 Q fuel (nI (v + 1)) (um_J c1 b) → wp_La_takeTurns_2 Q (fuel + 1) (nI v) (um_J c b)) ∧
  ∀ (b : um_S) (Q : um_S → Prop), Q (um_J b m1) → wp_Mo_goesOn (um_J b m) Q
section LayTurn
variable {c m b : um_S} {N k r s w fuel v : Nat} {Q : um_S → Prop}
theorem p_turn (hT : um_tree N c m) (hv : v < 1000000) (ht : c 6 4 = nI (r + 1)) (hr : r < 2001) (h8 : c 3 8 = 0) (hk : c 31 r = nI k) (hkN : k < N) (hs : c 33 r = nI s) (hs2 : s < 1000000) (hw : m 39 k = nI w) (hw2 : w ≤ 18)
    (h12 : w = 12 → wp_La_turnIf (nI r) (nI k) (nI s) (um_J (um_up c 33 r (nI (s + 1))) b) (fun σ => wp_La_takeTurns_2 Q fuel (nI (v + 1)) σ))
    (h13 : w = 13 → wp_La_turnWhile (nI r) (nI k) (nI s) (um_J (um_up c 33 r (nI (s + 1))) b) (fun σ => wp_La_takeTurns_2 Q fuel (nI (v + 1)) σ))
    (h16 : w = 16 → wp_La_turnReturn (nI r) (um_J (um_up c 33 r (nI (s + 1))) b) (fun σ => wp_La_takeTurns_2 Q fuel (nI (v + 1)) σ))
    (h17 : w = 17 → wp_La_turnBreak (nI r) (um_J (um_up c 33 r (nI (s + 1))) b) (fun σ => wp_La_takeTurns_2 Q fuel (nI (v + 1)) σ))
    (h18a : w = 18 → 3 ≤ s → wp_La_turnApart (nI r) (nI s) (um_J (um_up c 33 r (nI (s + 1))) b) (fun σ => wp_La_takeTurns_2 Q fuel (nI (v + 1)) σ))
    (h18 : w = 18 → ¬ 3 ≤ s → wp_La_turnTry (nI r) (nI k) (nI s) (um_J (um_up c 33 r (nI (s + 1))) b) (fun σ => wp_La_takeTurns_2 Q fuel (nI (v + 1)) σ))
    (hp : ¬ w = 12 → ¬ w = 13 → ¬ w = 16 → ¬ w = 17 → ¬ w = 18 → wp_La_turnPlain (nI r) (nI k) (nI s) (um_J (um_up c 33 r (nI (s + 1))) b) (fun σ => wp_La_takeTurns_2 Q fuel (nI (v + 1)) σ)) :
    wp_La_takeTurns_2 Q (fuel + 1) (nI v) (um_J c b) := by
  have hcr : (nI r).toNatClampNeg = r := um_cl1 (by omega)
  have i1 : vp_in (nI r) 2001 := vp_in_nI hr (by decide)
  have e1 : nI (r + 1) - 1 = nI r := um_pred (a := r + 1) (by omega)
  unfold wp_La_takeTurns_2
  refine um_no (nI_ge (b := 1000000) hv (by decide)) (um_no (by rw [um_J_c (by decide), ht]; exact nI_nle (by omega) (by omega)) (um_yes' (by rw [um_J_c (by decide)]; exact h8) ?_))
  rw [um_J_c (q := 6) (by decide), ht, e1]
  rintro x1 rfl
  rw [hcr, um_J_c (q := 31) (by decide), hk]
  refine ⟨i1, ?_⟩
  rintro x2 rfl
  rw [um_J_c (q := 33) (by decide), hs]
  refine ⟨i1, ?_⟩
  rintro x3 rfl
  refine ⟨i1, ?_⟩
  rw [show nI s + 1 = nI (s + 1) from um_succ, um_J_uc (by decide)]
  rintro σ4 rfl
  rw [show nI v + 1 = nI (v + 1) from um_succ]
  have hT2 : um_tree N (um_up c 33 r (nI (s + 1))) m := um_tree_uc hT (by decide)
  refine p_kind hT2 hkN ?_
  rw [hw]
  have eqw : ∀ z : Nat, z ≤ 18 → (nI w = nI z ↔ w = z) := fun z hz => nI_eq (by omega) (by omega)
  refine ⟨fun z => h12 ((eqw 12 (by decide)).mp z), fun z12 => ⟨fun z => h13 ((eqw 13 (by decide)).mp z), fun z13 => ⟨fun z => h16 ((eqw 16 (by decide)).mp z), fun z16 => ⟨fun z => h17 ((eqw 17 (by decide)).mp z), fun z17 => ⟨fun z => ⟨fun y => h18a ((eqw 18 (by decide)).mp z) ?_, fun y => h18 ((eqw 18 (by decide)).mp z) ?_⟩, fun z18 => hp (fun z => z12 ((eqw 12 (by decide)).mpr z)) (fun z => z13 ((eqw 13 (by decide)).mpr z)) (fun z => z16 ((eqw 16 (by decide)).mpr z)) (fun z => z17 ((eqw 17 (by decide)).mpr z)) (fun z => z18 ((eqw 18 (by decide)).mpr z))⟩⟩⟩⟩⟩
  · exact (nI_leI (a := 3) (b := s) (by decide) (by omega)).mp y
  · exact fun q => y (nI_le (a := 3) q (by omega))
theorem p_goes (ht : m 38 37 = nI (r + 1)) (hr : r < 2002) (hk : m 63 r = nI k) (hkN : k < 150) (hs : m 67 r = nI s) (hs2 : s < 1000000) (hw : m 39 k = nI w) (hw2 : w ≤ 18)
    (hE : w < 8 → wp_Mo_expression (nI r) (nI w) (um_J b (um_up m 67 r (nI (s + 1)))) Q)
    (hA : w = 18 → 100 < s + 1 → wp_Mo_apart (nI r) (um_J b (um_up m 67 r (nI (s + 1)))) Q)
    (hT : w = 18 → ¬ 100 < s + 1 → wp_Mo_tries (nI r) (um_J b (um_up m 67 r (nI (s + 1)))) Q)
    (hL : w = 16 ∨ w = 17 → wp_Mo_leaves (nI r) (nI w) (um_J b (um_up m 67 r (nI (s + 1)))) Q)
    (hS : 8 ≤ w → ¬ w = 16 → ¬ w = 17 → ¬ w = 18 → wp_Mo_statement (nI r) (nI w) (um_J b (um_up m 67 r (nI (s + 1)))) Q) : wp_Mo_goesOn (um_J b m) Q := by
  have hcr : (nI r).toNatClampNeg = r := um_cl1 (by omega)
  have i1 : vp_in (nI r) 2002 := vp_in_nI hr (by decide)
  have e1 : nI (r + 1) - 1 = nI r := um_pred (a := r + 1) (by omega)
  have eqw : ∀ z : Nat, z ≤ 18 → (nI w = nI z ↔ w = z) := fun z hz => nI_eq (by omega) (by omega)
  unfold wp_Mo_goesOn
  rw [um_J_m (q := 38) (by decide), ht, e1]
  rintro x1 rfl
  rw [hcr, um_J_m (q := 63) (by decide), hk, um_cl1 (by omega), um_J_m (q := 39) (by decide), hw, um_J_m (q := 67) (by decide), hs, show nI s + 1 = nI (s + 1) from um_succ, um_J_um (by decide)]
  refine ⟨i1, vp_in_nI hkN (by decide), ?_⟩
  rintro x2 rfl
  refine ⟨i1, i1, ?_⟩
  rintro σ3 rfl
  have z69 : 8 ≤ w → (w = 18 → ¬ 100 < s + 1) → wp_Mo_goesOn_69 Q (nI r) (nI w) (um_J b (um_up m 67 r (nI (s + 1)))) := by
    intro h8 h100
    unfold wp_Mo_goesOn_69 wp_Mo_goesOn_95
    refine ⟨fun z18 => ⟨fun z => hL (Or.inl ((eqw 16 (by decide)).mp z)), fun z16 => ⟨fun z17 => hS h8 (fun z => z16 ((eqw 16 (by decide)).mpr z)) (fun z => z17 ((eqw 17 (by decide)).mpr z)) (fun z => z18 ((eqw 18 (by decide)).mpr z)), fun z => hL (Or.inr ((eqw 17 (by decide)).mp z))⟩⟩, fun z => ?_⟩
    have z' := (eqw 18 (by decide)).mp z
    exact hT z' (h100 z')
  refine ⟨fun z => ?_, fun z => hE ?_⟩
  · have h8 : 8 ≤ w := (nI_leI (a := 8) (b := w) (by decide) (by omega)).mp z
    refine ⟨fun z18 => z69 h8 (fun y => absurd ((eqw 18 (by decide)).mpr y) z18), fun z18 => ⟨i1, ?_⟩⟩
    rw [um_J_m (q := 67) (by decide), um_up_self]
    have w18 := (eqw 18 (by decide)).mp z18
    refine ⟨fun y => z69 h8 (fun _ => ?_), fun y => hA w18 ?_⟩
    · have := (nI_leI (a := s + 1) (b := 100) (by omega) (by decide)).mp y
      omega
    · have : ¬ s + 1 ≤ 100 := fun q => y (nI_le (b := 100) q (by decide))
      omega
  · have : ¬ 8 ≤ w := fun q => z (nI_le (a := 8) q (by omega))
    omega
/-- a part of a node is begun, on both sides -/
theorem p_Mpart {x : Int32} (hr : r < 2002) (h : wp_Mo_begin x (m 64 r) (m 65 r) (m 66 r) (um_J b m) Q) : wp_Mo_part (nI r) x (um_J b m) Q := by
  have i1 : vp_in (nI r) 2002 := vp_in_nI hr (by decide)
  unfold wp_Mo_part
  rw [um_cl1 (by omega), um_J_m (q := 64) (by decide), um_J_m (q := 65) (by decide), um_J_m (q := 66) (by decide)]
  exact ⟨i1, i1, i1, h⟩
theorem p_finish {op arg : Int32} {n : Nat} (hr : r < 2001) (ht : c 6 4 = nI (r + 1)) (hv : c 3 8 = 0) (hn : c 2 5 = nI n) (hn2 : n ≤ 1000)
    (ok : n < 1000 → Q (um_J (um_up (lc_emit c n op arg (c 32 r)) 6 4 (nI r)) b)) (no : n = 1000 → Q (um_J (um_up (um_up c 3 8 (-2)) 6 4 (nI r)) b)) : wp_La_finish (nI r) op arg (um_J c b) Q := by
  unfold wp_La_finish
  rw [um_cl1 (by omega), um_J_c (q := 32) (by decide)]
  refine ⟨vp_in_nI hr (by decide), ?_⟩
  by_cases h : n < 1000
  · refine p_emit hv hn h (p_Wpop (t := r) ?_ hr (ok h))
    unfold lc_emit
    rw [um_up_q (by decide), um_up_q (by decide), um_up_q (by decide), um_up_q (by decide)]
    exact ht
  · have e : n = 1000 := by omega
    refine p_emitFull hv (by rw [hn, e]) (p_Wpop (t := r) ?_ hr (no e))
    rw [um_up_q (by decide)]
    exact ht
theorem p_Mputpop {op arg ctx : Int32} {n : Nat} (hr : r < 2002) (ht : m 38 37 = nI (r + 1)) (hv : m 38 35 = 0) (hn : m 38 10 = nI n) (hn2 : n ≤ 1000)
    (ok : n < 1000 → Q (um_J b (um_up (lm_put m n op arg ctx) 38 37 (nI r)))) (no : n = 1000 → Q (um_J b (um_up (um_up m 38 35 1) 38 37 (nI r)))) : wp_Mo_put op arg ctx (um_J b m) (fun σ2 => ∀ σ3 : um_S, σ3 = um_up σ2 38 37 ((σ2 38 37) - 1) → Q σ3) := by
  by_cases h : n < 1000
  · refine p_put hv hn h ?_
    have e : um_J b (lm_put m n op arg ctx) 38 37 = nI (r + 1) := by
      rw [um_J_m (by decide)]
      unfold lm_put
      rw [um_up_ne (by decide), um_up_q (by decide), um_up_q (by decide), um_up_q (by decide)]
      exact ht
    rw [e, show nI (r + 1) - 1 = nI r from um_pred (a := r + 1) (by omega), um_J_um (by decide)]
    rintro σ3 rfl
    exact ok h
  · have e : n = 1000 := by omega
    refine p_putFull (by rw [hn, e]) ?_
    have e2 : um_J b (um_up m 38 35 1) 38 37 = nI (r + 1) := by
      rw [um_J_m (by decide), um_up_ne (by decide)]
      exact ht
    rw [e2, show nI (r + 1) - 1 = nI r from um_pred (a := r + 1) (by omega), um_J_um (by decide)]
    rintro σ3 rfl
    exact no e
end LayTurn
