/-! a step: the instructions one by one -/
theorem um_div_m1 (x : Int32) : x / (-1) = -x := by
  apply Int32.toBitVec_inj.mp
  rw [Int32.toBitVec_div, Int32.toBitVec_neg]
  show x.toBitVec.sdiv (-1#32) = -x.toBitVec
  rw [BitVec.sdiv_neg (by decide)]
  congr 1
  apply BitVec.eq_of_toInt_eq
  rw [BitVec.toInt_sdiv_of_ne_or_ne _ _ (Or.inr (by decide))]
  have : (1#32 : BitVec 32).toInt = 1 := by decide
  rw [this, Int.tdiv_one]
theorem p_Mo_next {b m : um_S} {k p : Nat} {Q : um_S → Prop} (hk : m 38 53 = nI k) (h1 : 1 ≤ k) (h2 : k ≤ 12) (hp : m 72 (k - 1) = nI p) (hq : Q (um_J b (um_up m 72 (k - 1) (nI (p + 1))))) : wp_Mo_step_131 Q (um_J b m) := by
  have e1 : nI k - 1 = nI (k - 1) := um_pred h1
  have e2 : (nI (k - 1)).toNatClampNeg = k - 1 := um_cl1 (by omega)
  have i1 : vp_in (nI (k - 1)) 12 := vp_in_nI (by omega) (by decide)
  unfold wp_Mo_step_131
  simp only [um_J_m (q := 38) (by decide), um_J_m (q := 72) (by decide), hk, e1, e2, hp, um_succ, um_J_um (q := 72) (by decide)]
  exact ⟨i1, i1, fun σ1 e => e ▸ hq⟩
theorem p_Ma_next {c b : um_S} {p : Nat} {Q : um_S → Prop} (hp : c 4 10 = nI p) (hq : Q (um_J (um_up c 4 10 (nI (p + 1))) b)) : wp_Ma_doStraight_151 Q (um_J c b) := by
  unfold wp_Ma_doStraight_151
  simp only [um_J_c (q := 4) (by decide), hp, um_succ, um_J_uc (q := 4) (by decide)]
  exact fun σ1 e => e ▸ hq
theorem p_Ma_straight {c b : um_S} {p : Nat} {op ar : Int32} {Q : um_S → Prop} (hat : c 4 10 = nI p) (hp : p < 1000) (ho : c 11 p = op) (ha : c 12 p = ar) (hn : ¬ op = 10 ∧ ¬ op = 11 ∧ ¬ op = 12 ∧ ¬ op = 13 ∧ ¬ op = 14 ∧ ¬ op = 16)
    (h : wp_Ma_doStraight op ar (um_J c b) (fun s => Q s)) : wp_Ma_doStep (um_J c b) Q := by
  have e : (nI p).toNatClampNeg = p := um_cl1 (by omega)
  have i : vp_in (nI p) 1000 := vp_in_nI hp (by decide)
  obtain ⟨n1, n2, n3, n4, n5, n6⟩ := hn
  unfold wp_Ma_doStep
  simp only [um_J_c (q := 4) (by decide), um_J_c (q := 11) (by decide), um_J_c (q := 12) (by decide), hat, e, ho, ha]
  refine ⟨i, ?_⟩
  rintro x1 rfl
  refine ⟨i, ?_⟩
  rintro x2 rfl
  exact um_no n1 (um_no n2 (um_no n3 (um_no n4 (um_no n5 (um_no n6 h)))))
/-- both sides reckon alike -/
theorem um_reckon {w : Nat} (h2 : 2 ≤ w) (h7 : w ≤ 7) (x y : Int32) (hz : ¬ (w = 5 ∧ y = 0)) : ∃ v : Int32, (∀ s Q, Q v s → wp_Ma_combine (nI w) x y s Q) ∧ (∀ s Q, Q v s → wp_Mo_worked (nI w) x y s Q) := by
  rcases (show w = 2 ∨ w = 3 ∨ w = 4 ∨ w = 5 ∨ w = 6 ∨ w = 7 by omega) with rfl | rfl | rfl | rfl | rfl | rfl
  · exact ⟨x + y, fun s Q h => by unfold wp_Ma_combine; exact um_yes rfl h, fun s Q h => by unfold wp_Mo_worked; exact um_yes rfl h⟩
  · exact ⟨x - y, fun s Q h => by unfold wp_Ma_combine; exact um_no (by decide) (um_yes rfl h), fun s Q h => by unfold wp_Mo_worked; exact um_no (by decide) (um_yes rfl h)⟩
  · exact ⟨x * y, fun s Q h => by unfold wp_Ma_combine; exact um_no (by decide) (um_no (by decide) (um_yes rfl h)), fun s Q h => by unfold wp_Mo_worked; exact um_no (by decide) (um_no (by decide) (um_yes rfl h))⟩
  · have hy : ¬ y = 0 := fun z => hz ⟨rfl, z⟩
    refine ⟨x / y, fun s Q h => by unfold wp_Ma_combine; exact um_no (by decide) (um_no (by decide) (um_no (by decide) (um_yes rfl (um_no' hy ⟨hy, h⟩)))), fun s Q h => ?_⟩
    unfold wp_Mo_worked
    refine um_no (by decide) (um_no (by decide) (um_no (by decide) (um_yes rfl ⟨fun _ => ⟨hy, h⟩, fun z => ?_⟩)))
    subst z
    rw [um_div_m1] at h
    exact h
  · by_cases hc : y ≤ x
    · exact ⟨0, fun s Q h => by unfold wp_Ma_combine; exact um_no (by decide) (um_no (by decide) (um_no (by decide) (um_no (by decide) (um_yes rfl (um_yes hc h))))), fun s Q h => by unfold wp_Mo_worked; exact um_no (by decide) (um_no (by decide) (um_no (by decide) (um_no (by decide) (um_yes rfl (um_yes hc h)))))⟩
    · exact ⟨1, fun s Q h => by unfold wp_Ma_combine; exact um_no (by decide) (um_no (by decide) (um_no (by decide) (um_no (by decide) (um_yes rfl (um_no hc h))))), fun s Q h => by unfold wp_Mo_worked; exact um_no (by decide) (um_no (by decide) (um_no (by decide) (um_no (by decide) (um_yes rfl (um_no hc h)))))⟩
  · by_cases hc : x = y
    · exact ⟨1, fun s Q h => by unfold wp_Ma_combine; exact um_no (by decide) (um_no (by decide) (um_no (by decide) (um_no (by decide) (um_no (by decide) (um_yes' hc h))))), fun s Q h => by unfold wp_Mo_worked; exact um_no (by decide) (um_no (by decide) (um_no (by decide) (um_no (by decide) (um_no (by decide) (um_yes' hc h)))))⟩
    · exact ⟨0, fun s Q h => by unfold wp_Ma_combine; exact um_no (by decide) (um_no (by decide) (um_no (by decide) (um_no (by decide) (um_no (by decide) (um_no' hc h))))), fun s Q h => by unfold wp_Mo_worked; exact um_no (by decide) (um_no (by decide) (um_no (by decide) (um_no (by decide) (um_no (by decide) (um_no' hc h)))))⟩
/-- the reference's step at p, its instruction known -/
theorem p_Mo_in {b m : um_S} {k p : Nat} {Q : um_S → Prop} (hk : m 38 53 = nI k) (h1 : 1 ≤ k) (h2 : k ≤ 12) (hp : m 72 (k - 1) = nI p) (hpn : p < 1000) {op ar : Int32} (ho : m 46 p = op) (ha : m 47 p = ar)
    (h : (op = 0 → wp_Mo_push ar (um_J b m) (fun s => wp_Mo_step_131 Q s)) ∧ (op = 1 → vp_in ar 8 ∧ wp_Mo_push (m 70 ar.toNatClampNeg) (um_J b m) (fun s => wp_Mo_step_131 Q s)) ∧
      (op = 8 → wp_Mo_pop (um_J b m) (fun x s => vp_in ar 8 ∧ ∀ s1, s1 = um_up s 70 ar.toNatClampNeg x → wp_Mo_step_131 Q s1)) ∧
      (op = 9 → wp_Mo_pop (um_J b m) (fun x s => (64 ≤ s 38 49 → wp_Mo_step_131 Q s) ∧ (¬ 64 ≤ s 38 49 → vp_in (s 38 49) 64 ∧ ∀ s1, s1 = um_up s 71 (s 38 49).toNatClampNeg x → ∀ s2, s2 = um_up s1 38 49 (s1 38 49 + 1) → wp_Mo_step_131 Q s2))) ∧
      (op = 10 → wp_Mo_pop (um_J b m) (fun x s => (¬ x = 0 → vp_in (nI (k - 1)) 12 ∧ ∀ s1, s1 = um_up s 72 (k - 1) (nI (p + 1)) → Q s1) ∧ (x = 0 → vp_in (nI (k - 1)) 12 ∧ ∀ s1, s1 = um_up s 72 (k - 1) ar → Q s1))) ∧
      (op = 11 → ∀ s1, s1 = um_up (um_J b m) 72 (k - 1) ar → Q s1) ∧
      (op = 12 → wp_Mo_pop (um_J b m) (fun x s => (¬ x = 0 → wp_Mo_throwing x s Q) ∧ (x = 0 → wp_Mo_throwing 2 s Q))) ∧
      (op = 13 → wp_Mo_calls ar (um_J b m) Q) ∧ (op = 14 → wp_Mo_returns (um_J b m) Q) ∧
      (op = 15 → wp_Mo_pop (um_J b m) (fun x s => vp_in (200 * nI (k - 1) + ar) 2400 ∧ ∀ s1, s1 = um_up s 75 (200 * nI (k - 1) + ar).toNatClampNeg x → wp_Mo_step_131 Q s1)) ∧
      (op = 16 → vp_in (200 * nI (k - 1) + ar) 2400 ∧ wp_Mo_throwing (m 75 (200 * nI (k - 1) + ar).toNatClampNeg) (um_J b m) Q) ∧
      (¬ op = 0 → ¬ op = 1 → ¬ op = 8 → ¬ op = 9 → ¬ op = 10 → ¬ op = 11 → ¬ op = 12 → ¬ op = 13 → ¬ op = 14 → ¬ op = 15 → ¬ op = 16 → wp_Mo_works op (um_J b m) Q)) : wp_Mo_step (um_J b m) Q := by
  have e1 : nI k - 1 = nI (k - 1) := um_pred h1
  have e2 : (nI (k - 1)).toNatClampNeg = k - 1 := um_cl1 (by omega)
  have e3 : (nI p).toNatClampNeg = p := um_cl1 (by omega)
  have i1 : vp_in (nI (k - 1)) 12 := vp_in_nI (by omega) (by decide)
  have i2 : vp_in (nI p) 1000 := vp_in_nI hpn (by decide)
  obtain ⟨a0, a1, a8, a9, a10, a11, a12, a13, a14, a15, a16, a17⟩ := h
  unfold wp_Mo_step
  simp only [um_J_m (q := 38) (by decide), um_J_m (q := 72) (by decide), um_J_m (q := 46) (by decide), um_J_m (q := 47) (by decide), um_J_m (q := 70) (by decide), um_J_m (q := 75) (by decide), hk, e1, e2, hp]
  refine ⟨i1, ?_⟩
  rintro x1 rfl
  simp only [e3, ho, ha, um_succ]
  refine ⟨i2, ?_⟩
  rintro x2 rfl
  refine ⟨i2, ?_⟩
  rintro x3 rfl
  exact ⟨fun z => ⟨i2, um_yes' z (a0 z)⟩, fun z0 => ⟨fun z => ⟨i2, um_no' z0 (a1 z)⟩, fun z1 => ⟨fun z => a8 z, fun z8 => ⟨fun z => a9 z, fun z9 => ⟨fun z => a10 z, fun z10 => ⟨fun z => ⟨i1, a11 z⟩, fun z11 => ⟨fun z => a12 z, fun z12 => ⟨fun z => a13 z, fun z13 => ⟨fun z => a14 z, fun z14 => ⟨fun z => a15 z, fun z15 => ⟨fun z => a16 z, fun z16 => ⟨i2, a17 z0 z1 z8 z9 z10 z11 z12 z13 z14 z15 z16⟩⟩⟩⟩⟩⟩⟩⟩⟩⟩⟩⟩
/-- the class's step at p, its instruction known -/
theorem p_Ma_in {c b : um_S} {p : Nat} {op ar : Int32} {Q : um_S → Prop} (hat : c 4 10 = nI p) (hp : p < 1000) (ho : c 11 p = op) (ha : c 12 p = ar)
    (h : (op = 10 → wp_Ma_pull (um_J c b) (fun x s => (¬ x = 0 → ∀ s1, s1 = um_up s 4 10 (s 4 10 + 1) → Q s1) ∧ (x = 0 → ∀ s1, s1 = um_up s 4 10 ar → Q s1))) ∧ (op = 11 → ∀ s1, s1 = um_up (um_J c b) 4 10 ar → Q s1) ∧
      (op = 12 → wp_Ma_pull (um_J c b) (fun x s => (¬ x = 0 → wp_Ma_raise x s Q) ∧ (x = 0 → wp_Ma_raise 2 s Q))) ∧ (op = 13 → wp_Ma_enter ar (um_J c b) Q) ∧ (op = 14 → wp_Ma_goBack (um_J c b) Q) ∧
      (op = 16 → wp_Ma_placeOf ar (um_J c b) (fun x s => vp_in x 1800 ∧ wp_Ma_raise (s 22 x.toNatClampNeg) s Q)) ∧
      (¬ op = 10 → ¬ op = 11 → ¬ op = 12 → ¬ op = 13 → ¬ op = 14 → ¬ op = 16 → wp_Ma_doStraight op ar (um_J c b) Q)) : wp_Ma_doStep (um_J c b) Q := by
  have e : (nI p).toNatClampNeg = p := um_cl1 (by omega)
  have i : vp_in (nI p) 1000 := vp_in_nI hp (by decide)
  obtain ⟨a10, a11, a12, a13, a14, a16, a17⟩ := h
  unfold wp_Ma_doStep
  simp only [um_J_c (q := 4) (by decide), um_J_c (q := 11) (by decide), um_J_c (q := 12) (by decide), hat, e, ho, ha]
  refine ⟨i, ?_⟩
  rintro x1 rfl
  refine ⟨i, ?_⟩
  rintro x2 rfl
  exact ⟨fun z => a10 z, fun z10 => ⟨fun z => a11 z, fun z11 => ⟨fun z => a12 z, fun z12 => ⟨fun z => a13 z, fun z13 => ⟨fun z => a14 z, fun z14 => ⟨fun z => a16 z, fun z16 => a17 z10 z11 z12 z13 z14 z16⟩⟩⟩⟩⟩⟩
