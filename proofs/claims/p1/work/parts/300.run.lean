/-! runs: the class's machine and the reference's, step by step. A joint state is um_J c m: the class's rows of c, the reference's rows of m. -/
def um_J (c m : um_S) : um_S := fun q => if q < 38 then c q else m q
theorem um_J_c {c m : um_S} {q : Nat} (h : q < 38) : um_J c m q = c q := by simp [um_J, h]
theorem um_J_m {c m : um_S} {q : Nat} (h : ¬ q < 38) : um_J c m q = m q := by simp [um_J, h]
theorem um_J_uc {c m : um_S} {q k : Nat} {v : Int32} (h : q < 38) : um_up (um_J c m) q k v = um_J (um_up c q k v) m := by
  funext a b
  by_cases ha : a < 38
  · rw [um_J_c ha]
    unfold um_up
    rw [um_J_c ha]
  · rw [um_J_m ha, um_up_ne (by omega), um_J_m ha]
theorem um_J_um {c m : um_S} {q k : Nat} {v : Int32} (h : ¬ q < 38) : um_up (um_J c m) q k v = um_J c (um_up m q k v) := by
  funext a b
  by_cases ha : a < 38
  · rw [um_J_c ha, um_up_ne (by omega), um_J_c ha]
  · rw [um_J_m ha]
    unfold um_up
    rw [um_J_m ha]
theorem um_pred {a : Nat} (h : 1 ≤ a) : nI a - 1 = nI (a - 1) := pk_sub (a := a) (b := 1) h
theorem um_succ {a : Nat} : nI a + 1 = nI (a + 1) := nI_1 a
theorem um_cl1 {a : Nat} (h : a < 2147483648) : (nI a).toNatClampNeg = a := nI_clamp h
/-- the reference's pile -/
theorem p_Mo_push {b m : um_S} {a : Int32} {k h : Nat} {Q : um_S → Prop} (hk : m 38 53 = nI k) (h1 : 1 ≤ k) (h2 : k ≤ 12) (hs : m 73 (k - 1) = nI h) (hh : h < 200)
    (hq : Q (um_J b (um_up (um_up m 74 (200 * (k - 1) + h) a) 73 (k - 1) (nI (h + 1))))) : wp_Mo_push a (um_J b m) Q := by
  have e1 : nI k - 1 = nI (k - 1) := um_pred h1
  have e2 : (nI (k - 1)).toNatClampNeg = k - 1 := um_cl1 (by omega)
  have e3 : 200 * nI (k - 1) + nI h = nI (200 * (k - 1) + h) := by
    rw [show (200 : Int32) = nI 200 from rfl, pk_mul, nI_add]
  have e4 : (nI (200 * (k - 1) + h)).toNatClampNeg = 200 * (k - 1) + h := um_cl1 (by omega)
  have i1 : vp_in (nI (k - 1)) 12 := vp_in_nI (by omega) (by decide)
  have i2 : vp_in (nI (200 * (k - 1) + h)) 2400 := vp_in_nI (by omega) (by decide)
  unfold wp_Mo_push
  simp only [um_J_m (q := 38) (by decide), um_J_m (q := 73) (by decide), hk, e1, e2, hs, e3, e4]
  refine ⟨i1, i2, ?_⟩
  rintro σ1 rfl
  simp only [um_J_um (q := 74) (by decide), um_J_m (q := 38) (by decide), um_J_m (q := 73) (by decide), um_up_q (q := 74) (a := 38) (by decide), um_up_q (q := 74) (a := 73) (by decide), hk, e1, e2, hs, um_succ, um_J_um (q := 73) (by decide)]
  refine ⟨i1, i1, ?_⟩
  rintro σ2 rfl
  exact hq
theorem p_Mo_pop {b m : um_S} {k h : Nat} {Q : Int32 → um_S → Prop} (hk : m 38 53 = nI k) (h1 : 1 ≤ k) (h2 : k ≤ 12) (hs : m 73 (k - 1) = nI (h + 1)) (hh : h < 200)
    (hq : Q (m 74 (200 * (k - 1) + h)) (um_J b (um_up m 73 (k - 1) (nI h)))) : wp_Mo_pop (um_J b m) Q := by
  have e1 : nI k - 1 = nI (k - 1) := um_pred h1
  have e2 : (nI (k - 1)).toNatClampNeg = k - 1 := um_cl1 (by omega)
  have e3 : 200 * nI (k - 1) + nI h = nI (200 * (k - 1) + h) := by
    rw [show (200 : Int32) = nI 200 from rfl, pk_mul, nI_add]
  have e4 : (nI (200 * (k - 1) + h)).toNatClampNeg = 200 * (k - 1) + h := um_cl1 (by omega)
  have e5 : nI (h + 1) - 1 = nI h := um_pred (a := h + 1) (by omega)
  have i1 : vp_in (nI (k - 1)) 12 := vp_in_nI (by omega) (by decide)
  have i2 : vp_in (nI (200 * (k - 1) + h)) 2400 := vp_in_nI (by omega) (by decide)
  unfold wp_Mo_pop
  simp only [um_J_m (q := 38) (by decide), um_J_m (q := 73) (by decide), hk, e1, e2, hs, e5]
  refine ⟨i1, i1, ?_⟩
  rintro σ1 rfl
  simp only [um_J_um (q := 73) (by decide), um_J_m (q := 38) (by decide), um_J_m (q := 73) (by decide), um_J_m (q := 74) (by decide), um_up_q (q := 73) (a := 38) (by decide), um_up_q (q := 73) (a := 74) (by decide), hk, e1, e2, um_up_self, e3, e4]
  exact ⟨i1, i2, hq⟩
theorem p_Ma_push {c b : um_S} {a : Int32} {h : Nat} {Q : um_S → Prop} (hs : c 4 6 = nI h) (hh : h < 150) (hq : Q (um_J (um_up (um_up c 20 h a) 4 6 (nI (h + 1))) b)) : wp_Ma_push a (um_J c b) Q := by
  have e4 : (nI h).toNatClampNeg = h := um_cl1 (by omega)
  unfold wp_Ma_push
  simp only [um_J_c (q := 4) (by decide), hs, e4]
  refine ⟨fun z => absurd z ?_, fun _ => ⟨vp_in_nI hh (by decide), ?_⟩⟩
  · exact nI_ge (a := h) (b := 150) hh (by decide)
  · rintro σ1 rfl σ2 rfl
    simp only [um_J_uc (q := 20) (by decide), um_J_c (q := 4) (by decide), um_up_q (q := 20) (a := 4) (by decide), hs, um_succ, um_J_uc (q := 4) (by decide)]
    exact hq
theorem p_Ma_pull {c b : um_S} {h : Nat} {Q : Int32 → um_S → Prop} (hs : c 4 6 = nI (h + 1)) (hh : h < 150) (hq : Q (c 20 h) (um_J (um_up c 4 6 (nI h)) b)) : wp_Ma_pull (um_J c b) Q := by
  have e4 : (nI h).toNatClampNeg = h := um_cl1 (by omega)
  have e5 : nI (h + 1) - 1 = nI h := um_pred (a := h + 1) (by omega)
  unfold wp_Ma_pull
  simp only [um_J_c (q := 4) (by decide), hs, e5]
  refine ⟨fun _ => ?_, fun z => absurd z (nI_ne0 (by omega) (by omega))⟩
  rintro σ1 rfl
  simp only [um_J_uc (q := 4) (by decide), um_J_c (q := 4) (by decide), um_J_c (q := 20) (by decide), um_up_q (q := 4) (a := 20) (by decide), um_up_self, e4]
  exact ⟨vp_in_nI hh (by decide), hq⟩
/-- a row takes code x thrown at p -/
def um_hit (m : um_S) (p x : Int32) (i : Nat) : Prop := ¬ p < m 49 i ∧ ¬ m 50 i ≤ p ∧ ¬ x < m 52 i ∧ ¬ m 53 i < x
def um_rowsEq (r : Nat) (c m : um_S) : Prop := ∀ i, i < r → c 15 (i * 5) = m 49 i ∧ c 15 (i * 5 + 1) = m 50 i ∧ c 15 (i * 5 + 2) = m 51 i ∧ c 15 (i * 5 + 3) = m 52 i ∧ c 15 (i * 5 + 4) = m 53 i
section RowFor
variable {c b m : um_S} {r i n : Nat} {p x : Int32} {Q : Int32 → um_S → Prop}
theorem p_rowFor_end (hr : c 2 6 = nI r) (h : Q (-1) (um_J c b)) : wp_Co_rowFor_2 Q (n + 1) p x (nI r) (um_J c b) := by
  unfold wp_Co_rowFor_2
  simp only [um_J_c (q := 2) (by decide), hr]
  exact ⟨fun _ => h, fun z => absurd (Int32.le_refl _) z⟩
theorem p_rowFor_at (hr : c 2 6 = nI r) (hr3 : r ≤ 300) (hi : i < r) (he : um_rowsEq r c m) (hno : ¬ um_hit m p x i → wp_Co_rowFor_2 Q n p x (nI (i + 1)) (um_J c b)) (hyes : um_hit m p x i → Q (nI i) (um_J c b)) : wp_Co_rowFor_2 Q (n + 1) p x (nI i) (um_J c b) := by
  obtain ⟨r0, r1, r2, r3, r4⟩ := he i hi
  have e5 : nI i * 5 = nI (i * 5) := pk_mul i 5
  have c0 : (nI (i * 5)).toNatClampNeg = i * 5 := um_cl1 (by omega)
  have s1 : nI (i * 5) + 1 = nI (i * 5 + 1) := nI_add (i * 5) 1
  have s3 : nI (i * 5) + 3 = nI (i * 5 + 3) := nI_add (i * 5) 3
  have s4 : nI (i * 5) + 4 = nI (i * 5 + 4) := nI_add (i * 5) 4
  have c1 : (nI (i * 5 + 1)).toNatClampNeg = i * 5 + 1 := um_cl1 (by omega)
  have c3 : (nI (i * 5 + 3)).toNatClampNeg = i * 5 + 3 := um_cl1 (by omega)
  have c4 : (nI (i * 5 + 4)).toNatClampNeg = i * 5 + 4 := um_cl1 (by omega)
  have miss : ∀ h : ¬ um_hit m p x i, wp_Co_rowFor_2 Q n p x (nI i + 1) (um_J c b) := fun h => by rw [um_succ]; exact hno h
  have i0 : vp_in (nI (i * 5)) 1500 := vp_in_nI (by omega) (by decide)
  have i1 : vp_in (nI (i * 5 + 1)) 1500 := vp_in_nI (by omega) (by decide)
  have i3 : vp_in (nI (i * 5 + 3)) 1500 := vp_in_nI (by omega) (by decide)
  have i4 : vp_in (nI (i * 5 + 4)) 1500 := vp_in_nI (by omega) (by decide)
  unfold wp_Co_rowFor_2 wp_Co_rowFor_43 wp_Co_rowFor_46
  simp only [um_J_c (q := 2) (by decide), um_J_c (q := 15) (by decide), hr]
  refine ⟨fun z => absurd z (nI_ge hi (by omega)), fun _ => ?_⟩
  rintro x1 rfl
  simp only [e5, c0, s1, s3, s4, c1, c3, c4, r0, r1, r3, r4]
  exact ⟨i0, fun z => ⟨fun _ => miss (fun h => h.1 z), fun z2 => absurd trivial z2⟩, fun z => ⟨i1, fun z2 => ⟨fun _ => miss (fun h => h.2.1 z2), fun z3 => absurd trivial z3⟩, fun z2 => ⟨fun z3 => absurd z3 (by decide), fun _ => ⟨i3, fun z3 => miss (fun h => h.2.2.1 z3), fun z3 => ⟨i4, fun z4 => miss (fun h => h.2.2.2 z4), fun z4 => hyes ⟨z, z2, z3, z4⟩⟩⟩⟩⟩⟩
end RowFor
section Throwing
variable {b m : um_S} {r i n : Nat} {p x : Int32} {Q : um_S → Prop} {K : Int32 → um_S → Prop}
theorem p_thr_end (hr : m 38 14 = nI r) (h : K x (um_J b (um_up m 38 53 (m 38 53 - 1)))) : wp_Mo_throwing_31 Q K (n + 1) x p (nI r) (um_J b m) := by
  unfold wp_Mo_throwing_31
  simp only [um_J_m (q := 38) (by decide), hr, um_J_um (q := 38) (by decide)]
  exact ⟨fun _ σ1 e => e ▸ h, fun z => absurd (Int32.le_refl _) z⟩
theorem p_thr_at {k : Nat} (hr : m 38 14 = nI r) (hr3 : r ≤ 300) (hi : i < r) (hk : m 38 53 = nI k) (h1 : 1 ≤ k) (h2 : k ≤ 12) (hno : ¬ um_hit m p x i → wp_Mo_throwing_31 Q K n x p (nI (i + 1)) (um_J b m))
    (hyes : um_hit m p x i → Q (um_J b (um_up (um_up (um_up (um_up m 73 (k - 1) 0) 74 (200 * (k - 1)) x) 73 (k - 1) 1) 72 (k - 1) (m 51 i)))) : wp_Mo_throwing_31 Q K (n + 1) x p (nI i) (um_J b m) := by
  have ci : (nI i).toNatClampNeg = i := um_cl1 (by omega)
  have ii : vp_in (nI i) 300 := vp_in_nI (by omega) (by decide)
  have e1 : nI k - 1 = nI (k - 1) := um_pred h1
  have e2 : (nI (k - 1)).toNatClampNeg = k - 1 := um_cl1 (by omega)
  have i1 : vp_in (nI (k - 1)) 12 := vp_in_nI (by omega) (by decide)
  have miss : ∀ h : ¬ um_hit m p x i, wp_Mo_throwing_31 Q K n x p (nI i + 1) (um_J b m) := fun h => by rw [um_succ]; exact hno h
  unfold wp_Mo_throwing_31
  simp only [um_J_m (q := 38) (by decide), um_J_m (q := 49) (by decide), um_J_m (q := 50) (by decide), um_J_m (q := 52) (by decide), um_J_m (q := 53) (by decide), hr, hk, ci, e1, e2]
  refine ⟨fun z => absurd z (nI_ge hi (by omega)), fun _ => ⟨ii, fun z => miss (fun h => h.1 z), fun z => ⟨ii, fun z2 => miss (fun h => h.2.1 z2), fun z2 => ⟨ii, fun z3 => miss (fun h => h.2.2.1 z3), fun z3 => ⟨ii, fun z4 => miss (fun h => h.2.2.2 z4), fun z4 => ⟨i1, ?_⟩⟩⟩⟩⟩⟩
  rintro σ2 rfl
  rw [um_J_um (by decide)]
  refine p_Mo_push (k := k) (h := 0) (by rw [um_up_q (by decide)]; exact hk) h1 h2 um_up_self (by omega) ?_
  simp only [um_J_m (q := 38) (by decide), um_J_m (q := 51) (by decide), um_up_q (q := 73) (a := 38) (by decide), um_up_q (q := 74) (a := 38) (by decide), um_up_q (q := 73) (a := 51) (by decide), um_up_q (q := 74) (a := 51) (by decide), hk, e1, e2, um_J_um (q := 72) (by decide)]
  refine ⟨ii, i1, ?_⟩
  rintro σ4 rfl
  exact hyes ⟨z, z2, z3, z4⟩
end Throwing
