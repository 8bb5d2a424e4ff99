/-! lay: the goals behind WHILEs become known to the class, too -/
def lc_setk (c : um_S) (i : Nat) : um_S := fun q k => if q = 12 ∧ k < i ∧ (c 11 k = 10 ∨ c 11 k = 11) ∧ ¬ 0 ≤ c 12 k then c 29 (-(c 12 k)).toNatClampNeg else c q k
section LaySettle
variable {N n B I p i : Nat} {D : Nat → Nat} {c m b : um_S} {Q : um_S → Prop} {op arg : Int32} {q : Nat}
theorem lc_setk_row (h : ¬ q = 12) : lc_setk c i q = c q := by
  funext k
  unfold lc_setk
  rw [if_neg (fun z => h z.1)]
theorem lc_setk_ge {k : Nat} (h : i ≤ k) : lc_setk c i 12 k = c 12 k := by
  unfold lc_setk
  rw [if_neg (fun z => by omega)]
theorem lc_setk_0 : lc_setk c 0 = c := by
  funext q k
  unfold lc_setk
  rw [if_neg (fun z => by omega)]
theorem lc_setk_same (h : ¬ ((c 11 i = 10 ∨ c 11 i = 11) ∧ ¬ 0 ≤ c 12 i)) : lc_setk c (i + 1) = lc_setk c i := by
  funext q k
  unfold lc_setk
  by_cases e : k = i
  · subst e
    rw [if_neg (fun z => h z.2.2), if_neg (fun z => h z.2.2)]
  · by_cases z : q = 12 ∧ k < i ∧ (c 11 k = 10 ∨ c 11 k = 11) ∧ ¬ 0 ≤ c 12 k
    · rw [if_pos z, if_pos ⟨z.1, by omega, z.2.2⟩]
    · rw [if_neg z, if_neg (fun y => z ⟨y.1, by omega, y.2.2⟩)]
theorem lc_setk_more (h : (c 11 i = 10 ∨ c 11 i = 11) ∧ ¬ 0 ≤ c 12 i) : um_up (lc_setk c i) 12 i (c 29 (-(c 12 i)).toNatClampNeg) = lc_setk c (i + 1) := by
  funext q k
  by_cases e : q = 12 ∧ k = i
  · obtain ⟨rfl, rfl⟩ := e
    rw [um_up_self]
    unfold lc_setk
    rw [if_pos ⟨rfl, by omega, h⟩]
  · rw [um_up_ne e]
    unfold lc_setk
    by_cases z : q = 12 ∧ k < i ∧ (c 11 k = 10 ∨ c 11 k = 11) ∧ ¬ 0 ≤ c 12 k
    · rw [if_pos z, if_pos ⟨z.1, by omega, z.2.2⟩]
    · rw [if_neg z, if_neg (fun y => z ⟨y.1, by omega, y.2.2⟩)]
theorem p_settle (hn : c 2 5 = nI n) (hn2 : n ≤ 1000) (hv : ∀ p, p < n → (c 11 p = 10 ∨ c 11 p = 11) → ¬ 0 ≤ c 12 p → vp_in (-(c 12 p)) 2001) (hq : Q (um_J (lc_setk c n) b)) : ∀ d i fuel, i + d = n → d < fuel → wp_La_settleGoals_2 Q fuel (nI i) (um_J (lc_setk c i) b) := by
  intro d
  induction d with
  | zero =>
    intro i fuel h1 h2
    obtain ⟨g, rfl⟩ : ∃ g, fuel = g + 1 := ⟨fuel - 1, by omega⟩
    have e : i = n := by omega
    subst e
    unfold wp_La_settleGoals_2
    exact um_yes (by rw [um_J_c (by decide), lc_setk_row (by decide), hn]; exact nI_le (Nat.le_refl _) (by omega)) hq
  | succ d ih =>
    intro i fuel h1 h2
    obtain ⟨g, rfl⟩ : ∃ g, fuel = g + 1 := ⟨fuel - 1, by omega⟩
    have go := ih (i + 1) g (by omega) (by omega)
    have iv : vp_in (nI i) 1000 := vp_in_nI (by omega) (by decide)
    have f41 : (c 11 i = 10 ∨ c 11 i = 11) → wp_La_settleGoals_41 Q (fun v1 σ => wp_La_settleGoals_2 Q g v1 σ) (nI i) (um_J (lc_setk c i) b) := by
      intro ho
      unfold wp_La_settleGoals_41 wp_La_settleGoals_47
      rw [um_cl1 (show i < 2147483648 by omega), um_J_c (q := 12) (by decide), lc_setk_ge (Nat.le_refl _), um_J_c (q := 29) (by decide), lc_setk_row (q := 29) (by decide), show nI i + 1 = nI (i + 1) from um_succ, um_J_uc (by decide)]
      refine um_no (by decide) ⟨iv, fun z => ?_, fun z => ⟨iv, hv i (by omega) ho z, iv, ?_⟩⟩
      · rw [← lc_setk_same (fun w => w.2 z)]
        exact go
      · rw [lc_setk_more ⟨ho, z⟩]
        rintro σ1 rfl
        exact go
    unfold wp_La_settleGoals_2
    rw [um_cl1 (show i < 2147483648 by omega), um_J_c (q := 2) (by decide), lc_setk_row (q := 2) (by decide), hn, um_J_c (q := 11) (by decide), lc_setk_row (q := 11) (by decide)]
    refine um_no (nI_ge (by omega) (by omega)) ⟨iv, fun z => f41 (Or.inl z), fun z => ⟨iv, fun w => ?_, fun w => f41 (Or.inr w)⟩⟩
    unfold wp_La_settleGoals_47
    rw [show nI i + 1 = nI (i + 1) from um_succ]
    refine um_yes rfl ?_
    rw [← lc_setk_same (fun y => y.1.elim z w)]
    exact go
theorem ly_negneg {j : Nat} (hj : j ≤ 2000) : ¬ (0 : Int32) ≤ -(nI (j + 1)) := by
  intro z
  have h1 := Int32.le_iff_toInt_le.mp z
  rw [Int32.toInt_neg, nI_toInt (by omega)] at h1
  have : ((-((j + 1 : Nat) : Int)).bmod (2 ^ 32)) = -((j + 1 : Nat) : Int) := by
    apply Int.bmod_eq_of_le <;> omega
  rw [this] at h1
  have h0 : (0 : Int32).toInt = 0 := rfl
  rw [h0] at h1
  omega
theorem um_ins_strict (hp : p < n) (h : um_ins (n + 1) (ly_g D n (D p + 1000)) p op arg) : um_ins n D p op arg := by
  have e0 : ly_g D n (D p + 1000) p = D p := ly_g_ne (by omega)
  have g1 : ∀ k, k < n + 1 → (ly_g D n (D p + 1000) k = D p + 1000 ∧ k = n) ∨ (ly_g D n (D p + 1000) k = D k ∧ k < n) := by
    intro k hk
    by_cases z : k = n
    · subst z
      exact Or.inl ⟨ly_g_at, rfl⟩
    · exact Or.inr ⟨ly_g_ne z, by omega⟩
  unfold um_ins at h ⊢
  rw [e0] at h
  rcases h with ⟨a1, a2, a3, a4⟩ | ⟨a1, a2, a3, a4, a5⟩ | ⟨w, a1, a2, a3, a4, a5, a6, a7⟩ | ⟨a1, a2, a3, a4, a5⟩ | ⟨a1, a2, a3, a4⟩ | ⟨a1, a2, a3, a4, t, a5, a6, a7⟩ | ⟨a1, t, a5, a6, a7⟩ | ⟨a1, a2, a3⟩ | ⟨a1, a2, a3, a4, a5⟩ | ⟨a1, a2⟩ | ⟨a1, a2, a3, a4, a5⟩ | ⟨a1, a2⟩
  · have := g1 (p + 1) a3
    exact Or.inl ⟨a1, a2, by omega, by omega⟩
  · have := g1 (p + 1) a3
    exact Or.inr (Or.inl ⟨a1, a2, by omega, by omega, a5⟩)
  · have := g1 (p + 1) a4
    exact Or.inr (Or.inr (Or.inl ⟨w, a1, a2, a3, by omega, a5, by omega, by omega⟩))
  · have := g1 (p + 1) a3
    exact Or.inr (Or.inr (Or.inr (Or.inl ⟨a1, a2, by omega, by omega, a5⟩)))
  · have := g1 (p + 1) a3
    exact Or.inr (Or.inr (Or.inr (Or.inr (Or.inl ⟨a1, a2, by omega, by omega⟩))))
  · have h1 := g1 (p + 1) a3
    have h2 := g1 t a5
    exact Or.inr (Or.inr (Or.inr (Or.inr (Or.inr (Or.inl ⟨a1, a2, by omega, by omega, t, by omega, a6, by omega⟩)))))
  · have h2 := g1 t a5
    exact Or.inr (Or.inr (Or.inr (Or.inr (Or.inr (Or.inr (Or.inl ⟨a1, t, by omega, a6, by omega⟩))))))
  · exact Or.inr (Or.inr (Or.inr (Or.inr (Or.inr (Or.inr (Or.inr (Or.inl ⟨a1, a2, a3⟩)))))))
  · have := g1 (p + 1) a3
    exact Or.inr (Or.inr (Or.inr (Or.inr (Or.inr (Or.inr (Or.inr (Or.inr (Or.inl ⟨a1, a2, by omega, by omega, a5⟩))))))))
  · exact Or.inr (Or.inr (Or.inr (Or.inr (Or.inr (Or.inr (Or.inr (Or.inr (Or.inr (Or.inl ⟨a1, a2⟩)))))))))
  · have := g1 (p + 1) a3
    exact Or.inr (Or.inr (Or.inr (Or.inr (Or.inr (Or.inr (Or.inr (Or.inr (Or.inr (Or.inr (Or.inl ⟨a1, a2, by omega, by omega, a5⟩))))))))))
  · exact Or.inr (Or.inr (Or.inr (Or.inr (Or.inr (Or.inr (Or.inr (Or.inr (Or.inr (Or.inr (Or.inr ⟨a1, a2⟩))))))))))
/-- an instruction when all is laid down -/
theorem ly_ins_end (hfree : ∀ d, ly_bare N n B I (ly_g D n d) c m) (hend : ∀ j, j < I → ¬ m 59 j = -1) (hp : p < n) : c 11 p = m 46 p ∧ um_ins n D p (m 46 p) (m 47 p) ∧ ((c 12 p = m 47 p ∧ ((c 11 p = 10 ∨ c 11 p = 11) → 0 ≤ c 12 p)) ∨ ∃ j, j < I ∧ (c 11 p = 10 ∨ c 11 p = 11) ∧ c 12 p = -(nI (j + 1)) ∧ c 29 (j + 1) = m 47 p) := by
  have hb := hfree (D p + 1000)
  obtain ⟨hI, hN, hn, hBB⟩ := ly_bare_I hb
  obtain ⟨-, -, -, -, -, -, hitems, hins, -⟩ := id hb
  obtain ⟨k1, k2, k3⟩ := hins p hp
  have e0 : ly_g D n (D p + 1000) p = D p := ly_g_ne (by omega)
  refine ⟨k1, ?_⟩
  rcases k3 with ⟨y1, y2⟩ | ⟨y1, y2⟩
  · have hs := um_ins_strict hp y2
    refine ⟨hs, Or.inl ⟨y1, fun ho => ?_⟩⟩
    rw [k1] at ho
    rw [y1]
    unfold um_ins at hs
    rcases hs with ⟨w, -⟩ | ⟨w, -⟩ | ⟨w, w1, w2, w3, -⟩ | ⟨w, -⟩ | ⟨w, -⟩ | ⟨-, -, -, -, t, t1, t2, -⟩ | ⟨-, t, t1, t2, -⟩ | ⟨w, -⟩ | ⟨w, -⟩ | ⟨w, -⟩ | ⟨w, -⟩ | ⟨w, -⟩
    · rw [w] at ho; exact absurd ho (by decide)
    · rw [w] at ho; exact absurd ho (by decide)
    · exfalso
      rw [w3] at ho
      rcases ho with z | z
      · have := (nI_eq (a := w) (b := 10) (by omega) (by decide)).mp z; omega
      · have := (nI_eq (a := w) (b := 11) (by omega) (by decide)).mp z; omega
    · rw [w] at ho; exact absurd ho (by decide)
    · rw [w] at ho; exact absurd ho (by decide)
    · rw [t2]
      exact nI_pos' (by omega)
    · rw [t2]
      exact nI_pos' (by omega)
    · rw [w] at ho; exact absurd ho (by decide)
    · rw [w] at ho; exact absurd ho (by decide)
    · rw [w] at ho; exact absurd ho (by decide)
    · rw [w] at ho; exact absurd ho (by decide)
    · rw [w] at ho; exact absurd ho (by decide)
  · rcases y2 with ⟨z, -⟩ | ⟨j, hj, z1, z2, z3⟩
    · exact z.elim
    · have e47 : m 47 p = m 59 j := by
        rcases z3 with ⟨w, -⟩ | ⟨-, w⟩
        · exact absurd w (hend j hj)
        · exact w
      obtain ⟨nd0, ov, dp, -, -, -, -, -, -, -, -, -, -, i11⟩ := hitems j hj
      obtain ⟨e, w1, w2, w3, w4⟩ : ∃ e, e < n + 1 ∧ ly_g D n (D p + 1000) e = 0 ∧ m 59 j = nI e ∧ c 29 (j + 1) = nI e := by
        rcases i11 with w | w
        · exact absurd w (hend j hj)
        · exact w
      have en : ¬ e = n := by
        rintro rfl
        rw [ly_g_at] at w2
        omega
      rw [ly_g_ne en] at w2
      have ho : c 11 p = 10 ∨ c 11 p = 11 := by
        rw [k1]
        exact y1.elim (fun z => Or.inl z.1) (fun z => Or.inr z.1)
      refine ⟨?_, Or.inr ⟨j, hj, ho, z2, by rw [e47, w3, w4]⟩⟩
      rw [e47, w3]
      rcases y1 with ⟨v1, v2, v3, v4⟩ | ⟨v1, v2⟩
      · rw [e0] at v2
        have en2 : ¬ p + 1 = n := by
          intro z
          rw [z, ly_g_at] at v4
          omega
        rw [ly_g_ne en2] at v4
        exact Or.inr (Or.inr (Or.inr (Or.inr (Or.inr (Or.inl ⟨v1, by omega, by omega, by omega, e, by omega, rfl, by omega⟩)))))
      · rw [e0] at v2
        exact Or.inr (Or.inr (Or.inr (Or.inr (Or.inr (Or.inr (Or.inl ⟨v1, e, by omega, rfl, by omega⟩))))))
end LaySettle
