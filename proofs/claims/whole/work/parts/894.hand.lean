/-! lay: the handlers, in the class's order and in the reference's -/
def lc_sh (c : um_S) (p H : Nat) : um_S := fun q k => if (35 ≤ q ∧ q ≤ 37) ∧ p < k ∧ k ≤ H then c q (k - 1) else c q k
def lc_add (c : um_S) (p H : Nat) (v1 v2 v3 : Int32) : um_S := um_up (um_up (um_up (um_up (lc_sh c p H) 35 p v1) 36 p v2) 37 p v3) 7 3 (nI (H + 1))
section LayHand
variable {c b m : um_S} {p p0 H i j oi oj q k : Nat} {v1 v2 v3 : Int32} {Q : um_S → Prop}
theorem lc_sh_row (h : ¬ (35 ≤ q ∧ q ≤ 37)) : lc_sh c p H q = c q := by
  funext k
  unfold lc_sh
  rw [if_neg (fun z => h z.1)]
theorem lc_sh_le (h : k ≤ p) : lc_sh c p H q k = c q k := by
  unfold lc_sh
  rw [if_neg (fun z => by omega)]
theorem lc_sh_gt (hq : 35 ≤ q ∧ q ≤ 37) (h : p ≤ k) (h2 : k < H) : lc_sh c p H q (k + 1) = c q k := by
  unfold lc_sh
  rw [if_pos ⟨hq, by omega, by omega⟩, Nat.add_sub_cancel]
theorem lc_sh_all : lc_sh c H H = c := by
  funext q k
  unfold lc_sh
  rw [if_neg (fun z => by omega)]
theorem lc_sh_step (h : p < H) : um_up (um_up (um_up (lc_sh c (p + 1) H) 35 (p + 1) (c 35 p)) 36 (p + 1) (c 36 p)) 37 (p + 1) (c 37 p) = lc_sh c p H := by
  funext q k
  by_cases e : (35 ≤ q ∧ q ≤ 37) ∧ k = p + 1
  · obtain ⟨⟨h1, h2⟩, rfl⟩ := e
    rw [lc_sh_gt ⟨h1, h2⟩ (Nat.le_refl _) h]
    by_cases q7 : q = 37
    · subst q7
      rw [um_up_self]
    · by_cases q6 : q = 36
      · subst q6
        rw [um_up_q (by decide), um_up_self]
      · have q5 : q = 35 := by omega
        subst q5
        rw [um_up_q (by decide), um_up_q (by decide), um_up_self]
  · rw [um_up_ne (by omega), um_up_ne (by omega), um_up_ne (by omega)]
    unfold lc_sh
    by_cases z : (35 ≤ q ∧ q ≤ 37) ∧ p + 1 < k ∧ k ≤ H
    · rw [if_pos z, if_pos ⟨z.1, by omega, z.2.2⟩]
    · rw [if_neg z, if_neg (fun y => by omega)]
theorem lc_add_row (h : ¬ (q = 7 ∨ (35 ≤ q ∧ q ≤ 37))) : lc_add c p H v1 v2 v3 q = c q := by
  unfold lc_add
  rw [um_up_q (by omega), um_up_q (by omega), um_up_q (by omega), um_up_q (by omega), lc_sh_row (by omega)]
theorem lc_add_lt (h1 : 35 ≤ q) (h2 : q ≤ 37) (h : k < p) : lc_add c p H v1 v2 v3 q k = c q k := by
  unfold lc_add
  rw [um_up_ne (by omega), um_up_ne (by omega), um_up_ne (by omega), um_up_ne (by omega), lc_sh_le (by omega)]
theorem lc_add_gt (h1 : 35 ≤ q) (h2 : q ≤ 37) (h : p ≤ k) (hk : k < H) : lc_add c p H v1 v2 v3 q (k + 1) = c q k := by
  unfold lc_add
  rw [um_up_ne (by omega), um_up_ne (by omega), um_up_ne (by omega), um_up_ne (by omega), lc_sh_gt ⟨h1, h2⟩ h hk]
theorem lc_add_at : lc_add c p H v1 v2 v3 35 p = v1 ∧ lc_add c p H v1 v2 v3 36 p = v2 ∧ lc_add c p H v1 v2 v3 37 p = v3 ∧ lc_add c p H v1 v2 v3 7 3 = nI (H + 1) := by
  unfold lc_add
  refine ⟨?_, ?_, ?_, ?_⟩
  · rw [um_up_q (by decide), um_up_q (by decide), um_up_q (by decide), um_up_self]
  · rw [um_up_q (by decide), um_up_q (by decide), um_up_self]
  · rw [um_up_q (by decide), um_up_self]
  · rw [um_up_self]
theorem p_before {R : Bool → um_S → Prop} (hj : j < 2000) (hi : i < 2000) (h27j : c 27 (j + 1) = nI oj) (h27i : c 27 (i + 1) = nI oi) (bj : oj < 1000) (bi : oi < 1000) (ht : (oi < oj ∨ (oj = oi ∧ j < i)) → R true (um_J c b)) (hf : ¬ (oi < oj ∨ (oj = oi ∧ j < i)) → R false (um_J c b)) : wp_Ha_comesBefore_27 (nI (j + 1)) (nI (i + 1)) (um_J c b) R := by
  have ij : vp_in (nI (j + 1)) 2001 := vp_in_nI (by omega) (by decide)
  have ii : vp_in (nI (i + 1)) 2001 := vp_in_nI (by omega) (by decide)
  unfold wp_Ha_comesBefore_27
  rw [um_cl1 (show j + 1 < 2147483648 by omega), um_cl1 (show i + 1 < 2147483648 by omega), um_J_c (q := 27) (by decide), h27j, h27i]
  refine ⟨ij, ii, fun z => ht ?_, fun z => ⟨ij, ii, fun y => hf ?_, fun y => ⟨fun x => hf ?_, fun x => ht ?_⟩⟩⟩
  · exact Or.inl ((nI_ltI (by omega) (by omega)).mp z)
  · rintro (w | w)
    · exact z (nI_lt w (by omega))
    · exact y (by rw [w.1])
  · have h1 := (nI_eq (a := oj) (b := oi) (by omega) (by omega)).mp y
    have h2 := (nI_leI (a := i + 1) (b := j + 1) (by omega) (by omega)).mp x
    omega
  · have h1 := (nI_eq (a := oj) (b := oi) (by omega) (by omega)).mp y
    have h2 : ¬ i + 1 ≤ j + 1 := fun w => x (nI_le w (by omega))
    omega
theorem p_hadd (h7 : c 7 3 = nI H) (hH : H ≤ 500) (hp : p0 ≤ H) (hj : j < 2000) (h27j : c 27 (j + 1) = nI oj) (bj : oj < 1000)
    (lo : ∀ p, p < p0 → ∃ i oi, i < 2000 ∧ oi < 1000 ∧ c 35 p = nI (i + 1) ∧ c 27 (i + 1) = nI oi ∧ ¬ (oi < oj ∨ (oj = oi ∧ j < i)))
    (hi : ∀ p, p0 ≤ p → p < H → ∃ i oi, i < 2000 ∧ oi < 1000 ∧ c 35 p = nI (i + 1) ∧ c 27 (i + 1) = nI oi ∧ (oi < oj ∨ (oj = oi ∧ j < i)))
    (hq : Q (um_J (lc_add c p0 H (nI (j + 1)) v2 v3) b)) : wp_Ha_add_27 (nI (j + 1)) v2 v3 (um_J c b) Q := by
  have fin : wp_Ha_add_27_94 Q (nI (j + 1)) v2 v3 (nI p0) (um_J (lc_sh c p0 H) b) := by
    have ip : vp_in (nI p0) 501 := vp_in_nI (by omega) (by decide)
    unfold wp_Ha_add_27_94
    rw [um_cl1 (show p0 < 2147483648 by omega), um_J_uc (by decide)]
    refine ⟨ip, ?_⟩
    rintro σ1 rfl
    rw [um_J_uc (by decide)]
    refine ⟨ip, ?_⟩
    rintro σ2 rfl
    rw [um_J_uc (by decide)]
    refine ⟨ip, ?_⟩
    rintro σ3 rfl
    rw [um_J_c (q := 7) (by decide), um_up_q (q := 37) (a := 7) (by decide), um_up_q (q := 36) (a := 7) (by decide), um_up_q (q := 35) (a := 7) (by decide), lc_sh_row (q := 7) (by omega), h7, show nI H + 1 = nI (H + 1) from um_succ, um_J_uc (by decide)]
    rintro σ4 rfl
    exact hq
  have key : ∀ d p fuel, p = p0 + d → p ≤ H → d < fuel → wp_Ha_add_27_17 Q fuel (nI (j + 1)) v2 v3 (nI p) (um_J (lc_sh c p H) b) := by
    intro d
    induction d with
    | zero =>
      intro p fuel h1 h2 h3
      obtain ⟨f, rfl⟩ : ∃ f, fuel = f + 1 := ⟨fuel - 1, by omega⟩
      have e : p = p0 := by omega
      subst e
      unfold wp_Ha_add_27_17
      by_cases z : p = 0
      · subst z
        exact um_yes (by decide) fin
      · obtain ⟨r, rfl⟩ : ∃ r, p = r + 1 := ⟨p - 1, by omega⟩
        obtain ⟨i, oi, x1, x2, x3, x4, x5⟩ := lo r (by omega)
        have e1 : nI (r + 1) - 1 = nI r := um_pred (a := r + 1) (by omega)
        rw [e1, um_cl1 (show r < 2147483648 by omega), um_J_c (q := 35) (by decide), lc_sh_le (by omega), x3]
        refine um_no (nI_nle (by omega) (by omega)) ⟨vp_in_nI (by omega) (by decide), ?_⟩
        exact p_before hj x1 (by rw [lc_sh_row (by omega)]; exact h27j) (by rw [lc_sh_row (by omega)]; exact x4) bj x2 (fun w => absurd w x5) (fun _ => ⟨fun _ => fin, fun w => absurd w (by decide)⟩)
    | succ d ih =>
      intro p fuel h1 h2 h3
      obtain ⟨f, rfl⟩ : ∃ f, fuel = f + 1 := ⟨fuel - 1, by omega⟩
      obtain ⟨r, rfl⟩ : ∃ r, p = r + 1 := ⟨p - 1, by omega⟩
      obtain ⟨i, oi, x1, x2, x3, x4, x5⟩ := hi r (by omega) (by omega)
      have e1 : nI (r + 1) - 1 = nI r := um_pred (a := r + 1) (by omega)
      have ir : vp_in (nI r) 501 := vp_in_nI (by omega) (by decide)
      have ir1 : vp_in (nI (r + 1)) 501 := vp_in_nI (by omega) (by decide)
      have go := ih r f (by omega) (by omega) (by omega)
      rw [← lc_sh_step (c := c) (show r < H by omega)] at go
      unfold wp_Ha_add_27_17
      rw [e1, um_cl1 (show r < 2147483648 by omega), um_cl1 (show r + 1 < 2147483648 by omega), um_J_c (q := 35) (by decide), lc_sh_le (by omega), x3]
      refine um_no (nI_nle (by omega) (by omega)) ⟨ir, ?_⟩
      refine p_before hj x1 (by rw [lc_sh_row (by omega)]; exact h27j) (by rw [lc_sh_row (by omega)]; exact x4) bj x2 (fun w => ⟨fun y => absurd y (by decide), fun _ => ⟨ir, ir1, ?_⟩⟩) (fun w => absurd x5 w)
      rw [um_J_c (q := 35) (by decide), lc_sh_le (by omega), um_J_uc (by decide)]
      rintro σ3 rfl
      refine ⟨ir, ir1, ?_⟩
      rw [um_J_c (q := 36) (by decide), um_up_q (q := 35) (a := 36) (by decide), lc_sh_le (by omega), um_J_uc (by decide)]
      rintro σ4 rfl
      refine ⟨ir, ir1, ?_⟩
      rw [um_J_c (q := 37) (by decide), um_up_q (q := 36) (a := 37) (by decide), um_up_q (q := 35) (a := 37) (by decide), lc_sh_le (by omega), um_J_uc (by decide), show nI (r + 1) + (-1) = nI r from pk_m1 r]
      rintro σ5 rfl
      exact go
  unfold wp_Ha_add_27
  rw [um_J_c (q := 7) (by decide), h7]
  refine um_yes (nI_lt (b := 501) (by omega) (by decide)) ?_
  rintro x1 rfl
  have := key (H - p0) H 100000 (by omega) (Nat.le_refl _) (by omega)
  rw [lc_sh_all] at this
  exact this
end LayHand
/-- how many handlers a TRY's node has; the catch of the x-th -/
def ly_nh (m : um_S) (L : Nat → Nat) (k : Nat) : Nat := ly_nc m (L k) + (if m 42 k = -1 then 0 else 1)
def ly_hx (m : um_S) (L : Nat → Nat) (C : Nat → Nat → Nat) (k x : Nat) : Int32 := if x < ly_nc m (L k) then nI (C k (L k - 1 - x)) else -1
def ly_at (m : um_S) (bs : Nat → Nat) (j : Nat) : Nat := ly_bf (ly_ov m) bs (ly_ov m j) j
/-- the handlers so far: bs j of item j, whose node is nn j and whose first is hs j in the reference; at place p lies the ix p-th of item it p -/
def ly_hd (I n : Nat) (D L : Nat → Nat) (C : Nat → Nat → Nat) (bs it ix hs nn : Nat → Nat) (c m : um_S) : Prop :=
  (c 7 3 = nI (ly_T bs 2001) ∧ m 38 30 = nI (ly_T bs 2001)) ∧
  (∀ j, 0 < bs j → j < I ∧ ¬ m 59 j = -1 ∧ nn j < 150 ∧ m 55 j = nI (nn j) ∧ m 39 (nn j) = 18 ∧ bs j ≤ ly_nh m L (nn j) ∧ m 60 j = nI (hs j) ∧ hs j + bs j ≤ ly_T bs 2001) ∧
  (∀ p, p < ly_T bs 2001 → ix p < bs (it p) ∧ p = ly_at m bs (it p) + ix p) ∧
  ∀ j x, x < bs j → ∃ tg, tg < n ∧ D tg = 1 ∧ c 35 (ly_at m bs j + x) = nI (j + 1) ∧ c 36 (ly_at m bs j + x) = ly_hx m L C (nn j) x ∧ c 37 (ly_at m bs j + x) = nI tg ∧ m 61 (hs j + x) = nI tg
section LayHd
variable {I I1 n n1 H : Nat} {D D1 L bs it ix hs nn : Nat → Nat} {C : Nat → Nat → Nat} {c m c1 m1 : um_S} {j k j0 x h0 : Nat}
/-- other rows change -/
theorem ly_hd_of (h : ly_hd I n D L C bs it ix hs nn c m) (hI : I ≤ I1) (hn : n ≤ n1) (hD : ∀ k, k < n → D1 k = D k) (e : ∀ q, 35 ≤ q → q ≤ 37 → c1 q = c q) (e7 : c1 7 3 = c 7 3) (g : ∀ q, q = 39 ∨ q = 42 ∨ q = 60 ∨ q = 61 → m1 q = m q) (g38 : m1 38 30 = m 38 30 ∧ m1 38 34 = m 38 34)
    (gi : ∀ j, j < I → m1 55 j = m 55 j ∧ m1 57 j = m 57 j ∧ (¬ m 59 j = -1 → m1 59 j = m 59 j)) : ly_hd I1 n1 D1 L C bs it ix hs nn c1 m1 := by
  obtain ⟨h1, h2, h3, h4⟩ := h
  have ov : ∀ j, 0 < bs j → ly_ov m1 j = ly_ov m j := fun j hj => by
    unfold ly_ov
    rw [(gi j (h2 j hj).1).2.1]
  have at' : ∀ j, 0 < bs j → ly_at m1 bs j = ly_at m bs j := fun j hj => by
    unfold ly_at
    rw [ov j hj, ly_bf_of ov]
  have nc : ∀ l, ly_nc m1 l = ly_nc m l := fun l => by
    unfold ly_nc
    rw [g38.2]
  refine ⟨⟨by rw [e7]; exact h1.1, by rw [g38.1]; exact h1.2⟩, fun j hj => ?_, fun p hp => ?_, fun j x hx => ?_⟩
  · obtain ⟨k1, k2, k3, k4, k5, k6, k7, k8⟩ := h2 j hj
    obtain ⟨y1, y2, y3⟩ := gi j k1
    exact ⟨by omega, by rw [y3 k2]; exact k2, k3, by rw [y1]; exact k4, by rw [g 39 (by decide)]; exact k5, by unfold ly_nh at *; rw [nc, g 42 (by decide)]; exact k6, by rw [g 60 (by decide)]; exact k7, k8⟩
  · obtain ⟨k1, k2⟩ := h3 p hp
    exact ⟨k1, by rw [at' _ (by omega)]; exact k2⟩
  · obtain ⟨tg, k1, k2, k3, k4, k5, k6⟩ := h4 j x hx
    refine ⟨tg, by omega, by rw [hD tg k1]; exact k2, ?_⟩
    rw [at' j (by omega), e 35 (by decide) (by decide), e 36 (by decide) (by decide), e 37 (by decide) (by decide), g 61 (by decide)]
    refine ⟨k3, ?_, k5, k6⟩
    unfold ly_hx at *
    rw [nc]
    exact k4
/-- one handler more -/
theorem ly_hd_add (h : ly_hd I n D L C bs it ix hs nn c m) (hI : I ≤ 2000) (hH : ly_T bs 2001 ≤ 500) (hov : ∀ i, i < I → ∃ o, o ≤ 149 ∧ m 57 i = nI o ∧ c 27 (i + 1) = nI o) (hj : j0 < I) (h59 : ¬ m 59 j0 = -1) (hk : k < 150) (h55 : m 55 j0 = nI k) (h18 : m 39 k = 18) (hx : bs j0 < ly_nh m L k) (h60 : m 60 j0 = nI h0) (hh : h0 + bs j0 = ly_T bs 2001) (hDn : D n = 1) :
    (∀ (b : um_S) (Q : um_S → Prop), Q (um_J (lc_add c (ly_at m bs j0 + bs j0) (ly_T bs 2001) (nI (j0 + 1)) (ly_hx m L C k (bs j0)) (nI n)) b) → wp_Ha_add_27 (nI (j0 + 1)) (ly_hx m L C k (bs j0)) (nI n) (um_J c b) Q) ∧
    ∃ it1 ix1, ly_hd I (n + 1) D L C (ly_g bs j0 (bs j0 + 1)) it1 ix1 (ly_g hs j0 h0) (ly_g nn j0 k) (lc_add c (ly_at m bs j0 + bs j0) (ly_T bs 2001) (nI (j0 + 1)) (ly_hx m L C k (bs j0)) (nI n)) (um_up (um_up m 61 (ly_T bs 2001) (nI n)) 38 30 (nI (ly_T bs 2001 + 1))) := by
  obtain ⟨⟨h1, h1'⟩, h2, h3, h4⟩ := h
  have ov : ∀ i, i < I → ly_ov m i ≤ 149 ∧ c 27 (i + 1) = nI (ly_ov m i) := by
    intro i hi
    obtain ⟨o, o1, o2, o3⟩ := hov i hi
    have : ly_ov m i = o := by
      unfold ly_ov
      rw [o2, um_cl1 (by omega)]
    rw [this]
    exact ⟨o1, o3⟩
  have hp0 : ly_at m bs j0 + bs j0 ≤ ly_T bs 2001 := ly_bf_all (by omega)
  -- the order
  have up : ∀ i, i < 2001 → (ly_ov m i < ly_ov m j0 ∨ (ly_ov m j0 = ly_ov m i ∧ j0 < i)) → ly_at m bs j0 + bs j0 ≤ ly_at m bs i := fun i hi z => ly_bf_lt (by omega) z
  have dn : ∀ i, i < 2001 → ¬ i = j0 → ¬ (ly_ov m i < ly_ov m j0 ∨ (ly_ov m j0 = ly_ov m i ∧ j0 < i)) → ly_at m bs i + bs i ≤ ly_at m bs j0 := fun i hi ne z => ly_bf_lt hi (by omega)
  have at1 : ∀ i, ly_at m (ly_g bs j0 (bs j0 + 1)) i = ly_at m bs i + (if ly_ov m i < ly_ov m j0 ∨ (ly_ov m j0 = ly_ov m i ∧ j0 < i) then 1 else 0) := fun i => ly_bf_more (by omega)
  have at0 : ly_at m (ly_g bs j0 (bs j0 + 1)) j0 = ly_at m bs j0 := by
    rw [at1, if_neg (by omega), Nat.add_zero]
  have itI : ∀ p, p < ly_T bs 2001 → it p < I := fun p hp => (h2 (it p) (by have := (h3 p hp).1; omega)).1
  have c35 : ∀ p, p < ly_T bs 2001 → c 35 p = nI (it p + 1) := by
    intro p hp
    obtain ⟨y1, y2⟩ := h3 p hp
    obtain ⟨tg, -, -, k3, -⟩ := h4 (it p) (ix p) y1
    rw [← y2] at k3
    exact k3
  have side : ∀ p, p < ly_T bs 2001 → (p < ly_at m bs j0 + bs j0 → ¬ (ly_ov m (it p) < ly_ov m j0 ∨ (ly_ov m j0 = ly_ov m (it p) ∧ j0 < it p))) ∧ (ly_at m bs j0 + bs j0 ≤ p → (ly_ov m (it p) < ly_ov m j0 ∨ (ly_ov m j0 = ly_ov m (it p) ∧ j0 < it p))) := by
    intro p hp
    obtain ⟨y1, y2⟩ := h3 p hp
    have hI2 := itI p hp
    refine ⟨fun z w => ?_, fun z => ?_⟩
    · have := up (it p) (by omega) w
      omega
    · by_cases w : (ly_ov m (it p) < ly_ov m j0 ∨ (ly_ov m j0 = ly_ov m (it p) ∧ j0 < it p))
      · exact w
      · exfalso
        by_cases e : it p = j0
        · rw [e] at y1 y2
          omega
        · have := dn (it p) (by omega) e w
          omega
  refine ⟨fun b Q hq => ?_, ?_⟩
  · obtain ⟨o1, o2⟩ := ov j0 hj
    refine p_hadd (oj := ly_ov m j0) h1 hH hp0 (by omega) o2 (by omega) (fun p hp => ?_) (fun p hp hp2 => ?_) hq
    · have hpT : p < ly_T bs 2001 := by omega
      obtain ⟨o3, o4⟩ := ov (it p) (itI p hpT)
      exact ⟨it p, ly_ov m (it p), by have := itI p hpT; omega, by omega, c35 p hpT, o4, (side p hpT).1 hp⟩
    · obtain ⟨o3, o4⟩ := ov (it p) (itI p hp2)
      exact ⟨it p, ly_ov m (it p), by have := itI p hp2; omega, by omega, c35 p hp2, o4, (side p hp2).2 hp⟩
  · have T1 : ly_T (ly_g bs j0 (bs j0 + 1)) 2001 = ly_T bs 2001 + 1 := ly_T_more (by omega)
    have M : ∀ q, ¬ (q = 38 ∨ q = 61) → (um_up (um_up m 61 (ly_T bs 2001) (nI n)) 38 30 (nI (ly_T bs 2001 + 1))) q = m q := fun q hq => by rw [um_up_q (by omega), um_up_q (by omega)]
    have M34 : (um_up (um_up m 61 (ly_T bs 2001) (nI n)) 38 30 (nI (ly_T bs 2001 + 1))) 38 34 = m 38 34 := by rw [um_up_ne (by decide), um_up_q (by decide)]
    have at2 : ∀ bs2 i, ly_at (um_up (um_up m 61 (ly_T bs 2001) (nI n)) 38 30 (nI (ly_T bs 2001 + 1))) bs2 i = ly_at m bs2 i := by
      intro bs2 i
      have e : ly_ov (um_up (um_up m 61 (ly_T bs 2001) (nI n)) 38 30 (nI (ly_T bs 2001 + 1))) = ly_ov m := by
        funext i
        unfold ly_ov
        rw [M 57 (by decide)]
      unfold ly_at
      rw [e]
    have nc : ∀ l, ly_nc (um_up (um_up m 61 (ly_T bs 2001) (nI n)) 38 30 (nI (ly_T bs 2001 + 1))) l = ly_nc m l := fun l => by
      unfold ly_nc
      rw [M34]
    have nh : ∀ i, ly_nh (um_up (um_up m 61 (ly_T bs 2001) (nI n)) 38 30 (nI (ly_T bs 2001 + 1))) L i = ly_nh m L i := fun i => by
      unfold ly_nh
      rw [nc, M 42 (by decide)]
    have hxe : ∀ i y, ly_hx (um_up (um_up m 61 (ly_T bs 2001) (nI n)) 38 30 (nI (ly_T bs 2001 + 1))) L C i y = ly_hx m L C i y := fun i y => by
      unfold ly_hx
      rw [nc]
    obtain ⟨a1, a2, a3, a4⟩ := lc_add_at (c := c) (p := ly_at m bs j0 + bs j0) (H := ly_T bs 2001) (v1 := nI (j0 + 1)) (v2 := ly_hx m L C k (bs j0)) (v3 := nI n)
    have hsj : 0 < bs j0 → hs j0 = h0 ∧ nn j0 = k := by
      intro z
      obtain ⟨-, -, k3, k4, -, -, k7, k8⟩ := h2 j0 z
      exact ⟨(nI_eq (a := hs j0) (b := h0) (by omega) (by omega)).mp (k7.symm.trans h60), (nI_eq (a := nn j0) (b := k) (by omega) (by omega)).mp (k4.symm.trans h55)⟩
    refine ⟨fun p => if p < ly_at m bs j0 + bs j0 then it p else if p = ly_at m bs j0 + bs j0 then j0 else it (p - 1), fun p => if p < ly_at m bs j0 + bs j0 then ix p else if p = ly_at m bs j0 + bs j0 then bs j0 else ix (p - 1), ⟨by rw [T1]; exact a4, by rw [T1, um_up_self]⟩, fun j hj2 => ?_, fun p hp => ?_, fun j y hy => ?_⟩
    · rw [T1]
      by_cases e : j = j0
      · subst e
        rw [ly_g_at, ly_g_at, ly_g_at, nh, M 59 (by decide), M 55 (by decide), M 39 (by decide), M 60 (by decide)]
        exact ⟨hj, h59, hk, h55, h18, by omega, h60, by omega⟩
      · rw [ly_g_ne e] at hj2
        rw [ly_g_ne e, ly_g_ne e, ly_g_ne e, nh, M 59 (by decide), M 55 (by decide), M 39 (by decide), M 60 (by decide)]
        obtain ⟨k1, k2, k3, k4, k5, k6, k7, k8⟩ := h2 j hj2
        exact ⟨k1, k2, k3, k4, k5, k6, k7, by omega⟩
    · rw [T1] at hp
      have gb : ∀ i, bs i ≤ ly_g bs j0 (bs j0 + 1) i := by
        intro i
        by_cases e : i = j0
        · subst e
          rw [ly_g_at]
          omega
        · rw [ly_g_ne e]
          exact Nat.le_refl _
      show (if p < ly_at m bs j0 + bs j0 then ix p else if p = ly_at m bs j0 + bs j0 then bs j0 else ix (p - 1)) < ly_g bs j0 (bs j0 + 1) (if p < ly_at m bs j0 + bs j0 then it p else if p = ly_at m bs j0 + bs j0 then j0 else it (p - 1)) ∧ p = ly_at _ _ (if p < ly_at m bs j0 + bs j0 then it p else if p = ly_at m bs j0 + bs j0 then j0 else it (p - 1)) + (if p < ly_at m bs j0 + bs j0 then ix p else if p = ly_at m bs j0 + bs j0 then bs j0 else ix (p - 1))
      rw [at2]
      by_cases z : p < ly_at m bs j0 + bs j0
      · rw [if_pos z, if_pos z]
        obtain ⟨y1, y2⟩ := h3 p (by omega)
        refine ⟨Nat.lt_of_lt_of_le y1 (gb _), ?_⟩
        rw [at1, if_neg ((side p (by omega)).1 z), Nat.add_zero]
        exact y2
      · rw [if_neg z, if_neg z]
        by_cases z2 : p = ly_at m bs j0 + bs j0
        · rw [if_pos z2, if_pos z2, at0, ly_g_at]
          exact ⟨by omega, z2⟩
        · rw [if_neg z2, if_neg z2]
          obtain ⟨y1, y2⟩ := h3 (p - 1) (by omega)
          refine ⟨Nat.lt_of_lt_of_le y1 (gb _), ?_⟩
          rw [at1, if_pos ((side (p - 1) (by omega)).2 (by omega))]
          omega
    · rw [at2]
      by_cases e : j = j0
      · subst e
        rw [ly_g_at] at hy
        rw [ly_g_at, ly_g_at, at0]
        by_cases z : y = bs j
        · subst z
          refine ⟨n, by omega, hDn, a1, by rw [hxe]; exact a2, a3, ?_⟩
          rw [um_up_q (by decide), hh, um_up_self]
        · obtain ⟨tg, k1, k2, k3, k4, k5, k6⟩ := h4 j y (by omega)
          obtain ⟨y1, y2⟩ := hsj (by omega)
          rw [y1] at k6
          rw [y2] at k4
          refine ⟨tg, by omega, k2, ?_, ?_, ?_, ?_⟩
          · rw [lc_add_lt (by decide) (by decide) (by omega)]
            exact k3
          · rw [lc_add_lt (by decide) (by decide) (by omega), hxe]
            exact k4
          · rw [lc_add_lt (by decide) (by decide) (by omega)]
            exact k5
          · rw [um_up_q (by decide), um_up_ne (by omega)]
            exact k6
      · rw [ly_g_ne e] at hy
        rw [ly_g_ne e, ly_g_ne e, at1]
        obtain ⟨tg, k1, k2, k3, k4, k5, k6⟩ := h4 j y hy
        obtain ⟨w1, -, -, -, -, -, -, w8⟩ := h2 j (by omega)
        have wT := ly_bf_all (ov := ly_ov m) (bs := bs) (i := j) (by omega)
        have wT2 : ly_at m bs j + bs j ≤ ly_T bs 2001 := wT
        refine ⟨tg, by omega, k2, ?_⟩
        rw [hxe, um_up_q (q := 38) (a := 61) (by decide), um_up_ne (by omega)]
        by_cases z : (ly_ov m j < ly_ov m j0 ∨ (ly_ov m j0 = ly_ov m j ∧ j0 < j))
        · have := up j (by omega) z
          rw [if_pos z, show ly_at m bs j + 1 + y = ly_at m bs j + y + 1 by omega, lc_add_gt (by decide) (by decide) (by omega) (by omega), lc_add_gt (by decide) (by decide) (by omega) (by omega), lc_add_gt (by decide) (by decide) (by omega) (by omega)]
          exact ⟨k3, k4, k5, k6⟩
        · have := dn j (by omega) e z
          rw [if_neg z, show ly_at m bs j + 0 + y = ly_at m bs j + y by rw [Nat.add_zero], lc_add_lt (by decide) (by decide) (by omega), lc_add_lt (by decide) (by decide) (by omega), lc_add_lt (by decide) (by decide) (by omega)]
          exact ⟨k3, k4, k5, k6⟩
end LayHd
