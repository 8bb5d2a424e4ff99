/-! lay: all rows -/
section LayLevels
variable {N n I : Nat} {D L bs it ix hs nn : Nat → Nat} {C : Nat → Nat → Nat} {c0 m0 c m b : um_S} {j k i v : Nat}
/-- too many rows: the reference passes an item -/
theorem p_table_bad {Q : um_S → Prop} (hb : ly_bs N n I D L C bs it ix hs nn c0 m0) (hi : i < I) (hk : k < 150) (h55 : m0 55 i = nI k) (h18 : m0 39 k = 18) (hno : ly_no I c0 m0 c m) (hq : Q (um_J b m)) : wp_Mo_table (nI i) (um_J b m) Q := by
  obtain ⟨⟨hT, hI, hn, h59, -, hH⟩, hit, hcy, hitems, hcha, hhd⟩ := id hb
  obtain ⟨⟨r1, r2, r3, r4, r5, r6, r7⟩, e1, e2, e3⟩ := hno
  obtain ⟨k', o', k1, k2, -, -, k5⟩ := hitems i hi
  have ek : k' = k := (nI_eq (a := k') (b := k) (by omega) (by omega)).mp (k2.symm.trans h55)
  subst ek
  obtain ⟨kN, k24, kbs⟩ := k5 h18
  have fch := (ly_cha_of hcha (fun q a1 a2 => r5 q (by omega)) k' kN (by rw [r5 39 (by decide)]; exact h18)).1
  have hnc : ly_nc m (L k') = ly_nc m0 (L k') := ly_nc_of (r6 34 (by decide)) _
  unfold wp_Mo_table
  rw [um_cl1 (show i < 2147483648 by omega), um_J_m (q := 55) (by decide), r5 55 (by decide), h55]
  refine ⟨vp_in_nI (by omega) (by decide), ?_⟩
  rintro x1 rfl
  refine p_catches (by omega) fch ?_
  show wp_Mo_table_16 Q (99999 + 1) (nI i) (nI k') (nI (ly_nc m (L k'))) (nI 0) (um_J b m)
  refine p_tab16_bad (by omega) (by omega) (by rw [r5 55 (by decide)]; exact h55) (by rw [r5 39 (by decide)]; exact h18) (fun z => ?_) (by rw [e2]; decide) hq
  rw [r5 42 (by decide)] at z
  have hb1 : bs i = ly_nc m0 (L k') + 1 := by
    rw [kbs]
    unfold ly_nh
    rw [if_neg z]
  obtain ⟨-, -, -, -, -, -, q7, q8⟩ := hhd.2.1 i (by omega)
  exact ⟨hs i, by omega, by rw [r5 60 (by decide)]; exact q7⟩
theorem p_lev_bad (hb : ly_bs N n I D L C bs it ix hs nn c0 m0) (hno : ly_no I c0 m0 c m) : ∀ (d i : Nat), i + d = I → ∀ (b : um_S) (Q : Int32 → um_S → Prop) (K68 : Int32 → um_S → Prop) (v : Int32) (fuel : Nat), d < fuel → K68 (v + (-1)) (um_J b m) → wp_Mo_lay_88 Q K68 fuel v (nI i) (um_J b m) := by
  obtain ⟨⟨hT, hI, hn, h59, h23, hH⟩, hit, hcy, hitems, hcha, hhd⟩ := id hb
  obtain ⟨⟨r1, r2, r3, r4, r5, r6, r7⟩, e1, e2, e3⟩ := id hno
  intro d
  induction d with
  | zero =>
    intro i hi b Q K68 v fuel hf hq
    obtain ⟨g, rfl⟩ : ∃ g, fuel = g + 1 := ⟨fuel - 1, by omega⟩
    unfold wp_Mo_lay_88
    rw [um_J_m (q := 38) (by decide), r6 23 (by decide), h23]
    exact um_yes (nI_le (by omega) (by omega)) hq
  | succ d ih =>
    intro i hi b Q K68 v fuel hf hq
    obtain ⟨g, rfl⟩ : ∃ g, fuel = g + 1 := ⟨fuel - 1, by omega⟩
    obtain ⟨k, o, k1, k2, k3, k4, k5⟩ := hitems i (by omega)
    have go := ih (i + 1) (by omega) b Q K68 v g (by omega) hq
    have ii : vp_in (nI i) 2001 := vp_in_nI (by omega) (by decide)
    unfold wp_Mo_lay_88
    rw [um_J_m (q := 38) (by decide), r6 23 (by decide), h23, um_cl1 (show i < 2147483648 by omega), um_J_m (q := 55) (by decide), r5 55 (by decide), k2, um_cl1 (show k < 2147483648 by omega), um_J_m (q := 39) (by decide), r5 39 (by decide), show nI i + 1 = nI (i + 1) from um_succ]
    refine um_no (nI_ge (by omega) (by omega)) ⟨ii, vp_in_nI (by omega) (by decide), fun _ => go, fun z => ⟨ii, fun _ => go, fun _ => p_table_bad hb (by omega) (by omega) k2 z hno go⟩⟩
/-- one level of the table, from item i on -/
theorem ly_lev (hb : ly_bs N n I D L C bs it ix hs nn c0 m0) (hv : v ≤ 150) : ∀ (d i : Nat) (c m : um_S), i + d = I → ly_ok n I D c0 m0 c m →
    ∃ c1 m1, (∀ (b : um_S) (Q : Int32 → um_S → Prop) (K68 : Int32 → um_S → Prop) (fuel : Nat), d < fuel → K68 (nI v + (-1)) (um_J b m1) → wp_Mo_lay_88 Q K68 fuel (nI v) (nI i) (um_J b m)) ∧
      ((ly_ok n I D c0 m0 c1 m1 ∧ ly_cl (ly_bf (ly_ov m0) bs v i) (ly_bf (ly_ov m0) bs v I) c c1) ∨ (ly_no I c0 m0 c1 m1 ∧ ly_clf (ly_bf (ly_ov m0) bs v i) c c1)) := by
  obtain ⟨⟨hT, hI, hn, h59, h23, hH⟩, hit, hcy, hitems, hcha, hhd⟩ := id hb
  intro d
  induction d with
  | zero =>
    intro i c m hi hok
    have e : i = I := by omega
    subst e
    obtain ⟨r1, r2, r3, r4, r5, r6, r7⟩ := hok.1
    refine ⟨c, m, fun b Q K68 fuel hf hq => ?_, Or.inl ⟨hok, ly_cl.rf⟩⟩
    obtain ⟨g, rfl⟩ : ∃ g, fuel = g + 1 := ⟨fuel - 1, by omega⟩
    unfold wp_Mo_lay_88
    rw [um_J_m (q := 38) (by decide), r6 23 (by decide), h23]
    exact um_yes (nI_le (by omega) (by omega)) hq
  | succ d ih =>
    intro i c m hi hok
    obtain ⟨r1, r2, r3, r4, r5, r6, r7⟩ := id hok.1
    obtain ⟨k, o, k1, k2, k3, k4, k5⟩ := hitems i (by omega)
    have eo : ly_ov m0 i = o := by
      unfold ly_ov
      rw [k4, um_cl1 (by omega)]
    have hnext := ly_bf_next (ov := ly_ov m0) (bs := bs) (v := v) (i := i) (by omega)
    rw [eo] at hnext
    have ii : vp_in (nI i) 2001 := vp_in_nI (by omega) (by decide)
    have step : ∀ (b : um_S) (Q : Int32 → um_S → Prop) (K68 : Int32 → um_S → Prop) (g : Nat), ((¬ m0 39 k = 18 ∨ ¬ o = v) → wp_Mo_lay_88 Q K68 g (nI v) (nI (i + 1)) (um_J b m)) → (m0 39 k = 18 → o = v → wp_Mo_table (nI i) (um_J b m) (fun σ1 => wp_Mo_lay_88 Q K68 g (nI v) (nI (i + 1)) σ1)) → wp_Mo_lay_88 Q K68 (g + 1) (nI v) (nI i) (um_J b m) := by
      intro b Q K68 g q1 q2
      unfold wp_Mo_lay_88
      rw [um_J_m (q := 38) (by decide), r6 23 (by decide), h23, um_cl1 (show i < 2147483648 by omega), um_J_m (q := 55) (by decide), r5 55 (by decide), k2, um_cl1 (show k < 2147483648 by omega), um_J_m (q := 39) (by decide), r5 39 (by decide), um_J_m (q := 57) (by decide), r5 57 (by decide), k4, show nI i + 1 = nI (i + 1) from um_succ]
      refine um_no (nI_ge (by omega) (by omega)) ⟨ii, vp_in_nI (by omega) (by decide), fun z => q1 (Or.inl z), fun z => ⟨ii, fun w => q1 (Or.inr (fun e => w (by rw [e]))), fun w => q2 z ?_⟩⟩
      exact (nI_eq (a := o) (b := v) (by omega) (by omega)).mp w
    by_cases h18 : m0 39 k = 18 ∧ o = v
    · obtain ⟨h18, hov⟩ := h18
      obtain ⟨c1, m1, z1, z2⟩ := ly_tab hb (show i < I by omega) k1 k2 h18 (ly_nc m0 (L k)) 0 c m (by omega) hok
      have hat : ly_at m0 bs i = ly_bf (ly_ov m0) bs v i := by
        unfold ly_at
        rw [eo, hov]
      rw [if_pos hov] at hnext
      obtain ⟨hch, -⟩ := hcha k (k5 h18).1 h18
      have hlk := hch.1
      have hncl : ly_nc m0 (L k) ≤ 150 := by
        unfold ly_nc
        by_cases z : m0 38 34 = 0
        · rw [if_pos z]
          omega
        · rw [if_neg z]
          omega
      have tab : ∀ (b : um_S) (Q : um_S → Prop), Q (um_J b m1) → wp_Mo_table (nI i) (um_J b m) Q := by
        intro b Q hq
        have fch := (ly_cha_of hcha (fun q a1 a2 => r5 q (by omega)) k (k5 h18).1 (by rw [r5 39 (by decide)]; exact h18)).1
        unfold wp_Mo_table
        rw [um_cl1 (show i < 2147483648 by omega), um_J_m (q := 55) (by decide), r5 55 (by decide), k2]
        refine ⟨ii, ?_⟩
        rintro x1 rfl
        refine p_catches (by omega) fch ?_
        rw [ly_nc_of (r6 34 (by decide))]
        exact z1 b Q 100000 (by omega) hq
      rw [hat, Nat.add_zero, ← hnext] at z2
      rcases z2 with ⟨y1, y2⟩ | ⟨y1, y2⟩
      · obtain ⟨c2, m2, w1, w2⟩ := ih (i + 1) c1 m1 (by omega) y1
        refine ⟨c2, m2, fun b Q K68 fuel hf hq => ?_, ?_⟩
        · obtain ⟨g, rfl⟩ : ∃ g, fuel = g + 1 := ⟨fuel - 1, by omega⟩
          exact step b Q K68 g (fun w => w.elim (fun y => absurd h18 y) (fun y => absurd hov y)) (fun _ _ => tab b _ (w1 b Q K68 g (by omega) hq))
        · have hle : ly_bf (ly_ov m0) bs v (i + 1) ≤ 500 := by
            have h1 : ly_at m0 bs i + bs i ≤ ly_T bs 2001 := ly_bf_all (by omega)
            rw [hat, ← hnext] at h1
            omega
          rcases w2 with ⟨v1, v2⟩ | ⟨v1, v2⟩
          · exact Or.inl ⟨v1, y2.trans v2⟩
          · exact Or.inr ⟨v1, y2.clf hle v2⟩
      · refine ⟨c1, m1, fun b Q K68 fuel hf hq => ?_, Or.inr ⟨y1, y2⟩⟩
        obtain ⟨g, rfl⟩ : ∃ g, fuel = g + 1 := ⟨fuel - 1, by omega⟩
        exact step b Q K68 g (fun w => w.elim (fun y => absurd h18 y) (fun y => absurd hov y)) (fun _ _ => tab b _ (p_lev_bad hb y1 d (i + 1) (by omega) b Q K68 (nI v) g (by omega) hq))
    · have hz : (if o = v then bs i else 0) = 0 := by
        by_cases e : o = v
        · rw [if_pos e]
          by_cases w : 0 < bs i
          · exfalso
            obtain ⟨-, -, q3, q4, q5, -⟩ := hhd.2.1 i w
            have ek : nn i = k := (nI_eq (a := nn i) (b := k) (by omega) (by omega)).mp (q4.symm.trans k2)
            rw [ek] at q5
            exact h18 ⟨q5, e⟩
          · omega
        · rw [if_neg e]
      have hnext2 : ly_bf (ly_ov m0) bs v (i + 1) = ly_bf (ly_ov m0) bs v i := hnext.trans (by rw [hz]; exact Nat.add_zero _)
      obtain ⟨c2, m2, w1, w2⟩ := ih (i + 1) c m (by omega) hok
      rw [hnext2] at w2
      refine ⟨c2, m2, fun b Q K68 fuel hf hq => ?_, w2⟩
      obtain ⟨g, rfl⟩ : ∃ g, fuel = g + 1 := ⟨fuel - 1, by omega⟩
      exact step b Q K68 g (fun _ => w1 b Q K68 g (by omega) hq) (fun a1 a2 => absurd ⟨a1, a2⟩ h18)
/-- where the class's handlers stand when d levels are left -/
def ly_lp (m0 : um_S) (bs : Nat → Nat) : Nat → Nat
  | 0 => ly_T bs 2001
  | d + 1 => ly_bf (ly_ov m0) bs d 0
theorem ly_levs (hb : ly_bs N n I D L C bs it ix hs nn c0 m0) : ∀ (d : Nat) (c m : um_S), d ≤ 151 → ly_ok n I D c0 m0 c m →
    ∃ c1 m1, (∀ (b : um_S) (Q : Int32 → um_S → Prop) (fuel : Nat), d < fuel → wp_Mo_lay_139 Q (um_J b m1) → wp_Mo_lay_68 Q fuel (nI d - 1) (um_J b m)) ∧
      ((ly_ok n I D c0 m0 c1 m1 ∧ ly_cl (ly_lp m0 bs d) (ly_T bs 2001) c c1) ∨ (ly_no I c0 m0 c1 m1 ∧ ly_clf (ly_lp m0 bs d) c c1)) := by
  obtain ⟨⟨hT, hI, hn, h59, h23, hH⟩, hit, hcy, hitems, hcha, hhd⟩ := id hb
  intro d
  induction d with
  | zero =>
    intro c m hd hok
    refine ⟨c, m, fun b Q fuel hf hq => ?_, Or.inl ⟨hok, ly_cl.rf⟩⟩
    obtain ⟨g, rfl⟩ : ∃ g, fuel = g + 1 := ⟨fuel - 1, by omega⟩
    unfold wp_Mo_lay_68
    exact um_yes (by decide) hq
  | succ d ih =>
    intro c m hd hok
    obtain ⟨c1, m1, z1, z2⟩ := ly_lev (v := d) hb (by omega) I 0 c m (by omega) hok
    have elp : ly_bf (ly_ov m0) bs d I = ly_lp m0 bs d := by
      have e1 : ly_bf (ly_ov m0) bs d I = ly_bf (ly_ov m0) bs d 2001 := by
        unfold ly_bf
        refine ly_T_eq 2001 (fun q hq => ?_)
        show (if d < ly_ov m0 q ∨ (ly_ov m0 q = d ∧ q < I) then bs q else 0) = (if d < ly_ov m0 q ∨ (ly_ov m0 q = d ∧ q < 2001) then bs q else 0)
        by_cases w : 0 < bs q
        · have := (hhd.2.1 q w).1
          by_cases y : d < ly_ov m0 q ∨ (ly_ov m0 q = d ∧ q < I)
          · rw [if_pos y, if_pos (by omega)]
          · rw [if_neg y, if_neg (by omega)]
        · have e : bs q = 0 := by omega
          rw [e]
          by_cases y : d < ly_ov m0 q ∨ (ly_ov m0 q = d ∧ q < I)
          · rw [if_pos y]
            by_cases y2 : d < ly_ov m0 q ∨ (ly_ov m0 q = d ∧ q < 2001)
            · rw [if_pos y2]
            · rw [if_neg y2]
          · rw [if_neg y]
            by_cases y2 : d < ly_ov m0 q ∨ (ly_ov m0 q = d ∧ q < 2001)
            · rw [if_pos y2]
            · rw [if_neg y2]
      rw [e1]
      cases d with
      | zero => exact ly_bf_end
      | succ d => exact ly_bf_down.symm
    rw [elp] at z2
    have hle : ly_lp m0 bs d ≤ 500 := by
      rw [← elp]
      have h1 : ly_bf (ly_ov m0) bs d I ≤ ly_T bs 2001 := by
        unfold ly_bf
        refine ly_T_le 2001 (fun q hq => ?_)
        show (if d < ly_ov m0 q ∨ (ly_ov m0 q = d ∧ q < I) then bs q else 0) ≤ bs q
        by_cases y : d < ly_ov m0 q ∨ (ly_ov m0 q = d ∧ q < I)
        · rw [if_pos y]
          exact Nat.le_refl _
        · rw [if_neg y]
          exact Nat.zero_le _
      omega
    obtain ⟨r, hrw, -⟩ := hok.2
    have step : ∀ (b : um_S) (Q : Int32 → um_S → Prop) (g : Nat), wp_Mo_lay_68 Q g (nI d - 1) (um_J b m1) → wp_Mo_lay_68 Q (g + 1) (nI (d + 1) - 1) (um_J b m) := by
      intro b Q g hq
      rw [um_pred (a := d + 1) (by omega), Nat.add_sub_cancel]
      unfold wp_Mo_lay_68
      rw [um_J_m (q := 38) (by decide), hrw.2.2.2.2.1, hrw.2.2.2.2.2]
      refine um_no (nI_pos (by omega)) (um_yes' rfl (um_yes' rfl (z1 b Q _ 100000 (by omega) ?_)))
      rw [show nI d + (-1) = nI d - 1 by rw [Int32.sub_eq_add_neg]]
      exact hq
    rcases z2 with ⟨y1, y2⟩ | ⟨y1, y2⟩
    · obtain ⟨c2, m2, w1, w2⟩ := ih c1 m1 (by omega) y1
      refine ⟨c2, m2, fun b Q fuel hf hq => ?_, ?_⟩
      · obtain ⟨g, rfl⟩ : ∃ g, fuel = g + 1 := ⟨fuel - 1, by omega⟩
        exact step b Q g (w1 b Q g (by omega) hq)
      · rcases w2 with ⟨v1, v2⟩ | ⟨v1, v2⟩
        · exact Or.inl ⟨v1, y2.trans v2⟩
        · exact Or.inr ⟨v1, y2.clf hle v2⟩
    · refine ⟨c1, m1, fun b Q fuel hf hq => ?_, Or.inr ⟨y1, y2⟩⟩
      obtain ⟨g, rfl⟩ : ∃ g, fuel = g + 1 + 1 := ⟨fuel - 2, by omega⟩
      refine step b Q (g + 1) ?_
      unfold wp_Mo_lay_68
      rw [um_J_m (q := 38) (by decide), y1.2.2.1]
      exact ⟨fun _ => hq, fun _ => um_no' (by decide) hq⟩
/-- the whole table -/
theorem ly_table (hb : ly_bs N n I D L C bs it ix hs nn c0 m0) (hok : ly_ok n I D c0 m0 c0 m0) :
    ∃ c1 m1, (∀ (b : um_S) (Q : Int32 → um_S → Prop), wp_La_layDown_97 Q (um_J c1 b) → wp_La_layDown_68 Q 100000 0 (um_J c0 b)) ∧ (∀ (b : um_S) (Q : Int32 → um_S → Prop), wp_Mo_lay_139 Q (um_J b m1) → wp_Mo_lay_68 Q 100000 150 (um_J b m0)) ∧ (ly_ok n I D c0 m0 c1 m1 ∨ ly_no I c0 m0 c1 m1) := by
  obtain ⟨⟨hT, hI, hn, h59, h23, hH⟩, hit, hcy, hitems, hcha, hhd⟩ := id hb
  obtain ⟨c1, m1, z1, z2⟩ := ly_levs hb 151 c0 m0 (Nat.le_refl _) hok
  have e0 : ly_lp m0 bs 151 = 0 := by
    show ly_bf (ly_ov m0) bs 150 0 = 0
    refine ly_bf_top (fun q hq w => ?_)
    obtain ⟨k, o, -, -, k3, k4, -⟩ := hitems q (hhd.2.1 q w).1
    have eo : ly_ov m0 q = o := by
      unfold ly_ov
      rw [k4, um_cl1 (by omega)]
    omega
  rw [e0] at z2
  refine ⟨c1, m1, fun b Q hq => ?_, fun b Q hq => z1 b Q 100000 (by omega) hq, ?_⟩
  · rcases z2 with ⟨y1, y2⟩ | ⟨y1, y2⟩
    · have g := y2.2 b Q (99999 - ly_T bs 2001 + 1) ?_
      · rw [show 99999 - ly_T bs 2001 + 1 + (ly_T bs 2001 - 0) = 100000 by omega] at g
        exact g
      · unfold wp_La_layDown_68
        rw [um_J_c (q := 7) (by decide), y1.1.1 7 (by decide), hhd.1.1]
        exact um_yes (nI_le (Nat.le_refl _) (by omega)) hq
    · exact y2 b Q 100000 (by omega) hq
  · rcases z2 with ⟨y1, -⟩ | ⟨y1, -⟩
    · exact Or.inl y1
    · exact Or.inr y1
end LayLevels
