/-! lay: contexts as ints -/
theorem ly_scope {s p : Nat} (hp : p < 4) (hs : 4 * s + p < 2147483648) : nI (4 * s + p) >>> ((2 : Int32) &&& 31) = nI s := by
  rw [pk_shrN (by omega) _ 2 (by decide), show (4 * s + p) / 2 ^ 2 = s by omega]
theorem ly_part {s p : Nat} (hp : p < 4) (hs : 4 * s + p < 2147483648) : nI (4 * s + p) &&& 3 = nI p := by
  rw [pk_andN (by omega) 2 (by decide), show (4 * s + p) % 2 ^ 2 = p by omega]
theorem ly_within {s p : Nat} (hp : p < 4) (hs : 4 * s + p < 2147483648) : (nI s <<< ((2 : Int32) &&& 31)) ||| nI p = nI (4 * s + p) := by
  rw [pk_shlN (n := s) ((2 : Int32) &&& 31) 2 (by decide) (by omega)]
  apply Int32.toBitVec_inj.mp
  apply BitVec.eq_of_toNat_eq
  rw [Int32.toBitVec_or, BitVec.toNat_or, pk_tn (by omega), pk_tn (by omega), pk_tn (by omega), show s * 2 ^ 2 = 2 ^ 2 * s by omega, ← Nat.two_pow_add_eq_or_of_lt (by omega)]
theorem ly_half {j b : Nat} (hb : b < 2) (hs : 2 * j + b < 2147483648) : nI (2 * j + b) / 2 = nI j := by
  rw [show (2 : Int32) = nI 2 from rfl, pk_div (by omega) (by decide) (by decide), show (2 * j + b) / 2 = j by omega]
theorem ly_odd {j b : Nat} (hb : b < 2) (hs : 2 * j + b < 2147483648) : nI (2 * j + b) - nI (2 * j + b) / 2 * 2 = nI b := by
  rw [show (2 : Int32) = nI 2 from rfl, pk_rem (by omega) (by decide) (by decide), show (2 * j + b) % 2 = b by omega]
theorem ly_ne {j : Nat} (h : j < 2147483648) : ¬ nI j = -1 := by
  intro z
  have h1 := congrArg Int32.toInt z
  rw [nI_toInt (by omega), show (-1 : Int32).toInt = -1 from rfl] at h1
  omega
theorem p_scopeOf {σ : um_S} {s p : Nat} {Q : Int32 → um_S → Prop} (hp : p < 4) (hs : 4 * s + p < 2147483648) (hq : Q (nI s) σ) : wp_Sc_scopeOf (nI (4 * s + p)) σ Q := by
  unfold wp_Sc_scopeOf
  rw [ly_scope hp hs]
  exact hq
theorem p_partOf {σ : um_S} {s p : Nat} {Q : Int32 → um_S → Prop} (hp : p < 4) (hs : 4 * s + p < 2147483648) (hq : Q (nI p) σ) : wp_Sc_partOf (nI (4 * s + p)) σ Q := by
  unfold wp_Sc_partOf
  rw [ly_part hp hs]
  exact hq
theorem p_within {σ : um_S} {s p : Nat} {Q : Int32 → um_S → Prop} (hp : p < 4) (hs : 4 * s + p < 2147483648) (hq : Q (nI (4 * s + p)) σ) : wp_Sc_within (nI s) (nI p) σ Q := by
  unfold wp_Sc_within
  rw [ly_within hp hs]
  exact hq
