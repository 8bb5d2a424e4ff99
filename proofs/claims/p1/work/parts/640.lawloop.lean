/-! lay, and the law's loop (lay, instruction and row as hypotheses) -/
section LawLoop
variable {p : Program} {l : Launch} {e : Env} {s : State} {m : MethodId} {args : Array Value} {below : List Frame} {meth : Method} {c : Code} {H : Heap} {locs : List Loc} {cells slots : Nat} {Qw : State → Prop} {D : va_G} {ad : Nat → Nat} {cA : ClassId} {tys : List (ClassId × FieldType)} {w2 : va_W} {cL : ClassId} {u v : um_S} {b L i qo : Nat} {xs : Nat → Int32} {ls : Array Slot}
set_option maxHeartbeats 1000000 in
theorem lw_case_3 (hx : p.tables.exec = Jvm.exec) (hb : c.code = code) (hml : c.maxLocals = 7) (hown : s.vm.findClass R_Lw = some m.cls) (hts : ∀ w ∈ lw_tbl, w.before args s = true) (hK : va_K D um_cl ((cA, .int) :: tys) s) (hst : um_st um_SX ad (fun x => s.heap.size ≤ x) s s.heap) (hX : va_X b L xs s s.heap) (hbl : b < s.heap.size) (hi : i + 6 ≤ L) (hL : L ≤ 6) (hl : lv_has ls 7 [(0, .ref b), (1, .ref (ad 0)), (2, .ref (ad 38)), (3, .ref qo), (4, .int (nI i))]) (hc1 : cells ≤ 83) (hc2 : slots ≤ 75452)
    (hG : um_G u v) (hP : va_P D um_cl (um_ws ad cA um_L (um_J u v) ++ w2) H) (hD : va_D (fun x => s.heap.size ≤ x) (um_ws ad cA um_L (um_J u v) ++ w2)) (hS : va_S (fun x => s.heap.size ≤ x) s.heap H locs) (hlay : ∀ e : Bool, um_alike Int32 (wp_UM_lay e) (wp_Mo_lay e) u v)
    (cont : ∀ (u1 v1 : um_S) (H1 : Heap) (locs1 : List Loc), um_G u1 v1 → va_P D um_cl (um_ws ad cA um_L (um_J u1 v1) ++ w2) H1 → va_D (fun x => s.heap.size ≤ x) (um_ws ad cA um_L (um_J u1 v1) ++ w2) → va_S (fun x => s.heap.size ≤ x) s.heap H1 locs1 → W p l e room_1 s m args below meth c H1 locs1 cells slots Qw (F0 m 614 ls [])) : W p l e room_1 s m args below meth c H locs cells slots Qw (F0 m 287 ls []) := by
  by_cases hz : xs (i + 1) = 0
  · obtain ⟨x, u1, v1, w1, w2a, hG1⟩ := hlay false
    refine lv_aload_n hx hb d_law_287 rfl (lv_at hl 1 rfl) ?_
    refine lw_arg (k := 1) hx hb hX hbl (by omega) hL hl hS d_law_288 d_law_289 d_law_291 d_law_292 d_law_293 (by decide) ?_
    refine lv_if_eq (tgt := 301) hx hb d_law_294 rfl (fun _ => ?_) (fun z => absurd hz z)
    refine lv_iconst (v := 0) hx hb d_law_301 (by decide) ?_
    refine lw_call (q := 0) (As := [.int (if false then 1 else 0)]) (rest := []) (σ := um_J u v) hx hb hml hown hts hK hst hP hD hS g_Lw_38 rfl rfl (Nat.le_of_ble_eq_true rfl) (Nat.le_of_ble_eq_true rfl) (Nat.le_of_ble_eq_true rfl) hl.1 hc1 hc2 d_law_302 (c_UM_lay (b1 := false) (w1 v (fun r z => x = r ∧ z = um_J u1 v) ⟨rfl, rfl⟩)) (fun r uu H locs hq hP hD hS => ?_)
    obtain ⟨y, rfl, rfl, rfl⟩ := hq
    refine lv_aload_n hx hb d_law_305 rfl (lv_at hl 2 rfl) ?_
    refine lw_arg (k := 1) hx hb hX hbl (by omega) hL hl hS d_law_306 d_law_307 d_law_309 d_law_310 d_law_311 (by decide) ?_
    refine lv_if_eq (tgt := 319) hx hb d_law_312 rfl (fun _ => ?_) (fun z => absurd hz z)
    refine lv_iconst (v := 0) hx hb d_law_319 (by decide) ?_
    refine lw_call (q := 38) (As := [.int (if false then 1 else 0)]) (rest := [.int x]) (σ := um_J u1 v) hx hb hml hown hts hK hst hP hD hS g_Lw_42 rfl rfl (Nat.le_of_ble_eq_true rfl) (Nat.le_of_ble_eq_true rfl) (Nat.le_of_ble_eq_true rfl) hl.1 hc1 hc2 d_law_320 (c_Mo_lay (b1 := false) (w2a u1 (fun r z => x = r ∧ z = um_J u1 v1) ⟨rfl, rfl⟩)) (fun r uu H locs hq hP hD hS => ?_)
    obtain ⟨y, rfl, rfl, rfl⟩ := hq
    exact lv_icmp_eq (tgt := 614) hx hb d_law_323 rfl (fun _ => cont u1 v1 H locs hG1 hP hD hS) (fun z => absurd rfl z)
  · obtain ⟨x, u1, v1, w1, w2a, hG1⟩ := hlay true
    refine lv_aload_n hx hb d_law_287 rfl (lv_at hl 1 rfl) ?_
    refine lw_arg (k := 1) hx hb hX hbl (by omega) hL hl hS d_law_288 d_law_289 d_law_291 d_law_292 d_law_293 (by decide) ?_
    refine lv_if_eq (tgt := 301) hx hb d_law_294 rfl (fun z => absurd z hz) (fun _ => ?_)
    refine lv_iconst (v := 1) hx hb d_law_297 (by decide) ?_
    refine lv_goto (tgt := 302) hx hb d_law_298 rfl ?_
    refine lw_call (q := 0) (As := [.int (if true then 1 else 0)]) (rest := []) (σ := um_J u v) hx hb hml hown hts hK hst hP hD hS g_Lw_38 rfl rfl (Nat.le_of_ble_eq_true rfl) (Nat.le_of_ble_eq_true rfl) (Nat.le_of_ble_eq_true rfl) hl.1 hc1 hc2 d_law_302 (c_UM_lay (b1 := true) (w1 v (fun r z => x = r ∧ z = um_J u1 v) ⟨rfl, rfl⟩)) (fun r uu H locs hq hP hD hS => ?_)
    obtain ⟨y, rfl, rfl, rfl⟩ := hq
    refine lv_aload_n hx hb d_law_305 rfl (lv_at hl 2 rfl) ?_
    refine lw_arg (k := 1) hx hb hX hbl (by omega) hL hl hS d_law_306 d_law_307 d_law_309 d_law_310 d_law_311 (by decide) ?_
    refine lv_if_eq (tgt := 319) hx hb d_law_312 rfl (fun z => absurd z hz) (fun _ => ?_)
    refine lv_iconst (v := 1) hx hb d_law_315 (by decide) ?_
    refine lv_goto (tgt := 320) hx hb d_law_316 rfl ?_
    refine lw_call (q := 38) (As := [.int (if true then 1 else 0)]) (rest := [.int x]) (σ := um_J u1 v) hx hb hml hown hts hK hst hP hD hS g_Lw_42 rfl rfl (Nat.le_of_ble_eq_true rfl) (Nat.le_of_ble_eq_true rfl) (Nat.le_of_ble_eq_true rfl) hl.1 hc1 hc2 d_law_320 (c_Mo_lay (b1 := true) (w2a u1 (fun r z => x = r ∧ z = um_J u1 v1) ⟨rfl, rfl⟩)) (fun r uu H locs hq hP hD hS => ?_)
    obtain ⟨y, rfl, rfl, rfl⟩ := hq
    exact lv_icmp_eq (tgt := 614) hx hb d_law_323 rfl (fun _ => cont u1 v1 H locs hG1 hP hD hS) (fun z => absurd rfl z)
/-- the law's own cell -/
def lw_w2 (qo : Nat) (cL : ClassId) (fo : Nat → Int64) : va_W := [(qo, .inl (cL, 1, .inr (.inl fo)))]
/-- an iteration's case that may make two cells of 16 slots -/
def lw_open (pc : Nat) (p : Program) (l : Launch) (e : Env) (s : State) (m : MethodId) (args : Array Value) (below : List Frame) (meth : Method) (c : Code) (Qw : State → Prop) (D : va_G) (ad : Nat → Nat) (cA cL : ClassId) (b L qo : Nat) : Prop :=
  ∀ (i cells slots : Nat) (ls : Array Slot) (u v : um_S) (H : Heap) (locs : List Loc) (fo : Nat → Int64), i + 6 ≤ L → cells + 2 ≤ 83 → slots + 16 ≤ 75452 → lv_has ls 7 [(0, .ref b), (1, .ref (ad 0)), (2, .ref (ad 38)), (3, .ref qo), (4, .int (nI i))] → um_G u v → va_P D um_cl (um_ws ad cA um_L (um_J u v) ++ lw_w2 qo cL fo) H → va_D (fun x => s.heap.size ≤ x) (um_ws ad cA um_L (um_J u v) ++ lw_w2 qo cL fo) → va_S (fun x => s.heap.size ≤ x) s.heap H locs →
    (∀ (ls1 : Array Slot) (u1 v1 : um_S) (H1 : Heap) (locs1 : List Loc) (fo1 : Nat → Int64), lv_has ls1 7 [(0, .ref b), (1, .ref (ad 0)), (2, .ref (ad 38)), (3, .ref qo), (4, .int (nI i))] → um_G u1 v1 → va_P D um_cl (um_ws ad cA um_L (um_J u1 v1) ++ lw_w2 qo cL fo1) H1 → va_D (fun x => s.heap.size ≤ x) (um_ws ad cA um_L (um_J u1 v1) ++ lw_w2 qo cL fo1) → va_S (fun x => s.heap.size ≤ x) s.heap H1 locs1 → W p l e room_1 s m args below meth c H1 locs1 (cells + 2) (slots + 16) Qw (F0 m 614 ls1 [])) →
    W p l e room_1 s m args below meth c H locs cells slots Qw (F0 m pc ls [])
set_option maxHeartbeats 2000000 in
theorem lw_loop {u0 v0 : um_S} (hx : p.tables.exec = Jvm.exec) (hb : c.code = code) (hr : meth.sig.returnType = ret) (hlocks : meth.locks = false) (hml : c.maxLocals = 7) (hown : s.vm.findClass R_Lw = some m.cls) (hts : ∀ w ∈ lw_tbl, w.before #[Value.ref b] s = true) (hK : va_K D um_cl ((cA, .int) :: tys) s) (hst : um_st um_SX ad (fun x => s.heap.size ≤ x) s s.heap) (hX : va_X b L xs s s.heap) (hbl : b < s.heap.size) (hL : L ≤ 6)
    (hlay : ∀ (j : Nat) (u v : um_S), 6 * j + 6 ≤ L → (j = 0 → u = u0 ∧ v = v0) → um_G u v → ∀ e : Bool, um_alike Int32 (wp_UM_lay e) (wp_Mo_lay e) u v)
    (h5 : lw_open 353 p l e s m #[Value.ref b] below meth c (lw_Z below #[Value.ref b] s) D ad cA cL b L qo) (h7 : lw_open 446 p l e s m #[Value.ref b] below meth c (lw_Z below #[Value.ref b] s) D ad cA cL b L qo) :
    ∀ (d j : Nat) (ls : Array Slot) (u v : um_S) (H : Heap) (locs : List Loc) (fo : Nat → Int64), L < 6 * (j + d) + 6 → 6 * j ≤ L + 5 → lv_has ls 7 [(0, .ref b), (1, .ref (ad 0)), (2, .ref (ad 38)), (3, .ref qo), (4, .int (nI (6 * j)))] → (j = 0 → u = u0 ∧ v = v0) → um_G u v → va_P D um_cl (um_ws ad cA um_L (um_J u v) ++ lw_w2 qo cL fo) H → va_D (fun x => s.heap.size ≤ x) (um_ws ad cA um_L (um_J u v) ++ lw_w2 qo cL fo) → va_S (fun x => s.heap.size ≤ x) s.heap H locs →
      W p l e room_1 s m #[Value.ref b] below meth c H locs (79 + 2 * j) (75420 + 16 * j) (lw_Z below #[Value.ref b] s) (F0 m 23 ls []) := by
  intro d
  induction d with
  | zero =>
    intro j ls u v H locs fo hd hj hl hz hG hP hD hS
    refine lv_iload hx hb d_law_23 (lv_at hl 4 rfl) ?_
    refine lv_aload_n hx hb d_law_25 rfl (lv_at hl 0 rfl) ?_
    refine va_slen hx hb hX hbl (fun z => absurd hbl (Nat.not_lt.mpr z)) hS d_law_26 ?_
    refine lv_bipush (v := 6) hx hb d_law_27 (by decide) ?_
    refine lv_isub hx hb d_law_29 ?_
    refine lv_icmp_gt (tgt := 620) hx hb d_law_30 rfl (fun _ => ?_) (fun z => absurd ?_ z)
    · refine lv_iconst (v := 1) hx hb d_law_620 (by decide) ?_
      refine W.widen (k := 83) (n := 75452) (by omega) (by omega) ?_
      refine va_forget hS.2.2 ?_
      exact lw_ret hx hb hr hlocks d_law_621
    · show nI L - nI 6 < nI (6 * j)
      rw [Int32.lt_iff_toInt_lt, pk_sub_toInt (by omega) (by omega), nI_toInt (by omega)]
      omega
  | succ d ih =>
    intro j ls u v H locs fo hd hj hl hz hG hP hD hS
    refine lv_iload hx hb d_law_23 (lv_at hl 4 rfl) ?_
    refine lv_aload_n hx hb d_law_25 rfl (lv_at hl 0 rfl) ?_
    refine va_slen hx hb hX hbl (fun z => absurd hbl (Nat.not_lt.mpr z)) hS d_law_26 ?_
    refine lv_bipush (v := 6) hx hb d_law_27 (by decide) ?_
    refine lv_isub hx hb d_law_29 ?_
    have hcmp : (nI L - nI 6 < nI (6 * j)) ↔ (L : Int) - 6 < 6 * j := by
      rw [Int32.lt_iff_toInt_lt, pk_sub_toInt (by omega) (by omega), nI_toInt (by omega)]
      omega
    refine lv_icmp_gt (tgt := 620) hx hb d_law_30 rfl (fun _ => ?_) (fun z => ?_)
    · refine lv_iconst (v := 1) hx hb d_law_620 (by decide) ?_
      refine W.widen (k := 83) (n := 75452) (by omega) (by omega) ?_
      refine va_forget hS.2.2 ?_
      exact lw_ret hx hb hr hlocks d_law_621
    · have z : ¬ (nI L - nI 6 < nI (6 * j)) := z
      rw [hcmp] at z
      have hi : 6 * j + 6 ≤ L := by omega
      have next : ∀ (ls1 : Array Slot) (u1 v1 : um_S) (H1 : Heap) (locs1 : List Loc) (fo1 : Nat → Int64), lv_has ls1 7 [(0, .ref b), (1, .ref (ad 0)), (2, .ref (ad 38)), (3, .ref qo), (4, .int (nI (6 * j)))] → um_G u1 v1 → va_P D um_cl (um_ws ad cA um_L (um_J u1 v1) ++ lw_w2 qo cL fo1) H1 → va_D (fun x => s.heap.size ≤ x) (um_ws ad cA um_L (um_J u1 v1) ++ lw_w2 qo cL fo1) → va_S (fun x => s.heap.size ≤ x) s.heap H1 locs1 → W p l e room_1 s m #[Value.ref b] below meth c H1 locs1 (79 + 2 * j + 2) (75420 + 16 * j + 16) (lw_Z below #[Value.ref b] s) (F0 m 614 ls1 []) := by
        intro ls1 u1 v1 H1 locs1 fo1 hl1 hG1 hP1 hD1 hS1
        refine lv_iinc (k := 4) (v := nI (6 * (j + 1))) (lv' := [(4, .int (nI (6 * (j + 1)))), (0, .ref b), (1, .ref (ad 0)), (2, .ref (ad 38)), (3, .ref qo)]) hx hb d_law_614 hl1 rfl ?_ (by decide) rfl (fun ls2 hl2 => ?_)
        · exact nI_add (6 * j) 6
        · refine lv_goto (tgt := 23) hx hb d_law_617 rfl ?_
          have hl3 : lv_has ls2 7 [(0, .ref b), (1, .ref (ad 0)), (2, .ref (ad 38)), (3, .ref qo), (4, .int (nI (6 * (j + 1))))] := lv_sub hl2 [1, 2, 3, 4, 0] rfl
          have h := ih (j + 1) ls2 u1 v1 H1 locs1 fo1 (by omega) (by omega) hl3 (fun z => by omega) hG1 hP1 hD1 hS1
          rw [show 79 + 2 * j + 2 = 79 + 2 * (j + 1) by omega, show 75420 + 16 * j + 16 = 75420 + 16 * (j + 1) by omega]
          exact h
      have same : ∀ (u1 v1 : um_S) (H1 : Heap) (locs1 : List Loc), um_G u1 v1 → va_P D um_cl (um_ws ad cA um_L (um_J u1 v1) ++ lw_w2 qo cL fo) H1 → va_D (fun x => s.heap.size ≤ x) (um_ws ad cA um_L (um_J u1 v1) ++ lw_w2 qo cL fo) → va_S (fun x => s.heap.size ≤ x) s.heap H1 locs1 → W p l e room_1 s m #[Value.ref b] below meth c H1 locs1 (79 + 2 * j) (75420 + 16 * j) (lw_Z below #[Value.ref b] s) (F0 m 614 ls []) :=
        fun u1 v1 H1 locs1 hG1 hP1 hD1 hS1 => W.widen (k := 79 + 2 * j + 2) (n := 75420 + 16 * j + 16) (by omega) (by omega) (next ls u1 v1 H1 locs1 fo hl hG1 hP1 hD1 hS1)
      have hc1 : 79 + 2 * j ≤ 83 := by omega
      have hc2 : 75420 + 16 * j ≤ 75452 := by omega
      refine lv_aload_n hx hb d_law_33 rfl (lv_at hl 0 rfl) ?_
      refine lv_iload hx hb d_law_34 (lv_at hl 4 rfl) ?_
      refine va_sld hx hb hX hbl (fun z => absurd hbl (Nat.not_lt.mpr z)) hS (vp_in_nI (by omega) (by omega)) d_law_36 ?_
      refine lv_bipush (v := 15) hx hb d_law_37 (by decide) ?_
      refine lv_iand hx hb d_law_39 ?_
      obtain ⟨k, hk, hk2⟩ := pk_andE (xs (nI (6 * j)).toNatClampNeg) (m := 15) 4 (by decide)
      rw [hk2]
      rcases (show k = 0 ∨ k = 1 ∨ k = 2 ∨ k = 3 ∨ k = 4 ∨ k = 5 ∨ k = 6 ∨ k = 7 ∨ k = 8 ∨ k = 9 ∨ k = 10 ∨ k = 11 ∨ k = 12 ∨ k = 13 ∨ k = 14 ∨ k = 15 by omega) with rfl | rfl | rfl | rfl | rfl | rfl | rfl | rfl | rfl | rfl | rfl | rfl | rfl | rfl | rfl | rfl
      · refine lv_tableIn (tgt := 104) (off := 64) hx hb d_law_40 (by decide) (by decide) (by decide) rfl ?_
        exact lw_case_0 hx hb hml hown hts hK hst hX hbl hi hL hl hc1 hc2 hG hP hD hS same
      · refine lv_tableIn (tgt := 177) (off := 137) hx hb d_law_40 (by decide) (by decide) (by decide) rfl ?_
        exact lw_case_1 hx hb hml hown hts hK hst hX hbl hi hL hl hc1 hc2 hG hP hD hS same
      · refine lv_tableIn (tgt := 250) (off := 210) hx hb d_law_40 (by decide) (by decide) (by decide) rfl ?_
        exact lw_case_2 hx hb hml hown hts hK hst hX hbl hi hL hl hc1 hc2 hG hP hD hS same
      · refine lv_tableIn (tgt := 287) (off := 247) hx hb d_law_40 (by decide) (by decide) (by decide) rfl ?_
        exact lw_case_3 hx hb hml hown hts hK hst hX hbl hi hL hl hc1 hc2 hG hP hD hS (hlay j u v hi hz hG) same
      · refine lv_tableIn (tgt := 328) (off := 288) hx hb d_law_40 (by decide) (by decide) (by decide) rfl ?_
        exact lw_case_4 hx hb hml hown hts hK hst hX hbl hi hL hl hc1 hc2 hG hP hD hS same
      · refine lv_tableIn (tgt := 353) (off := 313) hx hb d_law_40 (by decide) (by decide) (by decide) rfl ?_
        exact h5 (6 * j) (79 + 2 * j) (75420 + 16 * j) ls u v H locs fo hi (by omega) (by omega) hl hG hP hD hS next
      · refine lv_tableIn (tgt := 421) (off := 381) hx hb d_law_40 (by decide) (by decide) (by decide) rfl ?_
        exact lw_case_6 hx hb hml hown hts hK hst hX hbl hi hL hl hc1 hc2 hG hP hD hS same
      · refine lv_tableIn (tgt := 446) (off := 406) hx hb d_law_40 (by decide) (by decide) (by decide) rfl ?_
        exact h7 (6 * j) (79 + 2 * j) (75420 + 16 * j) ls u v H locs fo hi (by omega) (by omega) hl hG hP hD hS next
      · refine lv_tableIn (tgt := 514) (off := 474) hx hb d_law_40 (by decide) (by decide) (by decide) rfl ?_
        exact lw_case_8 hx hb hml hown hts hK hst hX hbl hi hL hl hc1 hc2 hG hP hD hS same
      · refine lv_tableIn (tgt := 539) (off := 499) hx hb d_law_40 (by decide) (by decide) (by decide) rfl ?_
        exact lw_case_9 hx hb hml hown hts hK hst hX hbl hi hL hl hc1 hc2 hG hP hD hS same
      · refine lv_tableIn (tgt := 564) (off := 524) hx hb d_law_40 (by decide) (by decide) (by decide) rfl ?_
        exact lw_case_10 hx hb hml hown hts hK hst hX hbl hi hL hl hc1 hc2 hG hP hD hS same
      · refine lv_tableIn (tgt := 589) (off := 549) hx hb d_law_40 (by decide) (by decide) (by decide) rfl ?_
        exact lw_case_11 hx hb hml hown hts hK hst hX hbl hi hL hl hc1 hc2 hG hP hD hS same
      · refine lv_tableOut (tgt := 614) hx hb d_law_40 (Or.inr (by decide)) rfl ?_
        exact same u v H locs hG hP hD hS
      · refine lv_tableOut (tgt := 614) hx hb d_law_40 (Or.inr (by decide)) rfl ?_
        exact same u v H locs hG hP hD hS
      · refine lv_tableOut (tgt := 614) hx hb d_law_40 (Or.inr (by decide)) rfl ?_
        exact same u v H locs hG hP hD hS
      · refine lv_tableOut (tgt := 614) hx hb d_law_40 (Or.inr (by decide)) rfl ?_
        exact same u v H locs hG hP hD hS
end LawLoop
