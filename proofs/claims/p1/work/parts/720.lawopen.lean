/-! the law: instruction and row -/
section LawOpen
variable {p : Program} {l : Launch} {e : Env} {s : State} {m : MethodId} {args : Array Value} {below : List Frame} {meth : Method} {c : Code} {H : Heap} {locs : List Loc} {cells slots : Nat} {Q : State → Prop} {R : Room} {cc : ByteArray} {D : va_G} {ad : Nat → Nat} {cA cL cI cE : ClassId} {tys : List (ClassId × FieldType)} {σ : um_S} {i w val : Int32} {k qo : Nat} {fo : Nat → Int64} {A : Nat → Prop}
theorem th_known (hts : ∀ w ∈ lw_tbl, w.before args s = true) (hgv : (Jvm.Cond.and given_1 narrow_1).before args s = true) (hK : va_K D um_cl ((cA, .int) :: tys) s) : ∃ cI cE, th_ctx D cA tys cI cE args s := by
  have hok : ∀ w ∈ um_AW, w.before args s = true := fun w hw => hts w (lw_sub w hw)
  have hs := flat_of_before _ hgv
  have r1 : th_r1.before args s = true := hs _ (by decide +kernel)
  have r2 : th_r2.before args s = true := hs _ (by decide +kernel)
  have hat : ∀ w, (w ∈ lw_tbl ∨ w = th_r1 ∨ w = th_r2) → w.before args s = true := by
    intro w h
    rcases h with h | rfl | rfl
    · exact hts w h
    · exact r1
    · exact r2
  have hn : (Cond.not (.castable X_E X_I)).before args s = true := hs _ (by decide +kernel)
  obtain ⟨cI, cI', h1, h2, aI⟩ := Cond.castable_spec (hts _ wca_X_I)
  cases h1.symm.trans h2
  obtain ⟨cE, cE', g1, g2, aE⟩ := Cond.castable_spec (hts _ wca_X_E)
  cases g1.symm.trans g2
  have aN : s.vm.assignable cE cI = false := by
    have hv := Cond.holds_not_iff.mp hn
    simp only [Cond.value, g1, h1] at hv
    exact Option.some.inj hv
  have str : ∀ k tx, (Cond.stringRef R_UM k tx).before args s = true → ∃ q, vk_R R_UM k tx q s := by
    intro k tx h
    have hu : s.vm.findClass R_UM = some _ := (hK.1 0 (R_UM, F_UM, 4) rfl).2.1
    obtain ⟨-, -, -, a, -, -, -, -, -, he⟩ := Cond.stringRef_spec hu h
    exact ⟨a, vk_R.of h he⟩
  exact ⟨cI, cE, hok, hK, fun w hw => hat w (th_at_X_I w hw), fun w hw => hat w (th_at_X_E w hw), h1, g1, aI, aE, aN, str _ _ (hts _ wsr_74), str _ _ (hts _ wsr_81), str _ _ (hts _ wsr_98), str _ _ (hts _ wsr_100)⟩
set_option maxHeartbeats 4000000 in
theorem lw_open_5 {b L : Nat} {xs : Nat → Int32} (hL : L ≤ 6) (C0 : lw_At p s m meth c b L xs) (hfl : l.flags = pinnedFlags ++ [noTraceFlag]) (hK : va_K D um_cl [(cA, .int), (cL, .long)] s) (hst : um_st um_SX ad (fun x => s.heap.size ≤ x) s s.heap) : lw_open 353 p l e s m #[Value.ref b] below meth c (lw_Z below #[Value.ref b] s) D ad cA cL b L qo := by
  obtain ⟨hx, hb, hr, hml, hown, hts, hX, hbl, hlocks, hgv⟩ := C0
  have hown : s.vm.findClass R_Lw = some m.cls := hown
  obtain ⟨cI, cE, hC⟩ := th_known hts hgv hK
  intro i cells slots ls u v H locs fo hi hc1 hc2 hl hG hP hD hS cont
  obtain ⟨k, val, hk1, hk2, hk0, hkk, hwp⟩ := t_instruction hG (xs (i + 1)) (xs (i + 2))
  rw [← um_J_c (c := u) (m := v) (q := 2) (by decide)] at hk1 hk2 hk0
  rw [← um_J_c (c := u) (m := v) (q := 11) (by decide), ← um_J_c (c := u) (m := v) (q := 12) (by decide)] at hk0
  refine lv_aload_n hx hb d_law_353 rfl (lv_at hl 1 rfl) ?_
  refine lw_arg (k := 1) hx hb hX hbl (by omega) hL hl hS d_law_354 d_law_355 d_law_357 d_law_358 d_law_359 (by decide) ?_
  refine lw_arg (k := 2) hx hb hX hbl (by omega) hL hl hS d_law_360 d_law_361 d_law_363 d_law_364 d_law_365 (by decide) ?_
  refine lv_aload_n hx hb d_law_366 rfl (lv_at hl 3 rfl) ?_
  refine th_callS (argsL := [.ref (ad 0), .int (xs (i + 1)), .int (xs (i + 2)), .ref qo]) (rest := []) (y := y_Lw_instruction) (R' := th_R1) (free := fun x => s.heap.size ≤ x) (Qo := th_QL k val D ad cA cL qo (um_J u v) (fun x => s.heap.size ≤ x) H) (k := 1) (n := 6) hx hb hown (hts _ wl_Lw_48) (hts _ wst_Lw_instruction) (hts _ wi_Lw) (hts _ wcw_Lw_instruction) ⟨by decide, by decide⟩ (by decide) (hl.1.trans hml.symm) (fun sig h => by
      have h2 : parseMethodDescriptor "(LUnwindMill;II[J)I" = some ⟨[.object "UnwindMill", .int, .int, .array .long], some .int⟩ := by decide +kernel
      have h3 : parseMethodDescriptor "(LUnwindMill;II[J)I" = some sig := h
      cases h2.symm.trans h3
      rfl) d_law_367 (by decide) (by decide) (by show cells + 1 ≤ 83; omega) (by show slots + 6 ≤ 75452; omega) ?_ ?_ ?_
  · intro s' mk methk ck below' e1 hW hn hr' hlk' hb' hml' htab'
    have hC' : th_ctx D cA [(cL, .long)] cI cE ([.ref (ad 0), .int (xs (i + 1)), .int (xs (i + 2)), .ref qo] : List Value).toArray s' := hC.move hW (fun q hq => by rw [e1]; exact hS.2.1 q hq (Nat.not_le.mpr hq))
    have hown' : s'.vm.findClass R_Lw = some mk.cls := by rw [hW.alike.findClass]; exact findClass_of_methodNamed hn
    have h := th_Lw_instruction (e := e) (A := fun x => s.heap.size ≤ x) (σ := um_J u v) (ad := ad) (below := below') (fo := fo) hx hb' hml' hr' hlk' htab' hfl hown' hC' (by rw [e1]; exact hP) hD (fun q hq => Nat.le_trans hS.1 (by rw [← e1]; exact hq)) hk1 hk2 hk0
    rw [e1] at h
    exact h
  · intro v1 H1 L1 hq hfree
    obtain ⟨hv, fo1, hf1, hP1, hD1, hz1, hkp⟩ := hq
    cases hv
    have hS1 : va_S (fun x => s.heap.size ≤ x) s.heap H1 (locs ++ L1) := ⟨Nat.le_trans hS.1 hz1, fun x h1 h2 => (hkp x (Nat.lt_of_lt_of_le h1 hS.1) h2).trans (hS.2.1 x h1 h2), fun x hx => (List.mem_append.mp hx).elim (hS.2.2 x) (hfree x)⟩
    refine lv_istore (i := 5) (lv' := [(5, .int (nI k)), (0, .ref b), (1, .ref (ad 0)), (2, .ref (ad 38)), (3, .ref qo), (4, .int (nI i))]) hx hb d_law_370 hl (by decide) rfl (fun ls1 hl1 => ?_)
    have hl2 : lv_has ls1 7 [(0, .ref b), (1, .ref (ad 0)), (2, .ref (ad 38)), (3, .ref qo), (4, .int (nI i))] := lv_sub hl1 [1, 2, 3, 4, 5] rfl
    refine lv_aload_n hx hb d_law_372 rfl (lv_at hl2 2 rfl) ?_
    refine lw_arg (k := 1) hx hb hX hbl (by omega) hL hl2 hS1 d_law_373 d_law_374 d_law_376 d_law_377 d_law_378 (by decide) ?_
    refine lw_arg (k := 2) hx hb hX hbl (by omega) hL hl2 hS1 d_law_379 d_law_380 d_law_382 d_law_383 d_law_384 (by decide) ?_
    refine lw_call (q := 38) (As := [.int (xs (i + 1)), .int (xs (i + 2))]) (rest := []) (σ := um_J u v) hx hb hml hown hts hK hst hP1 hD1 hS1 g_Lw_53 rfl rfl (Nat.le_of_ble_eq_true rfl) (Nat.le_of_ble_eq_true rfl) (Nat.le_of_ble_eq_true rfl) hl2.1 (by omega) (by omega) d_law_385 (c_Mo_instruction (hwp u (fun r z => (k = 0 → r = val) ∧ z = um_J u (um_up v 38 0 (nI k))) (fun x hx => ⟨hx, rfl⟩))) (fun r uu H2 locs2 hq hP2 hD2 hS2 => ?_)
    obtain ⟨y, rfl, hy, rfl⟩ := hq
    refine lv_istore (i := 6) (lv' := [(6, .int y), (5, .int (nI k)), (0, .ref b), (1, .ref (ad 0)), (2, .ref (ad 38)), (3, .ref qo), (4, .int (nI i))]) hx hb d_law_388 hl1 (by decide) rfl (fun ls3 hl3 => ?_)
    have hl4 : lv_has ls3 7 [(0, .ref b), (1, .ref (ad 0)), (2, .ref (ad 38)), (3, .ref qo), (4, .int (nI i))] := lv_sub hl3 [2, 3, 4, 5, 6] rfl
    refine lv_aload_n hx hb d_law_390 rfl (lv_at hl4 2 rfl) ?_
    refine lw_call (q := 38) (As := []) (rest := []) (σ := um_J u (um_up v 38 0 (nI k))) hx hb hml hown hts hK hst hP2 hD2 hS2 g_Lw_54 rfl rfl (Nat.le_of_ble_eq_true rfl) (Nat.le_of_ble_eq_true rfl) (Nat.le_of_ble_eq_true rfl) hl4.1 (by omega) (by omega) d_law_391 (c_Mo_thrown (Q := fun r z => r = nI k ∧ z = um_J u (um_up v 38 0 (nI k))) ⟨by rw [um_J_m (q := 38) (by decide), um_up_self], rfl⟩) (fun r uu H3 locs3 hq hP3 hD3 hS3 => ?_)
    obtain ⟨y2, rfl, rfl, rfl⟩ := hq
    have stop : W p l e room_1 s m #[Value.ref b] below meth c H3 locs3 (cells + 1) (slots + 6) (lw_Z below #[Value.ref b] s) (F0 m 418 ls3 []) :=
      lv_goto (tgt := 614) hx hb d_law_418 rfl (W.widen (k := cells + 2) (n := slots + 16) (by omega) (by omega) (cont ls3 u _ H3 locs3 fo1 hl4 (um_G_thrown hG) hP3 hD3 hS3))
    refine lv_iload hx hb d_law_394 (lv_at hl3 1 rfl) ?_
    refine lv_icmp_eq (tgt := 401) hx hb d_law_396 rfl (fun _ => ?_) (fun z => absurd rfl z)
    refine lv_iload hx hb d_law_401 (lv_at hl3 1 rfl) ?_
    refine lv_if_ne (tgt := 418) hx hb d_law_403 rfl (fun _ => stop) (fun z => ?_)
    have kz : k = 0 := by
      rcases (show k = 0 ∨ k = 1 ∨ k = 2 by omega) with h | h | h
      · exact h
      · rw [h] at z
        exact absurd z (by decide)
      · rw [h] at z
        exact absurd z (by decide)
    refine lv_aload_n hx hb d_law_406 rfl (lv_at hl4 3 rfl) ?_
    refine lv_iconst (v := 0) hx hb d_law_407 (by decide) ?_
    refine va_lald (i := 0) hx hb hK hP3 76 1 th_w2at rfl (vp_in_nI (n := 0) (by decide) (by decide)) d_law_408 ?_
    refine lv_iload hx hb d_law_409 (lv_at hl3 0 rfl) ?_
    refine lv_i2l (v := y.toInt64) hx hb d_law_411 rfl ?_
    refine W.lcmp hx hb d_law_412 ?_
    refine lv_if_eq (tgt := 418) hx hb d_law_413 rfl (fun _ => stop) (fun z => absurd ?_ z)
    rw [show fo1 (0 : Int32).toNatClampNeg = val.toInt64 from hf1 kz, hy kz]
    simp [lg_cmp]
  · intro x H1 h
    exact absurd h.1 (fun z => by cases z)
set_option maxHeartbeats 4000000 in
theorem lw_open_7 {b L : Nat} {xs : Nat → Int32} (hL : L ≤ 6) (C0 : lw_At p s m meth c b L xs) (hfl : l.flags = pinnedFlags ++ [noTraceFlag]) (hK : va_K D um_cl [(cA, .int), (cL, .long)] s) (hst : um_st um_SX ad (fun x => s.heap.size ≤ x) s s.heap) : lw_open 446 p l e s m #[Value.ref b] below meth c (lw_Z below #[Value.ref b] s) D ad cA cL b L qo := by
  obtain ⟨hx, hb, hr, hml, hown, hts, hX, hbl, hlocks, hgv⟩ := C0
  have hown : s.vm.findClass R_Lw = some m.cls := hown
  obtain ⟨cI, cE, hC⟩ := th_known hts hgv hK
  intro i cells slots ls u v H locs fo hi hc1 hc2 hl hG hP hD hS cont
  obtain ⟨k, val, hk1, hk2, hk0, hkk, hwp⟩ := t_row hG (xs (i + 1)) (xs (i + 2))
  rw [← um_J_c (c := u) (m := v) (q := 2) (by decide)] at hk1 hk2 hk0
  rw [← um_J_c (c := u) (m := v) (q := 15) (by decide)] at hk0
  refine lv_aload_n hx hb d_law_446 rfl (lv_at hl 1 rfl) ?_
  refine lw_arg (k := 1) hx hb hX hbl (by omega) hL hl hS d_law_447 d_law_448 d_law_450 d_law_451 d_law_452 (by decide) ?_
  refine lw_arg (k := 2) hx hb hX hbl (by omega) hL hl hS d_law_453 d_law_454 d_law_456 d_law_457 d_law_458 (by decide) ?_
  refine lv_aload_n hx hb d_law_459 rfl (lv_at hl 3 rfl) ?_
  refine th_callS (argsL := [.ref (ad 0), .int (xs (i + 1)), .int (xs (i + 2)), .ref qo]) (rest := []) (y := y_Lw_row) (R' := th_R1) (free := fun x => s.heap.size ≤ x) (Qo := th_QL k val D ad cA cL qo (um_J u v) (fun x => s.heap.size ≤ x) H) (k := 1) (n := 6) hx hb hown (hts _ wl_Lw_62) (hts _ wst_Lw_row) (hts _ wi_Lw) (hts _ wcw_Lw_row) ⟨by decide, by decide⟩ (by decide) (hl.1.trans hml.symm) (fun sig h => by
      have h2 : parseMethodDescriptor "(LUnwindMill;II[J)I" = some ⟨[.object "UnwindMill", .int, .int, .array .long], some .int⟩ := by decide +kernel
      have h3 : parseMethodDescriptor "(LUnwindMill;II[J)I" = some sig := h
      cases h2.symm.trans h3
      rfl) d_law_460 (by decide) (by decide) (by show cells + 1 ≤ 83; omega) (by show slots + 6 ≤ 75452; omega) ?_ ?_ ?_
  · intro s' mk methk ck below' e1 hW hn hr' hlk' hb' hml' htab'
    have hC' : th_ctx D cA [(cL, .long)] cI cE ([.ref (ad 0), .int (xs (i + 1)), .int (xs (i + 2)), .ref qo] : List Value).toArray s' := hC.move hW (fun q hq => by rw [e1]; exact hS.2.1 q hq (Nat.not_le.mpr hq))
    have hown' : s'.vm.findClass R_Lw = some mk.cls := by rw [hW.alike.findClass]; exact findClass_of_methodNamed hn
    have h := th_Lw_row (e := e) (A := fun x => s.heap.size ≤ x) (σ := um_J u v) (ad := ad) (below := below') (fo := fo) hx hb' hml' hr' hlk' htab' hfl hown' hC' (by rw [e1]; exact hP) hD (fun q hq => Nat.le_trans hS.1 (by rw [← e1]; exact hq)) hk1 hk2 hk0
    rw [e1] at h
    exact h
  · intro v1 H1 L1 hq hfree
    obtain ⟨hv, fo1, hf1, hP1, hD1, hz1, hkp⟩ := hq
    cases hv
    have hS1 : va_S (fun x => s.heap.size ≤ x) s.heap H1 (locs ++ L1) := ⟨Nat.le_trans hS.1 hz1, fun x h1 h2 => (hkp x (Nat.lt_of_lt_of_le h1 hS.1) h2).trans (hS.2.1 x h1 h2), fun x hx => (List.mem_append.mp hx).elim (hS.2.2 x) (hfree x)⟩
    refine lv_istore (i := 5) (lv' := [(5, .int (nI k)), (0, .ref b), (1, .ref (ad 0)), (2, .ref (ad 38)), (3, .ref qo), (4, .int (nI i))]) hx hb d_law_463 hl (by decide) rfl (fun ls1 hl1 => ?_)
    have hl2 : lv_has ls1 7 [(0, .ref b), (1, .ref (ad 0)), (2, .ref (ad 38)), (3, .ref qo), (4, .int (nI i))] := lv_sub hl1 [1, 2, 3, 4, 5] rfl
    refine lv_aload_n hx hb d_law_465 rfl (lv_at hl2 2 rfl) ?_
    refine lw_arg (k := 1) hx hb hX hbl (by omega) hL hl2 hS1 d_law_466 d_law_467 d_law_469 d_law_470 d_law_471 (by decide) ?_
    refine lw_arg (k := 2) hx hb hX hbl (by omega) hL hl2 hS1 d_law_472 d_law_473 d_law_475 d_law_476 d_law_477 (by decide) ?_
    refine lw_call (q := 38) (As := [.int (xs (i + 1)), .int (xs (i + 2))]) (rest := []) (σ := um_J u v) hx hb hml hown hts hK hst hP1 hD1 hS1 g_Lw_64 rfl rfl (Nat.le_of_ble_eq_true rfl) (Nat.le_of_ble_eq_true rfl) (Nat.le_of_ble_eq_true rfl) hl2.1 (by omega) (by omega) d_law_478 (c_Mo_row_II (hwp u (fun r z => (k = 0 → r = val) ∧ z = um_J u (um_up v 38 0 (nI k))) (fun x hx => ⟨hx, rfl⟩))) (fun r uu H2 locs2 hq hP2 hD2 hS2 => ?_)
    obtain ⟨y, rfl, hy, rfl⟩ := hq
    refine lv_istore (i := 6) (lv' := [(6, .int y), (5, .int (nI k)), (0, .ref b), (1, .ref (ad 0)), (2, .ref (ad 38)), (3, .ref qo), (4, .int (nI i))]) hx hb d_law_481 hl1 (by decide) rfl (fun ls3 hl3 => ?_)
    have hl4 : lv_has ls3 7 [(0, .ref b), (1, .ref (ad 0)), (2, .ref (ad 38)), (3, .ref qo), (4, .int (nI i))] := lv_sub hl3 [2, 3, 4, 5, 6] rfl
    refine lv_aload_n hx hb d_law_483 rfl (lv_at hl4 2 rfl) ?_
    refine lw_call (q := 38) (As := []) (rest := []) (σ := um_J u (um_up v 38 0 (nI k))) hx hb hml hown hts hK hst hP2 hD2 hS2 g_Lw_54 rfl rfl (Nat.le_of_ble_eq_true rfl) (Nat.le_of_ble_eq_true rfl) (Nat.le_of_ble_eq_true rfl) hl4.1 (by omega) (by omega) d_law_484 (c_Mo_thrown (Q := fun r z => r = nI k ∧ z = um_J u (um_up v 38 0 (nI k))) ⟨by rw [um_J_m (q := 38) (by decide), um_up_self], rfl⟩) (fun r uu H3 locs3 hq hP3 hD3 hS3 => ?_)
    obtain ⟨y2, rfl, rfl, rfl⟩ := hq
    have stop : W p l e room_1 s m #[Value.ref b] below meth c H3 locs3 (cells + 1) (slots + 6) (lw_Z below #[Value.ref b] s) (F0 m 511 ls3 []) :=
      lv_goto (tgt := 614) hx hb d_law_511 rfl (W.widen (k := cells + 2) (n := slots + 16) (by omega) (by omega) (cont ls3 u _ H3 locs3 fo1 hl4 (um_G_thrown hG) hP3 hD3 hS3))
    refine lv_iload hx hb d_law_487 (lv_at hl3 1 rfl) ?_
    refine lv_icmp_eq (tgt := 494) hx hb d_law_489 rfl (fun _ => ?_) (fun z => absurd rfl z)
    refine lv_iload hx hb d_law_494 (lv_at hl3 1 rfl) ?_
    refine lv_if_ne (tgt := 511) hx hb d_law_496 rfl (fun _ => stop) (fun z => ?_)
    have kz : k = 0 := by
      rcases (show k = 0 ∨ k = 1 ∨ k = 2 by omega) with h | h | h
      · exact h
      · rw [h] at z
        exact absurd z (by decide)
      · rw [h] at z
        exact absurd z (by decide)
    refine lv_aload_n hx hb d_law_499 rfl (lv_at hl4 3 rfl) ?_
    refine lv_iconst (v := 0) hx hb d_law_500 (by decide) ?_
    refine va_lald (i := 0) hx hb hK hP3 76 1 th_w2at rfl (vp_in_nI (n := 0) (by decide) (by decide)) d_law_501 ?_
    refine lv_iload hx hb d_law_502 (lv_at hl3 0 rfl) ?_
    refine lv_i2l (v := y.toInt64) hx hb d_law_504 rfl ?_
    refine W.lcmp hx hb d_law_505 ?_
    refine lv_if_eq (tgt := 511) hx hb d_law_506 rfl (fun _ => stop) (fun z => absurd ?_ z)
    rw [show fo1 (0 : Int32).toNatClampNeg = val.toInt64 from hf1 kz, hy kz]
    simp [lg_cmp]
  · intro x H1 h
    exact absurd h.1 (fun z => by cases z)
end LawOpen
