/-! the law's start: what is known of classes, statics, nest mates -/
theorem lw_u {ci N n : Nat} {C : String} {T : u_T} (h : um_Cl um_cl um_AW ci C T N) : ∀ w ∈ u_ws C T N, w ∈ lw_tbl := fun w hw => lw_sub w (h.2.1 w hw)
theorem lw_arr {args : Array Value} {s : State} (h : (Cond.arrayClass .int).before args s = true) : ∃ (cA : ClassId) (kA : Class) (comp : ClassId), s.vm.findClass ("[" ++ FieldType.int.toString) = some cA ∧ s.vm.classes[cA]? = some kA ∧ kA.kind = .array comp .int := by
  obtain ⟨cA, kA, comp, h1, h2, h3⟩ := Cond.arrayClass_spec h
  exact ⟨cA, kA, comp, h1, h2, h3⟩
theorem lw_known {args : Array Value} {s : State} (hts : ∀ w ∈ lw_tbl, w.before args s = true) : ∃ (D : va_G) (cA : ClassId), va_K D um_cl [(cA, .int)] s := by
  have hok : ∀ w ∈ um_AW, w.before args s = true := fun w hw => hts w (lw_sub w hw)
  obtain ⟨cUM, iUM, kUM⟩ := u_known hts (lw_u (n := 0) cl_UM) (hok _ wt_UM)
  obtain ⟨cTr, iTr, kTr⟩ := u_known hts (lw_u (n := 0) cl_Tr) (hok _ wt_Tr)
  obtain ⟨cCo, iCo, kCo⟩ := u_known hts (lw_u (n := 0) cl_Co) (hok _ wt_Co)
  obtain ⟨cLa, iLa, kLa⟩ := u_known hts (lw_u (n := 0) cl_La) (hok _ wt_La)
  obtain ⟨cMa, iMa, kMa⟩ := u_known hts (lw_u (n := 0) cl_Ma) (hok _ wt_Ma)
  obtain ⟨cSc, iSc, kSc⟩ := u_known hts (lw_u (n := 0) cl_Sc) (hok _ wt_Sc)
  obtain ⟨cWo, iWo, kWo⟩ := u_known hts (lw_u (n := 0) cl_Wo) (hok _ wt_Wo)
  obtain ⟨cHa, iHa, kHa⟩ := u_known hts (lw_u (n := 0) cl_Ha) (hok _ wt_Ha)
  obtain ⟨cMo, iMo, kMo⟩ := u_known hts (lw_u (n := 0) cl_Mo) (hok _ wt_Mo)
  obtain ⟨cA, kA, comp, h1, h2, h3⟩ := lw_arr (hok _ wo_arr)
  refine ⟨(fun c => ([cUM, cTr, cCo, cLa, cMa, cSc, cWo, cHa, cMo] : List ClassId).getD c 0, fun c => ([iUM, iTr, iCo, iLa, iMa, iSc, iWo, iHa, iMo] : List (Nat → Nat)).getD c (fun _ => 0)), cA, fun c q hq => ?_, fun k q hq => ?_⟩
  · have hc : c < 9 := (List.getElem?_eq_some_iff.mp hq).1
    rcases (show c = 0 ∨ c = 1 ∨ c = 2 ∨ c = 3 ∨ c = 4 ∨ c = 5 ∨ c = 6 ∨ c = 7 ∨ c = 8 by omega) with rfl | rfl | rfl | rfl | rfl | rfl | rfl | rfl | rfl
    · cases hq
      exact kUM
    · cases hq
      exact kTr
    · cases hq
      exact kCo
    · cases hq
      exact kLa
    · cases hq
      exact kMa
    · cases hq
      exact kSc
    · cases hq
      exact kWo
    · cases hq
      exact kHa
    · cases hq
      exact kMo
  · have hk : k < 1 := (List.getElem?_eq_some_iff.mp hq).1
    have hk : k = 0 := by omega
    subst hk
    cases hq
    exact ⟨fun n z => ⟨fun k h => (by cases h), kA, h2, comp, h3⟩, h1⟩
theorem lw_nw {args : Array Value} {s : State} (hts : ∀ w ∈ lw_tbl, w.before args s = true) : ca_nw s := by
  intro q hq
  have hq : q ∈ ca_NW := hq
  simp only [ca_NW, um_NW, List.cons_append, List.nil_append, List.mem_cons, List.not_mem_nil, or_false] at hq
  rcases hq with rfl | rfl | rfl | rfl | rfl | rfl
  · exact va_Nw.of rfl (hts _ (List.mem_of_getElem? (i := 379) (by decide +kernel)))
  · exact va_Nw.of rfl (hts _ (List.mem_of_getElem? (i := 382) (by decide +kernel)))
  · exact va_Nw.of rfl (hts _ (List.mem_of_getElem? (i := 123) (by decide +kernel)))
  · exact va_Nw.of rfl (hts _ (List.mem_of_getElem? (i := 184) (by decide +kernel)))
  · exact va_Nw.of rfl (hts _ (List.mem_of_getElem? (i := 228) (by decide +kernel)))
  · exact va_Nw.of rfl (hts _ (List.mem_of_getElem? (i := 255) (by decide +kernel)))
theorem lw_stat {args : Array Value} {s : State} (hts : ∀ w ∈ lw_tbl, w.before args s = true) (hgv : (Jvm.Cond.and given_1 narrow_1).before args s = true) : ∃ t : Nat, va_Z "UnwindMill$Tree" "SORTS" "[I" (.ref t) (fun x => s.heap.size ≤ x) s s.heap ∧ va_T .int t 105 (fun j => .int (um_SORTS j)) (fun x => s.heap.size ≤ x) s s.heap := by
  have hs := flat_of_before _ hgv
  have harr : (Cond.arrayOf (.static "UnwindMill$Tree" "SORTS" "[I") .int).before args s = true := hs _ (by decide +kernel)
  have hlen : (Cond.eq (.length (.static "UnwindMill$Tree" "SORTS" "[I")) (.int 105)).before args s = true := hs _ (by decide +kernel)
  have hel : ∀ j, j < 105 → (Cond.eq (.elem (.static "UnwindMill$Tree" "SORTS" "[I") (.int (Int32.ofNat j))) (.int (um_SORTS j))).before args s = true := by
    have hm : ∀ j, j < 105 → Cond.eq (.elem (.static "UnwindMill$Tree" "SORTS" "[I") (.int (Int32.ofNat j))) (.int (um_SORTS j)) ∈ flatC (Jvm.Cond.and given_1 narrow_1) := by decide +kernel
    exact fun j hj => hs _ (hm j hj)
  have hA : ∀ a : Nat, a < s.heap.size → ¬ s.heap.size ≤ a := fun a h => Nat.not_le.mpr h
  obtain ⟨t, ht, hT⟩ := va_Tof (f := fun j => .int (um_SORTS j)) (A := fun x => s.heap.size ≤ x) (by decide) harr (va_eqt hlen) (fun j hj => va_eqt (hel j hj)) hA
  refine ⟨t, va_Zof (hts _ (List.mem_of_getElem? (i := 370) (by decide +kernel))) (hts _ (lw_sub _ wii_Tr)) ht hA, hT⟩
