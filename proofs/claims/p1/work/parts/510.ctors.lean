/-! constructors: their contracts -/
theorem ca_in {ci N : Nat} {C : String} {T : u_T} {M : um_M} (h : um_Cl um_cl um_AW ci C T N) : ∀ w ∈ u_ws C T N, w ∈ um_wd um_AW M := fun w hw => List.mem_cons_of_mem _ (h.2.1 w hw)
def ca_NW : List (String × Nat × MethodName × String) := um_NW ++ [("UnwindMill", 18, ⟨"UnwindMill$Code", "<init>", "()V"⟩, "UnwindMill"), ("UnwindMill$Layer", 11, ⟨"UnwindMill$Scopes", "<init>", "()V"⟩, "UnwindMill"), ("UnwindMill$Layer", 20, ⟨"UnwindMill$Work", "<init>", "()V"⟩, "UnwindMill"), ("UnwindMill$Layer", 27, ⟨"UnwindMill$Handlers", "<init>", "()V"⟩, "UnwindMill")]
def ca_nw (U : State) : Prop := ∀ q ∈ ca_NW, va_Nw (.methodLinkNest q.1 q.2.1 q.2.2.1 q.2.2.2) U
theorem ca_nw.warm {s U : State} (hW : s.WarmedH U.vm) (h : ca_nw s) : ca_nw U := fun q hq => va_Nw.warmM hW (h q hq)
def ca_Pc (D : va_G) (cA : ClassId) (sz : Nat) (av : List Value) (ws : va_W) : Array Value → State → Prop := va_Pc av (fun U => U.heap.size = sz ∧ va_P D um_cl ws U.heap ∧ va_K D um_cl [(cA, .int)] U ∧ va_D (fun _ => True) ws ∧ ca_nw U)
theorem ca_blind {D : va_G} {cA : ClassId} {sz : Nat} {av : List Value} {ws : va_W} : FrameBlind (ca_Pc D cA sz av ws) := by
  intro a U g mk hq
  obtain ⟨q0, q1, qP, qK, qD, qN⟩ := hq
  exact ⟨q0, q1, qP, va_K.moved (u := U) (U := U.calling g mk a) (Vm.Alike.refl U.vm) qK, qD, fun q hq => va_Nw.same (u := U) (U := U.calling g mk a) rfl rfl (qN q hq)⟩
section CaRows
variable {p : Program} {l : Launch} {e : Env} {R : Room} {s : State} {m : MethodId} {args : Array Value} {below : List Frame} {meth : Method} {c : Code} {H H0 : Heap} {locs : List Loc} {cells slots : Nat} {Q : State → Prop} {cc : ByteArray} {pc : Nat} {ls : Array Slot} {rest : List Value} {D : va_G} {A : Nat → Prop} {ws : va_W} {cA : ClassId}
theorem ca_newa {n : Int32} {N : Nat} (hexec : p.tables.exec = Jvm.exec) (hb : c.code = cc) (harr : (Cond.arrayClass .int).before args s = true) (hK : va_K D um_cl [(cA, .int)] s) (hP : va_P D um_cl ws H) (hD : va_D A ws) (hS : va_S A H0 H locs) (hA : ∀ q, H0.size ≤ q → A q)
    (hn : ¬ n < 0) (hN : n.toNatClampNeg = N) (hbytes : N * 4 ≤ 536870912) (hcells : cells + 1 ≤ R.cells) (hslots : slots + N ≤ R.slots) (hdg : decode cc pc = .ok (.newarray .int, 2))
    (kk : ∀ (q : Nat) (H1 : Heap), va_P D um_cl (ws ++ [(q, .inl (cA, N, .inl (fun _ => 0)))]) H1 → va_D A (ws ++ [(q, .inl (cA, N, .inl (fun _ => 0)))]) → va_S A H0 H1 locs → W p l e R s m args below meth c H1 locs (cells + 1) (slots + N) Q (F0 m (pc + 2) ls (.ref q :: rest))) : W p l e R s m args below meth c H locs cells slots Q (F0 m pc ls (.int n :: rest)) := by
  refine va_newa (atype := .int) (ty := .int) (a0 := (N, .inl (fun _ => 0))) hexec hb harr rfl hK hP hD hS hA (fun _ => rfl) hn hN hbytes hcells hslots hdg (fun q cA2 H1 hK2 hP2 hD2 hS2 => ?_)
  have h1 := (hK2.2 0 _ rfl).2
  have h2 := (hK2.2 1 _ rfl).2
  have h3 : cA = cA2 := Option.some.inj (h1.symm.trans h2)
  subst h3
  exact kk q H1 hP2 hD2 hS2
/-- Arrays.fill of six places with -1 -/
theorem ca_fill {q idx nL : Nat} {own : String} {M : um_M} (hexec : p.tables.exec = Jvm.exec) (hb : c.code = M.2.1) (hml : c.maxLocals = nL) (hown : s.vm.findClass own = some m.cls) (hts : ∀ w ∈ um_wd um_AW M, w.before args s = true) (hK : va_K D um_cl [(cA, .int)] s) (hNw : ca_nw s) (hsz : ls.size = nL) (hlk : Cond.methodLink own idx M_Ar_fill_AII.1 ∈ um_AW)
    (hf : 0 + 1 ≤ R.frames) (hlo : 8 + (4 + 11) + 0 ≤ R.locals) (hS : va_S A s.heap H locs) (hFc : ∀ x, va_A [(q, .inl (cA, 6, .inl (fun _ => 0)))] H.size x → A x) (hPc : va_P D um_cl [(q, .inl (cA, 6, .inl (fun _ => 0)))] H) (hDc : va_D A [(q, .inl (cA, 6, .inl (fun _ => 0)))])
    (hdg : decode M.2.1 pc = .ok (.invokestatic idx, 3)) (hcs : cells + 0 ≤ R.cells ∧ slots + 0 ≤ R.slots)
    (kk : ∀ (H1 : Heap) (locs1 : List Loc), va_P D um_cl [(q, .inl (cA, 6, .inl (um_fill (fun _ _ => 0) 0 6 (-1) 0)))] H1 → va_D (va_A [(q, .inl (cA, 6, .inl (fun _ => 0)))] H.size) [(q, .inl (cA, 6, .inl (um_fill (fun _ _ => 0) 0 6 (-1) 0)))] → (∀ x : Nat, x < H.size → ¬ va_A [(q, .inl (cA, 6, .inl (fun _ => 0)))] H.size x → H1[x]? = H[x]?) → va_S A s.heap H1 locs1 →
      W p l e R s m args below meth c H1 locs1 cells slots Q (F0 m (pc + 3) ls [])) : W p l e R s m args below meth c H locs cells slots Q (F0 m pc ls [.int (-1), .ref q]) := by
  have hok : ∀ w ∈ um_AW, w.before args s = true := fun w hw => hts w (List.mem_cons_of_mem _ hw)
  have hM := c_Ar_fill_AII_0 (a1 := -1) (σ := fun _ _ => 0) (Q := fun u => u = um_fill (fun _ _ => 0) 0 6 (-1)) p_fill0 l D (fun _ => q) cA H.size
  have hrun : va_Run p l e R s m args below meth c H locs cells slots 0 0 (F0 m pc ls [.int (-1), .ref q]) [] (um_Q (um_Qv (fun u => u = um_fill (fun _ _ => 0) 0 6 (-1))) (um_B um_cl D (fun _ => q) cA um_LF (va_A [(q, .inl (cA, 6, .inl (fun _ => 0)))] H.size)) (va_A [(q, .inl (cA, 6, .inl (fun _ => 0)))] H.size) ([.ref q, .int (-1)] : List Value).toArray) (va_A [(q, .inl (cA, 6, .inl (fun _ => 0)))] H.size) :=
    va_runS (As := [.ref q, .int (-1)]) ⟨hexec, hb, hml, hown, hts⟩ hM ⟨callB_of 2 hts (um_goodIn um_gd wc_Ar_fill_AII) rfl rfl rfl (hok _ wi_Ar) (hok _ hlk) ⟨by decide, by decide, by decide +kernel⟩ ⟨hf, hlo⟩, hok _ ws_Ar_fill_AII⟩
      ⟨um_blind (σ := fun _ _ => 0) (As := [.ref 0, .int (-1)]) (SX := []) (L := um_LF) (ad := fun _ => q), fun U hU hW => ⟨rfl, by rw [hU], by rw [hU]; exact hPc, va_K.moved hW.alike hK, hDc.weaken (fun _ _ _ _ => trivial), fun i C n N f hi => by simp at hi, fun x hx => ca_nw.warm hW hNw x (List.mem_append_left _ hx)⟩⟩ rfl rfl hsz rfl (lv_room (Nat.le_of_ble_eq_true rfl)) hdg hcs
  intro T hT X
  obtain ⟨v, st₀, t, T', L, h0, X', hL, e1, e2, ⟨⟨r, u, hv, ⟨hr, hu⟩, hB⟩, hz, hk⟩, st⟩ := hrun T hT X
  subst hr
  subst hu
  cases hv
  rw [h0] at hz hk
  have hS' : va_S A s.heap T'.heap (locs ++ L) := by
    refine ⟨Nat.le_trans hS.1 (by rw [e1]; exact hz), fun x h1 h2 => ?_, fun x hx => ?_⟩
    · have h3 : x < H.size := Nat.lt_of_lt_of_le h1 hS.1
      rw [e1, hk x h3 (fun z => h2 (hFc x z))]
      exact hS.2.1 x h1 h2
    · rcases List.mem_append.mp hx with h | h
      · exact hS.2.2 x h
      · exact hFc _ (hL x h)
  obtain ⟨t2, a1, b1⟩ := kk T'.heap (locs ++ L) (by rw [e1]; exact hB.1) hB.2.2 (fun x h1 h2 => by rw [e1]; exact hk x h1 h2) hS' T' rfl X'
  exact ⟨t2, st t2 a1, b1⟩
end CaRows
set_option maxHeartbeats 4000000 in
set_option maxRecDepth 100000 in
theorem k_Tr (l : Launch) (D : va_G) (cA : ClassId) (h0 sz : Nat) : Met l M_Tr_init.1 (um_wd um_AW M_Tr_init) { frames := 1, cells := 3, slots := 906, locals := 23 }
    (ca_Pc D cA sz [.ref h0] [(h0, .inr (1, [.null, .null, .null, .int 0]))]) (va_Qv (fun ad : Nat → Nat => ad 0 = h0) (fun ad t => va_P D um_cl [(ad 0, .inr (1, [.ref (ad 1), .ref (ad 2), .ref (ad 3), .int 0])), (ad 1, .inl (cA, 150, .inl (fun _ => 0))), (ad 2, .inl (cA, 750, .inl (fun _ => 0))), (ad 3, .inl (cA, 6, .inl (um_fill (fun _ _ => 0) 0 6 (-1) 0)))] t.heap ∧ va_K D um_cl [(cA, .int)] t ∧ va_D (va_A [(h0, .inr (1, [.null, .null, .null, .int 0]))] sz) [(ad 0, .inr (1, [.ref (ad 1), .ref (ad 2), .ref (ad 3), .int 0])), (ad 1, .inl (cA, 150, .inl (fun _ => 0))), (ad 2, .inl (cA, 750, .inl (fun _ => 0))), (ad 3, .inl (cA, 6, .inl (um_fill (fun _ _ => 0) 0 6 (-1) 0)))]) (va_A [(h0, .inr (1, [.null, .null, .null, .int 0]))] sz)) 3 906 (va_A [(h0, .inr (1, [.null, .null, .null, .int 0]))] sz) := by
  refine Met.ofW (cc := b_Tr_init) (maxL := 1) (ret := none) (by decide) rfl ?_
  intro p e s m args below meth c s₁ B hml hv
  obtain ⟨rfl, hsz, hP, hK, hD0, hNw⟩ := hv
  have hx := B.exec
  have hb := B.bytes
  have hr := B.returns
  have hts := atoms_spec (ws := um_wd um_AW M_Tr_init) B.pre
  have hok : ∀ w ∈ um_AW, w.before _ s = true := fun w hw => hts w (List.mem_cons_of_mem _ hw)
  have hown : s.vm.findClass R_Tr = some m.cls := findClass_of_methodNamed B.named
  have hlocks := B.notSynchronized
  have hin : meth.name = "<init>" := (name_of_methodNamed B.named B.method).1
  have harr := hok _ wo_arr
  subst hsz
  have hD := hD0.self (sz := s.heap.size)
  generalize hAe : va_A [(h0, .inr (1, [.null, .null, .null, .int 0]))] s.heap.size = A at hD ⊢
  have hA : ∀ q : Nat, s.heap.size ≤ q → A q := fun q h => by rw [← hAe]; exact Or.inr h
  have hS : va_S A s.heap s.heap [] := va_S.rf
  have hP : va_P D um_cl [(h0, .inr (1, [.null, .null, .null, .int 0]))] s.heap := hP
  have hl := lv_entry ([.ref h0]) (n := 1) (Nat.le_of_ble_eq_true rfl)
  rw [lg_entry_eq]
  generalize (lg_sl ([.ref h0]) ++ List.replicate (1 - (lg_sl ([.ref h0])).length) Slot.unset).toArray = ls at hl ⊢
  have hl : lv_has ls 1 [(0, .ref h0)] := hl
  refine lv_aload_n hx hb d_Tr_init_0 rfl (lv_at hl 0 rfl) ?_
  refine W.objInit hx hb hown (hok _ wlo_Tr) (hok _ wo_inst) (hok _ wo_code) rfl (by rw [hml]; exact hl.1) rfl d_Tr_init_1 (Nat.le_of_ble_eq_true rfl) (Nat.le_of_ble_eq_true rfl) ?_
  refine W.eq (g2 := F0 m 4 ls []) rfl ?_
  refine lv_aload_n hx hb d_Tr_init_4 rfl (lv_at hl 0 rfl) ?_
  refine lv_sipush (v := 150) hx hb d_Tr_init_5 (by decide) ?_
  refine ca_newa (n := 150) (N := 150) hx hb harr hK hP hD hS hA (by decide) (by decide) (by decide) (Nat.le_of_ble_eq_true rfl) (Nat.le_of_ble_eq_true rfl) d_Tr_init_8 (fun q8 H hP hD hS => ?_)
  have hP : va_P D um_cl [(h0, .inr (1, [.null, .null, .null, .int 0])), (q8, .inl (cA, 150, .inl (fun _ => 0)))] H := hP
  have hD : va_D A [(h0, .inr (1, [.null, .null, .null, .int 0])), (q8, .inl (cA, 150, .inl (fun _ => 0)))] := hD
  refine W.widen (k := 1) (n := 150) (Nat.le_of_ble_eq_true rfl) (Nat.le_of_ble_eq_true rfl) ?_
  refine va_putF (D := D) (ci := 1) (v := .ref q8) (ty := .array .int) (C := R_Tr) (T := F_Tr) (N := 4) hx hb hts (ca_in cl_Tr) t_Tr t_Tr_ok n_Tr_ok hown hK hP hD hS 0 rfl rfl 0 (by decide) (hok _ wfi_Tr_9) (fun _ h9 => h9) rfl hin rfl (by decide +kernel) rfl rfl (Nat.le_of_ble_eq_true rfl) d_Tr_init_10 (fun H locs hP hD hS => ?_)
  have hP : va_P D um_cl [(h0, .inr (1, [.ref q8, .null, .null, .int 0])), (q8, .inl (cA, 150, .inl (fun _ => 0)))] H := hP
  have hD : va_D A [(h0, .inr (1, [.ref q8, .null, .null, .int 0])), (q8, .inl (cA, 150, .inl (fun _ => 0)))] := hD
  refine lv_aload_n hx hb d_Tr_init_13 rfl (lv_at hl 0 rfl) ?_
  refine lv_sipush (v := 750) hx hb d_Tr_init_14 (by decide) ?_
  refine ca_newa (n := 750) (N := 750) hx hb harr hK hP hD hS hA (by decide) (by decide) (by decide) (Nat.le_of_ble_eq_true rfl) (Nat.le_of_ble_eq_true rfl) d_Tr_init_17 (fun q17 H hP hD hS => ?_)
  have hP : va_P D um_cl [(h0, .inr (1, [.ref q8, .null, .null, .int 0])), (q8, .inl (cA, 150, .inl (fun _ => 0))), (q17, .inl (cA, 750, .inl (fun _ => 0)))] H := hP
  have hD : va_D A [(h0, .inr (1, [.ref q8, .null, .null, .int 0])), (q8, .inl (cA, 150, .inl (fun _ => 0))), (q17, .inl (cA, 750, .inl (fun _ => 0)))] := hD
  refine W.widen (k := 2) (n := 900) (Nat.le_of_ble_eq_true rfl) (Nat.le_of_ble_eq_true rfl) ?_
  refine va_putF (D := D) (ci := 1) (v := .ref q17) (ty := .array .int) (C := R_Tr) (T := F_Tr) (N := 4) hx hb hts (ca_in cl_Tr) t_Tr t_Tr_ok n_Tr_ok hown hK hP hD hS 0 rfl rfl 1 (by decide) (hok _ wfi_Tr_15) (fun _ h9 => h9) rfl hin rfl (by decide +kernel) rfl rfl (Nat.le_of_ble_eq_true rfl) d_Tr_init_19 (fun H locs hP hD hS => ?_)
  have hP : va_P D um_cl [(h0, .inr (1, [.ref q8, .ref q17, .null, .int 0])), (q8, .inl (cA, 150, .inl (fun _ => 0))), (q17, .inl (cA, 750, .inl (fun _ => 0)))] H := hP
  have hD : va_D A [(h0, .inr (1, [.ref q8, .ref q17, .null, .int 0])), (q8, .inl (cA, 150, .inl (fun _ => 0))), (q17, .inl (cA, 750, .inl (fun _ => 0)))] := hD
  refine lv_aload_n hx hb d_Tr_init_22 rfl (lv_at hl 0 rfl) ?_
  refine lv_bipush (v := 6) hx hb d_Tr_init_23 (by decide) ?_
  refine ca_newa (n := 6) (N := 6) hx hb harr hK hP hD hS hA (by decide) (by decide) (by decide) (Nat.le_of_ble_eq_true rfl) (Nat.le_of_ble_eq_true rfl) d_Tr_init_25 (fun q25 H hP hD hS => ?_)
  have hP : va_P D um_cl [(h0, .inr (1, [.ref q8, .ref q17, .null, .int 0])), (q8, .inl (cA, 150, .inl (fun _ => 0))), (q17, .inl (cA, 750, .inl (fun _ => 0))), (q25, .inl (cA, 6, .inl (fun _ => 0)))] H := hP
  have hD : va_D A [(h0, .inr (1, [.ref q8, .ref q17, .null, .int 0])), (q8, .inl (cA, 150, .inl (fun _ => 0))), (q17, .inl (cA, 750, .inl (fun _ => 0))), (q25, .inl (cA, 6, .inl (fun _ => 0)))] := hD
  refine W.widen (k := 3) (n := 906) (Nat.le_of_ble_eq_true rfl) (Nat.le_of_ble_eq_true rfl) ?_
  refine va_putF (D := D) (ci := 1) (v := .ref q25) (ty := .array .int) (C := R_Tr) (T := F_Tr) (N := 4) hx hb hts (ca_in cl_Tr) t_Tr t_Tr_ok n_Tr_ok hown hK hP hD hS 0 rfl rfl 2 (by decide) (hok _ wfi_Tr_18) (fun _ h9 => h9) rfl hin rfl (by decide +kernel) rfl rfl (Nat.le_of_ble_eq_true rfl) d_Tr_init_27 (fun H locs hP hD hS => ?_)
  have hP : va_P D um_cl [(h0, .inr (1, [.ref q8, .ref q17, .ref q25, .int 0])), (q8, .inl (cA, 150, .inl (fun _ => 0))), (q17, .inl (cA, 750, .inl (fun _ => 0))), (q25, .inl (cA, 6, .inl (fun _ => 0)))] H := hP
  have hD : va_D A [(h0, .inr (1, [.ref q8, .ref q17, .ref q25, .int 0])), (q8, .inl (cA, 150, .inl (fun _ => 0))), (q17, .inl (cA, 750, .inl (fun _ => 0))), (q25, .inl (cA, 6, .inl (fun _ => 0)))] := hD
  refine lv_aload_n hx hb d_Tr_init_30 rfl (lv_at hl 0 rfl) ?_
  refine va_get (D := D) (ci := 1) (v := .ref q25) (C := R_Tr) (T := F_Tr) (N := 4) hx hb hts (ca_in cl_Tr) hown hK hP 0 rfl rfl 2 (by decide) (hok _ wfi_Tr_18) (fun _ h9 => h9) rfl d_Tr_init_31 ?_
  refine lv_iconst (v := (-1)) hx hb d_Tr_init_34 (by decide) ?_
  have hPc := hP.sub (ws' := [(q25, .inl (cA, 6, .inl (fun _ => 0)))]) [3] rfl
  have hDc := hD.sub (ws' := [(q25, .inl (cA, 6, .inl (fun _ => 0)))]) [3] (by decide) rfl
  have hFc := va_free (wc := [(q25, .inl (cA, 6, .inl (fun _ => 0)))]) hD hS hA [3] rfl
  refine ca_fill (q := q25) hx hb hml hown hts hK hNw hl.1 wls_Tr_21 (Nat.le_of_ble_eq_true rfl) (Nat.le_of_ble_eq_true rfl) hS hFc hPc hDc d_Tr_init_35 ⟨(Nat.le_of_ble_eq_true rfl), (Nat.le_of_ble_eq_true rfl)⟩ (fun H1 locs hP1 hD1 hk1 hS => ?_)
  obtain ⟨hP, hD⟩ := va_join (wr := [(h0, .inr (1, [.ref q8, .ref q17, .ref q25, .int 0])), (q8, .inl (cA, 150, .inl (fun _ => 0))), (q17, .inl (cA, 750, .inl (fun _ => 0)))]) (w1 := [(q25, .inl (cA, 6, .inl (um_fill (fun _ _ => 0) 0 6 (-1) 0)))]) hP hD [3] [0, 1, 2] rfl rfl (by decide) (by decide) hk1 hFc hP1 hD1
  generalize H1 = H at hP hS ⊢
  have hP : va_P D um_cl [(h0, .inr (1, [.ref q8, .ref q17, .ref q25, .int 0])), (q8, .inl (cA, 150, .inl (fun _ => 0))), (q17, .inl (cA, 750, .inl (fun _ => 0))), (q25, .inl (cA, 6, .inl (um_fill (fun _ _ => 0) 0 6 (-1) 0)))] H := hP
  have hD : va_D A [(h0, .inr (1, [.ref q8, .ref q17, .ref q25, .int 0])), (q8, .inl (cA, 150, .inl (fun _ => 0))), (q17, .inl (cA, 750, .inl (fun _ => 0))), (q25, .inl (cA, 6, .inl (um_fill (fun _ _ => 0) 0 6 (-1) 0)))] := hD
  refine W.widen (k := 3) (n := 906) (Nat.le_of_ble_eq_true rfl) (Nat.le_of_ble_eq_true rfl) ?_
  exact W.vret hx hb hr (fun t ht hW => ⟨⟨fun j => ([h0, q8, q17, q25] : List Nat).getD j 0, rfl, rfl, by rw [ht]; exact hP, va_K.moved hW.alike hK, hD⟩, hS.F ht⟩) hS.2.2 d_Tr_init_38
set_option maxHeartbeats 4000000 in
set_option maxRecDepth 100000 in
theorem k_Co (l : Launch) (D : va_G) (cA : ClassId) (h0 sz : Nat) : Met l M_Co_init.1 (um_wd um_AW M_Co_init) { frames := 1, cells := 5, slots := 4506, locals := 20 }
    (ca_Pc D cA sz [.ref h0] [(h0, .inr (2, [.null, .null, .null, .null, .null, .int 0, .int 0, .int 0, .int 0]))]) (va_Qv (fun ad : Nat → Nat => ad 0 = h0) (fun ad t => va_P D um_cl [(ad 0, .inr (2, [.ref (ad 1), .ref (ad 2), .ref (ad 3), .ref (ad 4), .ref (ad 5), .int 0, .int 0, .int 0, .int 0])), (ad 1, .inl (cA, 1000, .inl (fun _ => 0))), (ad 2, .inl (cA, 1000, .inl (fun _ => 0))), (ad 3, .inl (cA, 1000, .inl (fun _ => 0))), (ad 4, .inl (cA, 6, .inl (fun _ => 0))), (ad 5, .inl (cA, 1500, .inl (fun _ => 0)))] t.heap ∧ va_K D um_cl [(cA, .int)] t ∧ va_D (va_A [(h0, .inr (2, [.null, .null, .null, .null, .null, .int 0, .int 0, .int 0, .int 0]))] sz) [(ad 0, .inr (2, [.ref (ad 1), .ref (ad 2), .ref (ad 3), .ref (ad 4), .ref (ad 5), .int 0, .int 0, .int 0, .int 0])), (ad 1, .inl (cA, 1000, .inl (fun _ => 0))), (ad 2, .inl (cA, 1000, .inl (fun _ => 0))), (ad 3, .inl (cA, 1000, .inl (fun _ => 0))), (ad 4, .inl (cA, 6, .inl (fun _ => 0))), (ad 5, .inl (cA, 1500, .inl (fun _ => 0)))]) (va_A [(h0, .inr (2, [.null, .null, .null, .null, .null, .int 0, .int 0, .int 0, .int 0]))] sz)) 5 4506 (va_A [(h0, .inr (2, [.null, .null, .null, .null, .null, .int 0, .int 0, .int 0, .int 0]))] sz) := by
  refine Met.ofW (cc := b_Co_init) (maxL := 1) (ret := none) (by decide) rfl ?_
  intro p e s m args below meth c s₁ B hml hv
  obtain ⟨rfl, hsz, hP, hK, hD0, hNw⟩ := hv
  have hx := B.exec
  have hb := B.bytes
  have hr := B.returns
  have hts := atoms_spec (ws := um_wd um_AW M_Co_init) B.pre
  have hok : ∀ w ∈ um_AW, w.before _ s = true := fun w hw => hts w (List.mem_cons_of_mem _ hw)
  have hown : s.vm.findClass R_Co = some m.cls := findClass_of_methodNamed B.named
  have hlocks := B.notSynchronized
  have hin : meth.name = "<init>" := (name_of_methodNamed B.named B.method).1
  have harr := hok _ wo_arr
  subst hsz
  have hD := hD0.self (sz := s.heap.size)
  generalize hAe : va_A [(h0, .inr (2, [.null, .null, .null, .null, .null, .int 0, .int 0, .int 0, .int 0]))] s.heap.size = A at hD ⊢
  have hA : ∀ q : Nat, s.heap.size ≤ q → A q := fun q h => by rw [← hAe]; exact Or.inr h
  have hS : va_S A s.heap s.heap [] := va_S.rf
  have hP : va_P D um_cl [(h0, .inr (2, [.null, .null, .null, .null, .null, .int 0, .int 0, .int 0, .int 0]))] s.heap := hP
  have hl := lv_entry ([.ref h0]) (n := 1) (Nat.le_of_ble_eq_true rfl)
  rw [lg_entry_eq]
  generalize (lg_sl ([.ref h0]) ++ List.replicate (1 - (lg_sl ([.ref h0])).length) Slot.unset).toArray = ls at hl ⊢
  have hl : lv_has ls 1 [(0, .ref h0)] := hl
  refine lv_aload_n hx hb d_Co_init_0 rfl (lv_at hl 0 rfl) ?_
  refine W.objInit hx hb hown (hok _ wlo_Co) (hok _ wo_inst) (hok _ wo_code) rfl (by rw [hml]; exact hl.1) rfl d_Co_init_1 (Nat.le_of_ble_eq_true rfl) (Nat.le_of_ble_eq_true rfl) ?_
  refine W.eq (g2 := F0 m 4 ls []) rfl ?_
  refine lv_aload_n hx hb d_Co_init_4 rfl (lv_at hl 0 rfl) ?_
  refine lv_sipush (v := 1000) hx hb d_Co_init_5 (by decide) ?_
  refine ca_newa (n := 1000) (N := 1000) hx hb harr hK hP hD hS hA (by decide) (by decide) (by decide) (Nat.le_of_ble_eq_true rfl) (Nat.le_of_ble_eq_true rfl) d_Co_init_8 (fun q8 H hP hD hS => ?_)
  have hP : va_P D um_cl [(h0, .inr (2, [.null, .null, .null, .null, .null, .int 0, .int 0, .int 0, .int 0])), (q8, .inl (cA, 1000, .inl (fun _ => 0)))] H := hP
  have hD : va_D A [(h0, .inr (2, [.null, .null, .null, .null, .null, .int 0, .int 0, .int 0, .int 0])), (q8, .inl (cA, 1000, .inl (fun _ => 0)))] := hD
  refine W.widen (k := 1) (n := 1000) (Nat.le_of_ble_eq_true rfl) (Nat.le_of_ble_eq_true rfl) ?_
  refine va_putF (D := D) (ci := 2) (v := .ref q8) (ty := .array .int) (C := R_Co) (T := F_Co) (N := 9) hx hb hts (ca_in cl_Co) t_Co t_Co_ok n_Co_ok hown hK hP hD hS 0 rfl rfl 0 (by decide) (hok _ wfi_Co_9) (fun _ h9 => h9) rfl hin rfl (by decide +kernel) rfl rfl (Nat.le_of_ble_eq_true rfl) d_Co_init_10 (fun H locs hP hD hS => ?_)
  have hP : va_P D um_cl [(h0, .inr (2, [.ref q8, .null, .null, .null, .null, .int 0, .int 0, .int 0, .int 0])), (q8, .inl (cA, 1000, .inl (fun _ => 0)))] H := hP
  have hD : va_D A [(h0, .inr (2, [.ref q8, .null, .null, .null, .null, .int 0, .int 0, .int 0, .int 0])), (q8, .inl (cA, 1000, .inl (fun _ => 0)))] := hD
  refine lv_aload_n hx hb d_Co_init_13 rfl (lv_at hl 0 rfl) ?_
  refine lv_sipush (v := 1000) hx hb d_Co_init_14 (by decide) ?_
  refine ca_newa (n := 1000) (N := 1000) hx hb harr hK hP hD hS hA (by decide) (by decide) (by decide) (Nat.le_of_ble_eq_true rfl) (Nat.le_of_ble_eq_true rfl) d_Co_init_17 (fun q17 H hP hD hS => ?_)
  have hP : va_P D um_cl [(h0, .inr (2, [.ref q8, .null, .null, .null, .null, .int 0, .int 0, .int 0, .int 0])), (q8, .inl (cA, 1000, .inl (fun _ => 0))), (q17, .inl (cA, 1000, .inl (fun _ => 0)))] H := hP
  have hD : va_D A [(h0, .inr (2, [.ref q8, .null, .null, .null, .null, .int 0, .int 0, .int 0, .int 0])), (q8, .inl (cA, 1000, .inl (fun _ => 0))), (q17, .inl (cA, 1000, .inl (fun _ => 0)))] := hD
  refine W.widen (k := 2) (n := 2000) (Nat.le_of_ble_eq_true rfl) (Nat.le_of_ble_eq_true rfl) ?_
  refine va_putF (D := D) (ci := 2) (v := .ref q17) (ty := .array .int) (C := R_Co) (T := F_Co) (N := 9) hx hb hts (ca_in cl_Co) t_Co t_Co_ok n_Co_ok hown hK hP hD hS 0 rfl rfl 1 (by decide) (hok _ wfi_Co_15) (fun _ h9 => h9) rfl hin rfl (by decide +kernel) rfl rfl (Nat.le_of_ble_eq_true rfl) d_Co_init_19 (fun H locs hP hD hS => ?_)
  have hP : va_P D um_cl [(h0, .inr (2, [.ref q8, .ref q17, .null, .null, .null, .int 0, .int 0, .int 0, .int 0])), (q8, .inl (cA, 1000, .inl (fun _ => 0))), (q17, .inl (cA, 1000, .inl (fun _ => 0)))] H := hP
  have hD : va_D A [(h0, .inr (2, [.ref q8, .ref q17, .null, .null, .null, .int 0, .int 0, .int 0, .int 0])), (q8, .inl (cA, 1000, .inl (fun _ => 0))), (q17, .inl (cA, 1000, .inl (fun _ => 0)))] := hD
  refine lv_aload_n hx hb d_Co_init_22 rfl (lv_at hl 0 rfl) ?_
  refine lv_sipush (v := 1000) hx hb d_Co_init_23 (by decide) ?_
  refine ca_newa (n := 1000) (N := 1000) hx hb harr hK hP hD hS hA (by decide) (by decide) (by decide) (Nat.le_of_ble_eq_true rfl) (Nat.le_of_ble_eq_true rfl) d_Co_init_26 (fun q26 H hP hD hS => ?_)
  have hP : va_P D um_cl [(h0, .inr (2, [.ref q8, .ref q17, .null, .null, .null, .int 0, .int 0, .int 0, .int 0])), (q8, .inl (cA, 1000, .inl (fun _ => 0))), (q17, .inl (cA, 1000, .inl (fun _ => 0))), (q26, .inl (cA, 1000, .inl (fun _ => 0)))] H := hP
  have hD : va_D A [(h0, .inr (2, [.ref q8, .ref q17, .null, .null, .null, .int 0, .int 0, .int 0, .int 0])), (q8, .inl (cA, 1000, .inl (fun _ => 0))), (q17, .inl (cA, 1000, .inl (fun _ => 0))), (q26, .inl (cA, 1000, .inl (fun _ => 0)))] := hD
  refine W.widen (k := 3) (n := 3000) (Nat.le_of_ble_eq_true rfl) (Nat.le_of_ble_eq_true rfl) ?_
  refine va_putF (D := D) (ci := 2) (v := .ref q26) (ty := .array .int) (C := R_Co) (T := F_Co) (N := 9) hx hb hts (ca_in cl_Co) t_Co t_Co_ok n_Co_ok hown hK hP hD hS 0 rfl rfl 2 (by decide) (hok _ wfi_Co_18) (fun _ h9 => h9) rfl hin rfl (by decide +kernel) rfl rfl (Nat.le_of_ble_eq_true rfl) d_Co_init_28 (fun H locs hP hD hS => ?_)
  have hP : va_P D um_cl [(h0, .inr (2, [.ref q8, .ref q17, .ref q26, .null, .null, .int 0, .int 0, .int 0, .int 0])), (q8, .inl (cA, 1000, .inl (fun _ => 0))), (q17, .inl (cA, 1000, .inl (fun _ => 0))), (q26, .inl (cA, 1000, .inl (fun _ => 0)))] H := hP
  have hD : va_D A [(h0, .inr (2, [.ref q8, .ref q17, .ref q26, .null, .null, .int 0, .int 0, .int 0, .int 0])), (q8, .inl (cA, 1000, .inl (fun _ => 0))), (q17, .inl (cA, 1000, .inl (fun _ => 0))), (q26, .inl (cA, 1000, .inl (fun _ => 0)))] := hD
  refine lv_aload_n hx hb d_Co_init_31 rfl (lv_at hl 0 rfl) ?_
  refine lv_bipush (v := 6) hx hb d_Co_init_32 (by decide) ?_
  refine ca_newa (n := 6) (N := 6) hx hb harr hK hP hD hS hA (by decide) (by decide) (by decide) (Nat.le_of_ble_eq_true rfl) (Nat.le_of_ble_eq_true rfl) d_Co_init_34 (fun q34 H hP hD hS => ?_)
  have hP : va_P D um_cl [(h0, .inr (2, [.ref q8, .ref q17, .ref q26, .null, .null, .int 0, .int 0, .int 0, .int 0])), (q8, .inl (cA, 1000, .inl (fun _ => 0))), (q17, .inl (cA, 1000, .inl (fun _ => 0))), (q26, .inl (cA, 1000, .inl (fun _ => 0))), (q34, .inl (cA, 6, .inl (fun _ => 0)))] H := hP
  have hD : va_D A [(h0, .inr (2, [.ref q8, .ref q17, .ref q26, .null, .null, .int 0, .int 0, .int 0, .int 0])), (q8, .inl (cA, 1000, .inl (fun _ => 0))), (q17, .inl (cA, 1000, .inl (fun _ => 0))), (q26, .inl (cA, 1000, .inl (fun _ => 0))), (q34, .inl (cA, 6, .inl (fun _ => 0)))] := hD
  refine W.widen (k := 4) (n := 3006) (Nat.le_of_ble_eq_true rfl) (Nat.le_of_ble_eq_true rfl) ?_
  refine va_putF (D := D) (ci := 2) (v := .ref q34) (ty := .array .int) (C := R_Co) (T := F_Co) (N := 9) hx hb hts (ca_in cl_Co) t_Co t_Co_ok n_Co_ok hown hK hP hD hS 0 rfl rfl 3 (by decide) (hok _ wfi_Co_21) (fun _ h9 => h9) rfl hin rfl (by decide +kernel) rfl rfl (Nat.le_of_ble_eq_true rfl) d_Co_init_36 (fun H locs hP hD hS => ?_)
  have hP : va_P D um_cl [(h0, .inr (2, [.ref q8, .ref q17, .ref q26, .ref q34, .null, .int 0, .int 0, .int 0, .int 0])), (q8, .inl (cA, 1000, .inl (fun _ => 0))), (q17, .inl (cA, 1000, .inl (fun _ => 0))), (q26, .inl (cA, 1000, .inl (fun _ => 0))), (q34, .inl (cA, 6, .inl (fun _ => 0)))] H := hP
  have hD : va_D A [(h0, .inr (2, [.ref q8, .ref q17, .ref q26, .ref q34, .null, .int 0, .int 0, .int 0, .int 0])), (q8, .inl (cA, 1000, .inl (fun _ => 0))), (q17, .inl (cA, 1000, .inl (fun _ => 0))), (q26, .inl (cA, 1000, .inl (fun _ => 0))), (q34, .inl (cA, 6, .inl (fun _ => 0)))] := hD
  refine lv_aload_n hx hb d_Co_init_39 rfl (lv_at hl 0 rfl) ?_
  refine lv_sipush (v := 1500) hx hb d_Co_init_40 (by decide) ?_
  refine ca_newa (n := 1500) (N := 1500) hx hb harr hK hP hD hS hA (by decide) (by decide) (by decide) (Nat.le_of_ble_eq_true rfl) (Nat.le_of_ble_eq_true rfl) d_Co_init_43 (fun q43 H hP hD hS => ?_)
  have hP : va_P D um_cl [(h0, .inr (2, [.ref q8, .ref q17, .ref q26, .ref q34, .null, .int 0, .int 0, .int 0, .int 0])), (q8, .inl (cA, 1000, .inl (fun _ => 0))), (q17, .inl (cA, 1000, .inl (fun _ => 0))), (q26, .inl (cA, 1000, .inl (fun _ => 0))), (q34, .inl (cA, 6, .inl (fun _ => 0))), (q43, .inl (cA, 1500, .inl (fun _ => 0)))] H := hP
  have hD : va_D A [(h0, .inr (2, [.ref q8, .ref q17, .ref q26, .ref q34, .null, .int 0, .int 0, .int 0, .int 0])), (q8, .inl (cA, 1000, .inl (fun _ => 0))), (q17, .inl (cA, 1000, .inl (fun _ => 0))), (q26, .inl (cA, 1000, .inl (fun _ => 0))), (q34, .inl (cA, 6, .inl (fun _ => 0))), (q43, .inl (cA, 1500, .inl (fun _ => 0)))] := hD
  refine W.widen (k := 5) (n := 4506) (Nat.le_of_ble_eq_true rfl) (Nat.le_of_ble_eq_true rfl) ?_
  refine va_putF (D := D) (ci := 2) (v := .ref q43) (ty := .array .int) (C := R_Co) (T := F_Co) (N := 9) hx hb hts (ca_in cl_Co) t_Co t_Co_ok n_Co_ok hown hK hP hD hS 0 rfl rfl 4 (by decide) (hok _ wfi_Co_24) (fun _ h9 => h9) rfl hin rfl (by decide +kernel) rfl rfl (Nat.le_of_ble_eq_true rfl) d_Co_init_45 (fun H locs hP hD hS => ?_)
  have hP : va_P D um_cl [(h0, .inr (2, [.ref q8, .ref q17, .ref q26, .ref q34, .ref q43, .int 0, .int 0, .int 0, .int 0])), (q8, .inl (cA, 1000, .inl (fun _ => 0))), (q17, .inl (cA, 1000, .inl (fun _ => 0))), (q26, .inl (cA, 1000, .inl (fun _ => 0))), (q34, .inl (cA, 6, .inl (fun _ => 0))), (q43, .inl (cA, 1500, .inl (fun _ => 0)))] H := hP
  have hD : va_D A [(h0, .inr (2, [.ref q8, .ref q17, .ref q26, .ref q34, .ref q43, .int 0, .int 0, .int 0, .int 0])), (q8, .inl (cA, 1000, .inl (fun _ => 0))), (q17, .inl (cA, 1000, .inl (fun _ => 0))), (q26, .inl (cA, 1000, .inl (fun _ => 0))), (q34, .inl (cA, 6, .inl (fun _ => 0))), (q43, .inl (cA, 1500, .inl (fun _ => 0)))] := hD
  refine W.widen (k := 5) (n := 4506) (Nat.le_of_ble_eq_true rfl) (Nat.le_of_ble_eq_true rfl) ?_
  exact W.vret hx hb hr (fun t ht hW => ⟨⟨fun j => ([h0, q8, q17, q26, q34, q43] : List Nat).getD j 0, rfl, rfl, by rw [ht]; exact hP, va_K.moved hW.alike hK, hD⟩, hS.F ht⟩) hS.2.2 d_Co_init_48
set_option maxHeartbeats 4000000 in
set_option maxRecDepth 100000 in
theorem k_Sc (l : Launch) (D : va_G) (cA : ClassId) (h0 sz : Nat) : Met l M_Sc_init.1 (um_wd um_AW M_Sc_init) { frames := 1, cells := 8, slots := 16008, locals := 20 }
    (ca_Pc D cA sz [.ref h0] [(h0, .inr (5, [.null, .null, .null, .null, .null, .null, .null, .null, .int 0, .int 0]))]) (va_Qv (fun ad : Nat → Nat => ad 0 = h0) (fun ad t => va_P D um_cl [(ad 0, .inr (5, [.ref (ad 1), .ref (ad 2), .ref (ad 3), .ref (ad 4), .ref (ad 5), .ref (ad 6), .ref (ad 7), .ref (ad 8), .int 0, .int 0])), (ad 1, .inl (cA, 2001, .inl (fun _ => 0))), (ad 2, .inl (cA, 2001, .inl (fun _ => 0))), (ad 3, .inl (cA, 2001, .inl (fun _ => 0))), (ad 4, .inl (cA, 2001, .inl (fun _ => 0))), (ad 5, .inl (cA, 2001, .inl (fun _ => 0))), (ad 6, .inl (cA, 2001, .inl (fun _ => 0))), (ad 7, .inl (cA, 2001, .inl (fun _ => 0))), (ad 8, .inl (cA, 2001, .inl (fun _ => 0)))] t.heap ∧ va_K D um_cl [(cA, .int)] t ∧ va_D (va_A [(h0, .inr (5, [.null, .null, .null, .null, .null, .null, .null, .null, .int 0, .int 0]))] sz) [(ad 0, .inr (5, [.ref (ad 1), .ref (ad 2), .ref (ad 3), .ref (ad 4), .ref (ad 5), .ref (ad 6), .ref (ad 7), .ref (ad 8), .int 0, .int 0])), (ad 1, .inl (cA, 2001, .inl (fun _ => 0))), (ad 2, .inl (cA, 2001, .inl (fun _ => 0))), (ad 3, .inl (cA, 2001, .inl (fun _ => 0))), (ad 4, .inl (cA, 2001, .inl (fun _ => 0))), (ad 5, .inl (cA, 2001, .inl (fun _ => 0))), (ad 6, .inl (cA, 2001, .inl (fun _ => 0))), (ad 7, .inl (cA, 2001, .inl (fun _ => 0))), (ad 8, .inl (cA, 2001, .inl (fun _ => 0)))]) (va_A [(h0, .inr (5, [.null, .null, .null, .null, .null, .null, .null, .null, .int 0, .int 0]))] sz)) 8 16008 (va_A [(h0, .inr (5, [.null, .null, .null, .null, .null, .null, .null, .null, .int 0, .int 0]))] sz) := by
  refine Met.ofW (cc := b_Sc_init) (maxL := 1) (ret := none) (by decide) rfl ?_
  intro p e s m args below meth c s₁ B hml hv
  obtain ⟨rfl, hsz, hP, hK, hD0, hNw⟩ := hv
  have hx := B.exec
  have hb := B.bytes
  have hr := B.returns
  have hts := atoms_spec (ws := um_wd um_AW M_Sc_init) B.pre
  have hok : ∀ w ∈ um_AW, w.before _ s = true := fun w hw => hts w (List.mem_cons_of_mem _ hw)
  have hown : s.vm.findClass R_Sc = some m.cls := findClass_of_methodNamed B.named
  have hlocks := B.notSynchronized
  have hin : meth.name = "<init>" := (name_of_methodNamed B.named B.method).1
  have harr := hok _ wo_arr
  subst hsz
  have hD := hD0.self (sz := s.heap.size)
  generalize hAe : va_A [(h0, .inr (5, [.null, .null, .null, .null, .null, .null, .null, .null, .int 0, .int 0]))] s.heap.size = A at hD ⊢
  have hA : ∀ q : Nat, s.heap.size ≤ q → A q := fun q h => by rw [← hAe]; exact Or.inr h
  have hS : va_S A s.heap s.heap [] := va_S.rf
  have hP : va_P D um_cl [(h0, .inr (5, [.null, .null, .null, .null, .null, .null, .null, .null, .int 0, .int 0]))] s.heap := hP
  have hl := lv_entry ([.ref h0]) (n := 1) (Nat.le_of_ble_eq_true rfl)
  rw [lg_entry_eq]
  generalize (lg_sl ([.ref h0]) ++ List.replicate (1 - (lg_sl ([.ref h0])).length) Slot.unset).toArray = ls at hl ⊢
  have hl : lv_has ls 1 [(0, .ref h0)] := hl
  refine lv_aload_n hx hb d_Sc_init_0 rfl (lv_at hl 0 rfl) ?_
  refine W.objInit hx hb hown (hok _ wlo_Sc) (hok _ wo_inst) (hok _ wo_code) rfl (by rw [hml]; exact hl.1) rfl d_Sc_init_1 (Nat.le_of_ble_eq_true rfl) (Nat.le_of_ble_eq_true rfl) ?_
  refine W.eq (g2 := F0 m 4 ls []) rfl ?_
  refine lv_aload_n hx hb d_Sc_init_4 rfl (lv_at hl 0 rfl) ?_
  refine lv_sipush (v := 2001) hx hb d_Sc_init_5 (by decide) ?_
  refine ca_newa (n := 2001) (N := 2001) hx hb harr hK hP hD hS hA (by decide) (by decide) (by decide) (Nat.le_of_ble_eq_true rfl) (Nat.le_of_ble_eq_true rfl) d_Sc_init_8 (fun q8 H hP hD hS => ?_)
  have hP : va_P D um_cl [(h0, .inr (5, [.null, .null, .null, .null, .null, .null, .null, .null, .int 0, .int 0])), (q8, .inl (cA, 2001, .inl (fun _ => 0)))] H := hP
  have hD : va_D A [(h0, .inr (5, [.null, .null, .null, .null, .null, .null, .null, .null, .int 0, .int 0])), (q8, .inl (cA, 2001, .inl (fun _ => 0)))] := hD
  refine W.widen (k := 1) (n := 2001) (Nat.le_of_ble_eq_true rfl) (Nat.le_of_ble_eq_true rfl) ?_
  refine va_putF (D := D) (ci := 5) (v := .ref q8) (ty := .array .int) (C := R_Sc) (T := F_Sc) (N := 10) hx hb hts (ca_in cl_Sc) t_Sc t_Sc_ok n_Sc_ok hown hK hP hD hS 0 rfl rfl 0 (by decide) (hok _ wfi_Sc_11) (fun _ h9 => h9) rfl hin rfl (by decide +kernel) rfl rfl (Nat.le_of_ble_eq_true rfl) d_Sc_init_10 (fun H locs hP hD hS => ?_)
  have hP : va_P D um_cl [(h0, .inr (5, [.ref q8, .null, .null, .null, .null, .null, .null, .null, .int 0, .int 0])), (q8, .inl (cA, 2001, .inl (fun _ => 0)))] H := hP
  have hD : va_D A [(h0, .inr (5, [.ref q8, .null, .null, .null, .null, .null, .null, .null, .int 0, .int 0])), (q8, .inl (cA, 2001, .inl (fun _ => 0)))] := hD
  refine lv_aload_n hx hb d_Sc_init_13 rfl (lv_at hl 0 rfl) ?_
  refine lv_sipush (v := 2001) hx hb d_Sc_init_14 (by decide) ?_
  refine ca_newa (n := 2001) (N := 2001) hx hb harr hK hP hD hS hA (by decide) (by decide) (by decide) (Nat.le_of_ble_eq_true rfl) (Nat.le_of_ble_eq_true rfl) d_Sc_init_17 (fun q17 H hP hD hS => ?_)
  have hP : va_P D um_cl [(h0, .inr (5, [.ref q8, .null, .null, .null, .null, .null, .null, .null, .int 0, .int 0])), (q8, .inl (cA, 2001, .inl (fun _ => 0))), (q17, .inl (cA, 2001, .inl (fun _ => 0)))] H := hP
  have hD : va_D A [(h0, .inr (5, [.ref q8, .null, .null, .null, .null, .null, .null, .null, .int 0, .int 0])), (q8, .inl (cA, 2001, .inl (fun _ => 0))), (q17, .inl (cA, 2001, .inl (fun _ => 0)))] := hD
  refine W.widen (k := 2) (n := 4002) (Nat.le_of_ble_eq_true rfl) (Nat.le_of_ble_eq_true rfl) ?_
  refine va_putF (D := D) (ci := 5) (v := .ref q17) (ty := .array .int) (C := R_Sc) (T := F_Sc) (N := 10) hx hb hts (ca_in cl_Sc) t_Sc t_Sc_ok n_Sc_ok hown hK hP hD hS 0 rfl rfl 1 (by decide) (hok _ wfi_Sc_15) (fun _ h9 => h9) rfl hin rfl (by decide +kernel) rfl rfl (Nat.le_of_ble_eq_true rfl) d_Sc_init_19 (fun H locs hP hD hS => ?_)
  have hP : va_P D um_cl [(h0, .inr (5, [.ref q8, .ref q17, .null, .null, .null, .null, .null, .null, .int 0, .int 0])), (q8, .inl (cA, 2001, .inl (fun _ => 0))), (q17, .inl (cA, 2001, .inl (fun _ => 0)))] H := hP
  have hD : va_D A [(h0, .inr (5, [.ref q8, .ref q17, .null, .null, .null, .null, .null, .null, .int 0, .int 0])), (q8, .inl (cA, 2001, .inl (fun _ => 0))), (q17, .inl (cA, 2001, .inl (fun _ => 0)))] := hD
  refine lv_aload_n hx hb d_Sc_init_22 rfl (lv_at hl 0 rfl) ?_
  refine lv_sipush (v := 2001) hx hb d_Sc_init_23 (by decide) ?_
  refine ca_newa (n := 2001) (N := 2001) hx hb harr hK hP hD hS hA (by decide) (by decide) (by decide) (Nat.le_of_ble_eq_true rfl) (Nat.le_of_ble_eq_true rfl) d_Sc_init_26 (fun q26 H hP hD hS => ?_)
  have hP : va_P D um_cl [(h0, .inr (5, [.ref q8, .ref q17, .null, .null, .null, .null, .null, .null, .int 0, .int 0])), (q8, .inl (cA, 2001, .inl (fun _ => 0))), (q17, .inl (cA, 2001, .inl (fun _ => 0))), (q26, .inl (cA, 2001, .inl (fun _ => 0)))] H := hP
  have hD : va_D A [(h0, .inr (5, [.ref q8, .ref q17, .null, .null, .null, .null, .null, .null, .int 0, .int 0])), (q8, .inl (cA, 2001, .inl (fun _ => 0))), (q17, .inl (cA, 2001, .inl (fun _ => 0))), (q26, .inl (cA, 2001, .inl (fun _ => 0)))] := hD
  refine W.widen (k := 3) (n := 6003) (Nat.le_of_ble_eq_true rfl) (Nat.le_of_ble_eq_true rfl) ?_
  refine va_putF (D := D) (ci := 5) (v := .ref q26) (ty := .array .int) (C := R_Sc) (T := F_Sc) (N := 10) hx hb hts (ca_in cl_Sc) t_Sc t_Sc_ok n_Sc_ok hown hK hP hD hS 0 rfl rfl 2 (by decide) (hok _ wfi_Sc_18) (fun _ h9 => h9) rfl hin rfl (by decide +kernel) rfl rfl (Nat.le_of_ble_eq_true rfl) d_Sc_init_28 (fun H locs hP hD hS => ?_)
  have hP : va_P D um_cl [(h0, .inr (5, [.ref q8, .ref q17, .ref q26, .null, .null, .null, .null, .null, .int 0, .int 0])), (q8, .inl (cA, 2001, .inl (fun _ => 0))), (q17, .inl (cA, 2001, .inl (fun _ => 0))), (q26, .inl (cA, 2001, .inl (fun _ => 0)))] H := hP
  have hD : va_D A [(h0, .inr (5, [.ref q8, .ref q17, .ref q26, .null, .null, .null, .null, .null, .int 0, .int 0])), (q8, .inl (cA, 2001, .inl (fun _ => 0))), (q17, .inl (cA, 2001, .inl (fun _ => 0))), (q26, .inl (cA, 2001, .inl (fun _ => 0)))] := hD
  refine lv_aload_n hx hb d_Sc_init_31 rfl (lv_at hl 0 rfl) ?_
  refine lv_sipush (v := 2001) hx hb d_Sc_init_32 (by decide) ?_
  refine ca_newa (n := 2001) (N := 2001) hx hb harr hK hP hD hS hA (by decide) (by decide) (by decide) (Nat.le_of_ble_eq_true rfl) (Nat.le_of_ble_eq_true rfl) d_Sc_init_35 (fun q35 H hP hD hS => ?_)
  have hP : va_P D um_cl [(h0, .inr (5, [.ref q8, .ref q17, .ref q26, .null, .null, .null, .null, .null, .int 0, .int 0])), (q8, .inl (cA, 2001, .inl (fun _ => 0))), (q17, .inl (cA, 2001, .inl (fun _ => 0))), (q26, .inl (cA, 2001, .inl (fun _ => 0))), (q35, .inl (cA, 2001, .inl (fun _ => 0)))] H := hP
  have hD : va_D A [(h0, .inr (5, [.ref q8, .ref q17, .ref q26, .null, .null, .null, .null, .null, .int 0, .int 0])), (q8, .inl (cA, 2001, .inl (fun _ => 0))), (q17, .inl (cA, 2001, .inl (fun _ => 0))), (q26, .inl (cA, 2001, .inl (fun _ => 0))), (q35, .inl (cA, 2001, .inl (fun _ => 0)))] := hD
  refine W.widen (k := 4) (n := 8004) (Nat.le_of_ble_eq_true rfl) (Nat.le_of_ble_eq_true rfl) ?_
  refine va_putF (D := D) (ci := 5) (v := .ref q35) (ty := .array .int) (C := R_Sc) (T := F_Sc) (N := 10) hx hb hts (ca_in cl_Sc) t_Sc t_Sc_ok n_Sc_ok hown hK hP hD hS 0 rfl rfl 3 (by decide) (hok _ wfi_Sc_21) (fun _ h9 => h9) rfl hin rfl (by decide +kernel) rfl rfl (Nat.le_of_ble_eq_true rfl) d_Sc_init_37 (fun H locs hP hD hS => ?_)
  have hP : va_P D um_cl [(h0, .inr (5, [.ref q8, .ref q17, .ref q26, .ref q35, .null, .null, .null, .null, .int 0, .int 0])), (q8, .inl (cA, 2001, .inl (fun _ => 0))), (q17, .inl (cA, 2001, .inl (fun _ => 0))), (q26, .inl (cA, 2001, .inl (fun _ => 0))), (q35, .inl (cA, 2001, .inl (fun _ => 0)))] H := hP
  have hD : va_D A [(h0, .inr (5, [.ref q8, .ref q17, .ref q26, .ref q35, .null, .null, .null, .null, .int 0, .int 0])), (q8, .inl (cA, 2001, .inl (fun _ => 0))), (q17, .inl (cA, 2001, .inl (fun _ => 0))), (q26, .inl (cA, 2001, .inl (fun _ => 0))), (q35, .inl (cA, 2001, .inl (fun _ => 0)))] := hD
  refine lv_aload_n hx hb d_Sc_init_40 rfl (lv_at hl 0 rfl) ?_
  refine lv_sipush (v := 2001) hx hb d_Sc_init_41 (by decide) ?_
  refine ca_newa (n := 2001) (N := 2001) hx hb harr hK hP hD hS hA (by decide) (by decide) (by decide) (Nat.le_of_ble_eq_true rfl) (Nat.le_of_ble_eq_true rfl) d_Sc_init_44 (fun q44 H hP hD hS => ?_)
  have hP : va_P D um_cl [(h0, .inr (5, [.ref q8, .ref q17, .ref q26, .ref q35, .null, .null, .null, .null, .int 0, .int 0])), (q8, .inl (cA, 2001, .inl (fun _ => 0))), (q17, .inl (cA, 2001, .inl (fun _ => 0))), (q26, .inl (cA, 2001, .inl (fun _ => 0))), (q35, .inl (cA, 2001, .inl (fun _ => 0))), (q44, .inl (cA, 2001, .inl (fun _ => 0)))] H := hP
  have hD : va_D A [(h0, .inr (5, [.ref q8, .ref q17, .ref q26, .ref q35, .null, .null, .null, .null, .int 0, .int 0])), (q8, .inl (cA, 2001, .inl (fun _ => 0))), (q17, .inl (cA, 2001, .inl (fun _ => 0))), (q26, .inl (cA, 2001, .inl (fun _ => 0))), (q35, .inl (cA, 2001, .inl (fun _ => 0))), (q44, .inl (cA, 2001, .inl (fun _ => 0)))] := hD
  refine W.widen (k := 5) (n := 10005) (Nat.le_of_ble_eq_true rfl) (Nat.le_of_ble_eq_true rfl) ?_
  refine va_putF (D := D) (ci := 5) (v := .ref q44) (ty := .array .int) (C := R_Sc) (T := F_Sc) (N := 10) hx hb hts (ca_in cl_Sc) t_Sc t_Sc_ok n_Sc_ok hown hK hP hD hS 0 rfl rfl 4 (by decide) (hok _ wfi_Sc_24) (fun _ h9 => h9) rfl hin rfl (by decide +kernel) rfl rfl (Nat.le_of_ble_eq_true rfl) d_Sc_init_46 (fun H locs hP hD hS => ?_)
  have hP : va_P D um_cl [(h0, .inr (5, [.ref q8, .ref q17, .ref q26, .ref q35, .ref q44, .null, .null, .null, .int 0, .int 0])), (q8, .inl (cA, 2001, .inl (fun _ => 0))), (q17, .inl (cA, 2001, .inl (fun _ => 0))), (q26, .inl (cA, 2001, .inl (fun _ => 0))), (q35, .inl (cA, 2001, .inl (fun _ => 0))), (q44, .inl (cA, 2001, .inl (fun _ => 0)))] H := hP
  have hD : va_D A [(h0, .inr (5, [.ref q8, .ref q17, .ref q26, .ref q35, .ref q44, .null, .null, .null, .int 0, .int 0])), (q8, .inl (cA, 2001, .inl (fun _ => 0))), (q17, .inl (cA, 2001, .inl (fun _ => 0))), (q26, .inl (cA, 2001, .inl (fun _ => 0))), (q35, .inl (cA, 2001, .inl (fun _ => 0))), (q44, .inl (cA, 2001, .inl (fun _ => 0)))] := hD
  refine lv_aload_n hx hb d_Sc_init_49 rfl (lv_at hl 0 rfl) ?_
  refine lv_sipush (v := 2001) hx hb d_Sc_init_50 (by decide) ?_
  refine ca_newa (n := 2001) (N := 2001) hx hb harr hK hP hD hS hA (by decide) (by decide) (by decide) (Nat.le_of_ble_eq_true rfl) (Nat.le_of_ble_eq_true rfl) d_Sc_init_53 (fun q53 H hP hD hS => ?_)
  have hP : va_P D um_cl [(h0, .inr (5, [.ref q8, .ref q17, .ref q26, .ref q35, .ref q44, .null, .null, .null, .int 0, .int 0])), (q8, .inl (cA, 2001, .inl (fun _ => 0))), (q17, .inl (cA, 2001, .inl (fun _ => 0))), (q26, .inl (cA, 2001, .inl (fun _ => 0))), (q35, .inl (cA, 2001, .inl (fun _ => 0))), (q44, .inl (cA, 2001, .inl (fun _ => 0))), (q53, .inl (cA, 2001, .inl (fun _ => 0)))] H := hP
  have hD : va_D A [(h0, .inr (5, [.ref q8, .ref q17, .ref q26, .ref q35, .ref q44, .null, .null, .null, .int 0, .int 0])), (q8, .inl (cA, 2001, .inl (fun _ => 0))), (q17, .inl (cA, 2001, .inl (fun _ => 0))), (q26, .inl (cA, 2001, .inl (fun _ => 0))), (q35, .inl (cA, 2001, .inl (fun _ => 0))), (q44, .inl (cA, 2001, .inl (fun _ => 0))), (q53, .inl (cA, 2001, .inl (fun _ => 0)))] := hD
  refine W.widen (k := 6) (n := 12006) (Nat.le_of_ble_eq_true rfl) (Nat.le_of_ble_eq_true rfl) ?_
  refine va_putF (D := D) (ci := 5) (v := .ref q53) (ty := .array .int) (C := R_Sc) (T := F_Sc) (N := 10) hx hb hts (ca_in cl_Sc) t_Sc t_Sc_ok n_Sc_ok hown hK hP hD hS 0 rfl rfl 5 (by decide) (hok _ wfi_Sc_27) (fun _ h9 => h9) rfl hin rfl (by decide +kernel) rfl rfl (Nat.le_of_ble_eq_true rfl) d_Sc_init_55 (fun H locs hP hD hS => ?_)
  have hP : va_P D um_cl [(h0, .inr (5, [.ref q8, .ref q17, .ref q26, .ref q35, .ref q44, .ref q53, .null, .null, .int 0, .int 0])), (q8, .inl (cA, 2001, .inl (fun _ => 0))), (q17, .inl (cA, 2001, .inl (fun _ => 0))), (q26, .inl (cA, 2001, .inl (fun _ => 0))), (q35, .inl (cA, 2001, .inl (fun _ => 0))), (q44, .inl (cA, 2001, .inl (fun _ => 0))), (q53, .inl (cA, 2001, .inl (fun _ => 0)))] H := hP
  have hD : va_D A [(h0, .inr (5, [.ref q8, .ref q17, .ref q26, .ref q35, .ref q44, .ref q53, .null, .null, .int 0, .int 0])), (q8, .inl (cA, 2001, .inl (fun _ => 0))), (q17, .inl (cA, 2001, .inl (fun _ => 0))), (q26, .inl (cA, 2001, .inl (fun _ => 0))), (q35, .inl (cA, 2001, .inl (fun _ => 0))), (q44, .inl (cA, 2001, .inl (fun _ => 0))), (q53, .inl (cA, 2001, .inl (fun _ => 0)))] := hD
  refine lv_aload_n hx hb d_Sc_init_58 rfl (lv_at hl 0 rfl) ?_
  refine lv_sipush (v := 2001) hx hb d_Sc_init_59 (by decide) ?_
  refine ca_newa (n := 2001) (N := 2001) hx hb harr hK hP hD hS hA (by decide) (by decide) (by decide) (Nat.le_of_ble_eq_true rfl) (Nat.le_of_ble_eq_true rfl) d_Sc_init_62 (fun q62 H hP hD hS => ?_)
  have hP : va_P D um_cl [(h0, .inr (5, [.ref q8, .ref q17, .ref q26, .ref q35, .ref q44, .ref q53, .null, .null, .int 0, .int 0])), (q8, .inl (cA, 2001, .inl (fun _ => 0))), (q17, .inl (cA, 2001, .inl (fun _ => 0))), (q26, .inl (cA, 2001, .inl (fun _ => 0))), (q35, .inl (cA, 2001, .inl (fun _ => 0))), (q44, .inl (cA, 2001, .inl (fun _ => 0))), (q53, .inl (cA, 2001, .inl (fun _ => 0))), (q62, .inl (cA, 2001, .inl (fun _ => 0)))] H := hP
  have hD : va_D A [(h0, .inr (5, [.ref q8, .ref q17, .ref q26, .ref q35, .ref q44, .ref q53, .null, .null, .int 0, .int 0])), (q8, .inl (cA, 2001, .inl (fun _ => 0))), (q17, .inl (cA, 2001, .inl (fun _ => 0))), (q26, .inl (cA, 2001, .inl (fun _ => 0))), (q35, .inl (cA, 2001, .inl (fun _ => 0))), (q44, .inl (cA, 2001, .inl (fun _ => 0))), (q53, .inl (cA, 2001, .inl (fun _ => 0))), (q62, .inl (cA, 2001, .inl (fun _ => 0)))] := hD
  refine W.widen (k := 7) (n := 14007) (Nat.le_of_ble_eq_true rfl) (Nat.le_of_ble_eq_true rfl) ?_
  refine va_putF (D := D) (ci := 5) (v := .ref q62) (ty := .array .int) (C := R_Sc) (T := F_Sc) (N := 10) hx hb hts (ca_in cl_Sc) t_Sc t_Sc_ok n_Sc_ok hown hK hP hD hS 0 rfl rfl 6 (by decide) (hok _ wfi_Sc_30) (fun _ h9 => h9) rfl hin rfl (by decide +kernel) rfl rfl (Nat.le_of_ble_eq_true rfl) d_Sc_init_64 (fun H locs hP hD hS => ?_)
  have hP : va_P D um_cl [(h0, .inr (5, [.ref q8, .ref q17, .ref q26, .ref q35, .ref q44, .ref q53, .ref q62, .null, .int 0, .int 0])), (q8, .inl (cA, 2001, .inl (fun _ => 0))), (q17, .inl (cA, 2001, .inl (fun _ => 0))), (q26, .inl (cA, 2001, .inl (fun _ => 0))), (q35, .inl (cA, 2001, .inl (fun _ => 0))), (q44, .inl (cA, 2001, .inl (fun _ => 0))), (q53, .inl (cA, 2001, .inl (fun _ => 0))), (q62, .inl (cA, 2001, .inl (fun _ => 0)))] H := hP
  have hD : va_D A [(h0, .inr (5, [.ref q8, .ref q17, .ref q26, .ref q35, .ref q44, .ref q53, .ref q62, .null, .int 0, .int 0])), (q8, .inl (cA, 2001, .inl (fun _ => 0))), (q17, .inl (cA, 2001, .inl (fun _ => 0))), (q26, .inl (cA, 2001, .inl (fun _ => 0))), (q35, .inl (cA, 2001, .inl (fun _ => 0))), (q44, .inl (cA, 2001, .inl (fun _ => 0))), (q53, .inl (cA, 2001, .inl (fun _ => 0))), (q62, .inl (cA, 2001, .inl (fun _ => 0)))] := hD
  refine lv_aload_n hx hb d_Sc_init_67 rfl (lv_at hl 0 rfl) ?_
  refine lv_sipush (v := 2001) hx hb d_Sc_init_68 (by decide) ?_
  refine ca_newa (n := 2001) (N := 2001) hx hb harr hK hP hD hS hA (by decide) (by decide) (by decide) (Nat.le_of_ble_eq_true rfl) (Nat.le_of_ble_eq_true rfl) d_Sc_init_71 (fun q71 H hP hD hS => ?_)
  have hP : va_P D um_cl [(h0, .inr (5, [.ref q8, .ref q17, .ref q26, .ref q35, .ref q44, .ref q53, .ref q62, .null, .int 0, .int 0])), (q8, .inl (cA, 2001, .inl (fun _ => 0))), (q17, .inl (cA, 2001, .inl (fun _ => 0))), (q26, .inl (cA, 2001, .inl (fun _ => 0))), (q35, .inl (cA, 2001, .inl (fun _ => 0))), (q44, .inl (cA, 2001, .inl (fun _ => 0))), (q53, .inl (cA, 2001, .inl (fun _ => 0))), (q62, .inl (cA, 2001, .inl (fun _ => 0))), (q71, .inl (cA, 2001, .inl (fun _ => 0)))] H := hP
  have hD : va_D A [(h0, .inr (5, [.ref q8, .ref q17, .ref q26, .ref q35, .ref q44, .ref q53, .ref q62, .null, .int 0, .int 0])), (q8, .inl (cA, 2001, .inl (fun _ => 0))), (q17, .inl (cA, 2001, .inl (fun _ => 0))), (q26, .inl (cA, 2001, .inl (fun _ => 0))), (q35, .inl (cA, 2001, .inl (fun _ => 0))), (q44, .inl (cA, 2001, .inl (fun _ => 0))), (q53, .inl (cA, 2001, .inl (fun _ => 0))), (q62, .inl (cA, 2001, .inl (fun _ => 0))), (q71, .inl (cA, 2001, .inl (fun _ => 0)))] := hD
  refine W.widen (k := 8) (n := 16008) (Nat.le_of_ble_eq_true rfl) (Nat.le_of_ble_eq_true rfl) ?_
  refine va_putF (D := D) (ci := 5) (v := .ref q71) (ty := .array .int) (C := R_Sc) (T := F_Sc) (N := 10) hx hb hts (ca_in cl_Sc) t_Sc t_Sc_ok n_Sc_ok hown hK hP hD hS 0 rfl rfl 7 (by decide) (hok _ wfi_Sc_33) (fun _ h9 => h9) rfl hin rfl (by decide +kernel) rfl rfl (Nat.le_of_ble_eq_true rfl) d_Sc_init_73 (fun H locs hP hD hS => ?_)
  have hP : va_P D um_cl [(h0, .inr (5, [.ref q8, .ref q17, .ref q26, .ref q35, .ref q44, .ref q53, .ref q62, .ref q71, .int 0, .int 0])), (q8, .inl (cA, 2001, .inl (fun _ => 0))), (q17, .inl (cA, 2001, .inl (fun _ => 0))), (q26, .inl (cA, 2001, .inl (fun _ => 0))), (q35, .inl (cA, 2001, .inl (fun _ => 0))), (q44, .inl (cA, 2001, .inl (fun _ => 0))), (q53, .inl (cA, 2001, .inl (fun _ => 0))), (q62, .inl (cA, 2001, .inl (fun _ => 0))), (q71, .inl (cA, 2001, .inl (fun _ => 0)))] H := hP
  have hD : va_D A [(h0, .inr (5, [.ref q8, .ref q17, .ref q26, .ref q35, .ref q44, .ref q53, .ref q62, .ref q71, .int 0, .int 0])), (q8, .inl (cA, 2001, .inl (fun _ => 0))), (q17, .inl (cA, 2001, .inl (fun _ => 0))), (q26, .inl (cA, 2001, .inl (fun _ => 0))), (q35, .inl (cA, 2001, .inl (fun _ => 0))), (q44, .inl (cA, 2001, .inl (fun _ => 0))), (q53, .inl (cA, 2001, .inl (fun _ => 0))), (q62, .inl (cA, 2001, .inl (fun _ => 0))), (q71, .inl (cA, 2001, .inl (fun _ => 0)))] := hD
  refine W.widen (k := 8) (n := 16008) (Nat.le_of_ble_eq_true rfl) (Nat.le_of_ble_eq_true rfl) ?_
  exact W.vret hx hb hr (fun t ht hW => ⟨⟨fun j => ([h0, q8, q17, q26, q35, q44, q53, q62, q71] : List Nat).getD j 0, rfl, rfl, by rw [ht]; exact hP, va_K.moved hW.alike hK, hD⟩, hS.F ht⟩) hS.2.2 d_Sc_init_76
set_option maxHeartbeats 4000000 in
set_option maxRecDepth 100000 in
theorem k_Wo (l : Launch) (D : va_G) (cA : ClassId) (h0 sz : Nat) : Met l M_Wo_init.1 (um_wd um_AW M_Wo_init) { frames := 1, cells := 4, slots := 8004, locals := 20 }
    (ca_Pc D cA sz [.ref h0] [(h0, .inr (6, [.null, .null, .null, .null, .int 0]))]) (va_Qv (fun ad : Nat → Nat => ad 0 = h0) (fun ad t => va_P D um_cl [(ad 0, .inr (6, [.ref (ad 1), .ref (ad 2), .ref (ad 3), .ref (ad 4), .int 0])), (ad 1, .inl (cA, 2001, .inl (fun _ => 0))), (ad 2, .inl (cA, 2001, .inl (fun _ => 0))), (ad 3, .inl (cA, 2001, .inl (fun _ => 0))), (ad 4, .inl (cA, 2001, .inl (fun _ => 0)))] t.heap ∧ va_K D um_cl [(cA, .int)] t ∧ va_D (va_A [(h0, .inr (6, [.null, .null, .null, .null, .int 0]))] sz) [(ad 0, .inr (6, [.ref (ad 1), .ref (ad 2), .ref (ad 3), .ref (ad 4), .int 0])), (ad 1, .inl (cA, 2001, .inl (fun _ => 0))), (ad 2, .inl (cA, 2001, .inl (fun _ => 0))), (ad 3, .inl (cA, 2001, .inl (fun _ => 0))), (ad 4, .inl (cA, 2001, .inl (fun _ => 0)))]) (va_A [(h0, .inr (6, [.null, .null, .null, .null, .int 0]))] sz)) 4 8004 (va_A [(h0, .inr (6, [.null, .null, .null, .null, .int 0]))] sz) := by
  refine Met.ofW (cc := b_Wo_init) (maxL := 1) (ret := none) (by decide) rfl ?_
  intro p e s m args below meth c s₁ B hml hv
  obtain ⟨rfl, hsz, hP, hK, hD0, hNw⟩ := hv
  have hx := B.exec
  have hb := B.bytes
  have hr := B.returns
  have hts := atoms_spec (ws := um_wd um_AW M_Wo_init) B.pre
  have hok : ∀ w ∈ um_AW, w.before _ s = true := fun w hw => hts w (List.mem_cons_of_mem _ hw)
  have hown : s.vm.findClass R_Wo = some m.cls := findClass_of_methodNamed B.named
  have hlocks := B.notSynchronized
  have hin : meth.name = "<init>" := (name_of_methodNamed B.named B.method).1
  have harr := hok _ wo_arr
  subst hsz
  have hD := hD0.self (sz := s.heap.size)
  generalize hAe : va_A [(h0, .inr (6, [.null, .null, .null, .null, .int 0]))] s.heap.size = A at hD ⊢
  have hA : ∀ q : Nat, s.heap.size ≤ q → A q := fun q h => by rw [← hAe]; exact Or.inr h
  have hS : va_S A s.heap s.heap [] := va_S.rf
  have hP : va_P D um_cl [(h0, .inr (6, [.null, .null, .null, .null, .int 0]))] s.heap := hP
  have hl := lv_entry ([.ref h0]) (n := 1) (Nat.le_of_ble_eq_true rfl)
  rw [lg_entry_eq]
  generalize (lg_sl ([.ref h0]) ++ List.replicate (1 - (lg_sl ([.ref h0])).length) Slot.unset).toArray = ls at hl ⊢
  have hl : lv_has ls 1 [(0, .ref h0)] := hl
  refine lv_aload_n hx hb d_Wo_init_0 rfl (lv_at hl 0 rfl) ?_
  refine W.objInit hx hb hown (hok _ wlo_Wo) (hok _ wo_inst) (hok _ wo_code) rfl (by rw [hml]; exact hl.1) rfl d_Wo_init_1 (Nat.le_of_ble_eq_true rfl) (Nat.le_of_ble_eq_true rfl) ?_
  refine W.eq (g2 := F0 m 4 ls []) rfl ?_
  refine lv_aload_n hx hb d_Wo_init_4 rfl (lv_at hl 0 rfl) ?_
  refine lv_sipush (v := 2001) hx hb d_Wo_init_5 (by decide) ?_
  refine ca_newa (n := 2001) (N := 2001) hx hb harr hK hP hD hS hA (by decide) (by decide) (by decide) (Nat.le_of_ble_eq_true rfl) (Nat.le_of_ble_eq_true rfl) d_Wo_init_8 (fun q8 H hP hD hS => ?_)
  have hP : va_P D um_cl [(h0, .inr (6, [.null, .null, .null, .null, .int 0])), (q8, .inl (cA, 2001, .inl (fun _ => 0)))] H := hP
  have hD : va_D A [(h0, .inr (6, [.null, .null, .null, .null, .int 0])), (q8, .inl (cA, 2001, .inl (fun _ => 0)))] := hD
  refine W.widen (k := 1) (n := 2001) (Nat.le_of_ble_eq_true rfl) (Nat.le_of_ble_eq_true rfl) ?_
  refine va_putF (D := D) (ci := 6) (v := .ref q8) (ty := .array .int) (C := R_Wo) (T := F_Wo) (N := 5) hx hb hts (ca_in cl_Wo) t_Wo t_Wo_ok n_Wo_ok hown hK hP hD hS 0 rfl rfl 0 (by decide) (hok _ wfi_Wo_11) (fun _ h9 => h9) rfl hin rfl (by decide +kernel) rfl rfl (Nat.le_of_ble_eq_true rfl) d_Wo_init_10 (fun H locs hP hD hS => ?_)
  have hP : va_P D um_cl [(h0, .inr (6, [.ref q8, .null, .null, .null, .int 0])), (q8, .inl (cA, 2001, .inl (fun _ => 0)))] H := hP
  have hD : va_D A [(h0, .inr (6, [.ref q8, .null, .null, .null, .int 0])), (q8, .inl (cA, 2001, .inl (fun _ => 0)))] := hD
  refine lv_aload_n hx hb d_Wo_init_13 rfl (lv_at hl 0 rfl) ?_
  refine lv_sipush (v := 2001) hx hb d_Wo_init_14 (by decide) ?_
  refine ca_newa (n := 2001) (N := 2001) hx hb harr hK hP hD hS hA (by decide) (by decide) (by decide) (Nat.le_of_ble_eq_true rfl) (Nat.le_of_ble_eq_true rfl) d_Wo_init_17 (fun q17 H hP hD hS => ?_)
  have hP : va_P D um_cl [(h0, .inr (6, [.ref q8, .null, .null, .null, .int 0])), (q8, .inl (cA, 2001, .inl (fun _ => 0))), (q17, .inl (cA, 2001, .inl (fun _ => 0)))] H := hP
  have hD : va_D A [(h0, .inr (6, [.ref q8, .null, .null, .null, .int 0])), (q8, .inl (cA, 2001, .inl (fun _ => 0))), (q17, .inl (cA, 2001, .inl (fun _ => 0)))] := hD
  refine W.widen (k := 2) (n := 4002) (Nat.le_of_ble_eq_true rfl) (Nat.le_of_ble_eq_true rfl) ?_
  refine va_putF (D := D) (ci := 6) (v := .ref q17) (ty := .array .int) (C := R_Wo) (T := F_Wo) (N := 5) hx hb hts (ca_in cl_Wo) t_Wo t_Wo_ok n_Wo_ok hown hK hP hD hS 0 rfl rfl 1 (by decide) (hok _ wfi_Wo_15) (fun _ h9 => h9) rfl hin rfl (by decide +kernel) rfl rfl (Nat.le_of_ble_eq_true rfl) d_Wo_init_19 (fun H locs hP hD hS => ?_)
  have hP : va_P D um_cl [(h0, .inr (6, [.ref q8, .ref q17, .null, .null, .int 0])), (q8, .inl (cA, 2001, .inl (fun _ => 0))), (q17, .inl (cA, 2001, .inl (fun _ => 0)))] H := hP
  have hD : va_D A [(h0, .inr (6, [.ref q8, .ref q17, .null, .null, .int 0])), (q8, .inl (cA, 2001, .inl (fun _ => 0))), (q17, .inl (cA, 2001, .inl (fun _ => 0)))] := hD
  refine lv_aload_n hx hb d_Wo_init_22 rfl (lv_at hl 0 rfl) ?_
  refine lv_sipush (v := 2001) hx hb d_Wo_init_23 (by decide) ?_
  refine ca_newa (n := 2001) (N := 2001) hx hb harr hK hP hD hS hA (by decide) (by decide) (by decide) (Nat.le_of_ble_eq_true rfl) (Nat.le_of_ble_eq_true rfl) d_Wo_init_26 (fun q26 H hP hD hS => ?_)
  have hP : va_P D um_cl [(h0, .inr (6, [.ref q8, .ref q17, .null, .null, .int 0])), (q8, .inl (cA, 2001, .inl (fun _ => 0))), (q17, .inl (cA, 2001, .inl (fun _ => 0))), (q26, .inl (cA, 2001, .inl (fun _ => 0)))] H := hP
  have hD : va_D A [(h0, .inr (6, [.ref q8, .ref q17, .null, .null, .int 0])), (q8, .inl (cA, 2001, .inl (fun _ => 0))), (q17, .inl (cA, 2001, .inl (fun _ => 0))), (q26, .inl (cA, 2001, .inl (fun _ => 0)))] := hD
  refine W.widen (k := 3) (n := 6003) (Nat.le_of_ble_eq_true rfl) (Nat.le_of_ble_eq_true rfl) ?_
  refine va_putF (D := D) (ci := 6) (v := .ref q26) (ty := .array .int) (C := R_Wo) (T := F_Wo) (N := 5) hx hb hts (ca_in cl_Wo) t_Wo t_Wo_ok n_Wo_ok hown hK hP hD hS 0 rfl rfl 2 (by decide) (hok _ wfi_Wo_18) (fun _ h9 => h9) rfl hin rfl (by decide +kernel) rfl rfl (Nat.le_of_ble_eq_true rfl) d_Wo_init_28 (fun H locs hP hD hS => ?_)
  have hP : va_P D um_cl [(h0, .inr (6, [.ref q8, .ref q17, .ref q26, .null, .int 0])), (q8, .inl (cA, 2001, .inl (fun _ => 0))), (q17, .inl (cA, 2001, .inl (fun _ => 0))), (q26, .inl (cA, 2001, .inl (fun _ => 0)))] H := hP
  have hD : va_D A [(h0, .inr (6, [.ref q8, .ref q17, .ref q26, .null, .int 0])), (q8, .inl (cA, 2001, .inl (fun _ => 0))), (q17, .inl (cA, 2001, .inl (fun _ => 0))), (q26, .inl (cA, 2001, .inl (fun _ => 0)))] := hD
  refine lv_aload_n hx hb d_Wo_init_31 rfl (lv_at hl 0 rfl) ?_
  refine lv_sipush (v := 2001) hx hb d_Wo_init_32 (by decide) ?_
  refine ca_newa (n := 2001) (N := 2001) hx hb harr hK hP hD hS hA (by decide) (by decide) (by decide) (Nat.le_of_ble_eq_true rfl) (Nat.le_of_ble_eq_true rfl) d_Wo_init_35 (fun q35 H hP hD hS => ?_)
  have hP : va_P D um_cl [(h0, .inr (6, [.ref q8, .ref q17, .ref q26, .null, .int 0])), (q8, .inl (cA, 2001, .inl (fun _ => 0))), (q17, .inl (cA, 2001, .inl (fun _ => 0))), (q26, .inl (cA, 2001, .inl (fun _ => 0))), (q35, .inl (cA, 2001, .inl (fun _ => 0)))] H := hP
  have hD : va_D A [(h0, .inr (6, [.ref q8, .ref q17, .ref q26, .null, .int 0])), (q8, .inl (cA, 2001, .inl (fun _ => 0))), (q17, .inl (cA, 2001, .inl (fun _ => 0))), (q26, .inl (cA, 2001, .inl (fun _ => 0))), (q35, .inl (cA, 2001, .inl (fun _ => 0)))] := hD
  refine W.widen (k := 4) (n := 8004) (Nat.le_of_ble_eq_true rfl) (Nat.le_of_ble_eq_true rfl) ?_
  refine va_putF (D := D) (ci := 6) (v := .ref q35) (ty := .array .int) (C := R_Wo) (T := F_Wo) (N := 5) hx hb hts (ca_in cl_Wo) t_Wo t_Wo_ok n_Wo_ok hown hK hP hD hS 0 rfl rfl 3 (by decide) (hok _ wfi_Wo_21) (fun _ h9 => h9) rfl hin rfl (by decide +kernel) rfl rfl (Nat.le_of_ble_eq_true rfl) d_Wo_init_37 (fun H locs hP hD hS => ?_)
  have hP : va_P D um_cl [(h0, .inr (6, [.ref q8, .ref q17, .ref q26, .ref q35, .int 0])), (q8, .inl (cA, 2001, .inl (fun _ => 0))), (q17, .inl (cA, 2001, .inl (fun _ => 0))), (q26, .inl (cA, 2001, .inl (fun _ => 0))), (q35, .inl (cA, 2001, .inl (fun _ => 0)))] H := hP
  have hD : va_D A [(h0, .inr (6, [.ref q8, .ref q17, .ref q26, .ref q35, .int 0])), (q8, .inl (cA, 2001, .inl (fun _ => 0))), (q17, .inl (cA, 2001, .inl (fun _ => 0))), (q26, .inl (cA, 2001, .inl (fun _ => 0))), (q35, .inl (cA, 2001, .inl (fun _ => 0)))] := hD
  refine W.widen (k := 4) (n := 8004) (Nat.le_of_ble_eq_true rfl) (Nat.le_of_ble_eq_true rfl) ?_
  exact W.vret hx hb hr (fun t ht hW => ⟨⟨fun j => ([h0, q8, q17, q26, q35] : List Nat).getD j 0, rfl, rfl, by rw [ht]; exact hP, va_K.moved hW.alike hK, hD⟩, hS.F ht⟩) hS.2.2 d_Wo_init_40
set_option maxHeartbeats 4000000 in
set_option maxRecDepth 100000 in
theorem k_Ha (l : Launch) (D : va_G) (cA : ClassId) (h0 sz : Nat) : Met l M_Ha_init.1 (um_wd um_AW M_Ha_init) { frames := 1, cells := 3, slots := 1503, locals := 20 }
    (ca_Pc D cA sz [.ref h0] [(h0, .inr (7, [.null, .null, .null, .int 0]))]) (va_Qv (fun ad : Nat → Nat => ad 0 = h0) (fun ad t => va_P D um_cl [(ad 0, .inr (7, [.ref (ad 1), .ref (ad 2), .ref (ad 3), .int 0])), (ad 1, .inl (cA, 501, .inl (fun _ => 0))), (ad 2, .inl (cA, 501, .inl (fun _ => 0))), (ad 3, .inl (cA, 501, .inl (fun _ => 0)))] t.heap ∧ va_K D um_cl [(cA, .int)] t ∧ va_D (va_A [(h0, .inr (7, [.null, .null, .null, .int 0]))] sz) [(ad 0, .inr (7, [.ref (ad 1), .ref (ad 2), .ref (ad 3), .int 0])), (ad 1, .inl (cA, 501, .inl (fun _ => 0))), (ad 2, .inl (cA, 501, .inl (fun _ => 0))), (ad 3, .inl (cA, 501, .inl (fun _ => 0)))]) (va_A [(h0, .inr (7, [.null, .null, .null, .int 0]))] sz)) 3 1503 (va_A [(h0, .inr (7, [.null, .null, .null, .int 0]))] sz) := by
  refine Met.ofW (cc := b_Ha_init) (maxL := 1) (ret := none) (by decide) rfl ?_
  intro p e s m args below meth c s₁ B hml hv
  obtain ⟨rfl, hsz, hP, hK, hD0, hNw⟩ := hv
  have hx := B.exec
  have hb := B.bytes
  have hr := B.returns
  have hts := atoms_spec (ws := um_wd um_AW M_Ha_init) B.pre
  have hok : ∀ w ∈ um_AW, w.before _ s = true := fun w hw => hts w (List.mem_cons_of_mem _ hw)
  have hown : s.vm.findClass R_Ha = some m.cls := findClass_of_methodNamed B.named
  have hlocks := B.notSynchronized
  have hin : meth.name = "<init>" := (name_of_methodNamed B.named B.method).1
  have harr := hok _ wo_arr
  subst hsz
  have hD := hD0.self (sz := s.heap.size)
  generalize hAe : va_A [(h0, .inr (7, [.null, .null, .null, .int 0]))] s.heap.size = A at hD ⊢
  have hA : ∀ q : Nat, s.heap.size ≤ q → A q := fun q h => by rw [← hAe]; exact Or.inr h
  have hS : va_S A s.heap s.heap [] := va_S.rf
  have hP : va_P D um_cl [(h0, .inr (7, [.null, .null, .null, .int 0]))] s.heap := hP
  have hl := lv_entry ([.ref h0]) (n := 1) (Nat.le_of_ble_eq_true rfl)
  rw [lg_entry_eq]
  generalize (lg_sl ([.ref h0]) ++ List.replicate (1 - (lg_sl ([.ref h0])).length) Slot.unset).toArray = ls at hl ⊢
  have hl : lv_has ls 1 [(0, .ref h0)] := hl
  refine lv_aload_n hx hb d_Ha_init_0 rfl (lv_at hl 0 rfl) ?_
  refine W.objInit hx hb hown (hok _ wlo_Ha) (hok _ wo_inst) (hok _ wo_code) rfl (by rw [hml]; exact hl.1) rfl d_Ha_init_1 (Nat.le_of_ble_eq_true rfl) (Nat.le_of_ble_eq_true rfl) ?_
  refine W.eq (g2 := F0 m 4 ls []) rfl ?_
  refine lv_aload_n hx hb d_Ha_init_4 rfl (lv_at hl 0 rfl) ?_
  refine lv_sipush (v := 501) hx hb d_Ha_init_5 (by decide) ?_
  refine ca_newa (n := 501) (N := 501) hx hb harr hK hP hD hS hA (by decide) (by decide) (by decide) (Nat.le_of_ble_eq_true rfl) (Nat.le_of_ble_eq_true rfl) d_Ha_init_8 (fun q8 H hP hD hS => ?_)
  have hP : va_P D um_cl [(h0, .inr (7, [.null, .null, .null, .int 0])), (q8, .inl (cA, 501, .inl (fun _ => 0)))] H := hP
  have hD : va_D A [(h0, .inr (7, [.null, .null, .null, .int 0])), (q8, .inl (cA, 501, .inl (fun _ => 0)))] := hD
  refine W.widen (k := 1) (n := 501) (Nat.le_of_ble_eq_true rfl) (Nat.le_of_ble_eq_true rfl) ?_
  refine va_putF (D := D) (ci := 7) (v := .ref q8) (ty := .array .int) (C := R_Ha) (T := F_Ha) (N := 4) hx hb hts (ca_in cl_Ha) t_Ha t_Ha_ok n_Ha_ok hown hK hP hD hS 0 rfl rfl 0 (by decide) (hok _ wfi_Ha_11) (fun _ h9 => h9) rfl hin rfl (by decide +kernel) rfl rfl (Nat.le_of_ble_eq_true rfl) d_Ha_init_10 (fun H locs hP hD hS => ?_)
  have hP : va_P D um_cl [(h0, .inr (7, [.ref q8, .null, .null, .int 0])), (q8, .inl (cA, 501, .inl (fun _ => 0)))] H := hP
  have hD : va_D A [(h0, .inr (7, [.ref q8, .null, .null, .int 0])), (q8, .inl (cA, 501, .inl (fun _ => 0)))] := hD
  refine lv_aload_n hx hb d_Ha_init_13 rfl (lv_at hl 0 rfl) ?_
  refine lv_sipush (v := 501) hx hb d_Ha_init_14 (by decide) ?_
  refine ca_newa (n := 501) (N := 501) hx hb harr hK hP hD hS hA (by decide) (by decide) (by decide) (Nat.le_of_ble_eq_true rfl) (Nat.le_of_ble_eq_true rfl) d_Ha_init_17 (fun q17 H hP hD hS => ?_)
  have hP : va_P D um_cl [(h0, .inr (7, [.ref q8, .null, .null, .int 0])), (q8, .inl (cA, 501, .inl (fun _ => 0))), (q17, .inl (cA, 501, .inl (fun _ => 0)))] H := hP
  have hD : va_D A [(h0, .inr (7, [.ref q8, .null, .null, .int 0])), (q8, .inl (cA, 501, .inl (fun _ => 0))), (q17, .inl (cA, 501, .inl (fun _ => 0)))] := hD
  refine W.widen (k := 2) (n := 1002) (Nat.le_of_ble_eq_true rfl) (Nat.le_of_ble_eq_true rfl) ?_
  refine va_putF (D := D) (ci := 7) (v := .ref q17) (ty := .array .int) (C := R_Ha) (T := F_Ha) (N := 4) hx hb hts (ca_in cl_Ha) t_Ha t_Ha_ok n_Ha_ok hown hK hP hD hS 0 rfl rfl 1 (by decide) (hok _ wfi_Ha_15) (fun _ h9 => h9) rfl hin rfl (by decide +kernel) rfl rfl (Nat.le_of_ble_eq_true rfl) d_Ha_init_19 (fun H locs hP hD hS => ?_)
  have hP : va_P D um_cl [(h0, .inr (7, [.ref q8, .ref q17, .null, .int 0])), (q8, .inl (cA, 501, .inl (fun _ => 0))), (q17, .inl (cA, 501, .inl (fun _ => 0)))] H := hP
  have hD : va_D A [(h0, .inr (7, [.ref q8, .ref q17, .null, .int 0])), (q8, .inl (cA, 501, .inl (fun _ => 0))), (q17, .inl (cA, 501, .inl (fun _ => 0)))] := hD
  refine lv_aload_n hx hb d_Ha_init_22 rfl (lv_at hl 0 rfl) ?_
  refine lv_sipush (v := 501) hx hb d_Ha_init_23 (by decide) ?_
  refine ca_newa (n := 501) (N := 501) hx hb harr hK hP hD hS hA (by decide) (by decide) (by decide) (Nat.le_of_ble_eq_true rfl) (Nat.le_of_ble_eq_true rfl) d_Ha_init_26 (fun q26 H hP hD hS => ?_)
  have hP : va_P D um_cl [(h0, .inr (7, [.ref q8, .ref q17, .null, .int 0])), (q8, .inl (cA, 501, .inl (fun _ => 0))), (q17, .inl (cA, 501, .inl (fun _ => 0))), (q26, .inl (cA, 501, .inl (fun _ => 0)))] H := hP
  have hD : va_D A [(h0, .inr (7, [.ref q8, .ref q17, .null, .int 0])), (q8, .inl (cA, 501, .inl (fun _ => 0))), (q17, .inl (cA, 501, .inl (fun _ => 0))), (q26, .inl (cA, 501, .inl (fun _ => 0)))] := hD
  refine W.widen (k := 3) (n := 1503) (Nat.le_of_ble_eq_true rfl) (Nat.le_of_ble_eq_true rfl) ?_
  refine va_putF (D := D) (ci := 7) (v := .ref q26) (ty := .array .int) (C := R_Ha) (T := F_Ha) (N := 4) hx hb hts (ca_in cl_Ha) t_Ha t_Ha_ok n_Ha_ok hown hK hP hD hS 0 rfl rfl 2 (by decide) (hok _ wfi_Ha_18) (fun _ h9 => h9) rfl hin rfl (by decide +kernel) rfl rfl (Nat.le_of_ble_eq_true rfl) d_Ha_init_28 (fun H locs hP hD hS => ?_)
  have hP : va_P D um_cl [(h0, .inr (7, [.ref q8, .ref q17, .ref q26, .int 0])), (q8, .inl (cA, 501, .inl (fun _ => 0))), (q17, .inl (cA, 501, .inl (fun _ => 0))), (q26, .inl (cA, 501, .inl (fun _ => 0)))] H := hP
  have hD : va_D A [(h0, .inr (7, [.ref q8, .ref q17, .ref q26, .int 0])), (q8, .inl (cA, 501, .inl (fun _ => 0))), (q17, .inl (cA, 501, .inl (fun _ => 0))), (q26, .inl (cA, 501, .inl (fun _ => 0)))] := hD
  refine W.widen (k := 3) (n := 1503) (Nat.le_of_ble_eq_true rfl) (Nat.le_of_ble_eq_true rfl) ?_
  exact W.vret hx hb hr (fun t ht hW => ⟨⟨fun j => ([h0, q8, q17, q26] : List Nat).getD j 0, rfl, rfl, by rw [ht]; exact hP, va_K.moved hW.alike hK, hD⟩, hS.F ht⟩) hS.2.2 d_Ha_init_31
