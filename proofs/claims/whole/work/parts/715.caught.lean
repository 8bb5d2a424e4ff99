section ThrownC
variable {p : Program} {l : Launch} {e : Env} {s : State} {m : MethodId} {args : Array Value} {below : List Frame} {meth : Method} {c : Code} {H : Heap} {locs : List Loc} {cells slots : Nat} {Q : State → Prop} {R : Room} {cc : ByteArray} {D : va_G} {ad : Nat → Nat} {cA cL cI cE : ClassId} {tys : List (ClassId × FieldType)} {σ : um_S} {i w val : Int32} {k qo : Nat} {fo : Nat → Int64} {A : Nat → Prop}
/-! instruction and row of the law: they catch -/
def th_QL (k : Nat) (val : Int32) (D : va_G) (ad : Nat → Nat) (cA cL : ClassId) (qo : Nat) (σ : um_S) (A : Nat → Prop) (H : Heap) : Outcome → Heap → Prop := fun o H1 =>
  o = .returned (some (.int (nI k))) ∧ ∃ fo1 : Nat → Int64, (k = 0 → fo1 0 = val.toInt64) ∧ va_P D um_cl (um_ws ad cA um_L σ ++ lw_w2 qo cL fo1) H1 ∧ va_D A (um_ws ad cA um_L σ ++ lw_w2 qo cL fo1) ∧ H.size ≤ H1.size ∧ ∀ q, q < H.size → ¬ A q → H1[q]? = H[q]?
theorem th_wlen : (um_ws ad cA um_L σ).length = 76 := by rw [um_ws, List.length_mapIdx]; rfl
theorem th_w2at : (um_ws ad cA um_L σ ++ lw_w2 qo cL fo)[76]? = some (qo, .inl (cL, 1, .inr (.inl fo))) := by
  rw [List.getElem?_append_right (by rw [th_wlen]; exact Nat.le_refl _), th_wlen]
  rfl
theorem th_w2set {f1 : Nat → Int64} : (um_ws ad cA um_L σ ++ lw_w2 qo cL fo).set 76 (qo, .inl (cL, 1, .inr (.inl f1))) = um_ws ad cA um_L σ ++ lw_w2 qo cL f1 := by
  rw [List.set_append_right _ _ (by rw [th_wlen]; exact Nat.le_refl _), th_wlen]
  rfl
set_option maxHeartbeats 4000000 in
theorem th_Lw_instruction (hexec : p.tables.exec = Jvm.exec) (hb : c.code = b_Lw_instruction) (hml : c.maxLocals = 5) (hr : meth.sig.returnType = some .int) (hlk : meth.locks = false) (htab : c.exceptionTable.toList = tableOf [(0, 10, 13, 13), (0, 10, 17, 15)]) (hfl : l.flags = pinnedFlags ++ [noTraceFlag]) (hown : s.vm.findClass R_Lw = some m.cls) (hC : th_ctx D cA [(cL, .long)] cI cE args s)
    (hP : va_P D um_cl (um_ws ad cA um_L σ ++ lw_w2 qo cL fo) s.heap) (hD : va_D A (um_ws ad cA um_L σ ++ lw_w2 qo cL fo)) (hA : ∀ q, s.heap.size ≤ q → A q)
    (hk1 : (i < 0 ∨ ¬ i < σ 2 5) → k = 1) (hk2 : ¬ i < 0 → i < σ 2 5 → ¬ w = 0 → ¬ w = 1 → k = 2) (hk0 : ¬ i < 0 → i < σ 2 5 → w = 0 ∨ w = 1 → k = 0 ∧ vp_in i 1000 ∧ (w = 0 → val = σ 11 i.toNatClampNeg) ∧ (¬ w = 0 → val = σ 12 i.toNatClampNeg)) :
    W p l e th_R1 s m args below meth c s.heap [] 0 0 (th_E below s 1 6 A (th_QL k val D ad cA cL qo σ A s.heap)) (entryFrame m ([.ref (ad 0), .int i, .int w, .ref qo] : List Value).toArray 5) := by
  have hC0 := hC
  obtain ⟨hok, hK, -, -, hcI, hcE, aI, aE, aN, -⟩ := hC
  have hl := lv_entry ([.ref (ad 0), .int i, .int w, .ref qo]) (n := 5) (Nat.le_of_ble_eq_true rfl)
  rw [lg_entry_eq]
  generalize (lg_sl ([.ref (ad 0), .int i, .int w, .ref qo]) ++ List.replicate (5 - (lg_sl ([.ref (ad 0), .int i, .int w, .ref qo])).length) Slot.unset).toArray = ls at hl ⊢
  have hl : lv_has ls 5 [(0, .ref (ad 0)), (1, .int i), (2, .int w), (3, .ref qo)] := hl
  have hPw := lw_left hP
  have he : (um_ws ad cA um_L σ)[0]? = some (ad 0, .inr (0, ([some 1, some 2, some 3, some 4] : List (Option Nat)).mapIdx (um_fv ad σ 0))) := by rw [um_ws_at]; rfl
  obtain ⟨cell, hcell, hobj, hcls⟩ := va_recv (q := (R_UM, F_UM, 4)) hK hPw rfl he
  refine lv_aload_n hexec hb d_Lw_instruction_0 rfl (lv_at hl 3 rfl) ?_
  refine lv_iconst (v := 0) hexec hb d_Lw_instruction_1 (by decide) ?_
  refine lv_aload_n hexec hb d_Lw_instruction_2 rfl (lv_at hl 0 rfl) ?_
  refine lv_iload_n hexec hb d_Lw_instruction_3 rfl (lv_at hl 1 rfl) ?_
  refine lv_iload_n hexec hb d_Lw_instruction_4 rfl (lv_at hl 2 rfl) ?_
  refine th_callV (argsL := [.int i, .int w]) (rest := [.int 0, .ref qo]) (y := y_UM_instruction) (C := R_UM) (R' := th_R2) (free := A) (Qo := th_Q k val cI cE s.heap) (k := 1) (n := 6) hexec hb hown (hok _ wl_Lw_7) (hok _ wnf_UM_instruction) (hok _ wvf_UM_instruction) (hok _ wc_UM_instruction) ⟨by decide, by decide⟩ (by decide) hcell hobj hcls (hl.1.trans hml.symm) (fun sig h => by
      have h2 : parseMethodDescriptor "(II)I" = some ⟨[.int, .int], some .int⟩ := by decide +kernel
      have h3 : parseMethodDescriptor "(II)I" = some sig := h
      cases h2.symm.trans h3
      rfl) d_Lw_instruction_5 (by decide) (Nat.le_of_ble_eq_true rfl) (by decide) (by decide) ?_ ?_ ?_
  · intro s' mk methk ck below' e1 hW hn hr' hlk' hb' hml' htab'
    have hC' : th_ctx D cA [(cL, .long)] cI cE ([.ref (ad 0), .int i, .int w] : List Value).toArray s' := hC0.move hW (fun q _ => by rw [e1])
    have hown' : s'.vm.findClass R_UM = some mk.cls := by rw [hW.alike.findClass]; exact findClass_of_methodNamed hn
    have h := th_UM_instruction (e := e) (A := A) (σ := σ) (ad := ad) (below := below') hexec hb' hml' hr' hlk' htab' hfl hown' hC' (by rw [e1]; exact hPw) hk1 hk2 hk0
    rw [e1] at h
    exact h
  · intro v H1 L hq hfree
    rcases hq with ⟨-, x, h, -⟩ | ⟨-, x, h, -⟩ | ⟨k0, h, rfl⟩
    · cases h
    · cases h
    · cases h
      have hS : va_S A s.heap s.heap ([] ++ L) := ⟨Nat.le_refl _, fun _ _ _ => rfl, by simpa using hfree⟩
      refine lv_i2l (v := val.toInt64) hexec hb d_Lw_instruction_8 rfl ?_
      refine va_last (x := val.toInt64) (i := 0) hexec hb hK hP hD hS 76 1 (th_w2at) rfl (vp_in_nI (n := 0) (by decide) (by decide)) d_Lw_instruction_9 (fun H1 locs1 hP1 hD1 hS1 => ?_)
      rw [th_w2set] at hP1 hD1
      refine lv_goto (tgt := 21) hexec hb d_Lw_instruction_10 rfl ?_
      refine lv_iconst (v := 0) hexec hb d_Lw_instruction_21 (by decide) ?_
      refine th_iret hexec hb hr hlk ⟨by rw [k0]; rfl, _, fun _ => rfl, hP1, hD1, hS1.1, hS1.2.1⟩ hS1.2.2 d_Lw_instruction_22
  · intro x T' L hq hfree X'
    have go : ∀ cX pc1 pc2 pc3 (kv : Int32), th_exc cX s.heap T'.heap x → decode b_Lw_instruction pc1 = .ok (.astore 4, 2) → pc1 + 2 = pc2 → decode b_Lw_instruction pc2 = .ok (.iconst (kv.toInt), 1) → pc2 + 1 = pc3 → decode b_Lw_instruction pc3 = .ok (.ireturn, 1) → kv = nI k → ¬ k = 0 → W p l e th_R1 s m args below meth c T'.heap ([] ++ L) (0 + 1) (0 + 6) (th_E below s 1 6 A (th_QL k val D ad cA cL qo σ A s.heap)) (F0 m pc1 ls [.ref x]) := by
      intro cX pc1 pc2 pc3 kv hexc e1 ep1 e2 ep2 e3 hkv hk
      subst ep1
      subst ep2
      refine lv_astore (lv' := _) hexec hb e1 hl (by decide) rfl (fun ls' hl' => ?_)
      refine lv_iconst (v := kv) hexec hb e2 (by simp) ?_
      have hP1 : va_P D um_cl (um_ws ad cA um_L σ ++ lw_w2 qo cL fo) T'.heap := fun j q hj => (hP j q hj).kept (hexc.1.2 q.1 (hP j q hj).lt)
      exact th_iret hexec hb hr hlk ⟨by rw [hkv], fo, fun z => absurd z hk, hP1, hD, hexc.1.1, fun q hq _ => hexc.1.2 q hq⟩ (by simpa using hfree) e3
    have hl13 := hok _ wcl_Lw_13
    have hl15 := hok _ wcl_Lw_15
    rcases hq with ⟨k1, x', h, hexc⟩ | ⟨k2, x', h, hexc⟩ | ⟨k0, h, -⟩
    · cases h
      obtain ⟨-, -, ce, hce, hcc, hcv⟩ := id hexc
      subst hcc
      obtain ⟨vm', XV, st⟩ := th_catch1 X' (g := F0 m 5 ls [.int 0, .ref qo]) rfl (x1 := ⟨0, 10, 13, 13⟩) (x2 := ⟨0, 10, 17, 15⟩) htab rfl (by decide) hown hl13 hcI hce (by rw [hcv]; rfl) aI
      obtain ⟨t, a1, b1⟩ := go _ 13 15 16 1 hexc d_Lw_instruction_13 rfl d_Lw_instruction_15 rfl d_Lw_instruction_16 (by rw [k1]; rfl) (by omega) (T'.setVm vm') rfl XV
      exact ⟨t, st t a1, b1⟩
    · cases h
      obtain ⟨-, -, ce, hce, hcc, hcv⟩ := id hexc
      subst hcc
      obtain ⟨vm', XV, st⟩ := th_catch2 X' (g := F0 m 5 ls [.int 0, .ref qo]) rfl (x1 := ⟨0, 10, 13, 13⟩) (x2 := ⟨0, 10, 17, 15⟩) htab rfl (by decide) rfl (by decide) hown hl13 hcI hl15 hcE hce (by rw [hcv]; rfl) aN aE
      obtain ⟨t, a1, b1⟩ := go _ 17 19 20 2 hexc d_Lw_instruction_17 rfl d_Lw_instruction_19 rfl d_Lw_instruction_20 (by rw [k2]; rfl) (by omega) (T'.setVm vm') rfl XV
      exact ⟨t, st t a1, b1⟩
    · cases h
set_option maxHeartbeats 4000000 in
theorem th_Lw_row (hexec : p.tables.exec = Jvm.exec) (hb : c.code = b_Lw_row) (hml : c.maxLocals = 5) (hr : meth.sig.returnType = some .int) (hlk : meth.locks = false) (htab : c.exceptionTable.toList = tableOf [(0, 10, 13, 13), (0, 10, 17, 15)]) (hfl : l.flags = pinnedFlags ++ [noTraceFlag]) (hown : s.vm.findClass R_Lw = some m.cls) (hC : th_ctx D cA [(cL, .long)] cI cE args s)
    (hP : va_P D um_cl (um_ws ad cA um_L σ ++ lw_w2 qo cL fo) s.heap) (hD : va_D A (um_ws ad cA um_L σ ++ lw_w2 qo cL fo)) (hA : ∀ q, s.heap.size ≤ q → A q)
    (hk1 : (i < 0 ∨ ¬ i < σ 2 6) → k = 1) (hk2 : ¬ i < 0 → i < σ 2 6 → (w < 0 ∨ ¬ w < 5) → k = 2) (hk0 : ¬ i < 0 → i < σ 2 6 → ¬ w < 0 ∧ w < 5 → k = 0 ∧ vp_in (i * 5 + w) 1500 ∧ val = σ 15 (i * 5 + w).toNatClampNeg) :
    W p l e th_R1 s m args below meth c s.heap [] 0 0 (th_E below s 1 6 A (th_QL k val D ad cA cL qo σ A s.heap)) (entryFrame m ([.ref (ad 0), .int i, .int w, .ref qo] : List Value).toArray 5) := by
  have hC0 := hC
  obtain ⟨hok, hK, -, -, hcI, hcE, aI, aE, aN, -⟩ := hC
  have hl := lv_entry ([.ref (ad 0), .int i, .int w, .ref qo]) (n := 5) (Nat.le_of_ble_eq_true rfl)
  rw [lg_entry_eq]
  generalize (lg_sl ([.ref (ad 0), .int i, .int w, .ref qo]) ++ List.replicate (5 - (lg_sl ([.ref (ad 0), .int i, .int w, .ref qo])).length) Slot.unset).toArray = ls at hl ⊢
  have hl : lv_has ls 5 [(0, .ref (ad 0)), (1, .int i), (2, .int w), (3, .ref qo)] := hl
  have hPw := lw_left hP
  have he : (um_ws ad cA um_L σ)[0]? = some (ad 0, .inr (0, ([some 1, some 2, some 3, some 4] : List (Option Nat)).mapIdx (um_fv ad σ 0))) := by rw [um_ws_at]; rfl
  obtain ⟨cell, hcell, hobj, hcls⟩ := va_recv (q := (R_UM, F_UM, 4)) hK hPw rfl he
  refine lv_aload_n hexec hb d_Lw_row_0 rfl (lv_at hl 3 rfl) ?_
  refine lv_iconst (v := 0) hexec hb d_Lw_row_1 (by decide) ?_
  refine lv_aload_n hexec hb d_Lw_row_2 rfl (lv_at hl 0 rfl) ?_
  refine lv_iload_n hexec hb d_Lw_row_3 rfl (lv_at hl 1 rfl) ?_
  refine lv_iload_n hexec hb d_Lw_row_4 rfl (lv_at hl 2 rfl) ?_
  refine th_callV (argsL := [.int i, .int w]) (rest := [.int 0, .ref qo]) (y := y_UM_row) (C := R_UM) (R' := th_R2) (free := A) (Qo := th_Q k val cI cE s.heap) (k := 1) (n := 6) hexec hb hown (hok _ wl_Lw_17) (hok _ wnf_UM_row) (hok _ wvf_UM_row) (hok _ wc_UM_row) ⟨by decide, by decide⟩ (by decide) hcell hobj hcls (hl.1.trans hml.symm) (fun sig h => by
      have h2 : parseMethodDescriptor "(II)I" = some ⟨[.int, .int], some .int⟩ := by decide +kernel
      have h3 : parseMethodDescriptor "(II)I" = some sig := h
      cases h2.symm.trans h3
      rfl) d_Lw_row_5 (by decide) (Nat.le_of_ble_eq_true rfl) (by decide) (by decide) ?_ ?_ ?_
  · intro s' mk methk ck below' e1 hW hn hr' hlk' hb' hml' htab'
    have hC' : th_ctx D cA [(cL, .long)] cI cE ([.ref (ad 0), .int i, .int w] : List Value).toArray s' := hC0.move hW (fun q _ => by rw [e1])
    have hown' : s'.vm.findClass R_UM = some mk.cls := by rw [hW.alike.findClass]; exact findClass_of_methodNamed hn
    have h := th_UM_row (e := e) (A := A) (σ := σ) (ad := ad) (below := below') hexec hb' hml' hr' hlk' htab' hfl hown' hC' (by rw [e1]; exact hPw) hk1 hk2 hk0
    rw [e1] at h
    exact h
  · intro v H1 L hq hfree
    rcases hq with ⟨-, x, h, -⟩ | ⟨-, x, h, -⟩ | ⟨k0, h, rfl⟩
    · cases h
    · cases h
    · cases h
      have hS : va_S A s.heap s.heap ([] ++ L) := ⟨Nat.le_refl _, fun _ _ _ => rfl, by simpa using hfree⟩
      refine lv_i2l (v := val.toInt64) hexec hb d_Lw_row_8 rfl ?_
      refine va_last (x := val.toInt64) (i := 0) hexec hb hK hP hD hS 76 1 (th_w2at) rfl (vp_in_nI (n := 0) (by decide) (by decide)) d_Lw_row_9 (fun H1 locs1 hP1 hD1 hS1 => ?_)
      rw [th_w2set] at hP1 hD1
      refine lv_goto (tgt := 21) hexec hb d_Lw_row_10 rfl ?_
      refine lv_iconst (v := 0) hexec hb d_Lw_row_21 (by decide) ?_
      refine th_iret hexec hb hr hlk ⟨by rw [k0]; rfl, _, fun _ => rfl, hP1, hD1, hS1.1, hS1.2.1⟩ hS1.2.2 d_Lw_row_22
  · intro x T' L hq hfree X'
    have go : ∀ cX pc1 pc2 pc3 (kv : Int32), th_exc cX s.heap T'.heap x → decode b_Lw_row pc1 = .ok (.astore 4, 2) → pc1 + 2 = pc2 → decode b_Lw_row pc2 = .ok (.iconst (kv.toInt), 1) → pc2 + 1 = pc3 → decode b_Lw_row pc3 = .ok (.ireturn, 1) → kv = nI k → ¬ k = 0 → W p l e th_R1 s m args below meth c T'.heap ([] ++ L) (0 + 1) (0 + 6) (th_E below s 1 6 A (th_QL k val D ad cA cL qo σ A s.heap)) (F0 m pc1 ls [.ref x]) := by
      intro cX pc1 pc2 pc3 kv hexc e1 ep1 e2 ep2 e3 hkv hk
      subst ep1
      subst ep2
      refine lv_astore (lv' := _) hexec hb e1 hl (by decide) rfl (fun ls' hl' => ?_)
      refine lv_iconst (v := kv) hexec hb e2 (by simp) ?_
      have hP1 : va_P D um_cl (um_ws ad cA um_L σ ++ lw_w2 qo cL fo) T'.heap := fun j q hj => (hP j q hj).kept (hexc.1.2 q.1 (hP j q hj).lt)
      exact th_iret hexec hb hr hlk ⟨by rw [hkv], fo, fun z => absurd z hk, hP1, hD, hexc.1.1, fun q hq _ => hexc.1.2 q hq⟩ (by simpa using hfree) e3
    have hl13 := hok _ wcl_Lw_13
    have hl15 := hok _ wcl_Lw_15
    rcases hq with ⟨k1, x', h, hexc⟩ | ⟨k2, x', h, hexc⟩ | ⟨k0, h, -⟩
    · cases h
      obtain ⟨-, -, ce, hce, hcc, hcv⟩ := id hexc
      subst hcc
      obtain ⟨vm', XV, st⟩ := th_catch1 X' (g := F0 m 5 ls [.int 0, .ref qo]) rfl (x1 := ⟨0, 10, 13, 13⟩) (x2 := ⟨0, 10, 17, 15⟩) htab rfl (by decide) hown hl13 hcI hce (by rw [hcv]; rfl) aI
      obtain ⟨t, a1, b1⟩ := go _ 13 15 16 1 hexc d_Lw_row_13 rfl d_Lw_row_15 rfl d_Lw_row_16 (by rw [k1]; rfl) (by omega) (T'.setVm vm') rfl XV
      exact ⟨t, st t a1, b1⟩
    · cases h
      obtain ⟨-, -, ce, hce, hcc, hcv⟩ := id hexc
      subst hcc
      obtain ⟨vm', XV, st⟩ := th_catch2 X' (g := F0 m 5 ls [.int 0, .ref qo]) rfl (x1 := ⟨0, 10, 13, 13⟩) (x2 := ⟨0, 10, 17, 15⟩) htab rfl (by decide) rfl (by decide) hown hl13 hcI hl15 hcE hce (by rw [hcv]; rfl) aN aE
      obtain ⟨t, a1, b1⟩ := go _ 17 19 20 2 hexc d_Lw_row_17 rfl d_Lw_row_19 rfl d_Lw_row_20 (by rw [k2]; rfl) (by omega) (T'.setVm vm') rfl XV
      exact ⟨t, st t a1, b1⟩
    · cases h
end ThrownC
