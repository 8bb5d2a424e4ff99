/-! instruction and row of the class: they return or throw -/
section ThrownB
variable {p : Program} {l : Launch} {e : Env} {s : State} {m : MethodId} {args : Array Value} {below : List Frame} {meth : Method} {c : Code} {H : Heap} {locs : List Loc} {cells slots : Nat} {Q : State → Prop} {R : Room} {cc : ByteArray} {D : va_G} {ad : Nat → Nat} {cA cL cI cE : ClassId} {tys : List (ClassId × FieldType)} {σ : um_S} {i w val : Int32} {k qo : Nat} {fo : Nat → Int64} {A : Nat → Prop}
def th_R2 : Room := { frames := 8, cells := 1, slots := 6, locals := 300 }
def th_R1 : Room := { frames := 9, cells := 1, slots := 6, locals := 340 }
def th_Q (k : Nat) (val : Int32) (cI cE : ClassId) (H : Heap) : Outcome → Heap → Prop := fun o H1 =>
  (k = 1 ∧ ∃ x, o = .threw x ∧ th_exc cI H H1 x) ∨ (k = 2 ∧ ∃ x, o = .threw x ∧ th_exc cE H H1 x) ∨ (k = 0 ∧ o = .returned (some (.int val)) ∧ H1 = H)
def th_ctx (D : va_G) (cA : ClassId) (tys : List (ClassId × FieldType)) (cI cE : ClassId) (args : Array Value) (s : State) : Prop :=
  (∀ w ∈ um_AW, w.before args s = true) ∧ va_K D um_cl ((cA, .int) :: tys) s ∧ (∀ w ∈ Bundle.ownAtoms R_UM 76 X_I th_up, w.before args s = true) ∧ (∀ w ∈ Bundle.ownAtoms R_UM 83 X_E th_up, w.before args s = true) ∧ s.vm.findClass X_I = some cI ∧ s.vm.findClass X_E = some cE ∧ s.vm.assignable cI cI = true ∧ s.vm.assignable cE cE = true ∧ s.vm.assignable cE cI = false ∧
  (∃ q, vk_R R_UM 74 x_74 q s) ∧ (∃ q, vk_R R_UM 81 x_81 q s) ∧ (∃ q, vk_R R_UM 98 x_98 q s) ∧ ∃ q, vk_R R_UM 100 x_100 q s
theorem th_ctx.move {a' : Array Value} {U : State} (hW : s.WarmedH U.vm) (hH : ∀ q, q < s.heap.size → U.heap[q]? = s.heap[q]?) (h : th_ctx D cA tys cI cE args s) : th_ctx D cA tys cI cE a' U := by
  obtain ⟨h1, h2, h3, h4, h5, h6, h7, h8, h9, ⟨q1, z1⟩, ⟨q2, z2⟩, ⟨q3, z3⟩, ⟨q4, z4⟩⟩ := h
  exact ⟨fun w hw => word_at hW (um_gd w hw) (h1 w hw), va_K.moved hW.alike h2, fun w hw => th_move hW hH (th_mv_X_I w hw) (h3 w hw), fun w hw => th_move hW hH (th_mv_X_E w hw) (h4 w hw), by rw [hW.alike.findClass]; exact h5, by rw [hW.alike.findClass]; exact h6, by rw [hW.alike.assignable]; exact h7, by rw [hW.alike.assignable]; exact h8, by rw [hW.alike.assignable]; exact h9,
    ⟨q1, z1.warm hW⟩, ⟨q2, z2.warm hW⟩, ⟨q3, z3.warm hW⟩, ⟨q4, z4.warm hW⟩⟩
theorem th_getI {q k ci idx pc : Nat} {ls : Array Slot} {rest : List Value} {fs : List (Option Nat)} (hexec : p.tables.exec = Jvm.exec) (hb : c.code = cc) (hok : ∀ w ∈ um_AW, w.before args s = true) (hown : s.vm.findClass R_UM = some m.cls) (hK : va_K D um_cl ((cA, .int) :: tys) s) (hP : va_P D um_cl (um_ws ad cA um_L σ) H) (hF : um_Fd um_cl um_AW R_UM idx ci k) (hL : um_L[q]? = some (.inl (ci, fs))) (hk : fs[k]? = some none) (hd : decode cc pc = .ok (.getfield idx, 3))
    (kk : W p l e R s m args below meth c H locs cells slots Q (F0 m (pc + 3) ls (.int (σ q k) :: rest))) : W p l e R s m args below meth c H locs cells slots Q (F0 m pc ls (.ref (ad q) :: rest)) := by
  obtain ⟨C, T, N, ⟨hcl, hin, -, -⟩, hk2, hlk⟩ := hF
  have he : (um_ws ad cA um_L σ)[q]? = some (ad q, .inr (ci, fs.mapIdx (um_fv ad σ q))) := by rw [um_ws_at, hL]; rfl
  have hv : (fs.mapIdx (um_fv ad σ q))[k]? = some (.int (σ q k)) := by rw [List.getElem?_mapIdx, hk]; rfl
  rcases hlk with hlk | ⟨host, hlk⟩
  · exact va_get hexec hb hok hin hown hK hP q he hcl k hk2 (hok _ hlk) (fun _ z => z) hv hd kk
  · exact va_getN hexec hb hok hin hown hK hP q he hcl k hk2 (hok _ hlk) (fun _ z => z) hv hd kk
theorem th_getR {q k ci idx pc j : Nat} {ls : Array Slot} {rest : List Value} {fs : List (Option Nat)} (hexec : p.tables.exec = Jvm.exec) (hb : c.code = cc) (hok : ∀ w ∈ um_AW, w.before args s = true) (hown : s.vm.findClass R_UM = some m.cls) (hK : va_K D um_cl ((cA, .int) :: tys) s) (hP : va_P D um_cl (um_ws ad cA um_L σ) H) (hF : um_Fd um_cl um_AW R_UM idx ci k) (hL : um_L[q]? = some (.inl (ci, fs))) (hk : fs[k]? = some (some j)) (hd : decode cc pc = .ok (.getfield idx, 3))
    (kk : W p l e R s m args below meth c H locs cells slots Q (F0 m (pc + 3) ls (.ref (ad j) :: rest))) : W p l e R s m args below meth c H locs cells slots Q (F0 m pc ls (.ref (ad q) :: rest)) := by
  obtain ⟨C, T, N, ⟨hcl, hin, -, -⟩, hk2, hlk⟩ := hF
  have he : (um_ws ad cA um_L σ)[q]? = some (ad q, .inr (ci, fs.mapIdx (um_fv ad σ q))) := by rw [um_ws_at, hL]; rfl
  have hv : (fs.mapIdx (um_fv ad σ q))[k]? = some (.ref (ad j)) := by rw [List.getElem?_mapIdx, hk]; rfl
  rcases hlk with hlk | ⟨host, hlk⟩
  · exact va_get hexec hb hok hin hown hK hP q he hcl k hk2 (hok _ hlk) (fun _ z => z) hv hd kk
  · exact va_getN hexec hb hok hin hown hK hP q he hcl k hk2 (hok _ hlk) (fun _ z => z) hv hd kk
theorem th_iald {q n pc : Nat} {j : Int32} {ls : Array Slot} {rest : List Value} (hexec : p.tables.exec = Jvm.exec) (hb : c.code = cc) (hK : va_K D um_cl ((cA, .int) :: tys) s) (hP : va_P D um_cl (um_ws ad cA um_L σ) H) (hL : um_L[q]? = some (.inr n)) (hin : vp_in j n) (hd : decode cc pc = .ok (.iaload, 1))
    (kk : W p l e R s m args below meth c H locs cells slots Q (F0 m (pc + 1) ls (.int (σ q j.toNatClampNeg) :: rest))) : W p l e R s m args below meth c H locs cells slots Q (F0 m pc ls (.int j :: .ref (ad q) :: rest)) := by
  have he : (um_ws ad cA um_L σ)[q]? = some (ad q, .inl (cA, n, .inl (σ q))) := by rw [um_ws_at, hL]; rfl
  exact va_iald hexec hb hK hP q 0 he rfl hin hd kk
set_option maxHeartbeats 4000000 in
theorem th_UM_instruction (hexec : p.tables.exec = Jvm.exec) (hb : c.code = b_UM_instruction) (hml : c.maxLocals = 3) (hr : meth.sig.returnType = some .int) (hlk : meth.locks = false) (htab : c.exceptionTable.toList = []) (hfl : l.flags = pinnedFlags ++ [noTraceFlag]) (hown : s.vm.findClass R_UM = some m.cls) (hC : th_ctx D cA tys cI cE args s) (hP : va_P D um_cl (um_ws ad cA um_L σ) s.heap)
    (hk1 : (i < 0 ∨ ¬ i < σ 2 5) → k = 1) (hk2 : ¬ i < 0 → i < σ 2 5 → ¬ w = 0 → ¬ w = 1 → k = 2) (hk0 : ¬ i < 0 → i < σ 2 5 → w = 0 ∨ w = 1 → k = 0 ∧ vp_in i 1000 ∧ (w = 0 → val = σ 11 i.toNatClampNeg) ∧ (¬ w = 0 → val = σ 12 i.toNatClampNeg)) :
    W p l e th_R2 s m args below meth c s.heap [] 0 0 (th_E below s 1 6 A (th_Q k val cI cE s.heap)) (entryFrame m ([.ref (ad 0), .int i, .int w] : List Value).toArray 3) := by
  obtain ⟨hok, hK, r1, r2, hcI, hcE, -, -, -, ⟨t1, z1⟩, ⟨t2, z2⟩, ⟨t3, z3⟩, ⟨t4, z4⟩⟩ := hC
  have hl := lv_entry ([.ref (ad 0), .int i, .int w]) (n := 3) (Nat.le_of_ble_eq_true rfl)
  rw [lg_entry_eq]
  generalize (lg_sl ([.ref (ad 0), .int i, .int w]) ++ List.replicate (3 - (lg_sl ([.ref (ad 0), .int i, .int w])).length) Slot.unset).toArray = ls at hl ⊢
  have hl : lv_has ls 3 [(0, .ref (ad 0)), (1, .int i), (2, .int w)] := hl
  have hI : (i < 0 ∨ ¬ i < σ 2 5) → W p l e th_R2 s m args below meth c s.heap [] 0 0 (th_E below s 1 6 A (th_Q k val cI cE s.heap)) (F0 m 15 ls []) := fun z =>
    th_throw hexec hb hfl hown (by decide +kernel) (by decide +kernel) r1 (hok _ wcl_UM_72) (hok _ wi_X_I) hcI z1 htab hlk (hl.1.trans hml.symm) (by decide) (by decide) (by decide) (by decide) d_UM_instruction_15 d_UM_instruction_18 d_UM_instruction_19 d_UM_instruction_21 d_UM_instruction_24 (fun x H1 h => Or.inl ⟨hk1 z, x, rfl, h⟩)
  have hE : k = 2 → W p l e th_R2 s m args below meth c s.heap [] 0 0 (th_E below s 1 6 A (th_Q k val cI cE s.heap)) (F0 m 34 ls []) := fun z =>
    th_throw hexec hb hfl hown (by decide +kernel) (by decide +kernel) r2 (hok _ wcl_UM_79) (hok _ wi_X_E) hcE z2 htab hlk (hl.1.trans hml.symm) (by decide) (by decide) (by decide) (by decide) d_UM_instruction_34 d_UM_instruction_37 d_UM_instruction_38 d_UM_instruction_40 d_UM_instruction_43 (fun x H1 h => Or.inr (Or.inl ⟨z, x, rfl, h⟩))
  have fin : ¬ i < 0 → i < σ 2 5 → (w = 0 ∨ w = 1) → W p l e th_R2 s m args below meth c s.heap [] 0 0 (th_E below s 1 6 A (th_Q k val cI cE s.heap)) (F0 m 44 ls []) := by
    intro y0 y1 yw
    obtain ⟨g0, gin, gv0, gv1⟩ := hk0 y0 y1 yw
    have fin2 : W p l e th_R2 s m args below meth c s.heap [] 0 0 (th_E below s 1 6 A (th_Q k val cI cE s.heap)) (F0 m 69 ls [.int val]) := by
      refine W.widen (k := 1) (n := 6) (by omega) (by omega) ?_
      exact th_iret hexec hb hr hlk (Or.inr (Or.inr ⟨g0, rfl, rfl⟩)) (fun q hq => by cases hq) d_UM_instruction_69
    refine lv_iload_n hexec hb d_UM_instruction_44 rfl (lv_at hl 2 rfl) ?_
    refine lv_if_ne (tgt := 60) hexec hb d_UM_instruction_45 rfl (fun z => ?_) (fun z => ?_)
    · refine lv_aload_n hexec hb d_UM_instruction_60 rfl (lv_at hl 0 rfl) ?_
      refine th_getR (q := 0) (j := 2) hexec hb hok hown hK hP f_UM_19 rfl rfl d_UM_instruction_61 ?_
      refine th_getR (q := 2) (j := 12) hexec hb hok hown hK hP f_UM_88 rfl rfl d_UM_instruction_64 ?_
      refine lv_iload_n hexec hb d_UM_instruction_67 rfl (lv_at hl 1 rfl) ?_
      refine th_iald (n := 1000) hexec hb hK hP rfl gin d_UM_instruction_68 ?_
      rw [← gv1 z]
      exact fin2
    · refine lv_aload_n hexec hb d_UM_instruction_48 rfl (lv_at hl 0 rfl) ?_
      refine th_getR (q := 0) (j := 2) hexec hb hok hown hK hP f_UM_19 rfl rfl d_UM_instruction_49 ?_
      refine th_getR (q := 2) (j := 11) hexec hb hok hown hK hP f_UM_84 rfl rfl d_UM_instruction_52 ?_
      refine lv_iload_n hexec hb d_UM_instruction_55 rfl (lv_at hl 1 rfl) ?_
      refine th_iald (n := 1000) hexec hb hK hP rfl gin d_UM_instruction_56 ?_
      rw [← gv0 z]
      exact lv_goto (tgt := 69) hexec hb d_UM_instruction_57 rfl fin2
  refine lv_iload_n hexec hb d_UM_instruction_0 rfl (lv_at hl 1 rfl) ?_
  refine lv_if_lt (tgt := 15) hexec hb d_UM_instruction_1 rfl (fun z => hI (Or.inl z)) (fun y0 => ?_)
  refine lv_iload_n hexec hb d_UM_instruction_4 rfl (lv_at hl 1 rfl) ?_
  refine lv_aload_n hexec hb d_UM_instruction_5 rfl (lv_at hl 0 rfl) ?_
  refine th_getR (q := 0) (j := 2) hexec hb hok hown hK hP f_UM_19 rfl rfl d_UM_instruction_6 ?_
  refine th_getI (q := 2) (k := 5) hexec hb hok hown hK hP f_UM_59 rfl rfl d_UM_instruction_9 ?_
  refine lv_icmp_lt (tgt := 25) hexec hb d_UM_instruction_12 rfl (fun y1 => ?_) (fun z => hI (Or.inr z))
  refine lv_iload_n hexec hb d_UM_instruction_25 rfl (lv_at hl 2 rfl) ?_
  refine lv_if_eq (tgt := 44) hexec hb d_UM_instruction_26 rfl (fun z => fin y0 y1 (Or.inl z)) (fun z0 => ?_)
  refine lv_iload_n hexec hb d_UM_instruction_29 rfl (lv_at hl 2 rfl) ?_
  refine lv_iconst (v := 1) hexec hb d_UM_instruction_30 (by decide) ?_
  exact lv_icmp_eq (tgt := 44) hexec hb d_UM_instruction_31 rfl (fun z => fin y0 y1 (Or.inr z)) (fun z1 => hE (hk2 y0 y1 z0 z1))
set_option maxHeartbeats 4000000 in
theorem th_UM_row (hexec : p.tables.exec = Jvm.exec) (hb : c.code = b_UM_row) (hml : c.maxLocals = 3) (hr : meth.sig.returnType = some .int) (hlk : meth.locks = false) (htab : c.exceptionTable.toList = []) (hfl : l.flags = pinnedFlags ++ [noTraceFlag]) (hown : s.vm.findClass R_UM = some m.cls) (hC : th_ctx D cA tys cI cE args s) (hP : va_P D um_cl (um_ws ad cA um_L σ) s.heap)
    (hk1 : (i < 0 ∨ ¬ i < σ 2 6) → k = 1) (hk2 : ¬ i < 0 → i < σ 2 6 → (w < 0 ∨ ¬ w < 5) → k = 2) (hk0 : ¬ i < 0 → i < σ 2 6 → ¬ w < 0 ∧ w < 5 → k = 0 ∧ vp_in (i * 5 + w) 1500 ∧ val = σ 15 (i * 5 + w).toNatClampNeg) :
    W p l e th_R2 s m args below meth c s.heap [] 0 0 (th_E below s 1 6 A (th_Q k val cI cE s.heap)) (entryFrame m ([.ref (ad 0), .int i, .int w] : List Value).toArray 3) := by
  obtain ⟨hok, hK, r1, r2, hcI, hcE, -, -, -, ⟨t1, z1⟩, ⟨t2, z2⟩, ⟨t3, z3⟩, ⟨t4, z4⟩⟩ := hC
  have hl := lv_entry ([.ref (ad 0), .int i, .int w]) (n := 3) (Nat.le_of_ble_eq_true rfl)
  rw [lg_entry_eq]
  generalize (lg_sl ([.ref (ad 0), .int i, .int w]) ++ List.replicate (3 - (lg_sl ([.ref (ad 0), .int i, .int w])).length) Slot.unset).toArray = ls at hl ⊢
  have hl : lv_has ls 3 [(0, .ref (ad 0)), (1, .int i), (2, .int w)] := hl
  have hI : (i < 0 ∨ ¬ i < σ 2 6) → W p l e th_R2 s m args below meth c s.heap [] 0 0 (th_E below s 1 6 A (th_Q k val cI cE s.heap)) (F0 m 15 ls []) := fun z =>
    th_throw hexec hb hfl hown (by decide +kernel) (by decide +kernel) r1 (hok _ wcl_UM_72) (hok _ wi_X_I) hcI z3 htab hlk (hl.1.trans hml.symm) (by decide) (by decide) (by decide) (by decide) d_UM_row_15 d_UM_row_18 d_UM_row_19 d_UM_row_21 d_UM_row_24 (fun x H1 h => Or.inl ⟨hk1 z, x, rfl, h⟩)
  have hE : k = 2 → W p l e th_R2 s m args below meth c s.heap [] 0 0 (th_E below s 1 6 A (th_Q k val cI cE s.heap)) (F0 m 34 ls []) := fun z =>
    th_throw hexec hb hfl hown (by decide +kernel) (by decide +kernel) r2 (hok _ wcl_UM_79) (hok _ wi_X_E) hcE z4 htab hlk (hl.1.trans hml.symm) (by decide) (by decide) (by decide) (by decide) d_UM_row_34 d_UM_row_37 d_UM_row_38 d_UM_row_40 d_UM_row_43 (fun x H1 h => Or.inr (Or.inl ⟨z, x, rfl, h⟩))
  have fin : ¬ i < 0 → i < σ 2 6 → (¬ w < 0 ∧ w < 5) → W p l e th_R2 s m args below meth c s.heap [] 0 0 (th_E below s 1 6 A (th_Q k val cI cE s.heap)) (F0 m 44 ls []) := by
    intro y0 y1 yw
    obtain ⟨g0, gin, gv⟩ := hk0 y0 y1 yw
    have fin2 : W p l e th_R2 s m args below meth c s.heap [] 0 0 (th_E below s 1 6 A (th_Q k val cI cE s.heap)) (F0 m 57 ls [.int val]) := by
      refine W.widen (k := 1) (n := 6) (by omega) (by omega) ?_
      exact th_iret hexec hb hr hlk (Or.inr (Or.inr ⟨g0, rfl, rfl⟩)) (fun q hq => by cases hq) d_UM_row_57
    refine lv_aload_n hexec hb d_UM_row_44 rfl (lv_at hl 0 rfl) ?_
    refine th_getR (q := 0) (j := 2) hexec hb hok hown hK hP f_UM_19 rfl rfl d_UM_row_45 ?_
    refine th_getR (q := 2) (j := 15) hexec hb hok hown hK hP f_UM_102 rfl rfl d_UM_row_48 ?_
    refine lv_iload_n hexec hb d_UM_row_51 rfl (lv_at hl 1 rfl) ?_
    refine lv_iconst (v := 5) hexec hb d_UM_row_52 (by decide) ?_
    refine lv_imul hexec hb d_UM_row_53 ?_
    refine lv_iload_n hexec hb d_UM_row_54 rfl (lv_at hl 2 rfl) ?_
    refine lv_iadd hexec hb d_UM_row_55 ?_
    refine th_iald (n := 1500) hexec hb hK hP rfl gin d_UM_row_56 ?_
    rw [← gv]
    exact fin2
  refine lv_iload_n hexec hb d_UM_row_0 rfl (lv_at hl 1 rfl) ?_
  refine lv_if_lt (tgt := 15) hexec hb d_UM_row_1 rfl (fun z => hI (Or.inl z)) (fun y0 => ?_)
  refine lv_iload_n hexec hb d_UM_row_4 rfl (lv_at hl 1 rfl) ?_
  refine lv_aload_n hexec hb d_UM_row_5 rfl (lv_at hl 0 rfl) ?_
  refine th_getR (q := 0) (j := 2) hexec hb hok hown hK hP f_UM_19 rfl rfl d_UM_row_6 ?_
  refine th_getI (q := 2) (k := 6) hexec hb hok hown hK hP f_UM_63 rfl rfl d_UM_row_9 ?_
  refine lv_icmp_lt (tgt := 25) hexec hb d_UM_row_12 rfl (fun y1 => ?_) (fun z => hI (Or.inr z))
  refine lv_iload_n hexec hb d_UM_row_25 rfl (lv_at hl 2 rfl) ?_
  refine lv_if_lt (tgt := 34) hexec hb d_UM_row_26 rfl (fun z => hE (hk2 y0 y1 (Or.inl z))) (fun z0 => ?_)
  refine lv_iload_n hexec hb d_UM_row_29 rfl (lv_at hl 2 rfl) ?_
  refine lv_iconst (v := 5) hexec hb d_UM_row_30 (by decide) ?_
  exact lv_icmp_lt (tgt := 44) hexec hb d_UM_row_31 rfl (fun z => fin y0 y1 ⟨z0, z⟩) (fun z1 => hE (hk2 y0 y1 (Or.inr z1)))
end ThrownB
