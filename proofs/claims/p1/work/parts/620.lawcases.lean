/-! the cases of the law, but lay, instruction and row -/
section LawCases
variable {p : Program} {l : Launch} {e : Env} {s : State} {m : MethodId} {args : Array Value} {below : List Frame} {meth : Method} {c : Code} {H : Heap} {locs : List Loc} {cells slots : Nat} {Qw : State → Prop} {D : va_G} {ad : Nat → Nat} {cA : ClassId} {tys : List (ClassId × FieldType)} {w2 : va_W} {u v : um_S} {b L i qo : Nat} {xs : Nat → Int32} {ls : Array Slot}
theorem lw_arg {k pc : Nat} {rest : List Value} (hx : p.tables.exec = Jvm.exec) (hb : c.code = code) (hX : va_X b L xs s s.heap) (hbl : b < s.heap.size) (hi : i + k < L) (hL : L ≤ 6) (hl : lv_has ls 7 [(0, .ref b), (1, .ref (ad 0)), (2, .ref (ad 38)), (3, .ref qo), (4, .int (nI i))]) (hS : va_S (fun x => s.heap.size ≤ x) s.heap H locs)
    (d0 : decode code pc = .ok (.aload_n 0, 1)) (d1 : decode code (pc + 1) = .ok (.iload 4, 2)) (d3 : decode code (pc + 3) = .ok (.iconst k, 1)) (d4 : decode code (pc + 4) = .ok (.iadd, 1)) (d5 : decode code (pc + 5) = .ok (.iaload, 1)) (hk : Int32.ofInt k = nI k)
    (kk : W p l e room_1 s m args below meth c H locs cells slots Qw (F0 m (pc + 6) ls (.int (xs (i + k)) :: rest))) : W p l e room_1 s m args below meth c H locs cells slots Qw (F0 m pc ls rest) := by
  refine lv_aload_n hx hb d0 rfl (lv_at hl 0 rfl) ?_
  refine lv_iload hx hb d1 (lv_at hl 4 rfl) ?_
  refine lv_iconst (v := nI k) hx hb d3 hk ?_
  refine lv_iadd hx hb d4 ?_
  rw [nI_add]
  refine va_sld hx hb hX hbl (fun z => absurd hbl (Nat.not_lt.mpr z)) hS (vp_in_nI hi (by omega)) d5 ?_
  rw [um_cl1 (by omega)]
  exact kk
set_option maxHeartbeats 1000000 in
theorem lw_case_0 (hx : p.tables.exec = Jvm.exec) (hb : c.code = code) (hml : c.maxLocals = 7) (hown : s.vm.findClass R_Lw = some m.cls) (hts : ∀ w ∈ lw_tbl, w.before args s = true) (hK : va_K D um_cl ((cA, .int) :: tys) s) (hst : um_st um_SX ad (fun x => s.heap.size ≤ x) s s.heap) (hX : va_X b L xs s s.heap) (hbl : b < s.heap.size) (hi : i + 6 ≤ L) (hL : L ≤ 6) (hl : lv_has ls 7 [(0, .ref b), (1, .ref (ad 0)), (2, .ref (ad 38)), (3, .ref qo), (4, .int (nI i))]) (hc1 : cells ≤ 83) (hc2 : slots ≤ 75452)
    (hG : um_G u v) (hP : va_P D um_cl (um_ws ad cA um_L (um_J u v) ++ w2) H) (hD : va_D (fun x => s.heap.size ≤ x) (um_ws ad cA um_L (um_J u v) ++ w2)) (hS : va_S (fun x => s.heap.size ≤ x) s.heap H locs)
    (cont : ∀ (u1 v1 : um_S) (H1 : Heap) (locs1 : List Loc), um_G u1 v1 → va_P D um_cl (um_ws ad cA um_L (um_J u1 v1) ++ w2) H1 → va_D (fun x => s.heap.size ≤ x) (um_ws ad cA um_L (um_J u1 v1) ++ w2) → va_S (fun x => s.heap.size ≤ x) s.heap H1 locs1 → W p l e room_1 s m args below meth c H1 locs1 cells slots Qw (F0 m 614 ls [])) : W p l e room_1 s m args below meth c H locs cells slots Qw (F0 m 104 ls []) := by
  obtain ⟨x, u1, v1, w1, w2a, hG1⟩ := t_node hG (xs (i + 1)) (xs (i + 2)) (xs (i + 3)) (xs (i + 4)) (xs (i + 5))
  refine lv_aload_n hx hb d_law_104 rfl (lv_at hl 1 rfl) ?_
  refine lw_arg (k := 1) hx hb hX hbl (by omega) hL hl hS d_law_105 d_law_106 d_law_108 d_law_109 d_law_110 (by decide) ?_
  refine lw_arg (k := 2) hx hb hX hbl (by omega) hL hl hS d_law_111 d_law_112 d_law_114 d_law_115 d_law_116 (by decide) ?_
  refine lw_arg (k := 3) hx hb hX hbl (by omega) hL hl hS d_law_117 d_law_118 d_law_120 d_law_121 d_law_122 (by decide) ?_
  refine lw_arg (k := 4) hx hb hX hbl (by omega) hL hl hS d_law_123 d_law_124 d_law_126 d_law_127 d_law_128 (by decide) ?_
  refine lw_arg (k := 5) hx hb hX hbl (by omega) hL hl hS d_law_129 d_law_130 d_law_132 d_law_133 d_law_134 (by decide) ?_
  refine lw_call (q := 0) (As := [.int (xs (i + 1)), .int (xs (i + 2)), .int (xs (i + 3)), .int (xs (i + 4)), .int (xs (i + 5))]) (rest := []) (σ := um_J u v) hx hb hml hown hts hK hst hP hD hS g_Lw_24 rfl rfl (Nat.le_of_ble_eq_true rfl) (Nat.le_of_ble_eq_true rfl) (Nat.le_of_ble_eq_true rfl) hl.1 hc1 hc2 d_law_135 (c_UM_node (w1 v (fun r z => x = r ∧ z = um_J u1 v) ⟨rfl, rfl⟩)) (fun r uu H locs hq hP hD hS => ?_)
  obtain ⟨y, rfl, rfl, rfl⟩ := hq
  refine lv_aload_n hx hb d_law_138 rfl (lv_at hl 2 rfl) ?_
  refine lw_arg (k := 1) hx hb hX hbl (by omega) hL hl hS d_law_139 d_law_140 d_law_142 d_law_143 d_law_144 (by decide) ?_
  refine lw_arg (k := 2) hx hb hX hbl (by omega) hL hl hS d_law_145 d_law_146 d_law_148 d_law_149 d_law_150 (by decide) ?_
  refine lw_arg (k := 3) hx hb hX hbl (by omega) hL hl hS d_law_151 d_law_152 d_law_154 d_law_155 d_law_156 (by decide) ?_
  refine lw_arg (k := 4) hx hb hX hbl (by omega) hL hl hS d_law_157 d_law_158 d_law_160 d_law_161 d_law_162 (by decide) ?_
  refine lw_arg (k := 5) hx hb hX hbl (by omega) hL hl hS d_law_163 d_law_164 d_law_166 d_law_167 d_law_168 (by decide) ?_
  refine lw_call (q := 38) (As := [.int (xs (i + 1)), .int (xs (i + 2)), .int (xs (i + 3)), .int (xs (i + 4)), .int (xs (i + 5))]) (rest := [.int x]) (σ := um_J u1 v) hx hb hml hown hts hK hst hP hD hS g_Lw_28 rfl rfl (Nat.le_of_ble_eq_true rfl) (Nat.le_of_ble_eq_true rfl) (Nat.le_of_ble_eq_true rfl) hl.1 hc1 hc2 d_law_169 (c_Mo_node (w2a u1 (fun r z => x = r ∧ z = um_J u1 v1) ⟨rfl, rfl⟩)) (fun r uu H locs hq hP hD hS => ?_)
  obtain ⟨y, rfl, rfl, rfl⟩ := hq
  exact lv_icmp_eq (tgt := 614) hx hb d_law_172 rfl (fun _ => cont u1 v1 H locs hG1 hP hD hS) (fun z => absurd rfl z)
set_option maxHeartbeats 1000000 in
theorem lw_case_1 (hx : p.tables.exec = Jvm.exec) (hb : c.code = code) (hml : c.maxLocals = 7) (hown : s.vm.findClass R_Lw = some m.cls) (hts : ∀ w ∈ lw_tbl, w.before args s = true) (hK : va_K D um_cl ((cA, .int) :: tys) s) (hst : um_st um_SX ad (fun x => s.heap.size ≤ x) s s.heap) (hX : va_X b L xs s s.heap) (hbl : b < s.heap.size) (hi : i + 6 ≤ L) (hL : L ≤ 6) (hl : lv_has ls 7 [(0, .ref b), (1, .ref (ad 0)), (2, .ref (ad 38)), (3, .ref qo), (4, .int (nI i))]) (hc1 : cells ≤ 83) (hc2 : slots ≤ 75452)
    (hG : um_G u v) (hP : va_P D um_cl (um_ws ad cA um_L (um_J u v) ++ w2) H) (hD : va_D (fun x => s.heap.size ≤ x) (um_ws ad cA um_L (um_J u v) ++ w2)) (hS : va_S (fun x => s.heap.size ≤ x) s.heap H locs)
    (cont : ∀ (u1 v1 : um_S) (H1 : Heap) (locs1 : List Loc), um_G u1 v1 → va_P D um_cl (um_ws ad cA um_L (um_J u1 v1) ++ w2) H1 → va_D (fun x => s.heap.size ≤ x) (um_ws ad cA um_L (um_J u1 v1) ++ w2) → va_S (fun x => s.heap.size ≤ x) s.heap H1 locs1 → W p l e room_1 s m args below meth c H1 locs1 cells slots Qw (F0 m 614 ls [])) : W p l e room_1 s m args below meth c H locs cells slots Qw (F0 m 177 ls []) := by
  obtain ⟨x, u1, v1, w1, w2a, hG1⟩ := t_catchBehind hG (xs (i + 1)) (xs (i + 2)) (xs (i + 3)) (xs (i + 4)) (xs (i + 5))
  refine lv_aload_n hx hb d_law_177 rfl (lv_at hl 1 rfl) ?_
  refine lw_arg (k := 1) hx hb hX hbl (by omega) hL hl hS d_law_178 d_law_179 d_law_181 d_law_182 d_law_183 (by decide) ?_
  refine lw_arg (k := 2) hx hb hX hbl (by omega) hL hl hS d_law_184 d_law_185 d_law_187 d_law_188 d_law_189 (by decide) ?_
  refine lw_arg (k := 3) hx hb hX hbl (by omega) hL hl hS d_law_190 d_law_191 d_law_193 d_law_194 d_law_195 (by decide) ?_
  refine lw_arg (k := 4) hx hb hX hbl (by omega) hL hl hS d_law_196 d_law_197 d_law_199 d_law_200 d_law_201 (by decide) ?_
  refine lw_arg (k := 5) hx hb hX hbl (by omega) hL hl hS d_law_202 d_law_203 d_law_205 d_law_206 d_law_207 (by decide) ?_
  refine lw_call (q := 0) (As := [.int (xs (i + 1)), .int (xs (i + 2)), .int (xs (i + 3)), .int (xs (i + 4)), .int (xs (i + 5))]) (rest := []) (σ := um_J u v) hx hb hml hown hts hK hst hP hD hS g_Lw_29 rfl rfl (Nat.le_of_ble_eq_true rfl) (Nat.le_of_ble_eq_true rfl) (Nat.le_of_ble_eq_true rfl) hl.1 hc1 hc2 d_law_208 (c_UM_catchBehind (w1 v (fun r z => x = r ∧ z = um_J u1 v) ⟨rfl, rfl⟩)) (fun r uu H locs hq hP hD hS => ?_)
  obtain ⟨y, rfl, rfl, rfl⟩ := hq
  refine lv_aload_n hx hb d_law_211 rfl (lv_at hl 2 rfl) ?_
  refine lw_arg (k := 1) hx hb hX hbl (by omega) hL hl hS d_law_212 d_law_213 d_law_215 d_law_216 d_law_217 (by decide) ?_
  refine lw_arg (k := 2) hx hb hX hbl (by omega) hL hl hS d_law_218 d_law_219 d_law_221 d_law_222 d_law_223 (by decide) ?_
  refine lw_arg (k := 3) hx hb hX hbl (by omega) hL hl hS d_law_224 d_law_225 d_law_227 d_law_228 d_law_229 (by decide) ?_
  refine lw_arg (k := 4) hx hb hX hbl (by omega) hL hl hS d_law_230 d_law_231 d_law_233 d_law_234 d_law_235 (by decide) ?_
  refine lw_arg (k := 5) hx hb hX hbl (by omega) hL hl hS d_law_236 d_law_237 d_law_239 d_law_240 d_law_241 (by decide) ?_
  refine lw_call (q := 38) (As := [.int (xs (i + 1)), .int (xs (i + 2)), .int (xs (i + 3)), .int (xs (i + 4)), .int (xs (i + 5))]) (rest := [.int x]) (σ := um_J u1 v) hx hb hml hown hts hK hst hP hD hS g_Lw_32 rfl rfl (Nat.le_of_ble_eq_true rfl) (Nat.le_of_ble_eq_true rfl) (Nat.le_of_ble_eq_true rfl) hl.1 hc1 hc2 d_law_242 (c_Mo_catchBehind (w2a u1 (fun r z => x = r ∧ z = um_J u1 v1) ⟨rfl, rfl⟩)) (fun r uu H locs hq hP hD hS => ?_)
  obtain ⟨y, rfl, rfl, rfl⟩ := hq
  exact lv_icmp_eq (tgt := 614) hx hb d_law_245 rfl (fun _ => cont u1 v1 H locs hG1 hP hD hS) (fun z => absurd rfl z)
set_option maxHeartbeats 1000000 in
theorem lw_case_2 (hx : p.tables.exec = Jvm.exec) (hb : c.code = code) (hml : c.maxLocals = 7) (hown : s.vm.findClass R_Lw = some m.cls) (hts : ∀ w ∈ lw_tbl, w.before args s = true) (hK : va_K D um_cl ((cA, .int) :: tys) s) (hst : um_st um_SX ad (fun x => s.heap.size ≤ x) s s.heap) (hX : va_X b L xs s s.heap) (hbl : b < s.heap.size) (hi : i + 6 ≤ L) (hL : L ≤ 6) (hl : lv_has ls 7 [(0, .ref b), (1, .ref (ad 0)), (2, .ref (ad 38)), (3, .ref qo), (4, .int (nI i))]) (hc1 : cells ≤ 83) (hc2 : slots ≤ 75452)
    (hG : um_G u v) (hP : va_P D um_cl (um_ws ad cA um_L (um_J u v) ++ w2) H) (hD : va_D (fun x => s.heap.size ≤ x) (um_ws ad cA um_L (um_J u v) ++ w2)) (hS : va_S (fun x => s.heap.size ≤ x) s.heap H locs)
    (cont : ∀ (u1 v1 : um_S) (H1 : Heap) (locs1 : List Loc), um_G u1 v1 → va_P D um_cl (um_ws ad cA um_L (um_J u1 v1) ++ w2) H1 → va_D (fun x => s.heap.size ≤ x) (um_ws ad cA um_L (um_J u1 v1) ++ w2) → va_S (fun x => s.heap.size ≤ x) s.heap H1 locs1 → W p l e room_1 s m args below meth c H1 locs1 cells slots Qw (F0 m 614 ls [])) : W p l e room_1 s m args below meth c H locs cells slots Qw (F0 m 250 ls []) := by
  obtain ⟨x, u1, v1, w1, w2a, hG1⟩ := t_body hG (xs (i + 1)) (xs (i + 2))
  refine lv_aload_n hx hb d_law_250 rfl (lv_at hl 1 rfl) ?_
  refine lw_arg (k := 1) hx hb hX hbl (by omega) hL hl hS d_law_251 d_law_252 d_law_254 d_law_255 d_law_256 (by decide) ?_
  refine lw_arg (k := 2) hx hb hX hbl (by omega) hL hl hS d_law_257 d_law_258 d_law_260 d_law_261 d_law_262 (by decide) ?_
  refine lw_call (q := 0) (As := [.int (xs (i + 1)), .int (xs (i + 2))]) (rest := []) (σ := um_J u v) hx hb hml hown hts hK hst hP hD hS g_Lw_33 rfl rfl (Nat.le_of_ble_eq_true rfl) (Nat.le_of_ble_eq_true rfl) (Nat.le_of_ble_eq_true rfl) hl.1 hc1 hc2 d_law_263 (c_UM_body (w1 v (fun r z => x = r ∧ z = um_J u1 v) ⟨rfl, rfl⟩)) (fun r uu H locs hq hP hD hS => ?_)
  obtain ⟨y, rfl, rfl, rfl⟩ := hq
  refine lv_aload_n hx hb d_law_266 rfl (lv_at hl 2 rfl) ?_
  refine lw_arg (k := 1) hx hb hX hbl (by omega) hL hl hS d_law_267 d_law_268 d_law_270 d_law_271 d_law_272 (by decide) ?_
  refine lw_arg (k := 2) hx hb hX hbl (by omega) hL hl hS d_law_273 d_law_274 d_law_276 d_law_277 d_law_278 (by decide) ?_
  refine lw_call (q := 38) (As := [.int (xs (i + 1)), .int (xs (i + 2))]) (rest := [.int (if x then 1 else 0)]) (σ := um_J u1 v) hx hb hml hown hts hK hst hP hD hS g_Lw_37 rfl rfl (Nat.le_of_ble_eq_true rfl) (Nat.le_of_ble_eq_true rfl) (Nat.le_of_ble_eq_true rfl) hl.1 hc1 hc2 d_law_279 (c_Mo_body (w2a u1 (fun r z => x = r ∧ z = um_J u1 v1) ⟨rfl, rfl⟩)) (fun r uu H locs hq hP hD hS => ?_)
  obtain ⟨y, rfl, rfl, rfl⟩ := hq
  exact lv_icmp_eq (tgt := 614) hx hb d_law_282 rfl (fun _ => cont u1 v1 H locs hG1 hP hD hS) (fun z => absurd rfl z)
set_option maxHeartbeats 1000000 in
theorem lw_case_4 (hx : p.tables.exec = Jvm.exec) (hb : c.code = code) (hml : c.maxLocals = 7) (hown : s.vm.findClass R_Lw = some m.cls) (hts : ∀ w ∈ lw_tbl, w.before args s = true) (hK : va_K D um_cl ((cA, .int) :: tys) s) (hst : um_st um_SX ad (fun x => s.heap.size ≤ x) s s.heap) (hX : va_X b L xs s s.heap) (hbl : b < s.heap.size) (hi : i + 6 ≤ L) (hL : L ≤ 6) (hl : lv_has ls 7 [(0, .ref b), (1, .ref (ad 0)), (2, .ref (ad 38)), (3, .ref qo), (4, .int (nI i))]) (hc1 : cells ≤ 83) (hc2 : slots ≤ 75452)
    (hG : um_G u v) (hP : va_P D um_cl (um_ws ad cA um_L (um_J u v) ++ w2) H) (hD : va_D (fun x => s.heap.size ≤ x) (um_ws ad cA um_L (um_J u v) ++ w2)) (hS : va_S (fun x => s.heap.size ≤ x) s.heap H locs)
    (cont : ∀ (u1 v1 : um_S) (H1 : Heap) (locs1 : List Loc), um_G u1 v1 → va_P D um_cl (um_ws ad cA um_L (um_J u1 v1) ++ w2) H1 → va_D (fun x => s.heap.size ≤ x) (um_ws ad cA um_L (um_J u1 v1) ++ w2) → va_S (fun x => s.heap.size ≤ x) s.heap H1 locs1 → W p l e room_1 s m args below meth c H1 locs1 cells slots Qw (F0 m 614 ls [])) : W p l e room_1 s m args below meth c H locs cells slots Qw (F0 m 328 ls []) := by
  obtain ⟨x, u1, v1, w1, w2a, hG1⟩ := t_laid hG (xs (i + 1))
  refine lv_aload_n hx hb d_law_328 rfl (lv_at hl 1 rfl) ?_
  refine lw_arg (k := 1) hx hb hX hbl (by omega) hL hl hS d_law_329 d_law_330 d_law_332 d_law_333 d_law_334 (by decide) ?_
  refine lw_call (q := 0) (As := [.int (xs (i + 1))]) (rest := []) (σ := um_J u v) hx hb hml hown hts hK hst hP hD hS g_Lw_43 rfl rfl (Nat.le_of_ble_eq_true rfl) (Nat.le_of_ble_eq_true rfl) (Nat.le_of_ble_eq_true rfl) hl.1 hc1 hc2 d_law_335 (c_UM_laid (w1 v (fun r z => x = r ∧ z = um_J u1 v) ⟨rfl, rfl⟩)) (fun r uu H locs hq hP hD hS => ?_)
  obtain ⟨y, rfl, rfl, rfl⟩ := hq
  refine lv_aload_n hx hb d_law_338 rfl (lv_at hl 2 rfl) ?_
  refine lw_arg (k := 1) hx hb hX hbl (by omega) hL hl hS d_law_339 d_law_340 d_law_342 d_law_343 d_law_344 (by decide) ?_
  refine lw_call (q := 38) (As := [.int (xs (i + 1))]) (rest := [.int x]) (σ := um_J u1 v) hx hb hml hown hts hK hst hP hD hS g_Lw_47 rfl rfl (Nat.le_of_ble_eq_true rfl) (Nat.le_of_ble_eq_true rfl) (Nat.le_of_ble_eq_true rfl) hl.1 hc1 hc2 d_law_345 (c_Mo_laid (w2a u1 (fun r z => x = r ∧ z = um_J u1 v1) ⟨rfl, rfl⟩)) (fun r uu H locs hq hP hD hS => ?_)
  obtain ⟨y, rfl, rfl, rfl⟩ := hq
  exact lv_icmp_eq (tgt := 614) hx hb d_law_348 rfl (fun _ => cont u1 v1 H locs hG1 hP hD hS) (fun z => absurd rfl z)
set_option maxHeartbeats 1000000 in
theorem lw_case_6 (hx : p.tables.exec = Jvm.exec) (hb : c.code = code) (hml : c.maxLocals = 7) (hown : s.vm.findClass R_Lw = some m.cls) (hts : ∀ w ∈ lw_tbl, w.before args s = true) (hK : va_K D um_cl ((cA, .int) :: tys) s) (hst : um_st um_SX ad (fun x => s.heap.size ≤ x) s s.heap) (hX : va_X b L xs s s.heap) (hbl : b < s.heap.size) (hi : i + 6 ≤ L) (hL : L ≤ 6) (hl : lv_has ls 7 [(0, .ref b), (1, .ref (ad 0)), (2, .ref (ad 38)), (3, .ref qo), (4, .int (nI i))]) (hc1 : cells ≤ 83) (hc2 : slots ≤ 75452)
    (hG : um_G u v) (hP : va_P D um_cl (um_ws ad cA um_L (um_J u v) ++ w2) H) (hD : va_D (fun x => s.heap.size ≤ x) (um_ws ad cA um_L (um_J u v) ++ w2)) (hS : va_S (fun x => s.heap.size ≤ x) s.heap H locs)
    (cont : ∀ (u1 v1 : um_S) (H1 : Heap) (locs1 : List Loc), um_G u1 v1 → va_P D um_cl (um_ws ad cA um_L (um_J u1 v1) ++ w2) H1 → va_D (fun x => s.heap.size ≤ x) (um_ws ad cA um_L (um_J u1 v1) ++ w2) → va_S (fun x => s.heap.size ≤ x) s.heap H1 locs1 → W p l e room_1 s m args below meth c H1 locs1 cells slots Qw (F0 m 614 ls [])) : W p l e room_1 s m args below meth c H locs cells slots Qw (F0 m 421 ls []) := by
  obtain ⟨x, u1, v1, w1, w2a, hG1⟩ := t_entry hG (xs (i + 1))
  refine lv_aload_n hx hb d_law_421 rfl (lv_at hl 1 rfl) ?_
  refine lw_arg (k := 1) hx hb hX hbl (by omega) hL hl hS d_law_422 d_law_423 d_law_425 d_law_426 d_law_427 (by decide) ?_
  refine lw_call (q := 0) (As := [.int (xs (i + 1))]) (rest := []) (σ := um_J u v) hx hb hml hown hts hK hst hP hD hS g_Lw_58 rfl rfl (Nat.le_of_ble_eq_true rfl) (Nat.le_of_ble_eq_true rfl) (Nat.le_of_ble_eq_true rfl) hl.1 hc1 hc2 d_law_428 (c_UM_entry (w1 v (fun r z => x = r ∧ z = um_J u1 v) ⟨rfl, rfl⟩)) (fun r uu H locs hq hP hD hS => ?_)
  obtain ⟨y, rfl, rfl, rfl⟩ := hq
  refine lv_aload_n hx hb d_law_431 rfl (lv_at hl 2 rfl) ?_
  refine lw_arg (k := 1) hx hb hX hbl (by omega) hL hl hS d_law_432 d_law_433 d_law_435 d_law_436 d_law_437 (by decide) ?_
  refine lw_call (q := 38) (As := [.int (xs (i + 1))]) (rest := [.int x]) (σ := um_J u1 v) hx hb hml hown hts hK hst hP hD hS g_Lw_61 rfl rfl (Nat.le_of_ble_eq_true rfl) (Nat.le_of_ble_eq_true rfl) (Nat.le_of_ble_eq_true rfl) hl.1 hc1 hc2 d_law_438 (c_Mo_entry (w2a u1 (fun r z => x = r ∧ z = um_J u1 v1) ⟨rfl, rfl⟩)) (fun r uu H locs hq hP hD hS => ?_)
  obtain ⟨y, rfl, rfl, rfl⟩ := hq
  exact lv_icmp_eq (tgt := 614) hx hb d_law_441 rfl (fun _ => cont u1 v1 H locs hG1 hP hD hS) (fun z => absurd rfl z)
set_option maxHeartbeats 1000000 in
theorem lw_case_8 (hx : p.tables.exec = Jvm.exec) (hb : c.code = code) (hml : c.maxLocals = 7) (hown : s.vm.findClass R_Lw = some m.cls) (hts : ∀ w ∈ lw_tbl, w.before args s = true) (hK : va_K D um_cl ((cA, .int) :: tys) s) (hst : um_st um_SX ad (fun x => s.heap.size ≤ x) s s.heap) (hX : va_X b L xs s s.heap) (hbl : b < s.heap.size) (hi : i + 6 ≤ L) (hL : L ≤ 6) (hl : lv_has ls 7 [(0, .ref b), (1, .ref (ad 0)), (2, .ref (ad 38)), (3, .ref qo), (4, .int (nI i))]) (hc1 : cells ≤ 83) (hc2 : slots ≤ 75452)
    (hG : um_G u v) (hP : va_P D um_cl (um_ws ad cA um_L (um_J u v) ++ w2) H) (hD : va_D (fun x => s.heap.size ≤ x) (um_ws ad cA um_L (um_J u v) ++ w2)) (hS : va_S (fun x => s.heap.size ≤ x) s.heap H locs)
    (cont : ∀ (u1 v1 : um_S) (H1 : Heap) (locs1 : List Loc), um_G u1 v1 → va_P D um_cl (um_ws ad cA um_L (um_J u1 v1) ++ w2) H1 → va_D (fun x => s.heap.size ≤ x) (um_ws ad cA um_L (um_J u1 v1) ++ w2) → va_S (fun x => s.heap.size ≤ x) s.heap H1 locs1 → W p l e room_1 s m args below meth c H1 locs1 cells slots Qw (F0 m 614 ls [])) : W p l e room_1 s m args below meth c H locs cells slots Qw (F0 m 514 ls []) := by
  obtain ⟨x, u1, v1, w1, w2a, hG1⟩ := t_run hG (xs (i + 1))
  refine lv_aload_n hx hb d_law_514 rfl (lv_at hl 1 rfl) ?_
  refine lw_arg (k := 1) hx hb hX hbl (by omega) hL hl hS d_law_515 d_law_516 d_law_518 d_law_519 d_law_520 (by decide) ?_
  refine lw_call (q := 0) (As := [.int (xs (i + 1))]) (rest := []) (σ := um_J u v) hx hb hml hown hts hK hst hP hD hS g_Lw_65 rfl rfl (Nat.le_of_ble_eq_true rfl) (Nat.le_of_ble_eq_true rfl) (Nat.le_of_ble_eq_true rfl) hl.1 hc1 hc2 d_law_521 (c_UM_run (w1 v (fun r z => x = r ∧ z = um_J u1 v) ⟨rfl, rfl⟩)) (fun r uu H locs hq hP hD hS => ?_)
  obtain ⟨y, rfl, rfl, rfl⟩ := hq
  refine lv_aload_n hx hb d_law_524 rfl (lv_at hl 2 rfl) ?_
  refine lw_arg (k := 1) hx hb hX hbl (by omega) hL hl hS d_law_525 d_law_526 d_law_528 d_law_529 d_law_530 (by decide) ?_
  refine lw_call (q := 38) (As := [.int (xs (i + 1))]) (rest := [.int x]) (σ := um_J u1 v) hx hb hml hown hts hK hst hP hD hS g_Lw_68 rfl rfl (Nat.le_of_ble_eq_true rfl) (Nat.le_of_ble_eq_true rfl) (Nat.le_of_ble_eq_true rfl) hl.1 hc1 hc2 d_law_531 (c_Mo_run (w2a u1 (fun r z => x = r ∧ z = um_J u1 v1) ⟨rfl, rfl⟩)) (fun r uu H locs hq hP hD hS => ?_)
  obtain ⟨y, rfl, rfl, rfl⟩ := hq
  exact lv_icmp_eq (tgt := 614) hx hb d_law_534 rfl (fun _ => cont u1 v1 H locs hG1 hP hD hS) (fun z => absurd rfl z)
set_option maxHeartbeats 1000000 in
theorem lw_case_9 (hx : p.tables.exec = Jvm.exec) (hb : c.code = code) (hml : c.maxLocals = 7) (hown : s.vm.findClass R_Lw = some m.cls) (hts : ∀ w ∈ lw_tbl, w.before args s = true) (hK : va_K D um_cl ((cA, .int) :: tys) s) (hst : um_st um_SX ad (fun x => s.heap.size ≤ x) s s.heap) (hX : va_X b L xs s s.heap) (hbl : b < s.heap.size) (hi : i + 6 ≤ L) (hL : L ≤ 6) (hl : lv_has ls 7 [(0, .ref b), (1, .ref (ad 0)), (2, .ref (ad 38)), (3, .ref qo), (4, .int (nI i))]) (hc1 : cells ≤ 83) (hc2 : slots ≤ 75452)
    (hG : um_G u v) (hP : va_P D um_cl (um_ws ad cA um_L (um_J u v) ++ w2) H) (hD : va_D (fun x => s.heap.size ≤ x) (um_ws ad cA um_L (um_J u v) ++ w2)) (hS : va_S (fun x => s.heap.size ≤ x) s.heap H locs)
    (cont : ∀ (u1 v1 : um_S) (H1 : Heap) (locs1 : List Loc), um_G u1 v1 → va_P D um_cl (um_ws ad cA um_L (um_J u1 v1) ++ w2) H1 → va_D (fun x => s.heap.size ≤ x) (um_ws ad cA um_L (um_J u1 v1) ++ w2) → va_S (fun x => s.heap.size ≤ x) s.heap H1 locs1 → W p l e room_1 s m args below meth c H1 locs1 cells slots Qw (F0 m 614 ls [])) : W p l e room_1 s m args below meth c H locs cells slots Qw (F0 m 539 ls []) := by
  obtain ⟨x, u1, v1, w1, w2a, hG1⟩ := t_latest hG (xs (i + 1))
  refine lv_aload_n hx hb d_law_539 rfl (lv_at hl 1 rfl) ?_
  refine lw_arg (k := 1) hx hb hX hbl (by omega) hL hl hS d_law_540 d_law_541 d_law_543 d_law_544 d_law_545 (by decide) ?_
  refine lw_call (q := 0) (As := [.int (xs (i + 1))]) (rest := []) (σ := um_J u v) hx hb hml hown hts hK hst hP hD hS g_Lw_69 rfl rfl (Nat.le_of_ble_eq_true rfl) (Nat.le_of_ble_eq_true rfl) (Nat.le_of_ble_eq_true rfl) hl.1 hc1 hc2 d_law_546 (c_UM_latest (w1 v (fun r z => x = r ∧ z = um_J u1 v) ⟨rfl, rfl⟩)) (fun r uu H locs hq hP hD hS => ?_)
  obtain ⟨y, rfl, rfl, rfl⟩ := hq
  refine lv_aload_n hx hb d_law_549 rfl (lv_at hl 2 rfl) ?_
  refine lw_arg (k := 1) hx hb hX hbl (by omega) hL hl hS d_law_550 d_law_551 d_law_553 d_law_554 d_law_555 (by decide) ?_
  refine lw_call (q := 38) (As := [.int (xs (i + 1))]) (rest := [.int x]) (σ := um_J u1 v) hx hb hml hown hts hK hst hP hD hS g_Lw_72 rfl rfl (Nat.le_of_ble_eq_true rfl) (Nat.le_of_ble_eq_true rfl) (Nat.le_of_ble_eq_true rfl) hl.1 hc1 hc2 d_law_556 (c_Mo_latest (w2a u1 (fun r z => x = r ∧ z = um_J u1 v1) ⟨rfl, rfl⟩)) (fun r uu H locs hq hP hD hS => ?_)
  obtain ⟨y, rfl, rfl, rfl⟩ := hq
  exact lv_icmp_eq (tgt := 614) hx hb d_law_559 rfl (fun _ => cont u1 v1 H locs hG1 hP hD hS) (fun z => absurd rfl z)
set_option maxHeartbeats 1000000 in
theorem lw_case_10 (hx : p.tables.exec = Jvm.exec) (hb : c.code = code) (hml : c.maxLocals = 7) (hown : s.vm.findClass R_Lw = some m.cls) (hts : ∀ w ∈ lw_tbl, w.before args s = true) (hK : va_K D um_cl ((cA, .int) :: tys) s) (hst : um_st um_SX ad (fun x => s.heap.size ≤ x) s s.heap) (hX : va_X b L xs s s.heap) (hbl : b < s.heap.size) (hi : i + 6 ≤ L) (hL : L ≤ 6) (hl : lv_has ls 7 [(0, .ref b), (1, .ref (ad 0)), (2, .ref (ad 38)), (3, .ref qo), (4, .int (nI i))]) (hc1 : cells ≤ 83) (hc2 : slots ≤ 75452)
    (hG : um_G u v) (hP : va_P D um_cl (um_ws ad cA um_L (um_J u v) ++ w2) H) (hD : va_D (fun x => s.heap.size ≤ x) (um_ws ad cA um_L (um_J u v) ++ w2)) (hS : va_S (fun x => s.heap.size ≤ x) s.heap H locs)
    (cont : ∀ (u1 v1 : um_S) (H1 : Heap) (locs1 : List Loc), um_G u1 v1 → va_P D um_cl (um_ws ad cA um_L (um_J u1 v1) ++ w2) H1 → va_D (fun x => s.heap.size ≤ x) (um_ws ad cA um_L (um_J u1 v1) ++ w2) → va_S (fun x => s.heap.size ≤ x) s.heap H1 locs1 → W p l e room_1 s m args below meth c H1 locs1 cells slots Qw (F0 m 614 ls [])) : W p l e room_1 s m args below meth c H locs cells slots Qw (F0 m 564 ls []) := by
  obtain ⟨x, u1, v1, w1, w2a, hG1⟩ := t_out hG (xs (i + 1))
  refine lv_aload_n hx hb d_law_564 rfl (lv_at hl 1 rfl) ?_
  refine lw_arg (k := 1) hx hb hX hbl (by omega) hL hl hS d_law_565 d_law_566 d_law_568 d_law_569 d_law_570 (by decide) ?_
  refine lw_call (q := 0) (As := [.int (xs (i + 1))]) (rest := []) (σ := um_J u v) hx hb hml hown hts hK hst hP hD hS g_Lw_73 rfl rfl (Nat.le_of_ble_eq_true rfl) (Nat.le_of_ble_eq_true rfl) (Nat.le_of_ble_eq_true rfl) hl.1 hc1 hc2 d_law_571 (c_UM_out (w1 v (fun r z => x = r ∧ z = um_J u1 v) ⟨rfl, rfl⟩)) (fun r uu H locs hq hP hD hS => ?_)
  obtain ⟨y, rfl, rfl, rfl⟩ := hq
  refine lv_aload_n hx hb d_law_574 rfl (lv_at hl 2 rfl) ?_
  refine lw_arg (k := 1) hx hb hX hbl (by omega) hL hl hS d_law_575 d_law_576 d_law_578 d_law_579 d_law_580 (by decide) ?_
  refine lw_call (q := 38) (As := [.int (xs (i + 1))]) (rest := [.int x]) (σ := um_J u1 v) hx hb hml hown hts hK hst hP hD hS g_Lw_76 rfl rfl (Nat.le_of_ble_eq_true rfl) (Nat.le_of_ble_eq_true rfl) (Nat.le_of_ble_eq_true rfl) hl.1 hc1 hc2 d_law_581 (c_Mo_out (w2a u1 (fun r z => x = r ∧ z = um_J u1 v1) ⟨rfl, rfl⟩)) (fun r uu H locs hq hP hD hS => ?_)
  obtain ⟨y, rfl, rfl, rfl⟩ := hq
  exact lv_icmp_eq (tgt := 614) hx hb d_law_584 rfl (fun _ => cont u1 v1 H locs hG1 hP hD hS) (fun z => absurd rfl z)
set_option maxHeartbeats 1000000 in
theorem lw_case_11 (hx : p.tables.exec = Jvm.exec) (hb : c.code = code) (hml : c.maxLocals = 7) (hown : s.vm.findClass R_Lw = some m.cls) (hts : ∀ w ∈ lw_tbl, w.before args s = true) (hK : va_K D um_cl ((cA, .int) :: tys) s) (hst : um_st um_SX ad (fun x => s.heap.size ≤ x) s s.heap) (hX : va_X b L xs s s.heap) (hbl : b < s.heap.size) (hi : i + 6 ≤ L) (hL : L ≤ 6) (hl : lv_has ls 7 [(0, .ref b), (1, .ref (ad 0)), (2, .ref (ad 38)), (3, .ref qo), (4, .int (nI i))]) (hc1 : cells ≤ 83) (hc2 : slots ≤ 75452)
    (hG : um_G u v) (hP : va_P D um_cl (um_ws ad cA um_L (um_J u v) ++ w2) H) (hD : va_D (fun x => s.heap.size ≤ x) (um_ws ad cA um_L (um_J u v) ++ w2)) (hS : va_S (fun x => s.heap.size ≤ x) s.heap H locs)
    (cont : ∀ (u1 v1 : um_S) (H1 : Heap) (locs1 : List Loc), um_G u1 v1 → va_P D um_cl (um_ws ad cA um_L (um_J u1 v1) ++ w2) H1 → va_D (fun x => s.heap.size ≤ x) (um_ws ad cA um_L (um_J u1 v1) ++ w2) → va_S (fun x => s.heap.size ≤ x) s.heap H1 locs1 → W p l e room_1 s m args below meth c H1 locs1 cells slots Qw (F0 m 614 ls [])) : W p l e room_1 s m args below meth c H locs cells slots Qw (F0 m 589 ls []) := by
  obtain ⟨x, u1, v1, w1, w2a, hG1⟩ := t_variable hG (xs (i + 1))
  refine lv_aload_n hx hb d_law_589 rfl (lv_at hl 1 rfl) ?_
  refine lw_arg (k := 1) hx hb hX hbl (by omega) hL hl hS d_law_590 d_law_591 d_law_593 d_law_594 d_law_595 (by decide) ?_
  refine lw_call (q := 0) (As := [.int (xs (i + 1))]) (rest := []) (σ := um_J u v) hx hb hml hown hts hK hst hP hD hS g_Lw_77 rfl rfl (Nat.le_of_ble_eq_true rfl) (Nat.le_of_ble_eq_true rfl) (Nat.le_of_ble_eq_true rfl) hl.1 hc1 hc2 d_law_596 (c_UM_variable (w1 v (fun r z => x = r ∧ z = um_J u1 v) ⟨rfl, rfl⟩)) (fun r uu H locs hq hP hD hS => ?_)
  obtain ⟨y, rfl, rfl, rfl⟩ := hq
  refine lv_aload_n hx hb d_law_599 rfl (lv_at hl 2 rfl) ?_
  refine lw_arg (k := 1) hx hb hX hbl (by omega) hL hl hS d_law_600 d_law_601 d_law_603 d_law_604 d_law_605 (by decide) ?_
  refine lw_call (q := 38) (As := [.int (xs (i + 1))]) (rest := [.int x]) (σ := um_J u1 v) hx hb hml hown hts hK hst hP hD hS g_Lw_80 rfl rfl (Nat.le_of_ble_eq_true rfl) (Nat.le_of_ble_eq_true rfl) (Nat.le_of_ble_eq_true rfl) hl.1 hc1 hc2 d_law_606 (c_Mo_variable (w2a u1 (fun r z => x = r ∧ z = um_J u1 v1) ⟨rfl, rfl⟩)) (fun r uu H locs hq hP hD hS => ?_)
  obtain ⟨y, rfl, rfl, rfl⟩ := hq
  exact lv_icmp_eq (tgt := 614) hx hb d_law_609 rfl (fun _ => cont u1 v1 H locs hG1 hP hD hS) (fun z => absurd rfl z)
end LawCases
