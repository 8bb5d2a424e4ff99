def wp_Mo_apart_221 (Q : um_S → Prop) (v2 : Int32) (σ : um_S) : Prop :=
  vp_in v2 2001 ∧ vp_in v2 2001 ∧ wp_Mo_put 15 (σ 58 v2.toNatClampNeg) (σ 56 v2.toNatClampNeg) σ (fun σ1 => wp_Mo_last v2 σ1 (fun σ2 => Q σ2))
def wp_Mo_apart_247 (Q : um_S → Prop) (v1 : Int32) (v2 : Int32) (σ : um_S) : Prop :=
  vp_in v1 2002 ∧ (¬ (σ 67 v1.toNatClampNeg) = 101 → vp_in v1 2002 ∧ (¬ (σ 67 v1.toNatClampNeg) = 102 → vp_in v1 2002 ∧ (¬ (σ 67 v1.toNatClampNeg) = 103 → vp_in v2 2001 ∧ vp_in v2 2001 ∧ wp_Mo_put 16 (σ 58 v2.toNatClampNeg) (σ 56 v2.toNatClampNeg) σ (fun σ1 => ∀ σ2 : um_S, σ2 = um_up σ1 38 37 ((σ1 38 37) - 1) → Q σ2)) ∧ ((σ 67 v1.toNatClampNeg) = 103 → vp_in v2 2001 ∧ vp_in v2 2001 ∧ wp_Mo_put 11 (σ 59 v2.toNatClampNeg) (σ 56 v2.toNatClampNeg) σ (fun σ3 => vp_in v1 2002 ∧ vp_in v1 2002 ∧ ∀ σ4 : um_S, σ4 = um_up σ3 69 v1.toNatClampNeg ((σ3 69 v1.toNatClampNeg) + 1) → vp_in v1 2002 ∧ ∀ σ5 : um_S, σ5 = um_up σ4 67 v1.toNatClampNeg 100 → Q σ5))) ∧ ((σ 67 v1.toNatClampNeg) = 102 → wp_Mo_hasFinally v2 σ (fun t7 σ6 => (t7 = false → Q σ6) ∧ (t7 = true → wp_Mo_last v2 σ6 (fun σ8 => Q σ8))))) ∧ ((σ 67 v1.toNatClampNeg) = 101 → ∀ σ9 : um_S, σ9 = um_up σ 38 37 ((σ 38 37) - 1) → Q σ9)
def wp_Mo_apart_140 (Q : um_S → Prop) (v1 : Int32) (v2 : Int32) (σ : um_S) : Prop :=
  vp_in v1 2002 ∧ (¬ (σ 67 v1.toNatClampNeg) = 101 → wp_Mo_apart_247 Q v1 v2 σ) ∧ ((σ 67 v1.toNatClampNeg) = 101 → wp_Mo_hasFinally v2 σ (fun t2 σ1 => (t2 = false → wp_Mo_apart_247 Q v1 v2 σ1) ∧ (t2 = true → vp_in v1 2002 ∧ ∀ σ3 : um_S, σ3 = um_up σ1 67 v1.toNatClampNeg 201 → vp_in (σ3 38 30) 2001 ∧ ∀ σ4 : um_S, σ4 = um_up σ3 61 (σ3 38 30).toNatClampNeg (σ3 38 10) → ∀ σ5 : um_S, σ5 = um_up σ4 38 30 ((σ4 38 30) + 1) → vp_in v2 2001 ∧ ((σ5 58 v2.toNatClampNeg) ≤ (σ5 38 21) → ∀ σ6 : um_S, σ6 = um_up σ5 38 21 (σ5 38 21) → wp_Mo_apart_221 Q v2 σ6) ∧ (¬ (σ5 58 v2.toNatClampNeg) ≤ (σ5 38 21) → vp_in v2 2001 ∧ ∀ σ7 : um_S, σ7 = um_up σ5 38 21 (σ5 58 v2.toNatClampNeg) → wp_Mo_apart_221 Q v2 σ7))))
def wp_Mo_apart (a1 : Int32) (σ : um_S) (Q : um_S → Prop) : Prop :=
  vp_in a1 2002 ∧ ∀ x1 : Int32, x1 = (σ 68 a1.toNatClampNeg) → vp_in a1 2002 ∧ ∀ x2 : Int32, x2 = (σ 63 a1.toNatClampNeg) → vp_in a1 2002 ∧ (¬ (σ 67 a1.toNatClampNeg) = 101 → wp_Mo_apart_140 Q a1 x1 σ) ∧ ((σ 67 a1.toNatClampNeg) = 101 → vp_in a1 2002 ∧ wp_Mo_catches x2 σ (fun x4 σ3 => (x4 ≤ (σ 69 a1.toNatClampNeg) → wp_Mo_apart_140 Q a1 x1 σ3) ∧ (¬ x4 ≤ (σ 69 a1.toNatClampNeg) → vp_in a1 2002 ∧ wp_Mo_catchAt x2 (σ3 69 a1.toNatClampNeg) σ3 (fun x6 σ5 => vp_in (σ5 38 30) 2001 ∧ ∀ σ7 : um_S, σ7 = um_up σ5 61 (σ5 38 30).toNatClampNeg (σ5 38 10) → ∀ σ8 : um_S, σ8 = um_up σ7 38 30 ((σ7 38 30) + 1) → vp_in x6 150 ∧ wp_Mo_put 8 (σ8 42 x6.toNatClampNeg) ((2 * x1) + 1) σ8 (fun σ9 => vp_in x6 150 ∧ vp_in x1 2001 ∧ vp_in x1 2001 ∧ wp_Mo_hasFinally x1 σ9 (fun t11 σ10 => (t11 = false → wp_Mo_begin (σ9 43 x6.toNatClampNeg) ((2 * x1) + 1) ((σ9 57 x1.toNatClampNeg) + 1) ((σ9 58 x1.toNatClampNeg) + 0) σ10 (fun σ12 => Q σ12)) ∧ (t11 = true → wp_Mo_begin (σ9 43 x6.toNatClampNeg) ((2 * x1) + 1) ((σ9 57 x1.toNatClampNeg) + 1) ((σ9 58 x1.toNatClampNeg) + 1) σ10 (fun σ13 => Q σ13))))))))
set_option maxHeartbeats 4000000 in
set_option maxRecDepth 100000 in
theorem b_Mo_apart_221 {Q : um_S → Prop} {v2 : Int32} {σ : um_S} (h : wp_Mo_apart_221 Q v2 σ) : um_Ev um_cl um_AW um_L um_SX M_Mo_apart 2 47 221 [some (.ref 38), none, some (.int v2), none, none] [] σ (um_Qv Q) := by
  unfold wp_Mo_apart_221 at h
  refine um_aload_n (pc2 := 222) d_Mo_apart_221 rfl rfl ?_
  refine um_bipush (pc2 := 224) (v := 15) d_Mo_apart_222 rfl (by decide) ?_
  refine um_aload_n (pc2 := 225) d_Mo_apart_224 rfl rfl ?_
  refine um_getR (pc2 := 228) d_Mo_apart_225 rfl f_Mo_67 rfl rfl ?_
  refine um_iload_n (pc2 := 229) d_Mo_apart_228 rfl rfl ?_
  refine um_iald (pc2 := 230) d_Mo_apart_229 rfl rfl h.1 rfl ?_
  replace h := h.2
  refine um_aload_n (pc2 := 231) d_Mo_apart_230 rfl rfl ?_
  refine um_getR (pc2 := 234) d_Mo_apart_231 rfl f_Mo_61 rfl rfl ?_
  refine um_iload_n (pc2 := 235) d_Mo_apart_234 rfl rfl ?_
  refine um_iald (pc2 := 236) d_Mo_apart_235 rfl rfl h.1 rfl ?_
  replace h := h.2
  refine um_callV3v (pc2 := 239) d_Mo_apart_236 rfl g_Mo_200 rfl (Nat.le_of_ble_eq_true rfl) (Nat.le_of_ble_eq_true rfl) (Nat.le_of_ble_eq_true rfl) (c_Mo_put h) (fun σ1 h => ?_)
  refine um_aload_n (pc2 := 240) d_Mo_apart_239 rfl rfl ?_
  refine um_iload_n (pc2 := 241) d_Mo_apart_240 rfl rfl ?_
  refine um_callV1v (pc2 := 244) d_Mo_apart_241 rfl g_Mo_228 rfl (Nat.le_of_ble_eq_true rfl) (Nat.le_of_ble_eq_true rfl) (Nat.le_of_ble_eq_true rfl) (c_Mo_last h) (fun σ2 h => ?_)
  refine um_goto (tgt := 376) d_Mo_apart_244 rfl ?_
  exact um_vret d_Mo_apart_376 rfl ⟨rfl, h⟩
set_option maxHeartbeats 4000000 in
set_option maxRecDepth 100000 in
theorem b_Mo_apart_247 {Q : um_S → Prop} {v1 : Int32} {v2 : Int32} {σ : um_S} (h : wp_Mo_apart_247 Q v1 v2 σ) : um_Ev um_cl um_AW um_L um_SX M_Mo_apart 2 47 247 [some (.ref 38), some (.int v1), some (.int v2), none, none] [] σ (um_Qv Q) := by
  unfold wp_Mo_apart_247 at h
  refine um_aload_n (pc2 := 248) d_Mo_apart_247 rfl rfl ?_
  refine um_getR (pc2 := 251) d_Mo_apart_248 rfl f_Mo_94 rfl rfl ?_
  refine um_iload_n (pc2 := 252) d_Mo_apart_251 rfl rfl ?_
  refine um_iald (pc2 := 253) d_Mo_apart_252 rfl rfl h.1 rfl ?_
  replace h := h.2
  refine um_bipush (pc2 := 255) (v := 101) d_Mo_apart_253 rfl (by decide) ?_
  refine um_icmp_ne (pc2 := 258) (tgt := 271) d_Mo_apart_255 rfl rfl (fun z => ?_) (fun z => ?_)
  · replace h := h.1 z
    refine um_aload_n (pc2 := 272) d_Mo_apart_271 rfl rfl ?_
    refine um_getR (pc2 := 275) d_Mo_apart_272 rfl f_Mo_94 rfl rfl ?_
    refine um_iload_n (pc2 := 276) d_Mo_apart_275 rfl rfl ?_
    refine um_iald (pc2 := 277) d_Mo_apart_276 rfl rfl h.1 rfl ?_
    replace h := h.2
    refine um_bipush (pc2 := 279) (v := 102) d_Mo_apart_277 rfl (by decide) ?_
    refine um_icmp_ne (pc2 := 282) (tgt := 298) d_Mo_apart_279 rfl rfl (fun z => ?_) (fun z => ?_)
    · replace h := h.1 z
      refine um_aload_n (pc2 := 299) d_Mo_apart_298 rfl rfl ?_
      refine um_getR (pc2 := 302) d_Mo_apart_299 rfl f_Mo_94 rfl rfl ?_
      refine um_iload_n (pc2 := 303) d_Mo_apart_302 rfl rfl ?_
      refine um_iald (pc2 := 304) d_Mo_apart_303 rfl rfl h.1 rfl ?_
      replace h := h.2
      refine um_bipush (pc2 := 306) (v := 103) d_Mo_apart_304 rfl (by decide) ?_
      refine um_icmp_ne (pc2 := 309) (tgt := 348) d_Mo_apart_306 rfl rfl (fun z => ?_) (fun z => ?_)
      · replace h := h.1 z
        refine um_aload_n (pc2 := 349) d_Mo_apart_348 rfl rfl ?_
        refine um_bipush (pc2 := 351) (v := 16) d_Mo_apart_349 rfl (by decide) ?_
        refine um_aload_n (pc2 := 352) d_Mo_apart_351 rfl rfl ?_
        refine um_getR (pc2 := 355) d_Mo_apart_352 rfl f_Mo_67 rfl rfl ?_
        refine um_iload_n (pc2 := 356) d_Mo_apart_355 rfl rfl ?_
        refine um_iald (pc2 := 357) d_Mo_apart_356 rfl rfl h.1 rfl ?_
        replace h := h.2
        refine um_aload_n (pc2 := 358) d_Mo_apart_357 rfl rfl ?_
        refine um_getR (pc2 := 361) d_Mo_apart_358 rfl f_Mo_61 rfl rfl ?_
        refine um_iload_n (pc2 := 362) d_Mo_apart_361 rfl rfl ?_
        refine um_iald (pc2 := 363) d_Mo_apart_362 rfl rfl h.1 rfl ?_
        replace h := h.2
        refine um_callV3v (pc2 := 366) d_Mo_apart_363 rfl g_Mo_200 rfl (Nat.le_of_ble_eq_true rfl) (Nat.le_of_ble_eq_true rfl) (Nat.le_of_ble_eq_true rfl) (c_Mo_put h) (fun σ1 h => ?_)
        refine um_aload_n (pc2 := 367) d_Mo_apart_366 rfl rfl ?_
        refine um_dup (pc2 := 368) d_Mo_apart_367 rfl rfl ?_
        refine um_getI (pc2 := 371) d_Mo_apart_368 rfl f_Mo_173 rfl rfl ?_
        refine um_iconst (pc2 := 372) (v := 1) d_Mo_apart_371 rfl (by decide) ?_
        refine um_isub (pc2 := 373) d_Mo_apart_372 rfl ?_
        refine um_putI (pc2 := 376) d_Mo_apart_373 rfl fw_Mo_173 rfl rfl (um_gen (fun σ2 eσ2 => ?_))
        replace h := h σ2 eσ2
        exact um_vret d_Mo_apart_376 rfl ⟨rfl, h⟩
      · replace h := h.2 z
        refine um_aload_n (pc2 := 310) d_Mo_apart_309 rfl rfl ?_
        refine um_bipush (pc2 := 312) (v := 11) d_Mo_apart_310 rfl (by decide) ?_
        refine um_aload_n (pc2 := 313) d_Mo_apart_312 rfl rfl ?_
        refine um_getR (pc2 := 316) d_Mo_apart_313 rfl f_Mo_70 rfl rfl ?_
        refine um_iload_n (pc2 := 317) d_Mo_apart_316 rfl rfl ?_
        refine um_iald (pc2 := 318) d_Mo_apart_317 rfl rfl h.1 rfl ?_
        replace h := h.2
        refine um_aload_n (pc2 := 319) d_Mo_apart_318 rfl rfl ?_
        refine um_getR (pc2 := 322) d_Mo_apart_319 rfl f_Mo_61 rfl rfl ?_
        refine um_iload_n (pc2 := 323) d_Mo_apart_322 rfl rfl ?_
        refine um_iald (pc2 := 324) d_Mo_apart_323 rfl rfl h.1 rfl ?_
        replace h := h.2
        refine um_callV3v (pc2 := 327) d_Mo_apart_324 rfl g_Mo_200 rfl (Nat.le_of_ble_eq_true rfl) (Nat.le_of_ble_eq_true rfl) (Nat.le_of_ble_eq_true rfl) (c_Mo_put h) (fun σ3 h => ?_)
        refine um_aload_n (pc2 := 328) d_Mo_apart_327 rfl rfl ?_
        refine um_getR (pc2 := 331) d_Mo_apart_328 rfl f_Mo_100 rfl rfl ?_
        refine um_iload_n (pc2 := 332) d_Mo_apart_331 rfl rfl ?_
        refine um_dup2 (pc2 := 333) d_Mo_apart_332 rfl rfl rfl ?_
        refine um_iald (pc2 := 334) d_Mo_apart_333 rfl rfl h.1 rfl ?_
        replace h := h.2
        refine um_iconst (pc2 := 335) (v := 1) d_Mo_apart_334 rfl (by decide) ?_
        refine um_iadd (pc2 := 336) d_Mo_apart_335 rfl ?_
        refine um_iast (pc2 := 337) d_Mo_apart_336 rfl rfl h.1 rfl (um_gen (fun σ4 eσ4 => ?_))
        replace h := h.2 σ4 eσ4
        refine um_aload_n (pc2 := 338) d_Mo_apart_337 rfl rfl ?_
        refine um_getR (pc2 := 341) d_Mo_apart_338 rfl f_Mo_94 rfl rfl ?_
        refine um_iload_n (pc2 := 342) d_Mo_apart_341 rfl rfl ?_
        refine um_bipush (pc2 := 344) (v := 100) d_Mo_apart_342 rfl (by decide) ?_
        refine um_iast (pc2 := 345) d_Mo_apart_344 rfl rfl h.1 rfl (um_gen (fun σ5 eσ5 => ?_))
        replace h := h.2 σ5 eσ5
        refine um_goto (tgt := 376) d_Mo_apart_345 rfl ?_
        exact um_vret d_Mo_apart_376 rfl ⟨rfl, h⟩
    · replace h := h.2 z
      refine um_aload_n (pc2 := 283) d_Mo_apart_282 rfl rfl ?_
      refine um_iload_n (pc2 := 284) d_Mo_apart_283 rfl rfl ?_
      refine um_callV1z (pc2 := 287) d_Mo_apart_284 rfl g_Mo_225 rfl (Nat.le_of_ble_eq_true rfl) (Nat.le_of_ble_eq_true rfl) (Nat.le_of_ble_eq_true rfl) (c_Mo_hasFinally h) (fun t7 σ6 h => ?_)
      refine um_if_eq (pc2 := 290) (tgt := 376) d_Mo_apart_287 rfl rfl (fun z => ?_) (fun z => ?_)
      · replace h := h.1 (um_b0 z)
        exact um_vret d_Mo_apart_376 rfl ⟨rfl, h⟩
      · replace h := h.2 (um_b1 z)
        refine um_aload_n (pc2 := 291) d_Mo_apart_290 rfl rfl ?_
        refine um_iload_n (pc2 := 292) d_Mo_apart_291 rfl rfl ?_
        refine um_callV1v (pc2 := 295) d_Mo_apart_292 rfl g_Mo_228 rfl (Nat.le_of_ble_eq_true rfl) (Nat.le_of_ble_eq_true rfl) (Nat.le_of_ble_eq_true rfl) (c_Mo_last h) (fun σ8 h => ?_)
        refine um_goto (tgt := 376) d_Mo_apart_295 rfl ?_
        exact um_vret d_Mo_apart_376 rfl ⟨rfl, h⟩
  · replace h := h.2 z
    refine um_aload_n (pc2 := 259) d_Mo_apart_258 rfl rfl ?_
    refine um_dup (pc2 := 260) d_Mo_apart_259 rfl rfl ?_
    refine um_getI (pc2 := 263) d_Mo_apart_260 rfl f_Mo_173 rfl rfl ?_
    refine um_iconst (pc2 := 264) (v := 1) d_Mo_apart_263 rfl (by decide) ?_
    refine um_isub (pc2 := 265) d_Mo_apart_264 rfl ?_
    refine um_putI (pc2 := 268) d_Mo_apart_265 rfl fw_Mo_173 rfl rfl (um_gen (fun σ9 eσ9 => ?_))
    replace h := h σ9 eσ9
    refine um_goto (tgt := 376) d_Mo_apart_268 rfl ?_
    exact um_vret d_Mo_apart_376 rfl ⟨rfl, h⟩
set_option maxHeartbeats 4000000 in
set_option maxRecDepth 100000 in
theorem b_Mo_apart_140 {Q : um_S → Prop} {v1 : Int32} {v2 : Int32} {σ : um_S} (h : wp_Mo_apart_140 Q v1 v2 σ) : um_Ev um_cl um_AW um_L um_SX M_Mo_apart 2 47 140 [some (.ref 38), some (.int v1), some (.int v2), none, none] [] σ (um_Qv Q) := by
  unfold wp_Mo_apart_140 at h
  refine um_aload_n (pc2 := 141) d_Mo_apart_140 rfl rfl ?_
  refine um_getR (pc2 := 144) d_Mo_apart_141 rfl f_Mo_94 rfl rfl ?_
  refine um_iload_n (pc2 := 145) d_Mo_apart_144 rfl rfl ?_
  refine um_iald (pc2 := 146) d_Mo_apart_145 rfl rfl h.1 rfl ?_
  replace h := h.2
  refine um_bipush (pc2 := 148) (v := 101) d_Mo_apart_146 rfl (by decide) ?_
  refine um_icmp_ne (pc2 := 151) (tgt := 247) d_Mo_apart_148 rfl rfl (fun z => ?_) (fun z => ?_)
  · replace h := h.1 z
    refine um_forget [true, true, true, false, false] rfl ?_
    exact b_Mo_apart_247 h
  · replace h := h.2 z
    refine um_aload_n (pc2 := 152) d_Mo_apart_151 rfl rfl ?_
    refine um_iload_n (pc2 := 153) d_Mo_apart_152 rfl rfl ?_
    refine um_callV1z (pc2 := 156) d_Mo_apart_153 rfl g_Mo_225 rfl (Nat.le_of_ble_eq_true rfl) (Nat.le_of_ble_eq_true rfl) (Nat.le_of_ble_eq_true rfl) (c_Mo_hasFinally h) (fun t2 σ1 h => ?_)
    refine um_if_eq (pc2 := 159) (tgt := 247) d_Mo_apart_156 rfl rfl (fun z => ?_) (fun z => ?_)
    · replace h := h.1 (um_b0 z)
      refine um_forget [true, true, true, false, false] rfl ?_
      exact b_Mo_apart_247 h
    · replace h := h.2 (um_b1 z)
      refine um_aload_n (pc2 := 160) d_Mo_apart_159 rfl rfl ?_
      refine um_getR (pc2 := 163) d_Mo_apart_160 rfl f_Mo_94 rfl rfl ?_
      refine um_iload_n (pc2 := 164) d_Mo_apart_163 rfl rfl ?_
      refine um_sipush (pc2 := 167) (v := 201) d_Mo_apart_164 rfl (by decide) ?_
      refine um_iast (pc2 := 168) d_Mo_apart_167 rfl rfl h.1 rfl (um_gen (fun σ3 eσ3 => ?_))
      replace h := h.2 σ3 eσ3
      refine um_aload_n (pc2 := 169) d_Mo_apart_168 rfl rfl ?_
      refine um_getR (pc2 := 172) d_Mo_apart_169 rfl f_Mo_76 rfl rfl ?_
      refine um_aload_n (pc2 := 173) d_Mo_apart_172 rfl rfl ?_
      refine um_getI (pc2 := 176) d_Mo_apart_173 rfl f_Mo_238 rfl rfl ?_
      refine um_aload_n (pc2 := 177) d_Mo_apart_176 rfl rfl ?_
      refine um_getI (pc2 := 180) d_Mo_apart_177 rfl f_Mo_164 rfl rfl ?_
      refine um_iast (pc2 := 181) d_Mo_apart_180 rfl rfl h.1 rfl (um_gen (fun σ4 eσ4 => ?_))
      replace h := h.2 σ4 eσ4
      refine um_aload_n (pc2 := 182) d_Mo_apart_181 rfl rfl ?_
      refine um_dup (pc2 := 183) d_Mo_apart_182 rfl rfl ?_
      refine um_getI (pc2 := 186) d_Mo_apart_183 rfl f_Mo_238 rfl rfl ?_
      refine um_iconst (pc2 := 187) (v := 1) d_Mo_apart_186 rfl (by decide) ?_
      refine um_iadd (pc2 := 188) d_Mo_apart_187 rfl ?_
      refine um_putI (pc2 := 191) d_Mo_apart_188 rfl fw_Mo_238 rfl rfl (um_gen (fun σ5 eσ5 => ?_))
      replace h := h σ5 eσ5
      refine um_aload_n (pc2 := 192) d_Mo_apart_191 rfl rfl ?_
      refine um_aload_n (pc2 := 193) d_Mo_apart_192 rfl rfl ?_
      refine um_getR (pc2 := 196) d_Mo_apart_193 rfl f_Mo_67 rfl rfl ?_
      refine um_iload_n (pc2 := 197) d_Mo_apart_196 rfl rfl ?_
      refine um_iald (pc2 := 198) d_Mo_apart_197 rfl rfl h.1 rfl ?_
      replace h := h.2
      refine um_aload_n (pc2 := 199) d_Mo_apart_198 rfl rfl ?_
      refine um_getI (pc2 := 202) d_Mo_apart_199 rfl f_Mo_241 rfl rfl ?_
      refine um_icmp_le (pc2 := 205) (tgt := 214) d_Mo_apart_202 rfl rfl (fun z => ?_) (fun z => ?_)
      · replace h := h.1 z
        refine um_aload_n (pc2 := 215) d_Mo_apart_214 rfl rfl ?_
        refine um_getI (pc2 := 218) d_Mo_apart_215 rfl f_Mo_241 rfl rfl ?_
        refine um_putI (pc2 := 221) d_Mo_apart_218 rfl fw_Mo_241 rfl rfl (um_gen (fun σ6 eσ6 => ?_))
        replace h := h σ6 eσ6
        refine um_forget [true, false, true, false, false] rfl ?_
        exact b_Mo_apart_221 h
      · replace h := h.2 z
        refine um_aload_n (pc2 := 206) d_Mo_apart_205 rfl rfl ?_
        refine um_getR (pc2 := 209) d_Mo_apart_206 rfl f_Mo_67 rfl rfl ?_
        refine um_iload_n (pc2 := 210) d_Mo_apart_209 rfl rfl ?_
        refine um_iald (pc2 := 211) d_Mo_apart_210 rfl rfl h.1 rfl ?_
        replace h := h.2
        refine um_goto (tgt := 218) d_Mo_apart_211 rfl ?_
        refine um_putI (pc2 := 221) d_Mo_apart_218 rfl fw_Mo_241 rfl rfl (um_gen (fun σ7 eσ7 => ?_))
        replace h := h σ7 eσ7
        refine um_forget [true, false, true, false, false] rfl ?_
        exact b_Mo_apart_221 h
set_option maxHeartbeats 4000000 in
set_option maxRecDepth 100000 in
theorem c_Mo_apart {a1 : Int32} {σ : um_S} {Q : um_S → Prop} (h : wp_Mo_apart a1 σ Q) : um_Con um_cl um_AW um_L um_SX 2 47 M_Mo_apart [.ref 38, .int a1] σ (um_Qv Q) := by
  refine um_con (by decide) (Nat.le_of_ble_eq_true rfl) (fun v hv => by simp only [List.mem_cons, List.not_mem_nil, or_false] at hv; rcases hv with rfl | rfl <;> rfl) ?_
  show um_Ev um_cl um_AW um_L um_SX M_Mo_apart 2 47 0 [some (.ref 38), some (.int a1), none, none, none] [] σ (um_Qv Q)
  unfold wp_Mo_apart at h
  refine um_aload_n (pc2 := 1) d_Mo_apart_0 rfl rfl ?_
  refine um_getR (pc2 := 4) d_Mo_apart_1 rfl f_Mo_97 rfl rfl ?_
  refine um_iload_n (pc2 := 5) d_Mo_apart_4 rfl rfl ?_
  refine um_iald (pc2 := 6) d_Mo_apart_5 rfl rfl h.1 rfl ?_
  replace h := h.2
  refine um_top (fun x1 ex1 => ?_)
  replace h := h x1 ex1
  refine um_istore_n (pc2 := 7) (ls2 := [some (.ref 38), some (.int a1), some (.int x1), none, none]) d_Mo_apart_6 rfl (Nat.le_of_ble_eq_true rfl) rfl ?_
  refine um_aload_n (pc2 := 8) d_Mo_apart_7 rfl rfl ?_
  refine um_getR (pc2 := 11) d_Mo_apart_8 rfl f_Mo_82 rfl rfl ?_
  refine um_iload_n (pc2 := 12) d_Mo_apart_11 rfl rfl ?_
  refine um_iald (pc2 := 13) d_Mo_apart_12 rfl rfl h.1 rfl ?_
  replace h := h.2
  refine um_top (fun x2 ex2 => ?_)
  replace h := h x2 ex2
  refine um_istore_n (pc2 := 14) (ls2 := [some (.ref 38), some (.int a1), some (.int x1), some (.int x2), none]) d_Mo_apart_13 rfl (Nat.le_of_ble_eq_true rfl) rfl ?_
  refine um_aload_n (pc2 := 15) d_Mo_apart_14 rfl rfl ?_
  refine um_getR (pc2 := 18) d_Mo_apart_15 rfl f_Mo_94 rfl rfl ?_
  refine um_iload_n (pc2 := 19) d_Mo_apart_18 rfl rfl ?_
  refine um_iald (pc2 := 20) d_Mo_apart_19 rfl rfl h.1 rfl ?_
  replace h := h.2
  refine um_bipush (pc2 := 22) (v := 101) d_Mo_apart_20 rfl (by decide) ?_
  refine um_icmp_ne (pc2 := 25) (tgt := 140) d_Mo_apart_22 rfl rfl (fun z => ?_) (fun z => ?_)
  · replace h := h.1 z
    refine um_forget [true, true, true, false, false] rfl ?_
    exact b_Mo_apart_140 h
  · replace h := h.2 z
    refine um_aload_n (pc2 := 26) d_Mo_apart_25 rfl rfl ?_
    refine um_getR (pc2 := 29) d_Mo_apart_26 rfl f_Mo_100 rfl rfl ?_
    refine um_iload_n (pc2 := 30) d_Mo_apart_29 rfl rfl ?_
    refine um_iald (pc2 := 31) d_Mo_apart_30 rfl rfl h.1 rfl ?_
    replace h := h.2
    refine um_aload_n (pc2 := 32) d_Mo_apart_31 rfl rfl ?_
    refine um_iload_n (pc2 := 33) d_Mo_apart_32 rfl rfl ?_
    refine um_callV1i (pc2 := 36) d_Mo_apart_33 rfl g_Mo_160 rfl (Nat.le_of_ble_eq_true rfl) (Nat.le_of_ble_eq_true rfl) (Nat.le_of_ble_eq_true rfl) (c_Mo_catches h) (fun x4 σ3 h => ?_)
    refine um_icmp_ge (pc2 := 39) (tgt := 140) d_Mo_apart_36 rfl rfl (fun z => ?_) (fun z => ?_)
    · replace h := h.1 z
      refine um_forget [true, true, true, false, false] rfl ?_
      exact b_Mo_apart_140 h
    · replace h := h.2 z
      refine um_aload_n (pc2 := 40) d_Mo_apart_39 rfl rfl ?_
      refine um_iload_n (pc2 := 41) d_Mo_apart_40 rfl rfl ?_
      refine um_aload_n (pc2 := 42) d_Mo_apart_41 rfl rfl ?_
      refine um_getR (pc2 := 45) d_Mo_apart_42 rfl f_Mo_100 rfl rfl ?_
      refine um_iload_n (pc2 := 46) d_Mo_apart_45 rfl rfl ?_
      refine um_iald (pc2 := 47) d_Mo_apart_46 rfl rfl h.1 rfl ?_
      replace h := h.2
      refine um_callV2i (pc2 := 50) d_Mo_apart_47 rfl g_Mo_234 rfl (Nat.le_of_ble_eq_true rfl) (Nat.le_of_ble_eq_true rfl) (Nat.le_of_ble_eq_true rfl) (c_Mo_catchAt h) (fun x6 σ5 h => ?_)
      refine um_istore (pc2 := 52) (ls2 := [some (.ref 38), some (.int a1), some (.int x1), some (.int x2), some (.int x6)]) d_Mo_apart_50 rfl (Nat.le_of_ble_eq_true rfl) rfl ?_
      refine um_aload_n (pc2 := 53) d_Mo_apart_52 rfl rfl ?_
      refine um_getR (pc2 := 56) d_Mo_apart_53 rfl f_Mo_76 rfl rfl ?_
      refine um_aload_n (pc2 := 57) d_Mo_apart_56 rfl rfl ?_
      refine um_getI (pc2 := 60) d_Mo_apart_57 rfl f_Mo_238 rfl rfl ?_
      refine um_aload_n (pc2 := 61) d_Mo_apart_60 rfl rfl ?_
      refine um_getI (pc2 := 64) d_Mo_apart_61 rfl f_Mo_164 rfl rfl ?_
      refine um_iast (pc2 := 65) d_Mo_apart_64 rfl rfl h.1 rfl (um_gen (fun σ7 eσ7 => ?_))
      replace h := h.2 σ7 eσ7
      refine um_aload_n (pc2 := 66) d_Mo_apart_65 rfl rfl ?_
      refine um_dup (pc2 := 67) d_Mo_apart_66 rfl rfl ?_
      refine um_getI (pc2 := 70) d_Mo_apart_67 rfl f_Mo_238 rfl rfl ?_
      refine um_iconst (pc2 := 71) (v := 1) d_Mo_apart_70 rfl (by decide) ?_
      refine um_iadd (pc2 := 72) d_Mo_apart_71 rfl ?_
      refine um_putI (pc2 := 75) d_Mo_apart_72 rfl fw_Mo_238 rfl rfl (um_gen (fun σ8 eσ8 => ?_))
      replace h := h σ8 eσ8
      refine um_aload_n (pc2 := 76) d_Mo_apart_75 rfl rfl ?_
      refine um_bipush (pc2 := 78) (v := 8) d_Mo_apart_76 rfl (by decide) ?_
      refine um_aload_n (pc2 := 79) d_Mo_apart_78 rfl rfl ?_
      refine um_getR (pc2 := 82) d_Mo_apart_79 rfl f_Mo_19 rfl rfl ?_
      refine um_iload (pc2 := 84) d_Mo_apart_82 rfl rfl ?_
      refine um_iald (pc2 := 85) d_Mo_apart_84 rfl rfl h.1 rfl ?_
      replace h := h.2
      refine um_iconst (pc2 := 86) (v := 2) d_Mo_apart_85 rfl (by decide) ?_
      refine um_iload_n (pc2 := 87) d_Mo_apart_86 rfl rfl ?_
      refine um_imul (pc2 := 88) d_Mo_apart_87 rfl ?_
      refine um_iconst (pc2 := 89) (v := 1) d_Mo_apart_88 rfl (by decide) ?_
      refine um_iadd (pc2 := 90) d_Mo_apart_89 rfl ?_
      refine um_callV3v (pc2 := 93) d_Mo_apart_90 rfl g_Mo_200 rfl (Nat.le_of_ble_eq_true rfl) (Nat.le_of_ble_eq_true rfl) (Nat.le_of_ble_eq_true rfl) (c_Mo_put h) (fun σ9 h => ?_)
      refine um_aload_n (pc2 := 94) d_Mo_apart_93 rfl rfl ?_
      refine um_aload_n (pc2 := 95) d_Mo_apart_94 rfl rfl ?_
      refine um_getR (pc2 := 98) d_Mo_apart_95 rfl f_Mo_22 rfl rfl ?_
      refine um_iload (pc2 := 100) d_Mo_apart_98 rfl rfl ?_
      refine um_iald (pc2 := 101) d_Mo_apart_100 rfl rfl h.1 rfl ?_
      replace h := h.2
      refine um_iconst (pc2 := 102) (v := 2) d_Mo_apart_101 rfl (by decide) ?_
      refine um_iload_n (pc2 := 103) d_Mo_apart_102 rfl rfl ?_
      refine um_imul (pc2 := 104) d_Mo_apart_103 rfl ?_
      refine um_iconst (pc2 := 105) (v := 1) d_Mo_apart_104 rfl (by decide) ?_
      refine um_iadd (pc2 := 106) d_Mo_apart_105 rfl ?_
      refine um_aload_n (pc2 := 107) d_Mo_apart_106 rfl rfl ?_
      refine um_getR (pc2 := 110) d_Mo_apart_107 rfl f_Mo_64 rfl rfl ?_
      refine um_iload_n (pc2 := 111) d_Mo_apart_110 rfl rfl ?_
      refine um_iald (pc2 := 112) d_Mo_apart_111 rfl rfl h.1 rfl ?_
      replace h := h.2
      refine um_iconst (pc2 := 113) (v := 1) d_Mo_apart_112 rfl (by decide) ?_
      refine um_iadd (pc2 := 114) d_Mo_apart_113 rfl ?_
      refine um_aload_n (pc2 := 115) d_Mo_apart_114 rfl rfl ?_
      refine um_getR (pc2 := 118) d_Mo_apart_115 rfl f_Mo_67 rfl rfl ?_
      refine um_iload_n (pc2 := 119) d_Mo_apart_118 rfl rfl ?_
      refine um_iald (pc2 := 120) d_Mo_apart_119 rfl rfl h.1 rfl ?_
      replace h := h.2
      refine um_aload_n (pc2 := 121) d_Mo_apart_120 rfl rfl ?_
      refine um_iload_n (pc2 := 122) d_Mo_apart_121 rfl rfl ?_
      refine um_callV1z (pc2 := 125) d_Mo_apart_122 rfl g_Mo_225 rfl (Nat.le_of_ble_eq_true rfl) (Nat.le_of_ble_eq_true rfl) (Nat.le_of_ble_eq_true rfl) (c_Mo_hasFinally h) (fun t11 σ10 h => ?_)
      refine um_if_eq (pc2 := 128) (tgt := 132) d_Mo_apart_125 rfl rfl (fun z => ?_) (fun z => ?_)
      · replace h := h.1 (um_b0 z)
        refine um_iconst (pc2 := 133) (v := 0) d_Mo_apart_132 rfl (by decide) ?_
        refine um_iadd (pc2 := 134) d_Mo_apart_133 rfl ?_
        refine um_callV4v (pc2 := 137) d_Mo_apart_134 rfl g_Mo_176 rfl (Nat.le_of_ble_eq_true rfl) (Nat.le_of_ble_eq_true rfl) (Nat.le_of_ble_eq_true rfl) (c_Mo_begin h) (fun σ12 h => ?_)
        refine um_goto (tgt := 376) d_Mo_apart_137 rfl ?_
        exact um_vret d_Mo_apart_376 rfl ⟨rfl, h⟩
      · replace h := h.2 (um_b1 z)
        refine um_iconst (pc2 := 129) (v := 1) d_Mo_apart_128 rfl (by decide) ?_
        refine um_goto (tgt := 133) d_Mo_apart_129 rfl ?_
        refine um_iadd (pc2 := 134) d_Mo_apart_133 rfl ?_
        refine um_callV4v (pc2 := 137) d_Mo_apart_134 rfl g_Mo_176 rfl (Nat.le_of_ble_eq_true rfl) (Nat.le_of_ble_eq_true rfl) (Nat.le_of_ble_eq_true rfl) (c_Mo_begin h) (fun σ13 h => ?_)
        refine um_goto (tgt := 376) d_Mo_apart_137 rfl ?_
        exact um_vret d_Mo_apart_376 rfl ⟨rfl, h⟩
def wp_Mo_expression (a1 : Int32) (a2 : Int32) (σ : um_S) (Q : um_S → Prop) : Prop :=
  vp_in a1 2002 ∧ ∀ x1 : Int32, x1 = (σ 63 a1.toNatClampNeg) → (2 ≤ a2 → vp_in a1 2002 ∧ (3 ≤ (σ 67 a1.toNatClampNeg) → vp_in a1 2002 ∧ wp_Mo_put a2 0 (σ 64 a1.toNatClampNeg) σ (fun σ2 => ∀ σ3 : um_S, σ3 = um_up σ2 38 37 ((σ2 38 37) - 1) → Q σ3)) ∧ (¬ 3 ≤ (σ 67 a1.toNatClampNeg) → vp_in a1 2002 ∧ (¬ (σ 67 a1.toNatClampNeg) = 1 → vp_in x1 150 ∧ wp_Mo_part a1 (σ 41 x1.toNatClampNeg) σ (fun σ4 => Q σ4)) ∧ ((σ 67 a1.toNatClampNeg) = 1 → vp_in x1 150 ∧ wp_Mo_part a1 (σ 40 x1.toNatClampNeg) σ (fun σ5 => Q σ5)))) ∧ (¬ 2 ≤ a2 → vp_in x1 150 ∧ vp_in a1 2002 ∧ wp_Mo_put a2 (σ 40 x1.toNatClampNeg) (σ 64 a1.toNatClampNeg) σ (fun σ6 => ∀ σ7 : um_S, σ7 = um_up σ6 38 37 ((σ6 38 37) - 1) → Q σ7))
set_option maxHeartbeats 4000000 in
set_option maxRecDepth 100000 in
theorem c_Mo_expression {a1 : Int32} {a2 : Int32} {σ : um_S} {Q : um_S → Prop} (h : wp_Mo_expression a1 a2 σ Q) : um_Con um_cl um_AW um_L um_SX 2 46 M_Mo_expression [.ref 38, .int a1, .int a2] σ (um_Qv Q) := by
  refine um_con (by decide) (Nat.le_of_ble_eq_true rfl) (fun v hv => by simp only [List.mem_cons, List.not_mem_nil, or_false] at hv; rcases hv with rfl | rfl | rfl <;> rfl) ?_
  show um_Ev um_cl um_AW um_L um_SX M_Mo_expression 2 46 0 [some (.ref 38), some (.int a1), some (.int a2), none] [] σ (um_Qv Q)
  unfold wp_Mo_expression at h
  refine um_aload_n (pc2 := 1) d_Mo_expression_0 rfl rfl ?_
  refine um_getR (pc2 := 4) d_Mo_expression_1 rfl f_Mo_82 rfl rfl ?_
  refine um_iload_n (pc2 := 5) d_Mo_expression_4 rfl rfl ?_
  refine um_iald (pc2 := 6) d_Mo_expression_5 rfl rfl h.1 rfl ?_
  replace h := h.2
  refine um_top (fun x1 ex1 => ?_)
  replace h := h x1 ex1
  refine um_istore_n (pc2 := 7) (ls2 := [some (.ref 38), some (.int a1), some (.int a2), some (.int x1)]) d_Mo_expression_6 rfl (Nat.le_of_ble_eq_true rfl) rfl ?_
  refine um_iload_n (pc2 := 8) d_Mo_expression_7 rfl rfl ?_
  refine um_iconst (pc2 := 9) (v := 2) d_Mo_expression_8 rfl (by decide) ?_
  refine um_icmp_ge (pc2 := 12) (tgt := 42) d_Mo_expression_9 rfl rfl (fun z => ?_) (fun z => ?_)
  · replace h := h.1 z
    refine um_aload_n (pc2 := 43) d_Mo_expression_42 rfl rfl ?_
    refine um_getR (pc2 := 46) d_Mo_expression_43 rfl f_Mo_94 rfl rfl ?_
    refine um_iload_n (pc2 := 47) d_Mo_expression_46 rfl rfl ?_
    refine um_iald (pc2 := 48) d_Mo_expression_47 rfl rfl h.1 rfl ?_
    replace h := h.2
    refine um_iconst (pc2 := 49) (v := 3) d_Mo_expression_48 rfl (by decide) ?_
    refine um_icmp_ge (pc2 := 52) (tgt := 85) d_Mo_expression_49 rfl rfl (fun z => ?_) (fun z => ?_)
    · replace h := h.1 z
      refine um_aload_n (pc2 := 86) d_Mo_expression_85 rfl rfl ?_
      refine um_iload_n (pc2 := 87) d_Mo_expression_86 rfl rfl ?_
      refine um_iconst (pc2 := 88) (v := 0) d_Mo_expression_87 rfl (by decide) ?_
      refine um_aload_n (pc2 := 89) d_Mo_expression_88 rfl rfl ?_
      refine um_getR (pc2 := 92) d_Mo_expression_89 rfl f_Mo_85 rfl rfl ?_
      refine um_iload_n (pc2 := 93) d_Mo_expression_92 rfl rfl ?_
      refine um_iald (pc2 := 94) d_Mo_expression_93 rfl rfl h.1 rfl ?_
      replace h := h.2
      refine um_callV3v (pc2 := 97) d_Mo_expression_94 rfl g_Mo_200 rfl (Nat.le_of_ble_eq_true rfl) (Nat.le_of_ble_eq_true rfl) (Nat.le_of_ble_eq_true rfl) (c_Mo_put h) (fun σ2 h => ?_)
      refine um_aload_n (pc2 := 98) d_Mo_expression_97 rfl rfl ?_
      refine um_dup (pc2 := 99) d_Mo_expression_98 rfl rfl ?_
      refine um_getI (pc2 := 102) d_Mo_expression_99 rfl f_Mo_173 rfl rfl ?_
      refine um_iconst (pc2 := 103) (v := 1) d_Mo_expression_102 rfl (by decide) ?_
      refine um_isub (pc2 := 104) d_Mo_expression_103 rfl ?_
      refine um_putI (pc2 := 107) d_Mo_expression_104 rfl fw_Mo_173 rfl rfl (um_gen (fun σ3 eσ3 => ?_))
      replace h := h σ3 eσ3
      exact um_vret d_Mo_expression_107 rfl ⟨rfl, h⟩
    · replace h := h.2 z
      refine um_aload_n (pc2 := 53) d_Mo_expression_52 rfl rfl ?_
      refine um_iload_n (pc2 := 54) d_Mo_expression_53 rfl rfl ?_
      refine um_aload_n (pc2 := 55) d_Mo_expression_54 rfl rfl ?_
      refine um_getR (pc2 := 58) d_Mo_expression_55 rfl f_Mo_94 rfl rfl ?_
      refine um_iload_n (pc2 := 59) d_Mo_expression_58 rfl rfl ?_
      refine um_iald (pc2 := 60) d_Mo_expression_59 rfl rfl h.1 rfl ?_
      replace h := h.2
      refine um_iconst (pc2 := 61) (v := 1) d_Mo_expression_60 rfl (by decide) ?_
      refine um_icmp_ne (pc2 := 64) (tgt := 73) d_Mo_expression_61 rfl rfl (fun z => ?_) (fun z => ?_)
      · replace h := h.1 z
        refine um_aload_n (pc2 := 74) d_Mo_expression_73 rfl rfl ?_
        refine um_getR (pc2 := 77) d_Mo_expression_74 rfl f_Mo_16 rfl rfl ?_
        refine um_iload_n (pc2 := 78) d_Mo_expression_77 rfl rfl ?_
        refine um_iald (pc2 := 79) d_Mo_expression_78 rfl rfl h.1 rfl ?_
        replace h := h.2
        refine um_callV2v (pc2 := 82) d_Mo_expression_79 rfl g_Mo_204 rfl (Nat.le_of_ble_eq_true rfl) (Nat.le_of_ble_eq_true rfl) (Nat.le_of_ble_eq_true rfl) (c_Mo_part h) (fun σ4 h => ?_)
        refine um_goto (tgt := 107) d_Mo_expression_82 rfl ?_
        exact um_vret d_Mo_expression_107 rfl ⟨rfl, h⟩
      · replace h := h.2 z
        refine um_aload_n (pc2 := 65) d_Mo_expression_64 rfl rfl ?_
        refine um_getR (pc2 := 68) d_Mo_expression_65 rfl f_Mo_13 rfl rfl ?_
        refine um_iload_n (pc2 := 69) d_Mo_expression_68 rfl rfl ?_
        refine um_iald (pc2 := 70) d_Mo_expression_69 rfl rfl h.1 rfl ?_
        replace h := h.2
        refine um_goto (tgt := 79) d_Mo_expression_70 rfl ?_
        refine um_callV2v (pc2 := 82) d_Mo_expression_79 rfl g_Mo_204 rfl (Nat.le_of_ble_eq_true rfl) (Nat.le_of_ble_eq_true rfl) (Nat.le_of_ble_eq_true rfl) (c_Mo_part h) (fun σ5 h => ?_)
        refine um_goto (tgt := 107) d_Mo_expression_82 rfl ?_
        exact um_vret d_Mo_expression_107 rfl ⟨rfl, h⟩
  · replace h := h.2 z
    refine um_aload_n (pc2 := 13) d_Mo_expression_12 rfl rfl ?_
    refine um_iload_n (pc2 := 14) d_Mo_expression_13 rfl rfl ?_
    refine um_aload_n (pc2 := 15) d_Mo_expression_14 rfl rfl ?_
    refine um_getR (pc2 := 18) d_Mo_expression_15 rfl f_Mo_13 rfl rfl ?_
    refine um_iload_n (pc2 := 19) d_Mo_expression_18 rfl rfl ?_
    refine um_iald (pc2 := 20) d_Mo_expression_19 rfl rfl h.1 rfl ?_
    replace h := h.2
    refine um_aload_n (pc2 := 21) d_Mo_expression_20 rfl rfl ?_
    refine um_getR (pc2 := 24) d_Mo_expression_21 rfl f_Mo_85 rfl rfl ?_
    refine um_iload_n (pc2 := 25) d_Mo_expression_24 rfl rfl ?_
    refine um_iald (pc2 := 26) d_Mo_expression_25 rfl rfl h.1 rfl ?_
    replace h := h.2
    refine um_callV3v (pc2 := 29) d_Mo_expression_26 rfl g_Mo_200 rfl (Nat.le_of_ble_eq_true rfl) (Nat.le_of_ble_eq_true rfl) (Nat.le_of_ble_eq_true rfl) (c_Mo_put h) (fun σ6 h => ?_)
    refine um_aload_n (pc2 := 30) d_Mo_expression_29 rfl rfl ?_
    refine um_dup (pc2 := 31) d_Mo_expression_30 rfl rfl ?_
    refine um_getI (pc2 := 34) d_Mo_expression_31 rfl f_Mo_173 rfl rfl ?_
    refine um_iconst (pc2 := 35) (v := 1) d_Mo_expression_34 rfl (by decide) ?_
    refine um_isub (pc2 := 36) d_Mo_expression_35 rfl ?_
    refine um_putI (pc2 := 39) d_Mo_expression_36 rfl fw_Mo_173 rfl rfl (um_gen (fun σ7 eσ7 => ?_))
    replace h := h σ7 eσ7
    refine um_goto (tgt := 107) d_Mo_expression_39 rfl ?_
    exact um_vret d_Mo_expression_107 rfl ⟨rfl, h⟩
def wp_Mo_goesOn_95 (Q : um_S → Prop) (v1 : Int32) (v2 : Int32) (σ : um_S) : Prop :=
  wp_Mo_leaves v1 v2 σ (fun σ1 => Q σ1)
def wp_Mo_goesOn_69 (Q : um_S → Prop) (v1 : Int32) (v2 : Int32) (σ : um_S) : Prop :=
  (¬ v2 = 18 → (v2 = 16 → wp_Mo_goesOn_95 Q v1 v2 σ) ∧ (¬ v2 = 16 → (¬ v2 = 17 → wp_Mo_statement v1 v2 σ (fun σ1 => Q σ1)) ∧ (v2 = 17 → wp_Mo_goesOn_95 Q v1 v2 σ))) ∧ (v2 = 18 → wp_Mo_tries v1 σ (fun σ2 => Q σ2))
def wp_Mo_goesOn (σ : um_S) (Q : um_S → Prop) : Prop :=
  ∀ x1 : Int32, x1 = ((σ 38 37) - 1) → vp_in x1 2002 ∧ vp_in (σ 63 x1.toNatClampNeg) 150 ∧ ∀ x2 : Int32, x2 = (σ 39 (σ 63 x1.toNatClampNeg).toNatClampNeg) → vp_in x1 2002 ∧ vp_in x1 2002 ∧ ∀ σ3 : um_S, σ3 = um_up σ 67 x1.toNatClampNeg ((σ 67 x1.toNatClampNeg) + 1) → (8 ≤ x2 → (¬ x2 = 18 → wp_Mo_goesOn_69 Q x1 x2 σ3) ∧ (x2 = 18 → vp_in x1 2002 ∧ ((σ3 67 x1.toNatClampNeg) ≤ 100 → wp_Mo_goesOn_69 Q x1 x2 σ3) ∧ (¬ (σ3 67 x1.toNatClampNeg) ≤ 100 → wp_Mo_apart x1 σ3 (fun σ4 => Q σ4)))) ∧ (¬ 8 ≤ x2 → wp_Mo_expression x1 x2 σ3 (fun σ5 => Q σ5))
set_option maxHeartbeats 4000000 in
set_option maxRecDepth 100000 in
theorem b_Mo_goesOn_95 {Q : um_S → Prop} {v1 : Int32} {v2 : Int32} {σ : um_S} (h : wp_Mo_goesOn_95 Q v1 v2 σ) : um_Ev um_cl um_AW um_L um_SX M_Mo_goesOn 4 91 95 [some (.ref 38), some (.int v1), some (.int v2)] [] σ (um_Qv Q) := by
  unfold wp_Mo_goesOn_95 at h
  refine um_aload_n (pc2 := 96) d_Mo_goesOn_95 rfl rfl ?_
  refine um_iload_n (pc2 := 97) d_Mo_goesOn_96 rfl rfl ?_
  refine um_iload_n (pc2 := 98) d_Mo_goesOn_97 rfl rfl ?_
  refine um_callV2v (pc2 := 101) d_Mo_goesOn_98 rfl g_Mo_194 rfl (Nat.le_of_ble_eq_true rfl) (Nat.le_of_ble_eq_true rfl) (Nat.le_of_ble_eq_true rfl) (c_Mo_leaves h) (fun σ1 h => ?_)
  refine um_goto (tgt := 110) d_Mo_goesOn_101 rfl ?_
  exact um_vret d_Mo_goesOn_110 rfl ⟨rfl, h⟩
set_option maxHeartbeats 4000000 in
set_option maxRecDepth 100000 in
theorem b_Mo_goesOn_69 {Q : um_S → Prop} {v1 : Int32} {v2 : Int32} {σ : um_S} (h : wp_Mo_goesOn_69 Q v1 v2 σ) : um_Ev um_cl um_AW um_L um_SX M_Mo_goesOn 4 91 69 [some (.ref 38), some (.int v1), some (.int v2)] [] σ (um_Qv Q) := by
  unfold wp_Mo_goesOn_69 at h
  refine um_iload_n (pc2 := 70) d_Mo_goesOn_69 rfl rfl ?_
  refine um_bipush (pc2 := 72) (v := 18) d_Mo_goesOn_70 rfl (by decide) ?_
  refine um_icmp_ne (pc2 := 75) (tgt := 83) d_Mo_goesOn_72 rfl rfl (fun z => ?_) (fun z => ?_)
  · replace h := h.1 z
    refine um_iload_n (pc2 := 84) d_Mo_goesOn_83 rfl rfl ?_
    refine um_bipush (pc2 := 86) (v := 16) d_Mo_goesOn_84 rfl (by decide) ?_
    refine um_icmp_eq (pc2 := 89) (tgt := 95) d_Mo_goesOn_86 rfl rfl (fun z => ?_) (fun z => ?_)
    · replace h := h.1 z
      refine um_forget [true, true, true] rfl ?_
      exact b_Mo_goesOn_95 h
    · replace h := h.2 z
      refine um_iload_n (pc2 := 90) d_Mo_goesOn_89 rfl rfl ?_
      refine um_bipush (pc2 := 92) (v := 17) d_Mo_goesOn_90 rfl (by decide) ?_
      refine um_icmp_ne (pc2 := 95) (tgt := 104) d_Mo_goesOn_92 rfl rfl (fun z => ?_) (fun z => ?_)
      · replace h := h.1 z
        refine um_aload_n (pc2 := 105) d_Mo_goesOn_104 rfl rfl ?_
        refine um_iload_n (pc2 := 106) d_Mo_goesOn_105 rfl rfl ?_
        refine um_iload_n (pc2 := 107) d_Mo_goesOn_106 rfl rfl ?_
        refine um_callV2v (pc2 := 110) d_Mo_goesOn_107 rfl g_Mo_197 rfl (Nat.le_of_ble_eq_true rfl) (Nat.le_of_ble_eq_true rfl) (Nat.le_of_ble_eq_true rfl) (c_Mo_statement h) (fun σ1 h => ?_)
        exact um_vret d_Mo_goesOn_110 rfl ⟨rfl, h⟩
      · replace h := h.2 z
        refine um_forget [true, true, true] rfl ?_
        exact b_Mo_goesOn_95 h
  · replace h := h.2 z
    refine um_aload_n (pc2 := 76) d_Mo_goesOn_75 rfl rfl ?_
    refine um_iload_n (pc2 := 77) d_Mo_goesOn_76 rfl rfl ?_
    refine um_callV1v (pc2 := 80) d_Mo_goesOn_77 rfl g_Mo_191 rfl (Nat.le_of_ble_eq_true rfl) (Nat.le_of_ble_eq_true rfl) (Nat.le_of_ble_eq_true rfl) (c_Mo_tries h) (fun σ2 h => ?_)
    refine um_goto (tgt := 110) d_Mo_goesOn_80 rfl ?_
    exact um_vret d_Mo_goesOn_110 rfl ⟨rfl, h⟩
set_option maxHeartbeats 4000000 in
set_option maxRecDepth 100000 in
theorem c_Mo_goesOn {σ : um_S} {Q : um_S → Prop} (h : wp_Mo_goesOn σ Q) : um_Con um_cl um_AW um_L um_SX 4 91 M_Mo_goesOn [.ref 38] σ (um_Qv Q) := by
  refine um_con (by decide) (Nat.le_of_ble_eq_true rfl) (fun v hv => by simp only [List.mem_cons, List.not_mem_nil, or_false] at hv; rcases hv with rfl <;> rfl) ?_
  show um_Ev um_cl um_AW um_L um_SX M_Mo_goesOn 4 91 0 [some (.ref 38), none, none] [] σ (um_Qv Q)
  unfold wp_Mo_goesOn at h
  refine um_aload_n (pc2 := 1) d_Mo_goesOn_0 rfl rfl ?_
  refine um_getI (pc2 := 4) d_Mo_goesOn_1 rfl f_Mo_173 rfl rfl ?_
  refine um_iconst (pc2 := 5) (v := 1) d_Mo_goesOn_4 rfl (by decide) ?_
  refine um_isub (pc2 := 6) d_Mo_goesOn_5 rfl ?_
  refine um_top (fun x1 ex1 => ?_)
  replace h := h x1 ex1
  refine um_istore_n (pc2 := 7) (ls2 := [some (.ref 38), some (.int x1), none]) d_Mo_goesOn_6 rfl (Nat.le_of_ble_eq_true rfl) rfl ?_
  refine um_aload_n (pc2 := 8) d_Mo_goesOn_7 rfl rfl ?_
  refine um_getR (pc2 := 11) d_Mo_goesOn_8 rfl f_Mo_7 rfl rfl ?_
  refine um_aload_n (pc2 := 12) d_Mo_goesOn_11 rfl rfl ?_
  refine um_getR (pc2 := 15) d_Mo_goesOn_12 rfl f_Mo_82 rfl rfl ?_
  refine um_iload_n (pc2 := 16) d_Mo_goesOn_15 rfl rfl ?_
  refine um_iald (pc2 := 17) d_Mo_goesOn_16 rfl rfl h.1 rfl ?_
  replace h := h.2
  refine um_iald (pc2 := 18) d_Mo_goesOn_17 rfl rfl h.1 rfl ?_
  replace h := h.2
  refine um_top (fun x2 ex2 => ?_)
  replace h := h x2 ex2
  refine um_istore_n (pc2 := 19) (ls2 := [some (.ref 38), some (.int x1), some (.int x2)]) d_Mo_goesOn_18 rfl (Nat.le_of_ble_eq_true rfl) rfl ?_
  refine um_aload_n (pc2 := 20) d_Mo_goesOn_19 rfl rfl ?_
  refine um_getR (pc2 := 23) d_Mo_goesOn_20 rfl f_Mo_94 rfl rfl ?_
  refine um_iload_n (pc2 := 24) d_Mo_goesOn_23 rfl rfl ?_
  refine um_dup2 (pc2 := 25) d_Mo_goesOn_24 rfl rfl rfl ?_
  refine um_iald (pc2 := 26) d_Mo_goesOn_25 rfl rfl h.1 rfl ?_
  replace h := h.2
  refine um_iconst (pc2 := 27) (v := 1) d_Mo_goesOn_26 rfl (by decide) ?_
  refine um_iadd (pc2 := 28) d_Mo_goesOn_27 rfl ?_
  refine um_iast (pc2 := 29) d_Mo_goesOn_28 rfl rfl h.1 rfl (um_gen (fun σ3 eσ3 => ?_))
  replace h := h.2 σ3 eσ3
  refine um_iload_n (pc2 := 30) d_Mo_goesOn_29 rfl rfl ?_
  refine um_bipush (pc2 := 32) (v := 8) d_Mo_goesOn_30 rfl (by decide) ?_
  refine um_icmp_ge (pc2 := 35) (tgt := 44) d_Mo_goesOn_32 rfl rfl (fun z => ?_) (fun z => ?_)
  · replace h := h.1 z
    refine um_iload_n (pc2 := 45) d_Mo_goesOn_44 rfl rfl ?_
    refine um_bipush (pc2 := 47) (v := 18) d_Mo_goesOn_45 rfl (by decide) ?_
    refine um_icmp_ne (pc2 := 50) (tgt := 69) d_Mo_goesOn_47 rfl rfl (fun z => ?_) (fun z => ?_)
    · replace h := h.1 z
      refine um_forget [true, true, true] rfl ?_
      exact b_Mo_goesOn_69 h
    · replace h := h.2 z
      refine um_aload_n (pc2 := 51) d_Mo_goesOn_50 rfl rfl ?_
      refine um_getR (pc2 := 54) d_Mo_goesOn_51 rfl f_Mo_94 rfl rfl ?_
      refine um_iload_n (pc2 := 55) d_Mo_goesOn_54 rfl rfl ?_
      refine um_iald (pc2 := 56) d_Mo_goesOn_55 rfl rfl h.1 rfl ?_
      replace h := h.2
      refine um_bipush (pc2 := 58) (v := 100) d_Mo_goesOn_56 rfl (by decide) ?_
      refine um_icmp_le (pc2 := 61) (tgt := 69) d_Mo_goesOn_58 rfl rfl (fun z => ?_) (fun z => ?_)
      · replace h := h.1 z
        refine um_forget [true, true, true] rfl ?_
        exact b_Mo_goesOn_69 h
      · replace h := h.2 z
        refine um_aload_n (pc2 := 62) d_Mo_goesOn_61 rfl rfl ?_
        refine um_iload_n (pc2 := 63) d_Mo_goesOn_62 rfl rfl ?_
        refine um_callV1v (pc2 := 66) d_Mo_goesOn_63 rfl g_Mo_187 rfl (Nat.le_of_ble_eq_true rfl) (Nat.le_of_ble_eq_true rfl) (Nat.le_of_ble_eq_true rfl) (c_Mo_apart h) (fun σ4 h => ?_)
        refine um_goto (tgt := 110) d_Mo_goesOn_66 rfl ?_
        exact um_vret d_Mo_goesOn_110 rfl ⟨rfl, h⟩
  · replace h := h.2 z
    refine um_aload_n (pc2 := 36) d_Mo_goesOn_35 rfl rfl ?_
    refine um_iload_n (pc2 := 37) d_Mo_goesOn_36 rfl rfl ?_
    refine um_iload_n (pc2 := 38) d_Mo_goesOn_37 rfl rfl ?_
    refine um_callV2v (pc2 := 41) d_Mo_goesOn_38 rfl g_Mo_183 rfl (Nat.le_of_ble_eq_true rfl) (Nat.le_of_ble_eq_true rfl) (Nat.le_of_ble_eq_true rfl) (c_Mo_expression h) (fun σ5 h => ?_)
    refine um_goto (tgt := 110) d_Mo_goesOn_41 rfl ?_
    exact um_vret d_Mo_goesOn_110 rfl ⟨rfl, h⟩
def wp_Mo_laysAll_100 (Q : um_S → Prop) (K67 : Int32 → Int32 → Int32 → um_S → Prop) (K2 : Int32 → um_S → Prop) (v1 : Int32) (v2 : Int32) (v3 : Int32) (σ : um_S) : Prop :=
  ((σ 38 37) ≤ 0 → (¬ v3 = 0 → vp_in v2 2001 ∧ wp_Mo_separates (σ 62 v2.toNatClampNeg) σ (fun σ1 => K67 v1 (v2 + 1) v3 σ1)) ∧ (v3 = 0 → wp_Mo_put 14 0 (-1) σ (fun σ2 => K67 v1 v2 1 σ2))) ∧ (¬ (σ 38 37) ≤ 0 → wp_Mo_goesOn σ (fun σ3 => K67 v1 v2 v3 σ3))
def wp_Mo_laysAll_67 (Q : um_S → Prop) (K2 : Int32 → um_S → Prop) : Nat → Int32 → Int32 → Int32 → um_S → Prop
  | 0, _, _, _, _ => False
  | n + 1, v1, v2, v3, σ =>
    (¬ (σ 38 35) = 0 → K2 (v1 + 1) σ) ∧ ((σ 38 35) = 0 → (¬ (σ 38 36) = 0 → K2 (v1 + 1) σ) ∧ ((σ 38 36) = 0 → (0 < (σ 38 37) → wp_Mo_laysAll_100 Q (fun v1 v2 v3 σ => wp_Mo_laysAll_67 Q K2 n v1 v2 v3 σ) K2 v1 v2 v3 σ) ∧ (¬ 0 < (σ 38 37) → (v3 = 0 → wp_Mo_laysAll_100 Q (fun v1 v2 v3 σ => wp_Mo_laysAll_67 Q K2 n v1 v2 v3 σ) K2 v1 v2 v3 σ) ∧ (¬ v3 = 0 → ((σ 38 32) ≤ v2 → K2 (v1 + 1) σ) ∧ (¬ (σ 38 32) ≤ v2 → wp_Mo_laysAll_100 Q (fun v1 v2 v3 σ => wp_Mo_laysAll_67 Q K2 n v1 v2 v3 σ) K2 v1 v2 v3 σ)))))
def wp_Mo_laysAll_2 (Q : um_S → Prop) : Nat → Int32 → um_S → Prop
  | 0, _, _ => False
  | n + 1, v1, σ =>
    (6 ≤ v1 → Q σ) ∧ (¬ 6 ≤ v1 → (¬ (σ 38 35) = 0 → Q σ) ∧ ((σ 38 35) = 0 → (¬ (σ 38 36) = 0 → Q σ) ∧ ((σ 38 36) = 0 → vp_in v1 6 ∧ ∀ σ1 : um_S, σ1 = um_up σ 54 v1.toNatClampNeg (σ 38 10) → ∀ σ2 : um_S, σ2 = um_up σ1 38 37 0 → ∀ x3 : Int32, x3 = (σ2 38 32) → vp_in v1 6 ∧ ((σ2 45 v1.toNatClampNeg) = (-1) → wp_Mo_laysAll_67 Q (fun v1 σ => wp_Mo_laysAll_2 Q n v1 σ) 100000 v1 x3 0 σ2) ∧ (¬ (σ2 45 v1.toNatClampNeg) = (-1) → vp_in v1 6 ∧ wp_Mo_begin (σ2 45 v1.toNatClampNeg) (-1) 0 0 σ2 (fun σ4 => wp_Mo_laysAll_67 Q (fun v1 σ => wp_Mo_laysAll_2 Q n v1 σ) 100000 v1 x3 0 σ4)))))
def wp_Mo_laysAll (σ : um_S) (Q : um_S → Prop) : Prop :=
  wp_Mo_laysAll_2 Q 100000 0 σ
set_option maxHeartbeats 4000000 in
set_option maxRecDepth 100000 in
theorem b_Mo_laysAll_100 {Q : um_S → Prop} {K67 : Int32 → Int32 → Int32 → um_S → Prop} {K2 : Int32 → um_S → Prop} {v1 : Int32} {v2 : Int32} {v3 : Int32} {σ : um_S} (hK67 : ∀ (v1 : Int32) (v2 : Int32) (v3 : Int32) (σ : um_S), K67 v1 v2 v3 σ → um_Ev um_cl um_AW um_L um_SX M_Mo_laysAll 5 113 67 [some (.ref 38), some (.int v1), some (.int v2), some (.int v3)] [] σ (um_Qv Q)) (hK2 : ∀ (v1 : Int32) (σ : um_S), K2 v1 σ → um_Ev um_cl um_AW um_L um_SX M_Mo_laysAll 5 113 2 [some (.ref 38), some (.int v1), none, none] [] σ (um_Qv Q)) (h : wp_Mo_laysAll_100 Q K67 K2 v1 v2 v3 σ) : um_Ev um_cl um_AW um_L um_SX M_Mo_laysAll 5 113 100 [some (.ref 38), some (.int v1), some (.int v2), some (.int v3)] [] σ (um_Qv Q) := by
  unfold wp_Mo_laysAll_100 at h
  refine um_aload_n (pc2 := 101) d_Mo_laysAll_100 rfl rfl ?_
  refine um_getI (pc2 := 104) d_Mo_laysAll_101 rfl f_Mo_173 rfl rfl ?_
  refine um_if_le (pc2 := 107) (tgt := 114) d_Mo_laysAll_104 rfl rfl (fun z => ?_) (fun z => ?_)
  · replace h := h.1 z
    refine um_iload_n (pc2 := 115) d_Mo_laysAll_114 rfl rfl ?_
    refine um_if_ne (pc2 := 118) (tgt := 131) d_Mo_laysAll_115 rfl rfl (fun z => ?_) (fun z => ?_)
    · replace h := h.1 z
      refine um_aload_n (pc2 := 132) d_Mo_laysAll_131 rfl rfl ?_
      refine um_aload_n (pc2 := 133) d_Mo_laysAll_132 rfl rfl ?_
      refine um_getR (pc2 := 136) d_Mo_laysAll_133 rfl f_Mo_79 rfl rfl ?_
      refine um_iload_n (pc2 := 137) d_Mo_laysAll_136 rfl rfl ?_
      refine um_iald (pc2 := 138) d_Mo_laysAll_137 rfl rfl h.1 rfl ?_
      replace h := h.2
      refine um_callV1v (pc2 := 141) d_Mo_laysAll_138 rfl g_Mo_263 rfl (Nat.le_of_ble_eq_true rfl) (Nat.le_of_ble_eq_true rfl) (Nat.le_of_ble_eq_true rfl) (c_Mo_separates h) (fun σ1 h => ?_)
      refine um_iinc (pc2 := 144) (v := (v2 + 1)) (ls2 := [some (.ref 38), some (.int v1), some (.int (v2 + 1)), some (.int v3)]) d_Mo_laysAll_141 rfl rfl rfl (Nat.le_of_ble_eq_true rfl) rfl ?_
      refine um_goto (tgt := 67) d_Mo_laysAll_144 rfl ?_
      refine um_forget [true, true, true, true] rfl ?_
      exact hK67 _ _ _ _ h
    · replace h := h.2 z
      refine um_aload_n (pc2 := 119) d_Mo_laysAll_118 rfl rfl ?_
      refine um_bipush (pc2 := 121) (v := 14) d_Mo_laysAll_119 rfl (by decide) ?_
      refine um_iconst (pc2 := 122) (v := 0) d_Mo_laysAll_121 rfl (by decide) ?_
      refine um_iconst (pc2 := 123) (v := (-1)) d_Mo_laysAll_122 rfl (by decide) ?_
      refine um_callV3v (pc2 := 126) d_Mo_laysAll_123 rfl g_Mo_200 rfl (Nat.le_of_ble_eq_true rfl) (Nat.le_of_ble_eq_true rfl) (Nat.le_of_ble_eq_true rfl) (c_Mo_put h) (fun σ2 h => ?_)
      refine um_iconst (pc2 := 127) (v := 1) d_Mo_laysAll_126 rfl (by decide) ?_
      refine um_istore_n (pc2 := 128) (ls2 := [some (.ref 38), some (.int v1), some (.int v2), some (.int 1)]) d_Mo_laysAll_127 rfl (Nat.le_of_ble_eq_true rfl) rfl ?_
      refine um_goto (tgt := 67) d_Mo_laysAll_128 rfl ?_
      refine um_forget [true, true, true, true] rfl ?_
      exact hK67 _ _ _ _ h
  · replace h := h.2 z
    refine um_aload_n (pc2 := 108) d_Mo_laysAll_107 rfl rfl ?_
    refine um_callV0v (pc2 := 111) d_Mo_laysAll_108 rfl g_Mo_260 rfl (Nat.le_of_ble_eq_true rfl) (Nat.le_of_ble_eq_true rfl) (Nat.le_of_ble_eq_true rfl) (c_Mo_goesOn h) (fun σ3 h => ?_)
    refine um_goto (tgt := 67) d_Mo_laysAll_111 rfl ?_
    refine um_forget [true, true, true, true] rfl ?_
    exact hK67 _ _ _ _ h
set_option maxHeartbeats 4000000 in
set_option maxRecDepth 100000 in
theorem b_Mo_laysAll_67 {Q : um_S → Prop} {K2 : Int32 → um_S → Prop} (hK2 : ∀ (v1 : Int32) (σ : um_S), K2 v1 σ → um_Ev um_cl um_AW um_L um_SX M_Mo_laysAll 5 113 2 [some (.ref 38), some (.int v1), none, none] [] σ (um_Qv Q)) (n : Nat) : ∀ (v1 : Int32) (v2 : Int32) (v3 : Int32) (σ : um_S), wp_Mo_laysAll_67 Q K2 n v1 v2 v3 σ → um_Ev um_cl um_AW um_L um_SX M_Mo_laysAll 5 113 67 [some (.ref 38), some (.int v1), some (.int v2), some (.int v3)] [] σ (um_Qv Q) := by
  induction n with
  | zero =>
    intro v1 v2 v3 σ h
    exact h.elim
  | succ n ih =>
    intro v1 v2 v3 σ h
    unfold wp_Mo_laysAll_67 at h
    refine um_aload_n (pc2 := 68) d_Mo_laysAll_67 rfl rfl ?_
    refine um_getI (pc2 := 71) d_Mo_laysAll_68 rfl f_Mo_167 rfl rfl ?_
    refine um_if_ne (pc2 := 74) (tgt := 147) d_Mo_laysAll_71 rfl rfl (fun z => ?_) (fun z => ?_)
    · replace h := h.1 z
      refine um_iinc (pc2 := 150) (v := (v1 + 1)) (ls2 := [some (.ref 38), some (.int (v1 + 1)), some (.int v2), some (.int v3)]) d_Mo_laysAll_147 rfl rfl rfl (Nat.le_of_ble_eq_true rfl) rfl ?_
      refine um_goto (tgt := 2) d_Mo_laysAll_150 rfl ?_
      refine um_forget [true, true, false, false] rfl ?_
      exact hK2 _ _ h
    · replace h := h.2 z
      refine um_aload_n (pc2 := 75) d_Mo_laysAll_74 rfl rfl ?_
      refine um_getI (pc2 := 78) d_Mo_laysAll_75 rfl f_Mo_222 rfl rfl ?_
      refine um_if_ne (pc2 := 81) (tgt := 147) d_Mo_laysAll_78 rfl rfl (fun z => ?_) (fun z => ?_)
      · replace h := h.1 z
        refine um_iinc (pc2 := 150) (v := (v1 + 1)) (ls2 := [some (.ref 38), some (.int (v1 + 1)), some (.int v2), some (.int v3)]) d_Mo_laysAll_147 rfl rfl rfl (Nat.le_of_ble_eq_true rfl) rfl ?_
        refine um_goto (tgt := 2) d_Mo_laysAll_150 rfl ?_
        refine um_forget [true, true, false, false] rfl ?_
        exact hK2 _ _ h
      · replace h := h.2 z
        refine um_aload_n (pc2 := 82) d_Mo_laysAll_81 rfl rfl ?_
        refine um_getI (pc2 := 85) d_Mo_laysAll_82 rfl f_Mo_173 rfl rfl ?_
        refine um_if_gt (pc2 := 88) (tgt := 100) d_Mo_laysAll_85 rfl rfl (fun z => ?_) (fun z => ?_)
        · replace h := h.1 z
          refine um_forget [true, true, true, true] rfl ?_
          exact b_Mo_laysAll_100 (fun _ _ _ _ z => ih _ _ _ _ z) hK2 h
        · replace h := h.2 z
          refine um_iload_n (pc2 := 89) d_Mo_laysAll_88 rfl rfl ?_
          refine um_if_eq (pc2 := 92) (tgt := 100) d_Mo_laysAll_89 rfl rfl (fun z => ?_) (fun z => ?_)
          · replace h := h.1 z
            refine um_forget [true, true, true, true] rfl ?_
            exact b_Mo_laysAll_100 (fun _ _ _ _ z => ih _ _ _ _ z) hK2 h
          · replace h := h.2 z
            refine um_iload_n (pc2 := 93) d_Mo_laysAll_92 rfl rfl ?_
            refine um_aload_n (pc2 := 94) d_Mo_laysAll_93 rfl rfl ?_
            refine um_getI (pc2 := 97) d_Mo_laysAll_94 rfl f_Mo_231 rfl rfl ?_
            refine um_icmp_ge (pc2 := 100) (tgt := 147) d_Mo_laysAll_97 rfl rfl (fun z => ?_) (fun z => ?_)
            · replace h := h.1 z
              refine um_iinc (pc2 := 150) (v := (v1 + 1)) (ls2 := [some (.ref 38), some (.int (v1 + 1)), some (.int v2), some (.int v3)]) d_Mo_laysAll_147 rfl rfl rfl (Nat.le_of_ble_eq_true rfl) rfl ?_
              refine um_goto (tgt := 2) d_Mo_laysAll_150 rfl ?_
              refine um_forget [true, true, false, false] rfl ?_
              exact hK2 _ _ h
            · replace h := h.2 z
              refine um_forget [true, true, true, true] rfl ?_
              exact b_Mo_laysAll_100 (fun _ _ _ _ z => ih _ _ _ _ z) hK2 h
set_option maxHeartbeats 4000000 in
set_option maxRecDepth 100000 in
theorem b_Mo_laysAll_2 {Q : um_S → Prop} (n : Nat) : ∀ (v1 : Int32) (σ : um_S), wp_Mo_laysAll_2 Q n v1 σ → um_Ev um_cl um_AW um_L um_SX M_Mo_laysAll 5 113 2 [some (.ref 38), some (.int v1), none, none] [] σ (um_Qv Q) := by
  induction n with
  | zero =>
    intro v1 σ h
    exact h.elim
  | succ n ih =>
    intro v1 σ h
    unfold wp_Mo_laysAll_2 at h
    refine um_iload_n (pc2 := 3) d_Mo_laysAll_2 rfl rfl ?_
    refine um_bipush (pc2 := 5) (v := 6) d_Mo_laysAll_3 rfl (by decide) ?_
    refine um_icmp_ge (pc2 := 8) (tgt := 153) d_Mo_laysAll_5 rfl rfl (fun z => ?_) (fun z => ?_)
    · replace h := h.1 z
      exact um_vret d_Mo_laysAll_153 rfl ⟨rfl, h⟩
    · replace h := h.2 z
      refine um_aload_n (pc2 := 9) d_Mo_laysAll_8 rfl rfl ?_
      refine um_getI (pc2 := 12) d_Mo_laysAll_9 rfl f_Mo_167 rfl rfl ?_
      refine um_if_ne (pc2 := 15) (tgt := 153) d_Mo_laysAll_12 rfl rfl (fun z => ?_) (fun z => ?_)
      · replace h := h.1 z
        exact um_vret d_Mo_laysAll_153 rfl ⟨rfl, h⟩
      · replace h := h.2 z
        refine um_aload_n (pc2 := 16) d_Mo_laysAll_15 rfl rfl ?_
        refine um_getI (pc2 := 19) d_Mo_laysAll_16 rfl f_Mo_222 rfl rfl ?_
        refine um_if_ne (pc2 := 22) (tgt := 153) d_Mo_laysAll_19 rfl rfl (fun z => ?_) (fun z => ?_)
        · replace h := h.1 z
          exact um_vret d_Mo_laysAll_153 rfl ⟨rfl, h⟩
        · replace h := h.2 z
          refine um_aload_n (pc2 := 23) d_Mo_laysAll_22 rfl rfl ?_
          refine um_getR (pc2 := 26) d_Mo_laysAll_23 rfl f_Mo_55 rfl rfl ?_
          refine um_iload_n (pc2 := 27) d_Mo_laysAll_26 rfl rfl ?_
          refine um_aload_n (pc2 := 28) d_Mo_laysAll_27 rfl rfl ?_
          refine um_getI (pc2 := 31) d_Mo_laysAll_28 rfl f_Mo_164 rfl rfl ?_
          refine um_iast (pc2 := 32) d_Mo_laysAll_31 rfl rfl h.1 rfl (um_gen (fun σ1 eσ1 => ?_))
          replace h := h.2 σ1 eσ1
          refine um_aload_n (pc2 := 33) d_Mo_laysAll_32 rfl rfl ?_
          refine um_iconst (pc2 := 34) (v := 0) d_Mo_laysAll_33 rfl (by decide) ?_
          refine um_putI (pc2 := 37) d_Mo_laysAll_34 rfl fw_Mo_173 rfl rfl (um_gen (fun σ2 eσ2 => ?_))
          replace h := h σ2 eσ2
          refine um_aload_n (pc2 := 38) d_Mo_laysAll_37 rfl rfl ?_
          refine um_getI (pc2 := 41) d_Mo_laysAll_38 rfl f_Mo_231 rfl rfl ?_
          refine um_top (fun x3 ex3 => ?_)
          replace h := h x3 ex3
          refine um_istore_n (pc2 := 42) (ls2 := [some (.ref 38), some (.int v1), some (.int x3), none]) d_Mo_laysAll_41 rfl (Nat.le_of_ble_eq_true rfl) rfl ?_
          refine um_aload_n (pc2 := 43) d_Mo_laysAll_42 rfl rfl ?_
          refine um_getR (pc2 := 46) d_Mo_laysAll_43 rfl f_Mo_28 rfl rfl ?_
          refine um_iload_n (pc2 := 47) d_Mo_laysAll_46 rfl rfl ?_
          refine um_iald (pc2 := 48) d_Mo_laysAll_47 rfl rfl h.1 rfl ?_
          replace h := h.2
          refine um_iconst (pc2 := 49) (v := (-1)) d_Mo_laysAll_48 rfl (by decide) ?_
          refine um_icmp_eq (pc2 := 52) (tgt := 65) d_Mo_laysAll_49 rfl rfl (fun z => ?_) (fun z => ?_)
          · replace h := h.1 z
            refine um_iconst (pc2 := 66) (v := 0) d_Mo_laysAll_65 rfl (by decide) ?_
            refine um_istore_n (pc2 := 67) (ls2 := [some (.ref 38), some (.int v1), some (.int x3), some (.int 0)]) d_Mo_laysAll_66 rfl (Nat.le_of_ble_eq_true rfl) rfl ?_
            refine um_forget [true, true, true, true] rfl ?_
            exact b_Mo_laysAll_67 (fun _ _ z => ih _ _ z) _ _ _ _ _ h
          · replace h := h.2 z
            refine um_aload_n (pc2 := 53) d_Mo_laysAll_52 rfl rfl ?_
            refine um_aload_n (pc2 := 54) d_Mo_laysAll_53 rfl rfl ?_
            refine um_getR (pc2 := 57) d_Mo_laysAll_54 rfl f_Mo_28 rfl rfl ?_
            refine um_iload_n (pc2 := 58) d_Mo_laysAll_57 rfl rfl ?_
            refine um_iald (pc2 := 59) d_Mo_laysAll_58 rfl rfl h.1 rfl ?_
            replace h := h.2
            refine um_iconst (pc2 := 60) (v := (-1)) d_Mo_laysAll_59 rfl (by decide) ?_
            refine um_iconst (pc2 := 61) (v := 0) d_Mo_laysAll_60 rfl (by decide) ?_
            refine um_iconst (pc2 := 62) (v := 0) d_Mo_laysAll_61 rfl (by decide) ?_
            refine um_callV4v (pc2 := 65) d_Mo_laysAll_62 rfl g_Mo_176 rfl (Nat.le_of_ble_eq_true rfl) (Nat.le_of_ble_eq_true rfl) (Nat.le_of_ble_eq_true rfl) (c_Mo_begin h) (fun σ4 h => ?_)
            refine um_iconst (pc2 := 66) (v := 0) d_Mo_laysAll_65 rfl (by decide) ?_
            refine um_istore_n (pc2 := 67) (ls2 := [some (.ref 38), some (.int v1), some (.int x3), some (.int 0)]) d_Mo_laysAll_66 rfl (Nat.le_of_ble_eq_true rfl) rfl ?_
            refine um_forget [true, true, true, true] rfl ?_
            exact b_Mo_laysAll_67 (fun _ _ z => ih _ _ z) _ _ _ _ _ h
set_option maxHeartbeats 4000000 in
set_option maxRecDepth 100000 in
theorem c_Mo_laysAll {σ : um_S} {Q : um_S → Prop} (h : wp_Mo_laysAll σ Q) : um_Con um_cl um_AW um_L um_SX 5 113 M_Mo_laysAll [.ref 38] σ (um_Qv Q) := by
  refine um_con (by decide) (Nat.le_of_ble_eq_true rfl) (fun v hv => by simp only [List.mem_cons, List.not_mem_nil, or_false] at hv; rcases hv with rfl <;> rfl) ?_
  show um_Ev um_cl um_AW um_L um_SX M_Mo_laysAll 5 113 0 [some (.ref 38), none, none, none] [] σ (um_Qv Q)
  unfold wp_Mo_laysAll at h
  refine um_iconst (pc2 := 1) (v := 0) d_Mo_laysAll_0 rfl (by decide) ?_
  refine um_istore_n (pc2 := 2) (ls2 := [some (.ref 38), some (.int 0), none, none]) d_Mo_laysAll_1 rfl (Nat.le_of_ble_eq_true rfl) rfl ?_
  refine um_forget [true, true, false, false] rfl ?_
  exact b_Mo_laysAll_2 _ _ _ h
