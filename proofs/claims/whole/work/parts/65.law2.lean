/-! 65: the law's cases -/
theorem v_uy (x y t : va_W) : (x ++ (y ++ t)).Perm (x ++ t ++ y) := by
  rw [List.append_assoc]
  exact List.Perm.append_left x List.perm_append_comm
theorem v_u1 (x y t : va_W) : (x ++ (y ++ t)).Perm (t ++ (x ++ y)) := by
  rw [← List.append_assoc]
  exact List.perm_append_comm
section LwC
variable {w : vWd} {nm : String} {b0 L : Nat} {xs : Nat → Int32} {k n : Nat} {D : DW} {a : Nat → Nat} {u i : Nat} {f : Nat → Int64} {x y : va_W}
theorem w_feed (h : LR w D a x y) (hL : L ≤ 3072) (hi : i + 6 ≤ L) (hk : k ≤ 601024) (hn : n ≤ 7293034) (nx : ∀ x y : va_W, LR w D a x y → V w (mLw nm) (lwC b0 L xs) k n 1015 (lwV b0 D a u i) [] (x ++ (y ++ lwU w u f))) : V w (mLw nm) (lwC b0 L xs) k n 140 (lwV b0 D a u i) [] (x ++ (y ++ lwU w u f)) := by
  obtain ⟨v, x1, hC, hM⟩ := p_feed h (xs (i + 1)) (xs (i + 2)) (xs (i + 3)) (xs (i + 4)) (xs (i + 5))
  refine V_aload_n dL_law_140 1 rfl ?_
  refine V_arg i 1 (by decide) dL_law_141 dL_law_142 dL_law_144 dL_law_145 dL_law_146 rfl rfl (by omega) hL ?_
  refine V_arg i 2 (by decide) dL_law_147 dL_law_148 dL_law_150 dL_law_151 dL_law_152 rfl rfl (by omega) hL ?_
  refine V_arg i 3 (by decide) dL_law_153 dL_law_154 dL_law_156 dL_law_157 dL_law_158 rfl rfl (by omega) hL ?_
  refine V_arg i 4 (by decide) dL_law_159 dL_law_160 dL_law_162 dL_law_163 dL_law_164 rfl rfl (by omega) hL ?_
  refine V_arg i 5 (by decide) dL_law_165 dL_law_166 dL_law_168 dL_law_169 dL_law_170 rfl rfl (by omega) hL ?_
  refine V_cD dL_law_171 lL_22 hC h.recv.1 rfl rfl rfl ⟨Nat.le_of_ble_eq_true rfl, Nat.le_of_ble_eq_true rfl⟩ hk hn ?_
  refine V_aload_n dL_law_174 2 rfl ?_
  refine V_arg i 1 (by decide) dL_law_175 dL_law_176 dL_law_178 dL_law_179 dL_law_180 rfl rfl (by omega) hL ?_
  refine V_arg i 2 (by decide) dL_law_181 dL_law_182 dL_law_184 dL_law_185 dL_law_186 rfl rfl (by omega) hL ?_
  refine V_arg i 3 (by decide) dL_law_187 dL_law_188 dL_law_190 dL_law_191 dL_law_192 rfl rfl (by omega) hL ?_
  refine V_arg i 4 (by decide) dL_law_193 dL_law_194 dL_law_196 dL_law_197 dL_law_198 rfl rfl (by omega) hL ?_
  refine V_arg i 5 (by decide) dL_law_199 dL_law_200 dL_law_202 dL_law_203 dL_law_204 rfl rfl (by omega) hL ?_
  refine V_cM dL_law_205 lL_26 hM h.recv.2 rfl rfl (Nat.le_of_ble_eq_true rfl) rfl ⟨Nat.le_of_ble_eq_true rfl, Nat.le_of_ble_eq_true rfl⟩ hk hn (fun r y1 hq => ?_)
  obtain ⟨rfl, h1⟩ := hq
  refine V_icmp_eq_t 1015 dL_law_208 (by decide) rfl ?_
  exact nx _ _ h1
theorem w_end (h : LR w D a x y) (hL : L ≤ 3072) (hi : i + 6 ≤ L) (hk : k ≤ 601024) (hn : n ≤ 7293034) (nx : ∀ x y : va_W, LR w D a x y → V w (mLw nm) (lwC b0 L xs) k n 1015 (lwV b0 D a u i) [] (x ++ (y ++ lwU w u f))) : V w (mLw nm) (lwC b0 L xs) k n 213 (lwV b0 D a u i) [] (x ++ (y ++ lwU w u f)) := by
  obtain ⟨v, x1, hC, hM⟩ := p_end h (xs (i + 1))
  refine V_aload_n dL_law_213 1 rfl ?_
  refine V_arg i 1 (by decide) dL_law_214 dL_law_215 dL_law_217 dL_law_218 dL_law_219 rfl rfl (by omega) hL ?_
  refine V_cD dL_law_220 lL_27 hC h.recv.1 rfl rfl rfl ⟨Nat.le_of_ble_eq_true rfl, Nat.le_of_ble_eq_true rfl⟩ hk hn ?_
  refine V_aload_n dL_law_223 2 rfl ?_
  refine V_arg i 1 (by decide) dL_law_224 dL_law_225 dL_law_227 dL_law_228 dL_law_229 rfl rfl (by omega) hL ?_
  refine V_cM dL_law_230 lL_31 hM h.recv.2 rfl rfl (Nat.le_of_ble_eq_true rfl) rfl ⟨Nat.le_of_ble_eq_true rfl, Nat.le_of_ble_eq_true rfl⟩ hk hn (fun r y1 hq => ?_)
  obtain ⟨rfl, h1⟩ := hq
  refine V_icmp_eq_t 1015 dL_law_233 (by decide) rfl ?_
  exact nx _ _ h1
theorem w_text (h : LR w D a x y) (hL : L ≤ 3072) (hi : i + 6 ≤ L) (hk : k ≤ 601024) (hn : n ≤ 7293034) (nx : ∀ x y : va_W, LR w D a x y → V w (mLw nm) (lwC b0 L xs) k n 1015 (lwV b0 D a u i) [] (x ++ (y ++ lwU w u f))) : V w (mLw nm) (lwC b0 L xs) k n 238 (lwV b0 D a u i) [] (x ++ (y ++ lwU w u f)) := by
  obtain ⟨v, x1, hC, hM⟩ := p_text h
  refine V_aload_n dL_law_238 1 rfl ?_
  refine V_cD dL_law_239 lL_32 hC h.recv.1 rfl rfl rfl ⟨Nat.le_of_ble_eq_true rfl, Nat.le_of_ble_eq_true rfl⟩ hk hn ?_
  refine V_aload_n dL_law_242 2 rfl ?_
  refine V_cM dL_law_243 lL_36 hM h.recv.2 rfl rfl (Nat.le_of_ble_eq_true rfl) rfl ⟨Nat.le_of_ble_eq_true rfl, Nat.le_of_ble_eq_true rfl⟩ hk hn (fun r y1 hq => ?_)
  obtain ⟨rfl, h1⟩ := hq
  refine V_icmp_eq_t 1015 dL_law_246 (by decide) rfl ?_
  exact nx _ _ h1
theorem w_fault (h : LR w D a x y) (hL : L ≤ 3072) (hi : i + 6 ≤ L) (hk : k ≤ 601024) (hn : n ≤ 7293034) (nx : ∀ x y : va_W, LR w D a x y → V w (mLw nm) (lwC b0 L xs) k n 1015 (lwV b0 D a u i) [] (x ++ (y ++ lwU w u f))) : V w (mLw nm) (lwC b0 L xs) k n 251 (lwV b0 D a u i) [] (x ++ (y ++ lwU w u f)) := by
  obtain ⟨v, x1, hC, hM⟩ := p_fault h
  refine V_aload_n dL_law_251 1 rfl ?_
  refine V_cD dL_law_252 lL_37 hC h.recv.1 rfl rfl rfl ⟨Nat.le_of_ble_eq_true rfl, Nat.le_of_ble_eq_true rfl⟩ hk hn ?_
  refine V_aload_n dL_law_255 2 rfl ?_
  refine V_cM dL_law_256 lL_40 hM h.recv.2 rfl rfl (Nat.le_of_ble_eq_true rfl) rfl ⟨Nat.le_of_ble_eq_true rfl, Nat.le_of_ble_eq_true rfl⟩ hk hn (fun r y1 hq => ?_)
  obtain ⟨rfl, h1⟩ := hq
  refine V_icmp_eq_t 1015 dL_law_259 (by decide) rfl ?_
  exact nx _ _ h1
theorem w_now (h : LR w D a x y) (hL : L ≤ 3072) (hi : i + 6 ≤ L) (hk : k ≤ 601024) (hn : n ≤ 7293034) (nx : ∀ x y : va_W, LR w D a x y → V w (mLw nm) (lwC b0 L xs) k n 1015 (lwV b0 D a u i) [] (x ++ (y ++ lwU w u f))) : V w (mLw nm) (lwC b0 L xs) k n 264 (lwV b0 D a u i) [] (x ++ (y ++ lwU w u f)) := by
  obtain ⟨v, x1, hC, hM⟩ := p_now h (xs (i + 1))
  refine V_aload_n dL_law_264 1 rfl ?_
  refine V_arg i 1 (by decide) dL_law_265 dL_law_266 dL_law_268 dL_law_269 dL_law_270 rfl rfl (by omega) hL ?_
  refine V_cD dL_law_271 lL_41 hC h.recv.1 rfl rfl rfl ⟨Nat.le_of_ble_eq_true rfl, Nat.le_of_ble_eq_true rfl⟩ hk hn ?_
  refine V_aload_n dL_law_274 2 rfl ?_
  refine V_arg i 1 (by decide) dL_law_275 dL_law_276 dL_law_278 dL_law_279 dL_law_280 rfl rfl (by omega) hL ?_
  refine V_cM dL_law_281 lL_45 hM h.recv.2 rfl rfl (Nat.le_of_ble_eq_true rfl) rfl ⟨Nat.le_of_ble_eq_true rfl, Nat.le_of_ble_eq_true rfl⟩ hk hn (fun r y1 hq => ?_)
  obtain ⟨rfl, h1⟩ := hq
  refine V_icmp_eq_t 1015 dL_law_284 (by decide) rfl ?_
  exact nx _ _ h1
theorem w_account (hst : w.1.stackTraces = false) (h : LR w D a x y) (hL : L ≤ 3072) (hi : i + 6 ≤ L) (hk : k + 1 ≤ 601024) (hn : n + 6 ≤ 7293034) (nx : ∀ (f : Nat → Int64) (x y : va_W), LR w D a x y → V w (mLw nm) (lwC b0 L xs) (k + 1) (n + 6) 1015 (lwV b0 D a u i) [] (x ++ (y ++ lwU w u f))) : V w (mLw nm) (lwC b0 L xs) k n 289 (lwV b0 D a u i) [] (x ++ (y ++ lwU w u f)) := by
  obtain ⟨t, v, f1, hC, hM, hv⟩ := p_account hst h u f (xs (i + 1)) (xs (i + 2))
  refine V_aload_n dL_law_289 1 rfl ?_
  refine V_arg i 1 (by decide) dL_law_290 dL_law_291 dL_law_293 dL_law_294 dL_law_295 rfl rfl (by omega) hL ?_
  refine V_arg i 2 (by decide) dL_law_296 dL_law_297 dL_law_299 dL_law_300 dL_law_301 rfl rfl (by omega) hL ?_
  refine V_aload_n dL_law_302 3 rfl ?_
  refine V_statT dL_law_303 lL_46 hC rfl rfl (by decide) (v_uy x y (lwU w u f)) ⟨Nat.le_of_ble_eq_true rfl, Nat.le_of_ble_eq_true rfl⟩ ⟨hk, hn⟩ (fun r z1 hq => ?_)
  obtain ⟨rfl, rfl⟩ := hq
  refine V.perm (v_uy x y (lwU w u f1)).symm ?_
  refine V_istore (L' := [(0, .ref b0), (1, .ref D.1), (2, .ref (a 0)), (3, .ref u), (4, .int (nI i)), (5, .int t)]) dL_law_306 rfl rfl ?_
  refine V_aload_n dL_law_308 2 rfl ?_
  refine V_arg i 1 (by decide) dL_law_309 dL_law_310 dL_law_312 dL_law_313 dL_law_314 rfl rfl (by omega) hL ?_
  refine V_arg i 2 (by decide) dL_law_315 dL_law_316 dL_law_318 dL_law_319 dL_law_320 rfl rfl (by omega) hL ?_
  refine V_cM dL_law_321 lL_51 hM h.recv.2 rfl rfl (Nat.le_of_ble_eq_true rfl) rfl ⟨Nat.le_of_ble_eq_true rfl, Nat.le_of_ble_eq_true rfl⟩ (by omega) (by omega) (fun r y1 hq => ?_)
  obtain ⟨rfl, h1, hT⟩ := hq
  refine V_istore (L' := [(0, .ref b0), (1, .ref D.1), (2, .ref (a 0)), (3, .ref u), (4, .int (nI i)), (5, .int t), (6, .int v)]) dL_law_324 rfl rfl ?_
  refine V_aload_n dL_law_326 2 rfl ?_
  refine V_cM dL_law_327 lL_52 hT h1.recv.2 rfl rfl (Nat.le_of_ble_eq_true rfl) rfl ⟨Nat.le_of_ble_eq_true rfl, Nat.le_of_ble_eq_true rfl⟩ (by omega) (by omega) (fun r y2 hq => ?_)
  obtain ⟨rfl, rfl⟩ := hq
  refine V_iload dL_law_330 5 rfl ?_
  refine V_icmp_eq_t 337 dL_law_332 (by decide) rfl ?_
  refine V_iload dL_law_337 5 rfl ?_
  refine V_if_ne 354 dL_law_339 (by decide) (fun zt => ?_) (fun zt => ?_)
  · refine V_goto 1015 dL_law_354 (by decide) ?_
    exact V.locals (fun q hq => by simp only [List.mem_cons, List.not_mem_nil, or_false] at hq ⊢; rcases hq with e | e | e | e | e <;> subst e <;> simp) (nx _ _ _ h1)
  · refine V_aload_n dL_law_342 3 rfl ?_
    refine V_iconst 0 dL_law_343 (by decide) ?_
    refine V.perm (v_u1 x _ (lwU w u f1)) ?_
    refine V_lald dL_law_344 0 rfl rfl 0 rfl (by omega) ?_
    refine V.perm (v_u1 x _ (lwU w u f1)).symm ?_
    refine V_iload dL_law_345 6 rfl ?_
    refine V_i2l dL_law_347 ?_
    refine V_lcmp dL_law_348 ?_
    refine V_if_eq_t 354 dL_law_349 (by decide) ((lg_cmp_0 _ _).mpr (hv zt)) ?_
    refine V_goto 1015 dL_law_354 (by decide) ?_
    exact V.locals (fun q hq => by simp only [List.mem_cons, List.not_mem_nil, or_false] at hq ⊢; rcases hq with e | e | e | e | e <;> subst e <;> simp) (nx _ _ _ h1)
theorem w_journal (hst : w.1.stackTraces = false) (h : LR w D a x y) (hL : L ≤ 3072) (hi : i + 6 ≤ L) (hk : k + 1 ≤ 601024) (hn : n + 6 ≤ 7293034) (nx : ∀ (f : Nat → Int64) (x y : va_W), LR w D a x y → V w (mLw nm) (lwC b0 L xs) (k + 1) (n + 6) 1015 (lwV b0 D a u i) [] (x ++ (y ++ lwU w u f))) : V w (mLw nm) (lwC b0 L xs) k n 357 (lwV b0 D a u i) [] (x ++ (y ++ lwU w u f)) := by
  obtain ⟨t, v, f1, hC, hM, hv⟩ := p_journal hst h u f (xs (i + 1)) (xs (i + 2))
  refine V_aload_n dL_law_357 1 rfl ?_
  refine V_arg i 1 (by decide) dL_law_358 dL_law_359 dL_law_361 dL_law_362 dL_law_363 rfl rfl (by omega) hL ?_
  refine V_arg i 2 (by decide) dL_law_364 dL_law_365 dL_law_367 dL_law_368 dL_law_369 rfl rfl (by omega) hL ?_
  refine V_aload_n dL_law_370 3 rfl ?_
  refine V_statT dL_law_371 lL_55 hC rfl rfl (by decide) (v_uy x y (lwU w u f)) ⟨Nat.le_of_ble_eq_true rfl, Nat.le_of_ble_eq_true rfl⟩ ⟨hk, hn⟩ (fun r z1 hq => ?_)
  obtain ⟨rfl, rfl⟩ := hq
  refine V.perm (v_uy x y (lwU w u f1)).symm ?_
  refine V_istore (L' := [(0, .ref b0), (1, .ref D.1), (2, .ref (a 0)), (3, .ref u), (4, .int (nI i)), (5, .int t)]) dL_law_374 rfl rfl ?_
  refine V_aload_n dL_law_376 2 rfl ?_
  refine V_arg i 1 (by decide) dL_law_377 dL_law_378 dL_law_380 dL_law_381 dL_law_382 rfl rfl (by omega) hL ?_
  refine V_arg i 2 (by decide) dL_law_383 dL_law_384 dL_law_386 dL_law_387 dL_law_388 rfl rfl (by omega) hL ?_
  refine V_cM dL_law_389 lL_57 hM h.recv.2 rfl rfl (Nat.le_of_ble_eq_true rfl) rfl ⟨Nat.le_of_ble_eq_true rfl, Nat.le_of_ble_eq_true rfl⟩ (by omega) (by omega) (fun r y1 hq => ?_)
  obtain ⟨rfl, h1, hT⟩ := hq
  refine V_istore (L' := [(0, .ref b0), (1, .ref D.1), (2, .ref (a 0)), (3, .ref u), (4, .int (nI i)), (5, .int t), (6, .int v)]) dL_law_392 rfl rfl ?_
  refine V_aload_n dL_law_394 2 rfl ?_
  refine V_cM dL_law_395 lL_52 hT h1.recv.2 rfl rfl (Nat.le_of_ble_eq_true rfl) rfl ⟨Nat.le_of_ble_eq_true rfl, Nat.le_of_ble_eq_true rfl⟩ (by omega) (by omega) (fun r y2 hq => ?_)
  obtain ⟨rfl, rfl⟩ := hq
  refine V_iload dL_law_398 5 rfl ?_
  refine V_icmp_eq_t 405 dL_law_400 (by decide) rfl ?_
  refine V_iload dL_law_405 5 rfl ?_
  refine V_if_ne 422 dL_law_407 (by decide) (fun zt => ?_) (fun zt => ?_)
  · refine V_goto 1015 dL_law_422 (by decide) ?_
    exact V.locals (fun q hq => by simp only [List.mem_cons, List.not_mem_nil, or_false] at hq ⊢; rcases hq with e | e | e | e | e <;> subst e <;> simp) (nx _ _ _ h1)
  · refine V_aload_n dL_law_410 3 rfl ?_
    refine V_iconst 0 dL_law_411 (by decide) ?_
    refine V.perm (v_u1 x _ (lwU w u f1)) ?_
    refine V_lald dL_law_412 0 rfl rfl 0 rfl (by omega) ?_
    refine V.perm (v_u1 x _ (lwU w u f1)).symm ?_
    refine V_iload dL_law_413 6 rfl ?_
    refine V_i2l dL_law_415 ?_
    refine V_lcmp dL_law_416 ?_
    refine V_if_eq_t 422 dL_law_417 (by decide) ((lg_cmp_0 _ _).mpr (hv zt)) ?_
    refine V_goto 1015 dL_law_422 (by decide) ?_
    exact V.locals (fun q hq => by simp only [List.mem_cons, List.not_mem_nil, or_false] at hq ⊢; rcases hq with e | e | e | e | e <;> subst e <;> simp) (nx _ _ _ h1)
theorem w_piece (h : LR w D a x y) (hL : L ≤ 3072) (hi : i + 6 ≤ L) (hk : k ≤ 601024) (hn : n ≤ 7293034) (nx : ∀ x y : va_W, LR w D a x y → V w (mLw nm) (lwC b0 L xs) k n 1015 (lwV b0 D a u i) [] (x ++ (y ++ lwU w u f))) : V w (mLw nm) (lwC b0 L xs) k n 425 (lwV b0 D a u i) [] (x ++ (y ++ lwU w u f)) := by
  obtain ⟨v, x1, hC, hM⟩ := p_piece h (xs (i + 1)) (xs (i + 2)) (xs (i + 3))
  refine V_aload_n dL_law_425 1 rfl ?_
  refine V_arg i 1 (by decide) dL_law_426 dL_law_427 dL_law_429 dL_law_430 dL_law_431 rfl rfl (by omega) hL ?_
  refine V_arg i 2 (by decide) dL_law_432 dL_law_433 dL_law_435 dL_law_436 dL_law_437 rfl rfl (by omega) hL ?_
  refine V_arg i 3 (by decide) dL_law_438 dL_law_439 dL_law_441 dL_law_442 dL_law_443 rfl rfl (by omega) hL ?_
  refine V_cD dL_law_444 lL_58 hC h.recv.1 rfl rfl rfl ⟨Nat.le_of_ble_eq_true rfl, Nat.le_of_ble_eq_true rfl⟩ hk hn ?_
  refine V_aload_n dL_law_447 2 rfl ?_
  refine V_arg i 1 (by decide) dL_law_448 dL_law_449 dL_law_451 dL_law_452 dL_law_453 rfl rfl (by omega) hL ?_
  refine V_arg i 2 (by decide) dL_law_454 dL_law_455 dL_law_457 dL_law_458 dL_law_459 rfl rfl (by omega) hL ?_
  refine V_arg i 3 (by decide) dL_law_460 dL_law_461 dL_law_463 dL_law_464 dL_law_465 rfl rfl (by omega) hL ?_
  refine V_cM dL_law_466 lL_62 hM h.recv.2 rfl rfl (Nat.le_of_ble_eq_true rfl) rfl ⟨Nat.le_of_ble_eq_true rfl, Nat.le_of_ble_eq_true rfl⟩ hk hn (fun r y1 hq => ?_)
  obtain ⟨rfl, h1⟩ := hq
  refine V_icmp_eq_t 1015 dL_law_469 (by decide) rfl ?_
  exact nx _ _ h1
theorem w_direct (h : LR w D a x y) (hL : L ≤ 3072) (hi : i + 6 ≤ L) (hk : k ≤ 601024) (hn : n ≤ 7293034) (nx : ∀ x y : va_W, LR w D a x y → V w (mLw nm) (lwC b0 L xs) k n 1015 (lwV b0 D a u i) [] (x ++ (y ++ lwU w u f))) : V w (mLw nm) (lwC b0 L xs) k n 474 (lwV b0 D a u i) [] (x ++ (y ++ lwU w u f)) := by
  obtain ⟨v, x1, hC, hM⟩ := p_direct h (xs (i + 1)) (xs (i + 2)) (xs (i + 3)) (xs (i + 4))
  refine V_aload_n dL_law_474 1 rfl ?_
  refine V_arg i 1 (by decide) dL_law_475 dL_law_476 dL_law_478 dL_law_479 dL_law_480 rfl rfl (by omega) hL ?_
  refine V_arg i 2 (by decide) dL_law_481 dL_law_482 dL_law_484 dL_law_485 dL_law_486 rfl rfl (by omega) hL ?_
  refine V_arg i 3 (by decide) dL_law_487 dL_law_488 dL_law_490 dL_law_491 dL_law_492 rfl rfl (by omega) hL ?_
  refine V_arg i 4 (by decide) dL_law_493 dL_law_494 dL_law_496 dL_law_497 dL_law_498 rfl rfl (by omega) hL ?_
  refine V_cD dL_law_499 lL_63 hC h.recv.1 rfl rfl rfl ⟨Nat.le_of_ble_eq_true rfl, Nat.le_of_ble_eq_true rfl⟩ hk hn ?_
  refine V_aload_n dL_law_502 2 rfl ?_
  refine V_arg i 1 (by decide) dL_law_503 dL_law_504 dL_law_506 dL_law_507 dL_law_508 rfl rfl (by omega) hL ?_
  refine V_arg i 2 (by decide) dL_law_509 dL_law_510 dL_law_512 dL_law_513 dL_law_514 rfl rfl (by omega) hL ?_
  refine V_arg i 3 (by decide) dL_law_515 dL_law_516 dL_law_518 dL_law_519 dL_law_520 rfl rfl (by omega) hL ?_
  refine V_arg i 4 (by decide) dL_law_521 dL_law_522 dL_law_524 dL_law_525 dL_law_526 rfl rfl (by omega) hL ?_
  refine V_cM dL_law_527 lL_67 hM h.recv.2 rfl rfl (Nat.le_of_ble_eq_true rfl) rfl ⟨Nat.le_of_ble_eq_true rfl, Nat.le_of_ble_eq_true rfl⟩ hk hn (fun r y1 hq => ?_)
  obtain ⟨rfl, h1⟩ := hq
  refine V_icmp_eq_t 1015 dL_law_530 (by decide) rfl ?_
  exact nx _ _ h1
theorem w_indirect (h : LR w D a x y) (hL : L ≤ 3072) (hi : i + 6 ≤ L) (hk : k ≤ 601024) (hn : n ≤ 7293034) (nx : ∀ x y : va_W, LR w D a x y → V w (mLw nm) (lwC b0 L xs) k n 1015 (lwV b0 D a u i) [] (x ++ (y ++ lwU w u f))) : V w (mLw nm) (lwC b0 L xs) k n 535 (lwV b0 D a u i) [] (x ++ (y ++ lwU w u f)) := by
  obtain ⟨v, x1, hC, hM⟩ := p_indirect h (xs (i + 1)) (xs (i + 2)) (xs (i + 3))
  refine V_aload_n dL_law_535 1 rfl ?_
  refine V_arg i 1 (by decide) dL_law_536 dL_law_537 dL_law_539 dL_law_540 dL_law_541 rfl rfl (by omega) hL ?_
  refine V_arg i 2 (by decide) dL_law_542 dL_law_543 dL_law_545 dL_law_546 dL_law_547 rfl rfl (by omega) hL ?_
  refine V_arg i 3 (by decide) dL_law_548 dL_law_549 dL_law_551 dL_law_552 dL_law_553 rfl rfl (by omega) hL ?_
  refine V_cD dL_law_554 lL_68 hC h.recv.1 rfl rfl rfl ⟨Nat.le_of_ble_eq_true rfl, Nat.le_of_ble_eq_true rfl⟩ hk hn ?_
  refine V_aload_n dL_law_557 2 rfl ?_
  refine V_arg i 1 (by decide) dL_law_558 dL_law_559 dL_law_561 dL_law_562 dL_law_563 rfl rfl (by omega) hL ?_
  refine V_arg i 2 (by decide) dL_law_564 dL_law_565 dL_law_567 dL_law_568 dL_law_569 rfl rfl (by omega) hL ?_
  refine V_arg i 3 (by decide) dL_law_570 dL_law_571 dL_law_573 dL_law_574 dL_law_575 rfl rfl (by omega) hL ?_
  refine V_cM dL_law_576 lL_71 hM h.recv.2 rfl rfl (Nat.le_of_ble_eq_true rfl) rfl ⟨Nat.le_of_ble_eq_true rfl, Nat.le_of_ble_eq_true rfl⟩ hk hn (fun r y1 hq => ?_)
  obtain ⟨rfl, h1⟩ := hq
  refine V_icmp_eq_t 1015 dL_law_579 (by decide) rfl ?_
  exact nx _ _ h1
theorem w_change (h : LR w D a x y) (hL : L ≤ 3072) (hi : i + 6 ≤ L) (hk : k ≤ 601024) (hn : n ≤ 7293034) (nx : ∀ x y : va_W, LR w D a x y → V w (mLw nm) (lwC b0 L xs) k n 1015 (lwV b0 D a u i) [] (x ++ (y ++ lwU w u f))) : V w (mLw nm) (lwC b0 L xs) k n 584 (lwV b0 D a u i) [] (x ++ (y ++ lwU w u f)) := by
  obtain ⟨v, x1, hC, hM⟩ := p_change h (xs (i + 1)) (xs (i + 2))
  refine V_aload_n dL_law_584 1 rfl ?_
  refine V_arg i 1 (by decide) dL_law_585 dL_law_586 dL_law_588 dL_law_589 dL_law_590 rfl rfl (by omega) hL ?_
  refine V_arg i 2 (by decide) dL_law_591 dL_law_592 dL_law_594 dL_law_595 dL_law_596 rfl rfl (by omega) hL ?_
  refine V_cD dL_law_597 lL_72 hC h.recv.1 rfl rfl rfl ⟨Nat.le_of_ble_eq_true rfl, Nat.le_of_ble_eq_true rfl⟩ hk hn ?_
  refine V_aload_n dL_law_600 2 rfl ?_
  refine V_arg i 1 (by decide) dL_law_601 dL_law_602 dL_law_604 dL_law_605 dL_law_606 rfl rfl (by omega) hL ?_
  refine V_arg i 2 (by decide) dL_law_607 dL_law_608 dL_law_610 dL_law_611 dL_law_612 rfl rfl (by omega) hL ?_
  refine V_cM dL_law_613 lL_75 hM h.recv.2 rfl rfl (Nat.le_of_ble_eq_true rfl) rfl ⟨Nat.le_of_ble_eq_true rfl, Nat.le_of_ble_eq_true rfl⟩ hk hn (fun r y1 hq => ?_)
  obtain ⟨rfl, h1⟩ := hq
  refine V_icmp_eq_t 1015 dL_law_616 (by decide) rfl ?_
  exact nx _ _ h1
theorem w_makes (h : LR w D a x y) (hL : L ≤ 3072) (hi : i + 6 ≤ L) (hk : k ≤ 601024) (hn : n ≤ 7293034) (nx : ∀ x y : va_W, LR w D a x y → V w (mLw nm) (lwC b0 L xs) k n 1015 (lwV b0 D a u i) [] (x ++ (y ++ lwU w u f))) : V w (mLw nm) (lwC b0 L xs) k n 621 (lwV b0 D a u i) [] (x ++ (y ++ lwU w u f)) := by
  obtain ⟨v, x1, hC, hM⟩ := p_makes h (xs (i + 1)) (xs (i + 2)) (xs (i + 3))
  refine V_aload_n dL_law_621 1 rfl ?_
  refine V_arg i 1 (by decide) dL_law_622 dL_law_623 dL_law_625 dL_law_626 dL_law_627 rfl rfl (by omega) hL ?_
  refine V_arg i 2 (by decide) dL_law_628 dL_law_629 dL_law_631 dL_law_632 dL_law_633 rfl rfl (by omega) hL ?_
  refine V_arg i 3 (by decide) dL_law_634 dL_law_635 dL_law_637 dL_law_638 dL_law_639 rfl rfl (by omega) hL ?_
  refine V_cD dL_law_640 lL_76 hC h.recv.1 rfl rfl rfl ⟨Nat.le_of_ble_eq_true rfl, Nat.le_of_ble_eq_true rfl⟩ hk hn ?_
  refine V_aload_n dL_law_643 2 rfl ?_
  refine V_arg i 1 (by decide) dL_law_644 dL_law_645 dL_law_647 dL_law_648 dL_law_649 rfl rfl (by omega) hL ?_
  refine V_arg i 2 (by decide) dL_law_650 dL_law_651 dL_law_653 dL_law_654 dL_law_655 rfl rfl (by omega) hL ?_
  refine V_arg i 3 (by decide) dL_law_656 dL_law_657 dL_law_659 dL_law_660 dL_law_661 rfl rfl (by omega) hL ?_
  refine V_cM dL_law_662 lL_79 hM h.recv.2 rfl rfl (Nat.le_of_ble_eq_true rfl) rfl ⟨Nat.le_of_ble_eq_true rfl, Nat.le_of_ble_eq_true rfl⟩ hk hn (fun r y1 hq => ?_)
  obtain ⟨rfl, h1⟩ := hq
  refine V_icmp_eq_t 1015 dL_law_665 (by decide) rfl ?_
  exact nx _ _ h1
theorem w_deals (h : LR w D a x y) (hL : L ≤ 3072) (hi : i + 6 ≤ L) (hk : k ≤ 601024) (hn : n ≤ 7293034) (nx : ∀ x y : va_W, LR w D a x y → V w (mLw nm) (lwC b0 L xs) k n 1015 (lwV b0 D a u i) [] (x ++ (y ++ lwU w u f))) : V w (mLw nm) (lwC b0 L xs) k n 670 (lwV b0 D a u i) [] (x ++ (y ++ lwU w u f)) := by
  obtain ⟨v, x1, hC, hM⟩ := p_deals h (xs (i + 1)) (xs (i + 2)) (xs (i + 3)) (xs (i + 4))
  refine V_aload_n dL_law_670 1 rfl ?_
  refine V_arg i 1 (by decide) dL_law_671 dL_law_672 dL_law_674 dL_law_675 dL_law_676 rfl rfl (by omega) hL ?_
  refine V_arg i 2 (by decide) dL_law_677 dL_law_678 dL_law_680 dL_law_681 dL_law_682 rfl rfl (by omega) hL ?_
  refine V_arg i 3 (by decide) dL_law_683 dL_law_684 dL_law_686 dL_law_687 dL_law_688 rfl rfl (by omega) hL ?_
  refine V_arg i 4 (by decide) dL_law_689 dL_law_690 dL_law_692 dL_law_693 dL_law_694 rfl rfl (by omega) hL ?_
  refine V_cD dL_law_695 lL_80 hC h.recv.1 rfl rfl rfl ⟨Nat.le_of_ble_eq_true rfl, Nat.le_of_ble_eq_true rfl⟩ hk hn ?_
  refine V_aload_n dL_law_698 2 rfl ?_
  refine V_arg i 1 (by decide) dL_law_699 dL_law_700 dL_law_702 dL_law_703 dL_law_704 rfl rfl (by omega) hL ?_
  refine V_arg i 2 (by decide) dL_law_705 dL_law_706 dL_law_708 dL_law_709 dL_law_710 rfl rfl (by omega) hL ?_
  refine V_arg i 3 (by decide) dL_law_711 dL_law_712 dL_law_714 dL_law_715 dL_law_716 rfl rfl (by omega) hL ?_
  refine V_arg i 4 (by decide) dL_law_717 dL_law_718 dL_law_720 dL_law_721 dL_law_722 rfl rfl (by omega) hL ?_
  refine V_cM dL_law_723 lL_83 hM h.recv.2 rfl rfl (Nat.le_of_ble_eq_true rfl) rfl ⟨Nat.le_of_ble_eq_true rfl, Nat.le_of_ble_eq_true rfl⟩ hk hn (fun r y1 hq => ?_)
  obtain ⟨rfl, h1⟩ := hq
  refine V_icmp_eq_t 1015 dL_law_726 (by decide) rfl ?_
  exact nx _ _ h1
theorem w_balance (h : LR w D a x y) (hL : L ≤ 3072) (hi : i + 6 ≤ L) (hk : k ≤ 601024) (hn : n ≤ 7293034) (nx : ∀ x y : va_W, LR w D a x y → V w (mLw nm) (lwC b0 L xs) k n 1015 (lwV b0 D a u i) [] (x ++ (y ++ lwU w u f))) : V w (mLw nm) (lwC b0 L xs) k n 731 (lwV b0 D a u i) [] (x ++ (y ++ lwU w u f)) := by
  obtain ⟨v, x1, hC, hM⟩ := p_balance h (xs (i + 1)) (xs (i + 2))
  refine V_aload_n dL_law_731 1 rfl ?_
  refine V_arg i 1 (by decide) dL_law_732 dL_law_733 dL_law_735 dL_law_736 dL_law_737 rfl rfl (by omega) hL ?_
  refine V_arg i 2 (by decide) dL_law_738 dL_law_739 dL_law_741 dL_law_742 dL_law_743 rfl rfl (by omega) hL ?_
  refine V_cD dL_law_744 lL_84 hC h.recv.1 rfl rfl rfl ⟨Nat.le_of_ble_eq_true rfl, Nat.le_of_ble_eq_true rfl⟩ hk hn ?_
  refine V_aload_n dL_law_747 2 rfl ?_
  refine V_arg i 1 (by decide) dL_law_748 dL_law_749 dL_law_751 dL_law_752 dL_law_753 rfl rfl (by omega) hL ?_
  refine V_arg i 2 (by decide) dL_law_754 dL_law_755 dL_law_757 dL_law_758 dL_law_759 rfl rfl (by omega) hL ?_
  refine V_cM dL_law_760 lL_87 hM h.recv.2 rfl rfl (Nat.le_of_ble_eq_true rfl) rfl ⟨Nat.le_of_ble_eq_true rfl, Nat.le_of_ble_eq_true rfl⟩ hk hn (fun r y1 hq => ?_)
  obtain ⟨rfl, h1⟩ := hq
  refine V_icmp_eq_t 1015 dL_law_763 (by decide) rfl ?_
  exact nx _ _ h1
theorem w_traced (h : LR w D a x y) (hL : L ≤ 3072) (hi : i + 6 ≤ L) (hk : k ≤ 601024) (hn : n ≤ 7293034) (nx : ∀ x y : va_W, LR w D a x y → V w (mLw nm) (lwC b0 L xs) k n 1015 (lwV b0 D a u i) [] (x ++ (y ++ lwU w u f))) : V w (mLw nm) (lwC b0 L xs) k n 768 (lwV b0 D a u i) [] (x ++ (y ++ lwU w u f)) := by
  obtain ⟨v, x1, hC, hM⟩ := p_traced h
  refine V_aload_n dL_law_768 1 rfl ?_
  refine V_cD dL_law_769 lL_88 hC h.recv.1 rfl rfl rfl ⟨Nat.le_of_ble_eq_true rfl, Nat.le_of_ble_eq_true rfl⟩ hk hn ?_
  refine V_aload_n dL_law_772 2 rfl ?_
  refine V_cM dL_law_773 lL_91 hM h.recv.2 rfl rfl (Nat.le_of_ble_eq_true rfl) rfl ⟨Nat.le_of_ble_eq_true rfl, Nat.le_of_ble_eq_true rfl⟩ hk hn (fun r y1 hq => ?_)
  obtain ⟨rfl, h1⟩ := hq
  refine V_icmp_eq_t 1015 dL_law_776 (by decide) rfl ?_
  exact nx _ _ h1
theorem w_post (h : LR w D a x y) (hL : L ≤ 3072) (hi : i + 6 ≤ L) (hk : k ≤ 601024) (hn : n ≤ 7293034) (nx : ∀ x y : va_W, LR w D a x y → V w (mLw nm) (lwC b0 L xs) k n 1015 (lwV b0 D a u i) [] (x ++ (y ++ lwU w u f))) : V w (mLw nm) (lwC b0 L xs) k n 781 (lwV b0 D a u i) [] (x ++ (y ++ lwU w u f)) := by
  obtain ⟨v, x1, hC, hM⟩ := p_post h (xs (i + 1)) (xs (i + 2)) (xs (i + 3)) (xs (i + 4))
  refine V_aload_n dL_law_781 1 rfl ?_
  refine V_arg i 1 (by decide) dL_law_782 dL_law_783 dL_law_785 dL_law_786 dL_law_787 rfl rfl (by omega) hL ?_
  refine V_arg i 2 (by decide) dL_law_788 dL_law_789 dL_law_791 dL_law_792 dL_law_793 rfl rfl (by omega) hL ?_
  refine V_arg i 3 (by decide) dL_law_794 dL_law_795 dL_law_797 dL_law_798 dL_law_799 rfl rfl (by omega) hL ?_
  refine V_arg i 4 (by decide) dL_law_800 dL_law_801 dL_law_803 dL_law_804 dL_law_805 rfl rfl (by omega) hL ?_
  refine V_cD dL_law_806 lL_92 hC h.recv.1 rfl rfl rfl ⟨Nat.le_of_ble_eq_true rfl, Nat.le_of_ble_eq_true rfl⟩ hk hn ?_
  refine V_aload_n dL_law_809 2 rfl ?_
  refine V_arg i 1 (by decide) dL_law_810 dL_law_811 dL_law_813 dL_law_814 dL_law_815 rfl rfl (by omega) hL ?_
  refine V_arg i 2 (by decide) dL_law_816 dL_law_817 dL_law_819 dL_law_820 dL_law_821 rfl rfl (by omega) hL ?_
  refine V_arg i 3 (by decide) dL_law_822 dL_law_823 dL_law_825 dL_law_826 dL_law_827 rfl rfl (by omega) hL ?_
  refine V_arg i 4 (by decide) dL_law_828 dL_law_829 dL_law_831 dL_law_832 dL_law_833 rfl rfl (by omega) hL ?_
  refine V_cM dL_law_834 lL_95 hM h.recv.2 rfl rfl (Nat.le_of_ble_eq_true rfl) rfl ⟨Nat.le_of_ble_eq_true rfl, Nat.le_of_ble_eq_true rfl⟩ hk hn (fun r y1 hq => ?_)
  obtain ⟨rfl, h1⟩ := hq
  refine V_icmp_eq_t 1015 dL_law_837 (by decide) rfl ?_
  exact nx _ _ h1
theorem w_more (h : LR w D a x y) (hL : L ≤ 3072) (hi : i + 6 ≤ L) (hk : k ≤ 601024) (hn : n ≤ 7293034) (nx : ∀ x y : va_W, LR w D a x y → V w (mLw nm) (lwC b0 L xs) k n 1015 (lwV b0 D a u i) [] (x ++ (y ++ lwU w u f))) : V w (mLw nm) (lwC b0 L xs) k n 842 (lwV b0 D a u i) [] (x ++ (y ++ lwU w u f)) := by
  obtain ⟨v, x1, hC, hM⟩ := p_more h (xs (i + 1)) (xs (i + 2)) (xs (i + 3)) (xs (i + 4))
  refine V_aload_n dL_law_842 1 rfl ?_
  refine V_arg i 1 (by decide) dL_law_843 dL_law_844 dL_law_846 dL_law_847 dL_law_848 rfl rfl (by omega) hL ?_
  refine V_arg i 2 (by decide) dL_law_849 dL_law_850 dL_law_852 dL_law_853 dL_law_854 rfl rfl (by omega) hL ?_
  refine V_arg i 3 (by decide) dL_law_855 dL_law_856 dL_law_858 dL_law_859 dL_law_860 rfl rfl (by omega) hL ?_
  refine V_arg i 4 (by decide) dL_law_861 dL_law_862 dL_law_864 dL_law_865 dL_law_866 rfl rfl (by omega) hL ?_
  refine V_cD dL_law_867 lL_96 hC h.recv.1 rfl rfl rfl ⟨Nat.le_of_ble_eq_true rfl, Nat.le_of_ble_eq_true rfl⟩ hk hn ?_
  refine V_aload_n dL_law_870 2 rfl ?_
  refine V_arg i 1 (by decide) dL_law_871 dL_law_872 dL_law_874 dL_law_875 dL_law_876 rfl rfl (by omega) hL ?_
  refine V_arg i 2 (by decide) dL_law_877 dL_law_878 dL_law_880 dL_law_881 dL_law_882 rfl rfl (by omega) hL ?_
  refine V_arg i 3 (by decide) dL_law_883 dL_law_884 dL_law_886 dL_law_887 dL_law_888 rfl rfl (by omega) hL ?_
  refine V_arg i 4 (by decide) dL_law_889 dL_law_890 dL_law_892 dL_law_893 dL_law_894 rfl rfl (by omega) hL ?_
  refine V_cM dL_law_895 lL_99 hM h.recv.2 rfl rfl (Nat.le_of_ble_eq_true rfl) rfl ⟨Nat.le_of_ble_eq_true rfl, Nat.le_of_ble_eq_true rfl⟩ hk hn (fun r y1 hq => ?_)
  obtain ⟨rfl, h1⟩ := hq
  refine V_icmp_eq_t 1015 dL_law_898 (by decide) rfl ?_
  exact nx _ _ h1
theorem w_strike (h : LR w D a x y) (hL : L ≤ 3072) (hi : i + 6 ≤ L) (hk : k ≤ 601024) (hn : n ≤ 7293034) (nx : ∀ x y : va_W, LR w D a x y → V w (mLw nm) (lwC b0 L xs) k n 1015 (lwV b0 D a u i) [] (x ++ (y ++ lwU w u f))) : V w (mLw nm) (lwC b0 L xs) k n 903 (lwV b0 D a u i) [] (x ++ (y ++ lwU w u f)) := by
  obtain ⟨v, x1, hC, hM⟩ := p_strike h (xs (i + 1))
  refine V_aload_n dL_law_903 1 rfl ?_
  refine V_arg i 1 (by decide) dL_law_904 dL_law_905 dL_law_907 dL_law_908 dL_law_909 rfl rfl (by omega) hL ?_
  refine V_cD dL_law_910 lL_100 hC h.recv.1 rfl rfl rfl ⟨Nat.le_of_ble_eq_true rfl, Nat.le_of_ble_eq_true rfl⟩ hk hn ?_
  refine V_aload_n dL_law_913 2 rfl ?_
  refine V_arg i 1 (by decide) dL_law_914 dL_law_915 dL_law_917 dL_law_918 dL_law_919 rfl rfl (by omega) hL ?_
  refine V_cM dL_law_920 lL_103 hM h.recv.2 rfl rfl (Nat.le_of_ble_eq_true rfl) rfl ⟨Nat.le_of_ble_eq_true rfl, Nat.le_of_ble_eq_true rfl⟩ hk hn (fun r y1 hq => ?_)
  obtain ⟨rfl, h1⟩ := hq
  refine V_icmp_eq_t 1015 dL_law_923 (by decide) rfl ?_
  exact nx _ _ h1
theorem w_tell (h : LR w D a x y) (hL : L ≤ 3072) (hi : i + 6 ≤ L) (hk : k ≤ 601024) (hn : n ≤ 7293034) (nx : ∀ x y : va_W, LR w D a x y → V w (mLw nm) (lwC b0 L xs) k n 1015 (lwV b0 D a u i) [] (x ++ (y ++ lwU w u f))) : V w (mLw nm) (lwC b0 L xs) k n 928 (lwV b0 D a u i) [] (x ++ (y ++ lwU w u f)) := by
  obtain ⟨v, x1, hC, hM⟩ := p_tell h (xs (i + 1)) (xs (i + 2))
  refine V_aload_n dL_law_928 1 rfl ?_
  refine V_arg i 1 (by decide) dL_law_929 dL_law_930 dL_law_932 dL_law_933 dL_law_934 rfl rfl (by omega) hL ?_
  refine V_arg i 2 (by decide) dL_law_935 dL_law_936 dL_law_938 dL_law_939 dL_law_940 rfl rfl (by omega) hL ?_
  refine V_cD dL_law_941 lL_104 hC h.recv.1 rfl rfl rfl ⟨Nat.le_of_ble_eq_true rfl, Nat.le_of_ble_eq_true rfl⟩ hk hn ?_
  refine V_aload_n dL_law_944 2 rfl ?_
  refine V_arg i 1 (by decide) dL_law_945 dL_law_946 dL_law_948 dL_law_949 dL_law_950 rfl rfl (by omega) hL ?_
  refine V_arg i 2 (by decide) dL_law_951 dL_law_952 dL_law_954 dL_law_955 dL_law_956 rfl rfl (by omega) hL ?_
  refine V_cM dL_law_957 lL_108 hM h.recv.2 rfl rfl (Nat.le_of_ble_eq_true rfl) rfl ⟨Nat.le_of_ble_eq_true rfl, Nat.le_of_ble_eq_true rfl⟩ hk hn (fun r y1 hq => ?_)
  obtain ⟨rfl, h1⟩ := hq
  refine V_icmp_eq_t 1015 dL_law_960 (by decide) rfl ?_
  exact nx _ _ h1
theorem w_turn (h : LR w D a x y) (hL : L ≤ 3072) (hi : i + 6 ≤ L) (hk : k ≤ 601024) (hn : n ≤ 7293034) (nx : ∀ x y : va_W, LR w D a x y → V w (mLw nm) (lwC b0 L xs) k n 1015 (lwV b0 D a u i) [] (x ++ (y ++ lwU w u f))) : V w (mLw nm) (lwC b0 L xs) k n 965 (lwV b0 D a u i) [] (x ++ (y ++ lwU w u f)) := by
  obtain ⟨v, x1, hC, hM⟩ := p_turn h (xs (i + 1)) (xs (i + 2))
  refine V_aload_n dL_law_965 1 rfl ?_
  refine V_arg i 1 (by decide) dL_law_966 dL_law_967 dL_law_969 dL_law_970 dL_law_971 rfl rfl (by omega) hL ?_
  refine V_arg i 2 (by decide) dL_law_972 dL_law_973 dL_law_975 dL_law_976 dL_law_977 rfl rfl (by omega) hL ?_
  refine V_cD dL_law_978 lL_109 hC h.recv.1 rfl rfl rfl ⟨Nat.le_of_ble_eq_true rfl, Nat.le_of_ble_eq_true rfl⟩ hk hn ?_
  refine V_aload_n dL_law_981 2 rfl ?_
  refine V_arg i 1 (by decide) dL_law_982 dL_law_983 dL_law_985 dL_law_986 dL_law_987 rfl rfl (by omega) hL ?_
  refine V_arg i 2 (by decide) dL_law_988 dL_law_989 dL_law_991 dL_law_992 dL_law_993 rfl rfl (by omega) hL ?_
  refine V_cM dL_law_994 lL_112 hM h.recv.2 rfl rfl (Nat.le_of_ble_eq_true rfl) rfl ⟨Nat.le_of_ble_eq_true rfl, Nat.le_of_ble_eq_true rfl⟩ hk hn (fun r y1 hq => ?_)
  obtain ⟨rfl, h1⟩ := hq
  refine V_icmp_eq_t 1015 dL_law_997 (by decide) rfl ?_
  exact nx _ _ h1
theorem w_undo (h : LR w D a x y) (hL : L ≤ 3072) (hi : i + 6 ≤ L) (hk : k ≤ 601024) (hn : n ≤ 7293034) (nx : ∀ x y : va_W, LR w D a x y → V w (mLw nm) (lwC b0 L xs) k n 1015 (lwV b0 D a u i) [] (x ++ (y ++ lwU w u f))) : V w (mLw nm) (lwC b0 L xs) k n 1002 (lwV b0 D a u i) [] (x ++ (y ++ lwU w u f)) := by
  obtain ⟨v, x1, hC, hM⟩ := p_undo h
  refine V_aload_n dL_law_1002 1 rfl ?_
  refine V_cD dL_law_1003 lL_113 hC h.recv.1 rfl rfl rfl ⟨Nat.le_of_ble_eq_true rfl, Nat.le_of_ble_eq_true rfl⟩ hk hn ?_
  refine V_aload_n dL_law_1006 2 rfl ?_
  refine V_cM dL_law_1007 lL_116 hM h.recv.2 rfl rfl (Nat.le_of_ble_eq_true rfl) rfl ⟨Nat.le_of_ble_eq_true rfl, Nat.le_of_ble_eq_true rfl⟩ hk hn (fun r y1 hq => ?_)
  obtain ⟨rfl, h1⟩ := hq
  refine V_icmp_eq_t 1015 dL_law_1010 (by decide) rfl ?_
  exact nx _ _ h1
end LwC
