/-! ===== the cases of the law's switch ===== -/
section
variable {J : KT} {lv : LV} {M : PM} {b L cs ss : Nat} {xs : Nat → Int32} {i : Int32}
def LC (J : KT) (b cs ss : Nat) (i : Int32) : Prop := ∀ lv2 cs2 ss2 M2, LVL b i lv2 → JM M2 → cs2 ≤ cs + 3 → ss2 ≤ ss + 18 → J 1656 lv2 [] (150, cs2, ss2) M2
def ILn (i : Int32) (L : Nat) : Prop := vp_in (i + 1) L ∧ vp_in (i + 2) L ∧ vp_in (i + 3) L
theorem law_0 (hJ : HJ (tL_law b L xs) J) (hl : LVL b i lv) (hi : ILn i L) (hM : JM M) (h1 : cs + 3 ≤ 601024) (h2 : ss + 18 ≤ 7293034) (hk : LC J b cs ss i) : J 176 lv [] (150, cs, ss) M := by
  refine g_ald hJ lL_law_176 hl.2.1 ?_
  refine g_arg hJ lL_law_177 lL_law_178 lL_law_180 lL_law_181 lL_law_182 hl hi.1 ?_
  refine g_ald hJ lL_law_183 hl.2.2.2.1 ?_
  refine g_call hJ lL_law_184 rfl rfl hl (by omega) (by omega) (s_append hM) (fun o n M1 hp => ?_)
  obtain ⟨rfl, k, rfl, hp⟩ := hp
  refine ⟨rfl, _, rfl, ?_⟩
  refine hj1 hJ lL_law_187 ?_
  have hl1 : LVL b i (lset lv 6 (.int k)) := hl.set (by decide) trivial
  have l6 : lset lv 6 (.int k) 6 = some (.int k) := lset_at
  show J 189 (lset lv 6 (.int k)) [] (150, cs + 1, ss + 6) M1
  generalize lset lv 6 (.int k) = lv at hl1 l6 ⊢
  replace hl := hl1
  refine g_ald hJ lL_law_189 hl.2.2.1 ?_
  refine g_arg hJ lL_law_190 lL_law_191 lL_law_193 lL_law_194 lL_law_195 hl hi.1 ?_
  refine g_callV (st := [.int _, .ref 125]) (rs := []) (av := [.int _]) hJ lL_law_196 rfl rfl rfl (by decide) hl (Nat.zero_le _) (fun v hv => absurd hv List.not_mem_nil) (by omega) (by omega) hp (fun o n M2 hq => ?_)
  obtain ⟨rfl, x, rfl, e0, ex, hm⟩ := hq
  refine ⟨rfl, _, rfl, ?_⟩
  refine hj1 hJ lL_law_199 ?_
  have hl2 : LVL b i (lset lv 7 (.int x)) := hl.set (by decide) trivial
  have l62 : lset lv 7 (.int x) 6 = some (.int k) := lset_ne l6 (by decide) rfl
  have l7 : lset lv 7 (.int x) 7 = some (.int x) := lset_at
  show J 201 (lset lv 7 (.int x)) [] (150, cs + 1 + 0, ss + 6 + 0) M2
  generalize lset lv 7 (.int x) = lv at hl2 l62 l7 ⊢
  replace hl := hl2
  replace l6 := l62
  refine g_thrown hJ lL_law_201 lL_law_202 lL_law_205 lL_law_207 hl l6 (by omega) (by omega) e0 ?_
  have hend : J 229 lv [] (150, cs + 1 + 0, ss + 6 + 0) M2 := hj1 hJ lL_law_229 (hk lv _ _ M2 hl hm (by omega) (by omega))
  refine g_ild hJ lL_law_212 l6 (hj1 hJ lL_law_214 ⟨fun z => ?_, fun _ => hend⟩)
  have ex := ex z
  refine g_ald hJ lL_law_217 hl.2.2.2.1 ?_
  refine hj1 hJ lL_law_218 (hj1 hJ lL_law_219 ⟨rfl, Nat.le_of_ble_eq_true rfl, (vp_in_nI (n := 0) (N := 1) (by decide) (by decide)), ?_⟩)
  show J 220 lv [.long (M2.2.2.2.1 148 0)] (150, cs + 1 + 0, ss + 6 + 0) M2
  rw [ex]
  refine g_ild hJ lL_law_220 l7 (hj1 hJ lL_law_222 (hj1 hJ lL_law_223 (hj1 hJ lL_law_224 ⟨fun _ => hend, fun w => absurd ((lg_cmp_eq _ _).mpr rfl) w⟩)))
theorem law_1 (hJ : HJ (tL_law b L xs) J) (hl : LVL b i lv) (hi : ILn i L) (hM : JM M) (h1 : cs + 3 ≤ 601024) (h2 : ss + 18 ≤ 7293034) (hk : LC J b cs ss i) : J 232 lv [] (150, cs, ss) M := by
  refine g_ald hJ lL_law_232 hl.2.1 ?_
  refine g_ald hJ lL_law_233 hl.2.2.2.1 ?_
  refine g_call hJ lL_law_234 rfl rfl hl (by omega) (by omega) (s_load hM) (fun o n M1 hp => ?_)
  obtain ⟨rfl, k, rfl, hp⟩ := hp
  refine ⟨rfl, _, rfl, ?_⟩
  refine hj1 hJ lL_law_237 ?_
  have hl1 : LVL b i (lset lv 6 (.int k)) := hl.set (by decide) trivial
  have l6 : lset lv 6 (.int k) 6 = some (.int k) := lset_at
  show J 239 (lset lv 6 (.int k)) [] (150, cs + 1, ss + 6) M1
  generalize lset lv 6 (.int k) = lv at hl1 l6 ⊢
  replace hl := hl1
  refine g_ald hJ lL_law_239 hl.2.2.1 ?_
  refine g_callV (st := [.ref 125]) (rs := []) (av := []) hJ lL_law_240 rfl rfl rfl (by decide) hl (Nat.zero_le _) (fun v hv => absurd hv List.not_mem_nil) (by omega) (by omega) hp (fun o n M2 hq => ?_)
  obtain ⟨rfl, x, rfl, e0, ex, hm⟩ := hq
  refine ⟨rfl, _, rfl, ?_⟩
  refine hj1 hJ lL_law_243 ?_
  have hl2 : LVL b i (lset lv 7 (.int x)) := hl.set (by decide) trivial
  have l62 : lset lv 7 (.int x) 6 = some (.int k) := lset_ne l6 (by decide) rfl
  have l7 : lset lv 7 (.int x) 7 = some (.int x) := lset_at
  show J 245 (lset lv 7 (.int x)) [] (150, cs + 1 + 0, ss + 6 + 0) M2
  generalize lset lv 7 (.int x) = lv at hl2 l62 l7 ⊢
  replace hl := hl2
  replace l6 := l62
  refine g_thrown hJ lL_law_245 lL_law_246 lL_law_249 lL_law_251 hl l6 (by omega) (by omega) e0 ?_
  have hend : J 273 lv [] (150, cs + 1 + 0, ss + 6 + 0) M2 := hj1 hJ lL_law_273 (hk lv _ _ M2 hl hm (by omega) (by omega))
  refine g_ild hJ lL_law_256 l6 (hj1 hJ lL_law_258 ⟨fun z => ?_, fun _ => hend⟩)
  have ex := ex z
  refine g_ald hJ lL_law_261 hl.2.2.2.1 ?_
  refine hj1 hJ lL_law_262 (hj1 hJ lL_law_263 ⟨rfl, Nat.le_of_ble_eq_true rfl, (vp_in_nI (n := 0) (N := 1) (by decide) (by decide)), ?_⟩)
  show J 264 lv [.long (M2.2.2.2.1 148 0)] (150, cs + 1 + 0, ss + 6 + 0) M2
  rw [ex]
  refine g_ild hJ lL_law_264 l7 (hj1 hJ lL_law_266 (hj1 hJ lL_law_267 (hj1 hJ lL_law_268 ⟨fun _ => hend, fun w => absurd ((lg_cmp_eq _ _).mpr rfl) w⟩)))
theorem law_2 (hJ : HJ (tL_law b L xs) J) (hl : LVL b i lv) (hi : ILn i L) (hM : JM M) (h1 : cs + 3 ≤ 601024) (h2 : ss + 18 ≤ 7293034) (hk : LC J b cs ss i) : J 276 lv [] (150, cs, ss) M := by
  refine g_ald hJ lL_law_276 hl.2.1 ?_
  refine g_callV (st := [.ref 0]) (rs := []) (av := []) hJ lL_law_277 rfl rfl rfl (by decide) hl (Nat.zero_le _) (fun v hv => absurd hv List.not_mem_nil) (by omega) (by omega) (s_faultPosition hM) (fun o n M1 hp => ?_)
  obtain ⟨rfl, x, rfl, hp⟩ := hp
  refine ⟨rfl, _, rfl, ?_⟩
  show J 280 lv [.int x] (150, cs, ss) M1
  refine g_ald hJ lL_law_280 hl.2.2.1 ?_
  refine g_callV (st := [.ref 125]) (rs := [.int x]) (av := []) hJ lL_law_281 rfl rfl rfl (by decide) hl (Nat.le_of_ble_eq_true rfl) (fun v hv => by rw [List.mem_singleton] at hv; subst hv; trivial) (by omega) (by omega) hp (fun o n M2 hq => ?_)
  obtain ⟨rfl, rfl, hq⟩ := hq
  refine ⟨rfl, _, rfl, ?_⟩
  exact hj1 hJ lL_law_284 ⟨fun _ => hk lv cs ss M2 hl hq (by omega) (by omega), fun w => absurd rfl w⟩
theorem law_3 (hJ : HJ (tL_law b L xs) J) (hl : LVL b i lv) (hi : ILn i L) (hM : JM M) (h1 : cs + 3 ≤ 601024) (h2 : ss + 18 ≤ 7293034) (hk : LC J b cs ss i) : J 289 lv [] (150, cs, ss) M := by
  refine g_ald hJ lL_law_289 hl.2.1 ?_
  refine g_callV (st := [.ref 0]) (rs := []) (av := []) hJ lL_law_290 rfl rfl rfl (by decide) hl (Nat.zero_le _) (fun v hv => absurd hv List.not_mem_nil) (by omega) (by omega) (s_statements hM) (fun o n M1 hp => ?_)
  obtain ⟨rfl, x, rfl, hp⟩ := hp
  refine ⟨rfl, _, rfl, ?_⟩
  show J 293 lv [.int x] (150, cs, ss) M1
  refine g_ald hJ lL_law_293 hl.2.2.1 ?_
  refine g_callV (st := [.ref 125]) (rs := [.int x]) (av := []) hJ lL_law_294 rfl rfl rfl (by decide) hl (Nat.le_of_ble_eq_true rfl) (fun v hv => by rw [List.mem_singleton] at hv; subst hv; trivial) (by omega) (by omega) hp (fun o n M2 hq => ?_)
  obtain ⟨rfl, rfl, hq⟩ := hq
  refine ⟨rfl, _, rfl, ?_⟩
  exact hj1 hJ lL_law_297 ⟨fun _ => hk lv cs ss M2 hl hq (by omega) (by omega), fun w => absurd rfl w⟩
theorem law_4 (hJ : HJ (tL_law b L xs) J) (hl : LVL b i lv) (hi : ILn i L) (hM : JM M) (h1 : cs + 3 ≤ 601024) (h2 : ss + 18 ≤ 7293034) (hk : LC J b cs ss i) : J 302 lv [] (150, cs, ss) M := by
  refine g_ald hJ lL_law_302 hl.2.1 ?_
  refine g_arg hJ lL_law_303 lL_law_304 lL_law_306 lL_law_307 lL_law_308 hl hi.1 ?_
  refine g_ald hJ lL_law_309 hl.2.2.2.1 ?_
  refine g_call hJ lL_law_310 rfl rfl hl (by omega) (by omega) (s_setMode hM) (fun o n M1 hp => ?_)
  obtain ⟨rfl, k, rfl, hp⟩ := hp
  refine ⟨rfl, _, rfl, ?_⟩
  refine hj1 hJ lL_law_313 ?_
  have hl1 : LVL b i (lset lv 6 (.int k)) := hl.set (by decide) trivial
  have l6 : lset lv 6 (.int k) 6 = some (.int k) := lset_at
  show J 315 (lset lv 6 (.int k)) [] (150, cs + 1, ss + 6) M1
  generalize lset lv 6 (.int k) = lv at hl1 l6 ⊢
  replace hl := hl1
  refine g_ald hJ lL_law_315 hl.2.2.1 ?_
  refine g_arg hJ lL_law_316 lL_law_317 lL_law_319 lL_law_320 lL_law_321 hl hi.1 ?_
  refine g_callV (st := [.int _, .ref 125]) (rs := []) (av := [.int _]) hJ lL_law_322 rfl rfl rfl (by decide) hl (Nat.zero_le _) (fun v hv => absurd hv List.not_mem_nil) (by omega) (by omega) hp (fun o n M2 hq => ?_)
  obtain ⟨rfl, x, rfl, e0, ex, hm⟩ := hq
  refine ⟨rfl, _, rfl, ?_⟩
  refine hj1 hJ lL_law_325 ?_
  have hl2 : LVL b i (lset lv 7 (.int x)) := hl.set (by decide) trivial
  have l62 : lset lv 7 (.int x) 6 = some (.int k) := lset_ne l6 (by decide) rfl
  have l7 : lset lv 7 (.int x) 7 = some (.int x) := lset_at
  show J 327 (lset lv 7 (.int x)) [] (150, cs + 1 + 0, ss + 6 + 0) M2
  generalize lset lv 7 (.int x) = lv at hl2 l62 l7 ⊢
  replace hl := hl2
  replace l6 := l62
  refine g_thrown hJ lL_law_327 lL_law_328 lL_law_331 lL_law_333 hl l6 (by omega) (by omega) e0 ?_
  have hend : J 355 lv [] (150, cs + 1 + 0, ss + 6 + 0) M2 := hj1 hJ lL_law_355 (hk lv _ _ M2 hl hm (by omega) (by omega))
  refine g_ild hJ lL_law_338 l6 (hj1 hJ lL_law_340 ⟨fun z => ?_, fun _ => hend⟩)
  have ex := ex z
  refine g_ald hJ lL_law_343 hl.2.2.2.1 ?_
  refine hj1 hJ lL_law_344 (hj1 hJ lL_law_345 ⟨rfl, Nat.le_of_ble_eq_true rfl, (vp_in_nI (n := 0) (N := 1) (by decide) (by decide)), ?_⟩)
  show J 346 lv [.long (M2.2.2.2.1 148 0)] (150, cs + 1 + 0, ss + 6 + 0) M2
  rw [ex]
  refine g_ild hJ lL_law_346 l7 (hj1 hJ lL_law_348 (hj1 hJ lL_law_349 (hj1 hJ lL_law_350 ⟨fun _ => hend, fun w => absurd ((lg_cmp_eq _ _).mpr rfl) w⟩)))
theorem law_5 (hJ : HJ (tL_law b L xs) J) (hl : LVL b i lv) (hi : ILn i L) (hM : JM M) (h1 : cs + 3 ≤ 601024) (h2 : ss + 18 ≤ 7293034) (hk : LC J b cs ss i) : J 358 lv [] (150, cs, ss) M := by
  refine g_ald hJ lL_law_358 hl.2.1 ?_
  refine g_arg hJ lL_law_359 lL_law_360 lL_law_362 lL_law_363 lL_law_364 hl hi.1 ?_
  refine g_ald hJ lL_law_365 hl.2.2.2.1 ?_
  refine g_call hJ lL_law_366 rfl rfl hl (by omega) (by omega) (s_setCount hM) (fun o n M1 hp => ?_)
  obtain ⟨rfl, k, rfl, hp⟩ := hp
  refine ⟨rfl, _, rfl, ?_⟩
  refine hj1 hJ lL_law_369 ?_
  have hl1 : LVL b i (lset lv 6 (.int k)) := hl.set (by decide) trivial
  have l6 : lset lv 6 (.int k) 6 = some (.int k) := lset_at
  show J 371 (lset lv 6 (.int k)) [] (150, cs + 1, ss + 6) M1
  generalize lset lv 6 (.int k) = lv at hl1 l6 ⊢
  replace hl := hl1
  refine g_ald hJ lL_law_371 hl.2.2.1 ?_
  refine g_arg hJ lL_law_372 lL_law_373 lL_law_375 lL_law_376 lL_law_377 hl hi.1 ?_
  refine g_callV (st := [.int _, .ref 125]) (rs := []) (av := [.int _]) hJ lL_law_378 rfl rfl rfl (by decide) hl (Nat.zero_le _) (fun v hv => absurd hv List.not_mem_nil) (by omega) (by omega) hp (fun o n M2 hq => ?_)
  obtain ⟨rfl, x, rfl, e0, ex, hm⟩ := hq
  refine ⟨rfl, _, rfl, ?_⟩
  refine hj1 hJ lL_law_381 ?_
  have hl2 : LVL b i (lset lv 7 (.int x)) := hl.set (by decide) trivial
  have l62 : lset lv 7 (.int x) 6 = some (.int k) := lset_ne l6 (by decide) rfl
  have l7 : lset lv 7 (.int x) 7 = some (.int x) := lset_at
  show J 383 (lset lv 7 (.int x)) [] (150, cs + 1 + 0, ss + 6 + 0) M2
  generalize lset lv 7 (.int x) = lv at hl2 l62 l7 ⊢
  replace hl := hl2
  replace l6 := l62
  refine g_thrown hJ lL_law_383 lL_law_384 lL_law_387 lL_law_389 hl l6 (by omega) (by omega) e0 ?_
  have hend : J 411 lv [] (150, cs + 1 + 0, ss + 6 + 0) M2 := hj1 hJ lL_law_411 (hk lv _ _ M2 hl hm (by omega) (by omega))
  refine g_ild hJ lL_law_394 l6 (hj1 hJ lL_law_396 ⟨fun z => ?_, fun _ => hend⟩)
  have ex := ex z
  refine g_ald hJ lL_law_399 hl.2.2.2.1 ?_
  refine hj1 hJ lL_law_400 (hj1 hJ lL_law_401 ⟨rfl, Nat.le_of_ble_eq_true rfl, (vp_in_nI (n := 0) (N := 1) (by decide) (by decide)), ?_⟩)
  show J 402 lv [.long (M2.2.2.2.1 148 0)] (150, cs + 1 + 0, ss + 6 + 0) M2
  rw [ex]
  refine g_ild hJ lL_law_402 l7 (hj1 hJ lL_law_404 (hj1 hJ lL_law_405 (hj1 hJ lL_law_406 ⟨fun _ => hend, fun w => absurd ((lg_cmp_eq _ _).mpr rfl) w⟩)))
theorem law_6 (hJ : HJ (tL_law b L xs) J) (hl : LVL b i lv) (hi : ILn i L) (hM : JM M) (h1 : cs + 3 ≤ 601024) (h2 : ss + 18 ≤ 7293034) (hk : LC J b cs ss i) : J 414 lv [] (150, cs, ss) M := by
  refine g_ald hJ lL_law_414 hl.2.1 ?_
  refine g_arg hJ lL_law_415 lL_law_416 lL_law_418 lL_law_419 lL_law_420 hl hi.1 ?_
  refine g_arg hJ lL_law_421 lL_law_422 lL_law_424 lL_law_425 lL_law_426 hl hi.2.1 ?_
  refine g_arg hJ lL_law_427 lL_law_428 lL_law_430 lL_law_431 lL_law_432 hl hi.2.2 ?_
  refine g_ald hJ lL_law_433 hl.2.2.2.1 ?_
  refine g_call hJ lL_law_434 rfl rfl hl (by omega) (by omega) (s_setElement hM) (fun o n M1 hp => ?_)
  obtain ⟨rfl, k, rfl, hp⟩ := hp
  refine ⟨rfl, _, rfl, ?_⟩
  refine hj1 hJ lL_law_437 ?_
  have hl1 : LVL b i (lset lv 6 (.int k)) := hl.set (by decide) trivial
  have l6 : lset lv 6 (.int k) 6 = some (.int k) := lset_at
  show J 439 (lset lv 6 (.int k)) [] (150, cs + 2, ss + 12) M1
  generalize lset lv 6 (.int k) = lv at hl1 l6 ⊢
  replace hl := hl1
  refine g_ald hJ lL_law_439 hl.2.2.1 ?_
  refine g_arg hJ lL_law_440 lL_law_441 lL_law_443 lL_law_444 lL_law_445 hl hi.1 ?_
  refine g_arg hJ lL_law_446 lL_law_447 lL_law_449 lL_law_450 lL_law_451 hl hi.2.1 ?_
  refine g_arg hJ lL_law_452 lL_law_453 lL_law_455 lL_law_456 lL_law_457 hl hi.2.2 ?_
  refine g_callV (st := [.int _, .int _, .int _, .ref 125]) (rs := []) (av := [.int _, .int _, .int _]) hJ lL_law_458 rfl rfl rfl (by decide) hl (Nat.zero_le _) (fun v hv => absurd hv List.not_mem_nil) (by omega) (by omega) hp (fun o n M2 hq => ?_)
  obtain ⟨rfl, x, rfl, e0, ex, hm⟩ := hq
  refine ⟨rfl, _, rfl, ?_⟩
  refine hj1 hJ lL_law_461 ?_
  have hl2 : LVL b i (lset lv 7 (.int x)) := hl.set (by decide) trivial
  have l62 : lset lv 7 (.int x) 6 = some (.int k) := lset_ne l6 (by decide) rfl
  have l7 : lset lv 7 (.int x) 7 = some (.int x) := lset_at
  show J 463 (lset lv 7 (.int x)) [] (150, cs + 2 + 0, ss + 12 + 0) M2
  generalize lset lv 7 (.int x) = lv at hl2 l62 l7 ⊢
  replace hl := hl2
  replace l6 := l62
  refine g_thrown hJ lL_law_463 lL_law_464 lL_law_467 lL_law_469 hl l6 (by omega) (by omega) e0 ?_
  have hend : J 491 lv [] (150, cs + 2 + 0, ss + 12 + 0) M2 := hj1 hJ lL_law_491 (hk lv _ _ M2 hl hm (by omega) (by omega))
  refine g_ild hJ lL_law_474 l6 (hj1 hJ lL_law_476 ⟨fun z => ?_, fun _ => hend⟩)
  have ex := ex z
  refine g_ald hJ lL_law_479 hl.2.2.2.1 ?_
  refine hj1 hJ lL_law_480 (hj1 hJ lL_law_481 ⟨rfl, Nat.le_of_ble_eq_true rfl, (vp_in_nI (n := 0) (N := 1) (by decide) (by decide)), ?_⟩)
  show J 482 lv [.long (M2.2.2.2.1 148 0)] (150, cs + 2 + 0, ss + 12 + 0) M2
  rw [ex]
  refine g_ild hJ lL_law_482 l7 (hj1 hJ lL_law_484 (hj1 hJ lL_law_485 (hj1 hJ lL_law_486 ⟨fun _ => hend, fun w => absurd ((lg_cmp_eq _ _).mpr rfl) w⟩)))
theorem law_7 (hJ : HJ (tL_law b L xs) J) (hl : LVL b i lv) (hi : ILn i L) (hM : JM M) (h1 : cs + 3 ≤ 601024) (h2 : ss + 18 ≤ 7293034) (hk : LC J b cs ss i) : J 494 lv [] (150, cs, ss) M := by
  refine g_ald hJ lL_law_494 hl.2.1 ?_
  refine g_arg hJ lL_law_495 lL_law_496 lL_law_498 lL_law_499 lL_law_500 hl hi.1 ?_
  refine g_arg hJ lL_law_501 lL_law_502 lL_law_504 lL_law_505 lL_law_506 hl hi.2.1 ?_
  refine g_ald hJ lL_law_507 hl.2.2.2.1 ?_
  refine g_call hJ lL_law_508 rfl rfl hl (by omega) (by omega) (s_fill hM) (fun o n M1 hp => ?_)
  obtain ⟨rfl, k, rfl, hp⟩ := hp
  refine ⟨rfl, _, rfl, ?_⟩
  refine hj1 hJ lL_law_511 ?_
  have hl1 : LVL b i (lset lv 6 (.int k)) := hl.set (by decide) trivial
  have l6 : lset lv 6 (.int k) 6 = some (.int k) := lset_at
  show J 513 (lset lv 6 (.int k)) [] (150, cs + 1, ss + 6) M1
  generalize lset lv 6 (.int k) = lv at hl1 l6 ⊢
  replace hl := hl1
  refine g_ald hJ lL_law_513 hl.2.2.1 ?_
  refine g_arg hJ lL_law_514 lL_law_515 lL_law_517 lL_law_518 lL_law_519 hl hi.1 ?_
  refine g_arg hJ lL_law_520 lL_law_521 lL_law_523 lL_law_524 lL_law_525 hl hi.2.1 ?_
  refine g_callV (st := [.int _, .int _, .ref 125]) (rs := []) (av := [.int _, .int _]) hJ lL_law_526 rfl rfl rfl (by decide) hl (Nat.zero_le _) (fun v hv => absurd hv List.not_mem_nil) (by omega) (by omega) hp (fun o n M2 hq => ?_)
  obtain ⟨rfl, x, rfl, e0, ex, hm⟩ := hq
  refine ⟨rfl, _, rfl, ?_⟩
  refine hj1 hJ lL_law_529 ?_
  have hl2 : LVL b i (lset lv 7 (.int x)) := hl.set (by decide) trivial
  have l62 : lset lv 7 (.int x) 6 = some (.int k) := lset_ne l6 (by decide) rfl
  have l7 : lset lv 7 (.int x) 7 = some (.int x) := lset_at
  show J 531 (lset lv 7 (.int x)) [] (150, cs + 1 + 0, ss + 6 + 0) M2
  generalize lset lv 7 (.int x) = lv at hl2 l62 l7 ⊢
  replace hl := hl2
  replace l6 := l62
  refine g_thrown hJ lL_law_531 lL_law_532 lL_law_535 lL_law_537 hl l6 (by omega) (by omega) e0 ?_
  have hend : J 559 lv [] (150, cs + 1 + 0, ss + 6 + 0) M2 := hj1 hJ lL_law_559 (hk lv _ _ M2 hl hm (by omega) (by omega))
  refine g_ild hJ lL_law_542 l6 (hj1 hJ lL_law_544 ⟨fun z => ?_, fun _ => hend⟩)
  have ex := ex z
  refine g_ald hJ lL_law_547 hl.2.2.2.1 ?_
  refine hj1 hJ lL_law_548 (hj1 hJ lL_law_549 ⟨rfl, Nat.le_of_ble_eq_true rfl, (vp_in_nI (n := 0) (N := 1) (by decide) (by decide)), ?_⟩)
  show J 550 lv [.long (M2.2.2.2.1 148 0)] (150, cs + 1 + 0, ss + 6 + 0) M2
  rw [ex]
  refine g_ild hJ lL_law_550 l7 (hj1 hJ lL_law_552 (hj1 hJ lL_law_553 (hj1 hJ lL_law_554 ⟨fun _ => hend, fun w => absurd ((lg_cmp_eq _ _).mpr rfl) w⟩)))
theorem law_8 (hJ : HJ (tL_law b L xs) J) (hl : LVL b i lv) (hi : ILn i L) (hM : JM M) (h1 : cs + 3 ≤ 601024) (h2 : ss + 18 ≤ 7293034) (hk : LC J b cs ss i) : J 562 lv [] (150, cs, ss) M := by
  refine g_ald hJ lL_law_562 hl.2.1 ?_
  refine g_arg hJ lL_law_563 lL_law_564 lL_law_566 lL_law_567 lL_law_568 hl hi.1 ?_
  refine g_arg hJ lL_law_569 lL_law_570 lL_law_572 lL_law_573 lL_law_574 hl hi.2.1 ?_
  refine g_ald hJ lL_law_575 hl.2.2.2.1 ?_
  refine g_call hJ lL_law_576 rfl rfl hl (by omega) (by omega) (s_element hM) (fun o n M1 hp => ?_)
  obtain ⟨rfl, k, rfl, hp⟩ := hp
  refine ⟨rfl, _, rfl, ?_⟩
  refine hj1 hJ lL_law_579 ?_
  have hl1 : LVL b i (lset lv 6 (.int k)) := hl.set (by decide) trivial
  have l6 : lset lv 6 (.int k) 6 = some (.int k) := lset_at
  show J 581 (lset lv 6 (.int k)) [] (150, cs + 1, ss + 6) M1
  generalize lset lv 6 (.int k) = lv at hl1 l6 ⊢
  replace hl := hl1
  refine g_ald hJ lL_law_581 hl.2.2.1 ?_
  refine g_arg hJ lL_law_582 lL_law_583 lL_law_585 lL_law_586 lL_law_587 hl hi.1 ?_
  refine g_arg hJ lL_law_588 lL_law_589 lL_law_591 lL_law_592 lL_law_593 hl hi.2.1 ?_
  refine g_callV (st := [.int _, .int _, .ref 125]) (rs := []) (av := [.int _, .int _]) hJ lL_law_594 rfl rfl rfl (by decide) hl (Nat.zero_le _) (fun v hv => absurd hv List.not_mem_nil) (by omega) (by omega) hp (fun o n M2 hq => ?_)
  obtain ⟨rfl, x, rfl, e0, ex, hm⟩ := hq
  refine ⟨rfl, _, rfl, ?_⟩
  refine hj1 hJ lL_law_597 ?_
  have hl2 : LVL b i (lset lv 7 (.int x)) := hl.set (by decide) trivial
  have l62 : lset lv 7 (.int x) 6 = some (.int k) := lset_ne l6 (by decide) rfl
  have l7 : lset lv 7 (.int x) 7 = some (.int x) := lset_at
  show J 599 (lset lv 7 (.int x)) [] (150, cs + 1 + 0, ss + 6 + 0) M2
  generalize lset lv 7 (.int x) = lv at hl2 l62 l7 ⊢
  replace hl := hl2
  replace l6 := l62
  refine g_thrown hJ lL_law_599 lL_law_600 lL_law_603 lL_law_605 hl l6 (by omega) (by omega) e0 ?_
  have hend : J 627 lv [] (150, cs + 1 + 0, ss + 6 + 0) M2 := hj1 hJ lL_law_627 (hk lv _ _ M2 hl hm (by omega) (by omega))
  refine g_ild hJ lL_law_610 l6 (hj1 hJ lL_law_612 ⟨fun z => ?_, fun _ => hend⟩)
  have ex := ex z
  refine g_ald hJ lL_law_615 hl.2.2.2.1 ?_
  refine hj1 hJ lL_law_616 (hj1 hJ lL_law_617 ⟨rfl, Nat.le_of_ble_eq_true rfl, (vp_in_nI (n := 0) (N := 1) (by decide) (by decide)), ?_⟩)
  show J 618 lv [.long (M2.2.2.2.1 148 0)] (150, cs + 1 + 0, ss + 6 + 0) M2
  rw [ex]
  refine g_ild hJ lL_law_618 l7 (hj1 hJ lL_law_620 (hj1 hJ lL_law_621 (hj1 hJ lL_law_622 ⟨fun _ => hend, fun w => absurd ((lg_cmp_eq _ _).mpr rfl) w⟩)))
theorem law_9 (hJ : HJ (tL_law b L xs) J) (hl : LVL b i lv) (hi : ILn i L) (hM : JM M) (h1 : cs + 3 ≤ 601024) (h2 : ss + 18 ≤ 7293034) (hk : LC J b cs ss i) : J 630 lv [] (150, cs, ss) M := by
  refine g_ald hJ lL_law_630 hl.2.1 ?_
  refine g_arg hJ lL_law_631 lL_law_632 lL_law_634 lL_law_635 lL_law_636 hl hi.1 ?_
  refine g_arg hJ lL_law_637 lL_law_638 lL_law_640 lL_law_641 lL_law_642 hl hi.2.1 ?_
  refine g_ald hJ lL_law_643 hl.2.2.2.1 ?_
  refine g_call hJ lL_law_644 rfl rfl hl (by omega) (by omega) (s_setInitial hM) (fun o n M1 hp => ?_)
  obtain ⟨rfl, k, rfl, hp⟩ := hp
  refine ⟨rfl, _, rfl, ?_⟩
  refine hj1 hJ lL_law_647 ?_
  have hl1 : LVL b i (lset lv 6 (.int k)) := hl.set (by decide) trivial
  have l6 : lset lv 6 (.int k) 6 = some (.int k) := lset_at
  show J 649 (lset lv 6 (.int k)) [] (150, cs + 2, ss + 12) M1
  generalize lset lv 6 (.int k) = lv at hl1 l6 ⊢
  replace hl := hl1
  refine g_ald hJ lL_law_649 hl.2.2.1 ?_
  refine g_arg hJ lL_law_650 lL_law_651 lL_law_653 lL_law_654 lL_law_655 hl hi.1 ?_
  refine g_arg hJ lL_law_656 lL_law_657 lL_law_659 lL_law_660 lL_law_661 hl hi.2.1 ?_
  refine g_callV (st := [.int _, .int _, .ref 125]) (rs := []) (av := [.int _, .int _]) hJ lL_law_662 rfl rfl rfl (by decide) hl (Nat.zero_le _) (fun v hv => absurd hv List.not_mem_nil) (by omega) (by omega) hp (fun o n M2 hq => ?_)
  obtain ⟨rfl, x, rfl, e0, ex, hm⟩ := hq
  refine ⟨rfl, _, rfl, ?_⟩
  refine hj1 hJ lL_law_665 ?_
  have hl2 : LVL b i (lset lv 7 (.int x)) := hl.set (by decide) trivial
  have l62 : lset lv 7 (.int x) 6 = some (.int k) := lset_ne l6 (by decide) rfl
  have l7 : lset lv 7 (.int x) 7 = some (.int x) := lset_at
  show J 667 (lset lv 7 (.int x)) [] (150, cs + 2 + 0, ss + 12 + 0) M2
  generalize lset lv 7 (.int x) = lv at hl2 l62 l7 ⊢
  replace hl := hl2
  replace l6 := l62
  refine g_thrown hJ lL_law_667 lL_law_668 lL_law_671 lL_law_673 hl l6 (by omega) (by omega) e0 ?_
  have hend : J 695 lv [] (150, cs + 2 + 0, ss + 12 + 0) M2 := hj1 hJ lL_law_695 (hk lv _ _ M2 hl hm (by omega) (by omega))
  refine g_ild hJ lL_law_678 l6 (hj1 hJ lL_law_680 ⟨fun z => ?_, fun _ => hend⟩)
  have ex := ex z
  refine g_ald hJ lL_law_683 hl.2.2.2.1 ?_
  refine hj1 hJ lL_law_684 (hj1 hJ lL_law_685 ⟨rfl, Nat.le_of_ble_eq_true rfl, (vp_in_nI (n := 0) (N := 1) (by decide) (by decide)), ?_⟩)
  show J 686 lv [.long (M2.2.2.2.1 148 0)] (150, cs + 2 + 0, ss + 12 + 0) M2
  rw [ex]
  refine g_ild hJ lL_law_686 l7 (hj1 hJ lL_law_688 (hj1 hJ lL_law_689 (hj1 hJ lL_law_690 ⟨fun _ => hend, fun w => absurd ((lg_cmp_eq _ _).mpr rfl) w⟩)))
theorem law_10 (hJ : HJ (tL_law b L xs) J) (hl : LVL b i lv) (hi : ILn i L) (hM : JM M) (h1 : cs + 3 ≤ 601024) (h2 : ss + 18 ≤ 7293034) (hk : LC J b cs ss i) : J 698 lv [] (150, cs, ss) M := by
  refine g_ald hJ lL_law_698 hl.2.1 ?_
  refine g_arg hJ lL_law_699 lL_law_700 lL_law_702 lL_law_703 lL_law_704 hl hi.1 ?_
  refine g_ald hJ lL_law_705 hl.2.2.2.1 ?_
  refine g_call hJ lL_law_706 rfl rfl hl (by omega) (by omega) (s_kind hM) (fun o n M1 hp => ?_)
  obtain ⟨rfl, k, rfl, hp⟩ := hp
  refine ⟨rfl, _, rfl, ?_⟩
  refine hj1 hJ lL_law_709 ?_
  have hl1 : LVL b i (lset lv 6 (.int k)) := hl.set (by decide) trivial
  have l6 : lset lv 6 (.int k) 6 = some (.int k) := lset_at
  show J 711 (lset lv 6 (.int k)) [] (150, cs + 1, ss + 6) M1
  generalize lset lv 6 (.int k) = lv at hl1 l6 ⊢
  replace hl := hl1
  refine g_ald hJ lL_law_711 hl.2.2.1 ?_
  refine g_arg hJ lL_law_712 lL_law_713 lL_law_715 lL_law_716 lL_law_717 hl hi.1 ?_
  refine g_callV (st := [.int _, .ref 125]) (rs := []) (av := [.int _]) hJ lL_law_718 rfl rfl rfl (by decide) hl (Nat.zero_le _) (fun v hv => absurd hv List.not_mem_nil) (by omega) (by omega) hp (fun o n M2 hq => ?_)
  obtain ⟨rfl, x, rfl, e0, ex, hm⟩ := hq
  refine ⟨rfl, _, rfl, ?_⟩
  refine hj1 hJ lL_law_721 ?_
  have hl2 : LVL b i (lset lv 7 (.int x)) := hl.set (by decide) trivial
  have l62 : lset lv 7 (.int x) 6 = some (.int k) := lset_ne l6 (by decide) rfl
  have l7 : lset lv 7 (.int x) 7 = some (.int x) := lset_at
  show J 723 (lset lv 7 (.int x)) [] (150, cs + 1 + 0, ss + 6 + 0) M2
  generalize lset lv 7 (.int x) = lv at hl2 l62 l7 ⊢
  replace hl := hl2
  replace l6 := l62
  refine g_thrown hJ lL_law_723 lL_law_724 lL_law_727 lL_law_729 hl l6 (by omega) (by omega) e0 ?_
  have hend : J 751 lv [] (150, cs + 1 + 0, ss + 6 + 0) M2 := hj1 hJ lL_law_751 (hk lv _ _ M2 hl hm (by omega) (by omega))
  refine g_ild hJ lL_law_734 l6 (hj1 hJ lL_law_736 ⟨fun z => ?_, fun _ => hend⟩)
  have ex := ex z
  refine g_ald hJ lL_law_739 hl.2.2.2.1 ?_
  refine hj1 hJ lL_law_740 (hj1 hJ lL_law_741 ⟨rfl, Nat.le_of_ble_eq_true rfl, (vp_in_nI (n := 0) (N := 1) (by decide) (by decide)), ?_⟩)
  show J 742 lv [.long (M2.2.2.2.1 148 0)] (150, cs + 1 + 0, ss + 6 + 0) M2
  rw [ex]
  refine g_ild hJ lL_law_742 l7 (hj1 hJ lL_law_744 (hj1 hJ lL_law_745 (hj1 hJ lL_law_746 ⟨fun _ => hend, fun w => absurd ((lg_cmp_eq _ _).mpr rfl) w⟩)))
theorem law_11 (hJ : HJ (tL_law b L xs) J) (hl : LVL b i lv) (hi : ILn i L) (hM : JM M) (h1 : cs + 3 ≤ 601024) (h2 : ss + 18 ≤ 7293034) (hk : LC J b cs ss i) : J 754 lv [] (150, cs, ss) M := by
  refine g_ald hJ lL_law_754 hl.2.1 ?_
  refine g_arg hJ lL_law_755 lL_law_756 lL_law_758 lL_law_759 lL_law_760 hl hi.1 ?_
  refine g_ald hJ lL_law_761 hl.2.2.2.1 ?_
  refine g_call hJ lL_law_762 rfl rfl hl (by omega) (by omega) (s_operator hM) (fun o n M1 hp => ?_)
  obtain ⟨rfl, k, rfl, hp⟩ := hp
  refine ⟨rfl, _, rfl, ?_⟩
  refine hj1 hJ lL_law_765 ?_
  have hl1 : LVL b i (lset lv 6 (.int k)) := hl.set (by decide) trivial
  have l6 : lset lv 6 (.int k) 6 = some (.int k) := lset_at
  show J 767 (lset lv 6 (.int k)) [] (150, cs + 2, ss + 12) M1
  generalize lset lv 6 (.int k) = lv at hl1 l6 ⊢
  replace hl := hl1
  refine g_ald hJ lL_law_767 hl.2.2.1 ?_
  refine g_arg hJ lL_law_768 lL_law_769 lL_law_771 lL_law_772 lL_law_773 hl hi.1 ?_
  refine g_callV (st := [.int _, .ref 125]) (rs := []) (av := [.int _]) hJ lL_law_774 rfl rfl rfl (by decide) hl (Nat.zero_le _) (fun v hv => absurd hv List.not_mem_nil) (by omega) (by omega) hp (fun o n M2 hq => ?_)
  obtain ⟨rfl, x, rfl, e0, ex, hm⟩ := hq
  refine ⟨rfl, _, rfl, ?_⟩
  refine hj1 hJ lL_law_777 ?_
  have hl2 : LVL b i (lset lv 7 (.int x)) := hl.set (by decide) trivial
  have l62 : lset lv 7 (.int x) 6 = some (.int k) := lset_ne l6 (by decide) rfl
  have l7 : lset lv 7 (.int x) 7 = some (.int x) := lset_at
  show J 779 (lset lv 7 (.int x)) [] (150, cs + 2 + 0, ss + 12 + 0) M2
  generalize lset lv 7 (.int x) = lv at hl2 l62 l7 ⊢
  replace hl := hl2
  replace l6 := l62
  refine g_thrown hJ lL_law_779 lL_law_780 lL_law_783 lL_law_785 hl l6 (by omega) (by omega) e0 ?_
  have hend : J 807 lv [] (150, cs + 2 + 0, ss + 12 + 0) M2 := hj1 hJ lL_law_807 (hk lv _ _ M2 hl hm (by omega) (by omega))
  refine g_ild hJ lL_law_790 l6 (hj1 hJ lL_law_792 ⟨fun z => ?_, fun _ => hend⟩)
  have ex := ex z
  refine g_ald hJ lL_law_795 hl.2.2.2.1 ?_
  refine hj1 hJ lL_law_796 (hj1 hJ lL_law_797 ⟨rfl, Nat.le_of_ble_eq_true rfl, (vp_in_nI (n := 0) (N := 1) (by decide) (by decide)), ?_⟩)
  show J 798 lv [.long (M2.2.2.2.1 148 0)] (150, cs + 2 + 0, ss + 12 + 0) M2
  rw [ex]
  refine g_ild hJ lL_law_798 l7 (hj1 hJ lL_law_800 (hj1 hJ lL_law_801 (hj1 hJ lL_law_802 ⟨fun _ => hend, fun w => absurd ((lg_cmp_eq _ _).mpr rfl) w⟩)))
theorem law_12 (hJ : HJ (tL_law b L xs) J) (hl : LVL b i lv) (hi : ILn i L) (hM : JM M) (h1 : cs + 3 ≤ 601024) (h2 : ss + 18 ≤ 7293034) (hk : LC J b cs ss i) : J 810 lv [] (150, cs, ss) M := by
  refine g_ald hJ lL_law_810 hl.2.1 ?_
  refine g_arg hJ lL_law_811 lL_law_812 lL_law_814 lL_law_815 lL_law_816 hl hi.1 ?_
  refine g_ald hJ lL_law_817 hl.2.2.2.1 ?_
  refine g_call hJ lL_law_818 rfl rfl hl (by omega) (by omega) (s_terms hM) (fun o n M1 hp => ?_)
  obtain ⟨rfl, k, rfl, hp⟩ := hp
  refine ⟨rfl, _, rfl, ?_⟩
  refine hj1 hJ lL_law_821 ?_
  have hl1 : LVL b i (lset lv 6 (.int k)) := hl.set (by decide) trivial
  have l6 : lset lv 6 (.int k) 6 = some (.int k) := lset_at
  show J 823 (lset lv 6 (.int k)) [] (150, cs + 2, ss + 12) M1
  generalize lset lv 6 (.int k) = lv at hl1 l6 ⊢
  replace hl := hl1
  refine g_ald hJ lL_law_823 hl.2.2.1 ?_
  refine g_arg hJ lL_law_824 lL_law_825 lL_law_827 lL_law_828 lL_law_829 hl hi.1 ?_
  refine g_callV (st := [.int _, .ref 125]) (rs := []) (av := [.int _]) hJ lL_law_830 rfl rfl rfl (by decide) hl (Nat.zero_le _) (fun v hv => absurd hv List.not_mem_nil) (by omega) (by omega) hp (fun o n M2 hq => ?_)
  obtain ⟨rfl, x, rfl, e0, ex, hm⟩ := hq
  refine ⟨rfl, _, rfl, ?_⟩
  refine hj1 hJ lL_law_833 ?_
  have hl2 : LVL b i (lset lv 7 (.int x)) := hl.set (by decide) trivial
  have l62 : lset lv 7 (.int x) 6 = some (.int k) := lset_ne l6 (by decide) rfl
  have l7 : lset lv 7 (.int x) 7 = some (.int x) := lset_at
  show J 835 (lset lv 7 (.int x)) [] (150, cs + 2 + 0, ss + 12 + 0) M2
  generalize lset lv 7 (.int x) = lv at hl2 l62 l7 ⊢
  replace hl := hl2
  replace l6 := l62
  refine g_thrown hJ lL_law_835 lL_law_836 lL_law_839 lL_law_841 hl l6 (by omega) (by omega) e0 ?_
  have hend : J 863 lv [] (150, cs + 2 + 0, ss + 12 + 0) M2 := hj1 hJ lL_law_863 (hk lv _ _ M2 hl hm (by omega) (by omega))
  refine g_ild hJ lL_law_846 l6 (hj1 hJ lL_law_848 ⟨fun z => ?_, fun _ => hend⟩)
  have ex := ex z
  refine g_ald hJ lL_law_851 hl.2.2.2.1 ?_
  refine hj1 hJ lL_law_852 (hj1 hJ lL_law_853 ⟨rfl, Nat.le_of_ble_eq_true rfl, (vp_in_nI (n := 0) (N := 1) (by decide) (by decide)), ?_⟩)
  show J 854 lv [.long (M2.2.2.2.1 148 0)] (150, cs + 2 + 0, ss + 12 + 0) M2
  rw [ex]
  refine g_ild hJ lL_law_854 l7 (hj1 hJ lL_law_856 (hj1 hJ lL_law_857 (hj1 hJ lL_law_858 ⟨fun _ => hend, fun w => absurd ((lg_cmp_eq _ _).mpr rfl) w⟩)))
theorem law_13 (hJ : HJ (tL_law b L xs) J) (hl : LVL b i lv) (hi : ILn i L) (hM : JM M) (h1 : cs + 3 ≤ 601024) (h2 : ss + 18 ≤ 7293034) (hk : LC J b cs ss i) : J 866 lv [] (150, cs, ss) M := by
  refine g_ald hJ lL_law_866 hl.2.1 ?_
  refine g_arg hJ lL_law_867 lL_law_868 lL_law_870 lL_law_871 lL_law_872 hl hi.1 ?_
  refine g_ald hJ lL_law_873 hl.2.2.2.1 ?_
  refine g_call hJ lL_law_874 rfl rfl hl (by omega) (by omega) (s_depends hM) (fun o n M1 hp => ?_)
  obtain ⟨rfl, k, rfl, hp⟩ := hp
  refine ⟨rfl, _, rfl, ?_⟩
  refine hj1 hJ lL_law_877 ?_
  have hl1 : LVL b i (lset lv 6 (.int k)) := hl.set (by decide) trivial
  have l6 : lset lv 6 (.int k) 6 = some (.int k) := lset_at
  show J 879 (lset lv 6 (.int k)) [] (150, cs + 1, ss + 6) M1
  generalize lset lv 6 (.int k) = lv at hl1 l6 ⊢
  replace hl := hl1
  refine g_ald hJ lL_law_879 hl.2.2.1 ?_
  refine g_arg hJ lL_law_880 lL_law_881 lL_law_883 lL_law_884 lL_law_885 hl hi.1 ?_
  refine g_callV (st := [.int _, .ref 125]) (rs := []) (av := [.int _]) hJ lL_law_886 rfl rfl rfl (by decide) hl (Nat.zero_le _) (fun v hv => absurd hv List.not_mem_nil) (by omega) (by omega) hp (fun o n M2 hq => ?_)
  obtain ⟨rfl, x, rfl, e0, ex, hm⟩ := hq
  refine ⟨rfl, _, rfl, ?_⟩
  refine hj1 hJ lL_law_889 ?_
  have hl2 : LVL b i (lset lv 7 (.int x)) := hl.set (by decide) trivial
  have l62 : lset lv 7 (.int x) 6 = some (.int k) := lset_ne l6 (by decide) rfl
  have l7 : lset lv 7 (.int x) 7 = some (.int x) := lset_at
  show J 891 (lset lv 7 (.int x)) [] (150, cs + 1 + 0, ss + 6 + 0) M2
  generalize lset lv 7 (.int x) = lv at hl2 l62 l7 ⊢
  replace hl := hl2
  replace l6 := l62
  refine g_thrown hJ lL_law_891 lL_law_892 lL_law_895 lL_law_897 hl l6 (by omega) (by omega) e0 ?_
  have hend : J 919 lv [] (150, cs + 1 + 0, ss + 6 + 0) M2 := hj1 hJ lL_law_919 (hk lv _ _ M2 hl hm (by omega) (by omega))
  refine g_ild hJ lL_law_902 l6 (hj1 hJ lL_law_904 ⟨fun z => ?_, fun _ => hend⟩)
  have ex := ex z
  refine g_ald hJ lL_law_907 hl.2.2.2.1 ?_
  refine hj1 hJ lL_law_908 (hj1 hJ lL_law_909 ⟨rfl, Nat.le_of_ble_eq_true rfl, (vp_in_nI (n := 0) (N := 1) (by decide) (by decide)), ?_⟩)
  show J 910 lv [.long (M2.2.2.2.1 148 0)] (150, cs + 1 + 0, ss + 6 + 0) M2
  rw [ex]
  refine g_ild hJ lL_law_910 l7 (hj1 hJ lL_law_912 (hj1 hJ lL_law_913 (hj1 hJ lL_law_914 ⟨fun _ => hend, fun w => absurd ((lg_cmp_eq _ _).mpr rfl) w⟩)))
theorem law_14 (hJ : HJ (tL_law b L xs) J) (hl : LVL b i lv) (hi : ILn i L) (hM : JM M) (h1 : cs + 3 ≤ 601024) (h2 : ss + 18 ≤ 7293034) (hk : LC J b cs ss i) : J 922 lv [] (150, cs, ss) M := by
  refine g_ald hJ lL_law_922 hl.2.1 ?_
  refine g_arg hJ lL_law_923 lL_law_924 lL_law_926 lL_law_927 lL_law_928 hl hi.1 ?_
  refine g_ald hJ lL_law_929 hl.2.2.2.1 ?_
  refine g_call hJ lL_law_930 rfl rfl hl (by omega) (by omega) (s_nodes hM) (fun o n M1 hp => ?_)
  obtain ⟨rfl, k, rfl, hp⟩ := hp
  refine ⟨rfl, _, rfl, ?_⟩
  refine hj1 hJ lL_law_933 ?_
  have hl1 : LVL b i (lset lv 6 (.int k)) := hl.set (by decide) trivial
  have l6 : lset lv 6 (.int k) 6 = some (.int k) := lset_at
  show J 935 (lset lv 6 (.int k)) [] (150, cs + 1, ss + 6) M1
  generalize lset lv 6 (.int k) = lv at hl1 l6 ⊢
  replace hl := hl1
  refine g_ald hJ lL_law_935 hl.2.2.1 ?_
  refine g_arg hJ lL_law_936 lL_law_937 lL_law_939 lL_law_940 lL_law_941 hl hi.1 ?_
  refine g_callV (st := [.int _, .ref 125]) (rs := []) (av := [.int _]) hJ lL_law_942 rfl rfl rfl (by decide) hl (Nat.zero_le _) (fun v hv => absurd hv List.not_mem_nil) (by omega) (by omega) hp (fun o n M2 hq => ?_)
  obtain ⟨rfl, x, rfl, e0, ex, hm⟩ := hq
  refine ⟨rfl, _, rfl, ?_⟩
  refine hj1 hJ lL_law_945 ?_
  have hl2 : LVL b i (lset lv 7 (.int x)) := hl.set (by decide) trivial
  have l62 : lset lv 7 (.int x) 6 = some (.int k) := lset_ne l6 (by decide) rfl
  have l7 : lset lv 7 (.int x) 7 = some (.int x) := lset_at
  show J 947 (lset lv 7 (.int x)) [] (150, cs + 1 + 0, ss + 6 + 0) M2
  generalize lset lv 7 (.int x) = lv at hl2 l62 l7 ⊢
  replace hl := hl2
  replace l6 := l62
  refine g_thrown hJ lL_law_947 lL_law_948 lL_law_951 lL_law_953 hl l6 (by omega) (by omega) e0 ?_
  have hend : J 975 lv [] (150, cs + 1 + 0, ss + 6 + 0) M2 := hj1 hJ lL_law_975 (hk lv _ _ M2 hl hm (by omega) (by omega))
  refine g_ild hJ lL_law_958 l6 (hj1 hJ lL_law_960 ⟨fun z => ?_, fun _ => hend⟩)
  have ex := ex z
  refine g_ald hJ lL_law_963 hl.2.2.2.1 ?_
  refine hj1 hJ lL_law_964 (hj1 hJ lL_law_965 ⟨rfl, Nat.le_of_ble_eq_true rfl, (vp_in_nI (n := 0) (N := 1) (by decide) (by decide)), ?_⟩)
  show J 966 lv [.long (M2.2.2.2.1 148 0)] (150, cs + 1 + 0, ss + 6 + 0) M2
  rw [ex]
  refine g_ild hJ lL_law_966 l7 (hj1 hJ lL_law_968 (hj1 hJ lL_law_969 (hj1 hJ lL_law_970 ⟨fun _ => hend, fun w => absurd ((lg_cmp_eq _ _).mpr rfl) w⟩)))
theorem law_15 (hJ : HJ (tL_law b L xs) J) (hl : LVL b i lv) (hi : ILn i L) (hM : JM M) (h1 : cs + 3 ≤ 601024) (h2 : ss + 18 ≤ 7293034) (hk : LC J b cs ss i) : J 978 lv [] (150, cs, ss) M := by
  refine g_ald hJ lL_law_978 hl.2.1 ?_
  refine g_arg hJ lL_law_979 lL_law_980 lL_law_982 lL_law_983 lL_law_984 hl hi.1 ?_
  refine g_ald hJ lL_law_985 hl.2.2.2.1 ?_
  refine g_call hJ lL_law_986 rfl rfl hl (by omega) (by omega) (s_height hM) (fun o n M1 hp => ?_)
  obtain ⟨rfl, k, rfl, hp⟩ := hp
  refine ⟨rfl, _, rfl, ?_⟩
  refine hj1 hJ lL_law_989 ?_
  have hl1 : LVL b i (lset lv 6 (.int k)) := hl.set (by decide) trivial
  have l6 : lset lv 6 (.int k) 6 = some (.int k) := lset_at
  show J 991 (lset lv 6 (.int k)) [] (150, cs + 1, ss + 6) M1
  generalize lset lv 6 (.int k) = lv at hl1 l6 ⊢
  replace hl := hl1
  refine g_ald hJ lL_law_991 hl.2.2.1 ?_
  refine g_arg hJ lL_law_992 lL_law_993 lL_law_995 lL_law_996 lL_law_997 hl hi.1 ?_
  refine g_callV (st := [.int _, .ref 125]) (rs := []) (av := [.int _]) hJ lL_law_998 rfl rfl rfl (by decide) hl (Nat.zero_le _) (fun v hv => absurd hv List.not_mem_nil) (by omega) (by omega) hp (fun o n M2 hq => ?_)
  obtain ⟨rfl, x, rfl, e0, ex, hm⟩ := hq
  refine ⟨rfl, _, rfl, ?_⟩
  refine hj1 hJ lL_law_1001 ?_
  have hl2 : LVL b i (lset lv 7 (.int x)) := hl.set (by decide) trivial
  have l62 : lset lv 7 (.int x) 6 = some (.int k) := lset_ne l6 (by decide) rfl
  have l7 : lset lv 7 (.int x) 7 = some (.int x) := lset_at
  show J 1003 (lset lv 7 (.int x)) [] (150, cs + 1 + 0, ss + 6 + 0) M2
  generalize lset lv 7 (.int x) = lv at hl2 l62 l7 ⊢
  replace hl := hl2
  replace l6 := l62
  refine g_thrown hJ lL_law_1003 lL_law_1004 lL_law_1007 lL_law_1009 hl l6 (by omega) (by omega) e0 ?_
  have hend : J 1031 lv [] (150, cs + 1 + 0, ss + 6 + 0) M2 := hj1 hJ lL_law_1031 (hk lv _ _ M2 hl hm (by omega) (by omega))
  refine g_ild hJ lL_law_1014 l6 (hj1 hJ lL_law_1016 ⟨fun z => ?_, fun _ => hend⟩)
  have ex := ex z
  refine g_ald hJ lL_law_1019 hl.2.2.2.1 ?_
  refine hj1 hJ lL_law_1020 (hj1 hJ lL_law_1021 ⟨rfl, Nat.le_of_ble_eq_true rfl, (vp_in_nI (n := 0) (N := 1) (by decide) (by decide)), ?_⟩)
  show J 1022 lv [.long (M2.2.2.2.1 148 0)] (150, cs + 1 + 0, ss + 6 + 0) M2
  rw [ex]
  refine g_ild hJ lL_law_1022 l7 (hj1 hJ lL_law_1024 (hj1 hJ lL_law_1025 (hj1 hJ lL_law_1026 ⟨fun _ => hend, fun w => absurd ((lg_cmp_eq _ _).mpr rfl) w⟩)))
theorem law_16 (hJ : HJ (tL_law b L xs) J) (hl : LVL b i lv) (hi : ILn i L) (hM : JM M) (h1 : cs + 3 ≤ 601024) (h2 : ss + 18 ≤ 7293034) (hk : LC J b cs ss i) : J 1034 lv [] (150, cs, ss) M := by
  refine g_ald hJ lL_law_1034 hl.2.1 ?_
  refine g_arg hJ lL_law_1035 lL_law_1036 lL_law_1038 lL_law_1039 lL_law_1040 hl hi.1 ?_
  refine g_ald hJ lL_law_1041 hl.2.2.2.1 ?_
  refine g_call hJ lL_law_1042 rfl rfl hl (by omega) (by omega) (s_open hM) (fun o n M1 hp => ?_)
  obtain ⟨rfl, k, rfl, hp⟩ := hp
  refine ⟨rfl, _, rfl, ?_⟩
  refine hj1 hJ lL_law_1045 ?_
  have hl1 : LVL b i (lset lv 6 (.int k)) := hl.set (by decide) trivial
  have l6 : lset lv 6 (.int k) 6 = some (.int k) := lset_at
  show J 1047 (lset lv 6 (.int k)) [] (150, cs + 1, ss + 6) M1
  generalize lset lv 6 (.int k) = lv at hl1 l6 ⊢
  replace hl := hl1
  refine g_ald hJ lL_law_1047 hl.2.2.1 ?_
  refine g_arg hJ lL_law_1048 lL_law_1049 lL_law_1051 lL_law_1052 lL_law_1053 hl hi.1 ?_
  refine g_callV (st := [.int _, .ref 125]) (rs := []) (av := [.int _]) hJ lL_law_1054 rfl rfl rfl (by decide) hl (Nat.zero_le _) (fun v hv => absurd hv List.not_mem_nil) (by omega) (by omega) hp (fun o n M2 hq => ?_)
  obtain ⟨rfl, x, rfl, e0, ex, hm⟩ := hq
  refine ⟨rfl, _, rfl, ?_⟩
  refine hj1 hJ lL_law_1057 ?_
  have hl2 : LVL b i (lset lv 7 (.int x)) := hl.set (by decide) trivial
  have l62 : lset lv 7 (.int x) 6 = some (.int k) := lset_ne l6 (by decide) rfl
  have l7 : lset lv 7 (.int x) 7 = some (.int x) := lset_at
  show J 1059 (lset lv 7 (.int x)) [] (150, cs + 1 + 0, ss + 6 + 0) M2
  generalize lset lv 7 (.int x) = lv at hl2 l62 l7 ⊢
  replace hl := hl2
  replace l6 := l62
  refine g_thrown hJ lL_law_1059 lL_law_1060 lL_law_1063 lL_law_1065 hl l6 (by omega) (by omega) e0 ?_
  have hend : J 1087 lv [] (150, cs + 1 + 0, ss + 6 + 0) M2 := hj1 hJ lL_law_1087 (hk lv _ _ M2 hl hm (by omega) (by omega))
  refine g_ild hJ lL_law_1070 l6 (hj1 hJ lL_law_1072 ⟨fun z => ?_, fun _ => hend⟩)
  have ex := ex z
  refine g_ald hJ lL_law_1075 hl.2.2.2.1 ?_
  refine hj1 hJ lL_law_1076 (hj1 hJ lL_law_1077 ⟨rfl, Nat.le_of_ble_eq_true rfl, (vp_in_nI (n := 0) (N := 1) (by decide) (by decide)), ?_⟩)
  show J 1078 lv [.long (M2.2.2.2.1 148 0)] (150, cs + 1 + 0, ss + 6 + 0) M2
  rw [ex]
  refine g_ild hJ lL_law_1078 l7 (hj1 hJ lL_law_1080 (hj1 hJ lL_law_1081 (hj1 hJ lL_law_1082 ⟨fun _ => hend, fun w => absurd ((lg_cmp_eq _ _).mpr rfl) w⟩)))
theorem law_17 (hJ : HJ (tL_law b L xs) J) (hl : LVL b i lv) (hi : ILn i L) (hM : JM M) (h1 : cs + 3 ≤ 601024) (h2 : ss + 18 ≤ 7293034) (hk : LC J b cs ss i) : J 1090 lv [] (150, cs, ss) M := by
  refine g_ald hJ lL_law_1090 hl.2.1 ?_
  refine g_ald hJ lL_law_1091 hl.2.2.2.1 ?_
  refine g_call hJ lL_law_1092 rfl rfl hl (by omega) (by omega) (s_hasNext hM) (fun o n M1 hp => ?_)
  obtain ⟨rfl, k, rfl, hp⟩ := hp
  refine ⟨rfl, _, rfl, ?_⟩
  refine hj1 hJ lL_law_1095 ?_
  have hl1 : LVL b i (lset lv 6 (.int k)) := hl.set (by decide) trivial
  have l6 : lset lv 6 (.int k) 6 = some (.int k) := lset_at
  show J 1097 (lset lv 6 (.int k)) [] (150, cs + 1, ss + 6) M1
  generalize lset lv 6 (.int k) = lv at hl1 l6 ⊢
  replace hl := hl1
  refine g_ald hJ lL_law_1097 hl.2.2.1 ?_
  refine g_callV (st := [.ref 125]) (rs := []) (av := []) hJ lL_law_1098 rfl rfl rfl (by decide) hl (Nat.zero_le _) (fun v hv => absurd hv List.not_mem_nil) (by omega) (by omega) hp (fun o n M2 hq => ?_)
  obtain ⟨rfl, x, rfl, e0, ex, hm⟩ := hq
  refine ⟨rfl, _, rfl, ?_⟩
  refine hj1 hJ lL_law_1101 ?_
  have hl2 : LVL b i (lset lv 7 (.int x)) := hl.set (by decide) trivial
  have l62 : lset lv 7 (.int x) 6 = some (.int k) := lset_ne l6 (by decide) rfl
  have l7 : lset lv 7 (.int x) 7 = some (.int x) := lset_at
  show J 1103 (lset lv 7 (.int x)) [] (150, cs + 1 + 0, ss + 6 + 0) M2
  generalize lset lv 7 (.int x) = lv at hl2 l62 l7 ⊢
  replace hl := hl2
  replace l6 := l62
  refine g_thrown hJ lL_law_1103 lL_law_1104 lL_law_1107 lL_law_1109 hl l6 (by omega) (by omega) e0 ?_
  have hend : J 1138 lv [] (150, cs + 1 + 0, ss + 6 + 0) M2 := hj1 hJ lL_law_1138 (hk lv _ _ M2 hl hm (by omega) (by omega))
  refine g_ild hJ lL_law_1114 l6 (hj1 hJ lL_law_1116 ⟨fun z => ?_, fun _ => hend⟩)
  have ex := ex z
  refine g_ald hJ lL_law_1119 hl.2.2.2.1 ?_
  refine hj1 hJ lL_law_1120 (hj1 hJ lL_law_1121 ⟨rfl, Nat.le_of_ble_eq_true rfl, (vp_in_nI (n := 0) (N := 1) (by decide) (by decide)), ?_⟩)
  show J 1122 lv [.long (M2.2.2.2.1 148 0)] (150, cs + 1 + 0, ss + 6 + 0) M2
  rw [ex]
  refine g_ild hJ lL_law_1122 l7 (hj1 hJ lL_law_1124 ⟨fun w => ?_, fun w => ?_⟩)
  · rw [if_pos w]
    exact hj1 hJ lL_law_1131 (hj1 hJ lL_law_1132 (hj1 hJ lL_law_1133 ⟨fun _ => hend, fun w => absurd ((lg_cmp_eq _ _).mpr rfl) w⟩))
  · rw [if_neg w]
    exact hj1 hJ lL_law_1127 (hj1 hJ lL_law_1128 (hj1 hJ lL_law_1132 (hj1 hJ lL_law_1133 ⟨fun _ => hend, fun w => absurd ((lg_cmp_eq _ _).mpr rfl) w⟩)))
theorem law_18 (hJ : HJ (tL_law b L xs) J) (hl : LVL b i lv) (hi : ILn i L) (hM : JM M) (h1 : cs + 3 ≤ 601024) (h2 : ss + 18 ≤ 7293034) (hk : LC J b cs ss i) : J 1141 lv [] (150, cs, ss) M := by
  refine g_ald hJ lL_law_1141 hl.2.1 ?_
  refine g_ald hJ lL_law_1142 hl.2.2.2.1 ?_
  refine g_call hJ lL_law_1143 rfl rfl hl (by omega) (by omega) (s_next hM) (fun o n M1 hp => ?_)
  obtain ⟨rfl, k, rfl, hp⟩ := hp
  refine ⟨rfl, _, rfl, ?_⟩
  refine hj1 hJ lL_law_1146 ?_
  have hl1 : LVL b i (lset lv 6 (.int k)) := hl.set (by decide) trivial
  have l6 : lset lv 6 (.int k) 6 = some (.int k) := lset_at
  show J 1148 (lset lv 6 (.int k)) [] (150, cs + 2, ss + 12) M1
  generalize lset lv 6 (.int k) = lv at hl1 l6 ⊢
  replace hl := hl1
  refine g_ald hJ lL_law_1148 hl.2.2.1 ?_
  refine g_callV (st := [.ref 125]) (rs := []) (av := []) hJ lL_law_1149 rfl rfl rfl (by decide) hl (Nat.zero_le _) (fun v hv => absurd hv List.not_mem_nil) (by omega) (by omega) hp (fun o n M2 hq => ?_)
  obtain ⟨rfl, x, rfl, e0, ex, hm⟩ := hq
  refine ⟨rfl, _, rfl, ?_⟩
  refine hj1 hJ lL_law_1152 ?_
  have hl2 : LVL b i (lset lv 7 (.int x)) := hl.set (by decide) trivial
  have l62 : lset lv 7 (.int x) 6 = some (.int k) := lset_ne l6 (by decide) rfl
  have l7 : lset lv 7 (.int x) 7 = some (.int x) := lset_at
  show J 1154 (lset lv 7 (.int x)) [] (150, cs + 2 + 0, ss + 12 + 0) M2
  generalize lset lv 7 (.int x) = lv at hl2 l62 l7 ⊢
  replace hl := hl2
  replace l6 := l62
  refine g_thrown hJ lL_law_1154 lL_law_1155 lL_law_1158 lL_law_1160 hl l6 (by omega) (by omega) e0 ?_
  have hend : J 1182 lv [] (150, cs + 2 + 0, ss + 12 + 0) M2 := hj1 hJ lL_law_1182 (hk lv _ _ M2 hl hm (by omega) (by omega))
  refine g_ild hJ lL_law_1165 l6 (hj1 hJ lL_law_1167 ⟨fun z => ?_, fun _ => hend⟩)
  have ex := ex z
  refine g_ald hJ lL_law_1170 hl.2.2.2.1 ?_
  refine hj1 hJ lL_law_1171 (hj1 hJ lL_law_1172 ⟨rfl, Nat.le_of_ble_eq_true rfl, (vp_in_nI (n := 0) (N := 1) (by decide) (by decide)), ?_⟩)
  show J 1173 lv [.long (M2.2.2.2.1 148 0)] (150, cs + 2 + 0, ss + 12 + 0) M2
  rw [ex]
  refine g_ild hJ lL_law_1173 l7 (hj1 hJ lL_law_1175 (hj1 hJ lL_law_1176 (hj1 hJ lL_law_1177 ⟨fun _ => hend, fun w => absurd ((lg_cmp_eq _ _).mpr rfl) w⟩)))
theorem law_19 (hJ : HJ (tL_law b L xs) J) (hl : LVL b i lv) (hi : ILn i L) (hM : JM M) (h1 : cs + 3 ≤ 601024) (h2 : ss + 18 ≤ 7293034) (hk : LC J b cs ss i) : J 1185 lv [] (150, cs, ss) M := by
  refine g_ald hJ lL_law_1185 hl.2.1 ?_
  refine g_callV (st := [.ref 0]) (rs := []) (av := []) hJ lL_law_1186 rfl rfl rfl (by decide) hl (Nat.zero_le _) (fun v hv => absurd hv List.not_mem_nil) (by omega) (by omega) (s_isParallel hM) (fun o n M1 hp => ?_)
  obtain ⟨rfl, x, rfl, hp⟩ := hp
  refine ⟨rfl, _, rfl, ?_⟩
  show J 1189 lv [.int x] (150, cs, ss) M1
  refine g_ald hJ lL_law_1189 hl.2.2.1 ?_
  refine g_callV (st := [.ref 125]) (rs := [.int x]) (av := []) hJ lL_law_1190 rfl rfl rfl (by decide) hl (Nat.le_of_ble_eq_true rfl) (fun v hv => by rw [List.mem_singleton] at hv; subst hv; trivial) (by omega) (by omega) hp (fun o n M2 hq => ?_)
  obtain ⟨rfl, rfl, hq⟩ := hq
  refine ⟨rfl, _, rfl, ?_⟩
  exact hj1 hJ lL_law_1193 ⟨fun _ => hk lv cs ss M2 hl hq (by omega) (by omega), fun w => absurd rfl w⟩
theorem law_20 (hJ : HJ (tL_law b L xs) J) (hl : LVL b i lv) (hi : ILn i L) (hM : JM M) (h1 : cs + 3 ≤ 601024) (h2 : ss + 18 ≤ 7293034) (hk : LC J b cs ss i) : J 1198 lv [] (150, cs, ss) M := by
  refine g_ald hJ lL_law_1198 hl.2.1 ?_
  refine g_arg hJ lL_law_1199 lL_law_1200 lL_law_1202 lL_law_1203 lL_law_1204 hl hi.1 ?_
  refine g_ald hJ lL_law_1205 hl.2.2.2.1 ?_
  refine g_call hJ lL_law_1206 rfl rfl hl (by omega) (by omega) (s_isExact hM) (fun o n M1 hp => ?_)
  obtain ⟨rfl, k, rfl, hp⟩ := hp
  refine ⟨rfl, _, rfl, ?_⟩
  refine hj1 hJ lL_law_1209 ?_
  have hl1 : LVL b i (lset lv 6 (.int k)) := hl.set (by decide) trivial
  have l6 : lset lv 6 (.int k) 6 = some (.int k) := lset_at
  show J 1211 (lset lv 6 (.int k)) [] (150, cs + 1, ss + 6) M1
  generalize lset lv 6 (.int k) = lv at hl1 l6 ⊢
  replace hl := hl1
  refine g_ald hJ lL_law_1211 hl.2.2.1 ?_
  refine g_arg hJ lL_law_1212 lL_law_1213 lL_law_1215 lL_law_1216 lL_law_1217 hl hi.1 ?_
  refine g_callV (st := [.int _, .ref 125]) (rs := []) (av := [.int _]) hJ lL_law_1218 rfl rfl rfl (by decide) hl (Nat.zero_le _) (fun v hv => absurd hv List.not_mem_nil) (by omega) (by omega) hp (fun o n M2 hq => ?_)
  obtain ⟨rfl, x, rfl, e0, ex, hm⟩ := hq
  refine ⟨rfl, _, rfl, ?_⟩
  refine hj1 hJ lL_law_1221 ?_
  have hl2 : LVL b i (lset lv 7 (.int x)) := hl.set (by decide) trivial
  have l62 : lset lv 7 (.int x) 6 = some (.int k) := lset_ne l6 (by decide) rfl
  have l7 : lset lv 7 (.int x) 7 = some (.int x) := lset_at
  show J 1223 (lset lv 7 (.int x)) [] (150, cs + 1 + 0, ss + 6 + 0) M2
  generalize lset lv 7 (.int x) = lv at hl2 l62 l7 ⊢
  replace hl := hl2
  replace l6 := l62
  refine g_thrown hJ lL_law_1223 lL_law_1224 lL_law_1227 lL_law_1229 hl l6 (by omega) (by omega) e0 ?_
  have hend : J 1258 lv [] (150, cs + 1 + 0, ss + 6 + 0) M2 := hj1 hJ lL_law_1258 (hk lv _ _ M2 hl hm (by omega) (by omega))
  refine g_ild hJ lL_law_1234 l6 (hj1 hJ lL_law_1236 ⟨fun z => ?_, fun _ => hend⟩)
  have ex := ex z
  refine g_ald hJ lL_law_1239 hl.2.2.2.1 ?_
  refine hj1 hJ lL_law_1240 (hj1 hJ lL_law_1241 ⟨rfl, Nat.le_of_ble_eq_true rfl, (vp_in_nI (n := 0) (N := 1) (by decide) (by decide)), ?_⟩)
  show J 1242 lv [.long (M2.2.2.2.1 148 0)] (150, cs + 1 + 0, ss + 6 + 0) M2
  rw [ex]
  refine g_ild hJ lL_law_1242 l7 (hj1 hJ lL_law_1244 ⟨fun w => ?_, fun w => ?_⟩)
  · rw [if_pos w]
    exact hj1 hJ lL_law_1251 (hj1 hJ lL_law_1252 (hj1 hJ lL_law_1253 ⟨fun _ => hend, fun w => absurd ((lg_cmp_eq _ _).mpr rfl) w⟩))
  · rw [if_neg w]
    exact hj1 hJ lL_law_1247 (hj1 hJ lL_law_1248 (hj1 hJ lL_law_1252 (hj1 hJ lL_law_1253 ⟨fun _ => hend, fun w => absurd ((lg_cmp_eq _ _).mpr rfl) w⟩)))
theorem law_21 (hJ : HJ (tL_law b L xs) J) (hl : LVL b i lv) (hi : ILn i L) (hM : JM M) (h1 : cs + 3 ≤ 601024) (h2 : ss + 18 ≤ 7293034) (hk : LC J b cs ss i) : J 1261 lv [] (150, cs, ss) M := by
  refine g_ald hJ lL_law_1261 hl.2.1 ?_
  refine g_arg hJ lL_law_1262 lL_law_1263 lL_law_1265 lL_law_1266 lL_law_1267 hl hi.1 ?_
  refine g_arg hJ lL_law_1268 lL_law_1269 lL_law_1271 lL_law_1272 lL_law_1273 hl hi.2.1 ?_
  refine g_ald hJ lL_law_1274 hl.2.2.2.1 ?_
  refine g_call hJ lL_law_1275 rfl rfl hl (by omega) (by omega) (s_execute hM) (fun o n M1 hp => ?_)
  obtain ⟨rfl, k, rfl, hp⟩ := hp
  refine ⟨rfl, _, rfl, ?_⟩
  refine hj1 hJ lL_law_1278 ?_
  have hl1 : LVL b i (lset lv 6 (.int k)) := hl.set (by decide) trivial
  have l6 : lset lv 6 (.int k) 6 = some (.int k) := lset_at
  show J 1280 (lset lv 6 (.int k)) [] (150, cs + 3, ss + 18) M1
  generalize lset lv 6 (.int k) = lv at hl1 l6 ⊢
  replace hl := hl1
  refine g_ald hJ lL_law_1280 hl.2.2.1 ?_
  refine g_arg hJ lL_law_1281 lL_law_1282 lL_law_1284 lL_law_1285 lL_law_1286 hl hi.1 ?_
  refine g_arg hJ lL_law_1287 lL_law_1288 lL_law_1290 lL_law_1291 lL_law_1292 hl hi.2.1 ?_
  refine g_callV (st := [.int _, .int _, .ref 125]) (rs := []) (av := [.int _, .int _]) hJ lL_law_1293 rfl rfl rfl (by decide) hl (Nat.zero_le _) (fun v hv => absurd hv List.not_mem_nil) (by omega) (by omega) hp (fun o n M2 hq => ?_)
  obtain ⟨rfl, x, rfl, e0, ex, hm⟩ := hq
  refine ⟨rfl, _, rfl, ?_⟩
  refine hj1 hJ lL_law_1296 ?_
  have hl2 : LVL b i (lset lv 7 (.int x)) := hl.set (by decide) trivial
  have l62 : lset lv 7 (.int x) 6 = some (.int k) := lset_ne l6 (by decide) rfl
  have l7 : lset lv 7 (.int x) 7 = some (.int x) := lset_at
  show J 1298 (lset lv 7 (.int x)) [] (150, cs + 3 + 0, ss + 18 + 0) M2
  generalize lset lv 7 (.int x) = lv at hl2 l62 l7 ⊢
  replace hl := hl2
  replace l6 := l62
  refine g_thrown hJ lL_law_1298 lL_law_1299 lL_law_1302 lL_law_1304 hl l6 (by omega) (by omega) e0 ?_
  have hend : J 1326 lv [] (150, cs + 3 + 0, ss + 18 + 0) M2 := hj1 hJ lL_law_1326 (hk lv _ _ M2 hl hm (by omega) (by omega))
  refine g_ild hJ lL_law_1309 l6 (hj1 hJ lL_law_1311 ⟨fun z => ?_, fun _ => hend⟩)
  have ex := ex z
  refine g_ald hJ lL_law_1314 hl.2.2.2.1 ?_
  refine hj1 hJ lL_law_1315 (hj1 hJ lL_law_1316 ⟨rfl, Nat.le_of_ble_eq_true rfl, (vp_in_nI (n := 0) (N := 1) (by decide) (by decide)), ?_⟩)
  show J 1317 lv [.long (M2.2.2.2.1 148 0)] (150, cs + 3 + 0, ss + 18 + 0) M2
  rw [ex]
  refine g_ild hJ lL_law_1317 l7 (hj1 hJ lL_law_1319 (hj1 hJ lL_law_1320 (hj1 hJ lL_law_1321 ⟨fun _ => hend, fun w => absurd ((lg_cmp_eq _ _).mpr rfl) w⟩)))
theorem law_22 (hJ : HJ (tL_law b L xs) J) (hl : LVL b i lv) (hi : ILn i L) (hM : JM M) (h1 : cs + 3 ≤ 601024) (h2 : ss + 18 ≤ 7293034) (hk : LC J b cs ss i) : J 1329 lv [] (150, cs, ss) M := by
  refine g_ald hJ lL_law_1329 hl.2.1 ?_
  refine g_arg hJ lL_law_1330 lL_law_1331 lL_law_1333 lL_law_1334 lL_law_1335 hl hi.1 ?_
  refine g_ald hJ lL_law_1336 hl.2.2.2.1 ?_
  refine g_call hJ lL_law_1337 rfl rfl hl (by omega) (by omega) (s_result hM) (fun o n M1 hp => ?_)
  obtain ⟨rfl, k, rfl, hp⟩ := hp
  refine ⟨rfl, _, rfl, ?_⟩
  refine hj1 hJ lL_law_1340 ?_
  have hl1 : LVL b i (lset lv 6 (.int k)) := hl.set (by decide) trivial
  have l6 : lset lv 6 (.int k) 6 = some (.int k) := lset_at
  show J 1342 (lset lv 6 (.int k)) [] (150, cs + 2, ss + 12) M1
  generalize lset lv 6 (.int k) = lv at hl1 l6 ⊢
  replace hl := hl1
  refine g_ald hJ lL_law_1342 hl.2.2.1 ?_
  refine g_arg hJ lL_law_1343 lL_law_1344 lL_law_1346 lL_law_1347 lL_law_1348 hl hi.1 ?_
  refine g_callV (st := [.int _, .ref 125]) (rs := []) (av := [.int _]) hJ lL_law_1349 rfl rfl rfl (by decide) hl (Nat.zero_le _) (fun v hv => absurd hv List.not_mem_nil) (by omega) (by omega) hp (fun o n M2 hq => ?_)
  obtain ⟨rfl, x, rfl, e0, ex, hm⟩ := hq
  refine ⟨rfl, _, rfl, ?_⟩
  refine hj1 hJ lL_law_1352 ?_
  have hl2 : LVL b i (lset lv 7 (.int x)) := hl.set (by decide) trivial
  have l62 : lset lv 7 (.int x) 6 = some (.int k) := lset_ne l6 (by decide) rfl
  have l7 : lset lv 7 (.int x) 7 = some (.int x) := lset_at
  show J 1354 (lset lv 7 (.int x)) [] (150, cs + 2 + 0, ss + 12 + 0) M2
  generalize lset lv 7 (.int x) = lv at hl2 l62 l7 ⊢
  replace hl := hl2
  replace l6 := l62
  refine g_thrown hJ lL_law_1354 lL_law_1355 lL_law_1358 lL_law_1360 hl l6 (by omega) (by omega) e0 ?_
  have hend : J 1382 lv [] (150, cs + 2 + 0, ss + 12 + 0) M2 := hj1 hJ lL_law_1382 (hk lv _ _ M2 hl hm (by omega) (by omega))
  refine g_ild hJ lL_law_1365 l6 (hj1 hJ lL_law_1367 ⟨fun z => ?_, fun _ => hend⟩)
  have ex := ex z
  refine g_ald hJ lL_law_1370 hl.2.2.2.1 ?_
  refine hj1 hJ lL_law_1371 (hj1 hJ lL_law_1372 ⟨rfl, Nat.le_of_ble_eq_true rfl, (vp_in_nI (n := 0) (N := 1) (by decide) (by decide)), ?_⟩)
  show J 1373 lv [.long (M2.2.2.2.1 148 0)] (150, cs + 2 + 0, ss + 12 + 0) M2
  rw [ex]
  refine g_ild hJ lL_law_1373 l7 (hj1 hJ lL_law_1375 (hj1 hJ lL_law_1376 (hj1 hJ lL_law_1377 ⟨fun _ => hend, fun w => absurd ((lg_cmp_eq _ _).mpr rfl) w⟩)))
theorem law_23 (hJ : HJ (tL_law b L xs) J) (hl : LVL b i lv) (hi : ILn i L) (hM : JM M) (h1 : cs + 3 ≤ 601024) (h2 : ss + 18 ≤ 7293034) (hk : LC J b cs ss i) : J 1385 lv [] (150, cs, ss) M := by
  refine g_ald hJ lL_law_1385 hl.2.1 ?_
  refine g_arg hJ lL_law_1386 lL_law_1387 lL_law_1389 lL_law_1390 lL_law_1391 hl hi.1 ?_
  refine g_ald hJ lL_law_1392 hl.2.2.2.2.1 ?_
  refine g_call hJ lL_law_1394 rfl rfl hl (by omega) (by omega) (s_resultFloat hM) (fun o n M1 hp => ?_)
  obtain ⟨rfl, k, rfl, hp⟩ := hp
  refine ⟨rfl, _, rfl, ?_⟩
  refine hj1 hJ lL_law_1397 ?_
  have hl1 : LVL b i (lset lv 6 (.int k)) := hl.set (by decide) trivial
  have l6 : lset lv 6 (.int k) 6 = some (.int k) := lset_at
  show J 1399 (lset lv 6 (.int k)) [] (150, cs + 2, ss + 12) M1
  generalize lset lv 6 (.int k) = lv at hl1 l6 ⊢
  replace hl := hl1
  refine g_ald hJ lL_law_1399 hl.2.2.1 ?_
  refine g_arg hJ lL_law_1400 lL_law_1401 lL_law_1403 lL_law_1404 lL_law_1405 hl hi.1 ?_
  refine g_callV (st := [.int _, .ref 125]) (rs := []) (av := [.int _]) hJ lL_law_1406 rfl rfl rfl (by decide) hl (Nat.zero_le _) (fun v hv => absurd hv List.not_mem_nil) (by omega) (by omega) hp (fun o n M2 hq => ?_)
  obtain ⟨rfl, x, rfl, e0, ex, hm⟩ := hq
  refine ⟨rfl, _, rfl, ?_⟩
  refine hj1 hJ lL_law_1409 ?_
  have hl2 : LVL b i (lset lv 7 (.float x)) := hl.set (by decide) trivial
  have l62 : lset lv 7 (.float x) 6 = some (.int k) := lset_ne l6 (by decide) rfl
  have l7 : lset lv 7 (.float x) 7 = some (.float x) := lset_at
  show J 1411 (lset lv 7 (.float x)) [] (150, cs + 2 + 0, ss + 12 + 0) M2
  generalize lset lv 7 (.float x) = lv at hl2 l62 l7 ⊢
  replace hl := hl2
  replace l6 := l62
  refine g_thrown hJ lL_law_1411 lL_law_1412 lL_law_1415 lL_law_1417 hl l6 (by omega) (by omega) e0 ?_
  have hend : J 1460 lv [] (150, cs + 2 + 0, ss + 12 + 0) M2 := hj1 hJ lL_law_1460 (hk lv _ _ M2 hl hm (by omega) (by omega))
  refine g_ild hJ lL_law_1422 l6 (hj1 hJ lL_law_1424 ⟨fun z => ?_, fun _ => hend⟩)
  have ex := ex z
  refine g_ald hJ lL_law_1427 hl.2.2.2.2.1 ?_
  refine hj1 hJ lL_law_1429 (hj1 hJ lL_law_1430 ⟨rfl, Nat.le_of_ble_eq_true rfl, (vp_in_nI (n := 0) (N := 1) (by decide) (by decide)), ?_⟩)
  obtain ⟨v, ev, hz⟩ := ex
  show J 1431 lv [.double (M2.2.2.2.2 149 0)] (150, cs + 2 + 0, ss + 12 + 0) M2
  rw [ev]
  have ec : FP.dcmp (FP.f2d v) (FP.f2d x) = some .eq := (fd_eq hz.1 hz.2.1).mpr (by rw [hz.cmp (ZR.refl hz.2.1)]; exact fcmp_self hz.2.1)
  refine g_fld hJ lL_law_1431 l7 (hj1 hJ lL_law_1433 ⟨df_n64 (f2d_df hz.2.1), hj1 hJ lL_law_1434 (hj1 hJ lL_law_1435 ⟨fun _ => hend, fun w => absurd (show Op.cmpValue (FP.dcmp (FP.f2d v) (FP.f2d x)) .l = 0 by rw [ec]; rfl) w⟩)⟩)
theorem law_24 (hJ : HJ (tL_law b L xs) J) (hl : LVL b i lv) (hi : ILn i L) (hM : JM M) (h1 : cs + 3 ≤ 601024) (h2 : ss + 18 ≤ 7293034) (hk : LC J b cs ss i) : J 1463 lv [] (150, cs, ss) M := by
  refine g_ald hJ lL_law_1463 hl.2.1 ?_
  refine g_arg hJ lL_law_1464 lL_law_1465 lL_law_1467 lL_law_1468 lL_law_1469 hl hi.1 ?_
  refine g_ald hJ lL_law_1470 hl.2.2.2.2.1 ?_
  refine g_call hJ lL_law_1472 rfl rfl hl (by omega) (by omega) (s_difference hM) (fun o n M1 hp => ?_)
  obtain ⟨rfl, k, rfl, hp⟩ := hp
  refine ⟨rfl, _, rfl, ?_⟩
  refine hj1 hJ lL_law_1475 ?_
  have hl1 : LVL b i (lset lv 6 (.int k)) := hl.set (by decide) trivial
  have l6 : lset lv 6 (.int k) 6 = some (.int k) := lset_at
  show J 1477 (lset lv 6 (.int k)) [] (150, cs + 3, ss + 18) M1
  generalize lset lv 6 (.int k) = lv at hl1 l6 ⊢
  replace hl := hl1
  refine g_ald hJ lL_law_1477 hl.2.2.1 ?_
  refine g_arg hJ lL_law_1478 lL_law_1479 lL_law_1481 lL_law_1482 lL_law_1483 hl hi.1 ?_
  refine g_callV (st := [.int _, .ref 125]) (rs := []) (av := [.int _]) hJ lL_law_1484 rfl rfl rfl (by decide) hl (Nat.zero_le _) (fun v hv => absurd hv List.not_mem_nil) (by omega) (by omega) hp (fun o n M2 hq => ?_)
  obtain ⟨rfl, x, rfl, e0, ex, hm⟩ := hq
  refine ⟨rfl, _, rfl, ?_⟩
  refine hj1 hJ lL_law_1487 ?_
  have hl2 : LVL b i (lset2 lv 7 (.double x)) := hl.set2 (by decide) trivial
  have l62 : lset2 lv 7 (.double x) 6 = some (.int k) := lset2_ne l6 (by decide) (by decide) rfl
  have l7 : lset2 lv 7 (.double x) 7 = some (.double x) := lset2_at
  show J 1489 (lset2 lv 7 (.double x)) [] (150, cs + 3 + 0, ss + 18 + 0) M2
  generalize lset2 lv 7 (.double x) = lv at hl2 l62 l7 ⊢
  replace hl := hl2
  replace l6 := l62
  refine g_thrown hJ lL_law_1489 lL_law_1490 lL_law_1493 lL_law_1495 hl l6 (by omega) (by omega) e0 ?_
  have hend : J 1537 lv [] (150, cs + 3 + 0, ss + 18 + 0) M2 := hj1 hJ lL_law_1537 (hk lv _ _ M2 hl hm (by omega) (by omega))
  refine g_ild hJ lL_law_1500 l6 (hj1 hJ lL_law_1502 ⟨fun z => ?_, fun _ => hend⟩)
  have ex := ex z
  refine g_ald hJ lL_law_1505 hl.2.2.2.2.1 ?_
  refine hj1 hJ lL_law_1507 (hj1 hJ lL_law_1508 ⟨rfl, Nat.le_of_ble_eq_true rfl, (vp_in_nI (n := 0) (N := 1) (by decide) (by decide)), ?_⟩)
  show J 1509 lv [.double (M2.2.2.2.2 149 0)] (150, cs + 3 + 0, ss + 18 + 0) M2
  rw [ex]
  refine g_dld hJ lL_law_1509 l7 (hj1 hJ lL_law_1511 (hj1 hJ lL_law_1512 ⟨fun _ => hend, fun w => ?_⟩))
  have w : ¬ Op.cmpValue (FP.dcmp x x) .l = 0 := w
  refine g_ald hJ lL_law_1515 hl.2.2.2.2.1 (hj1 hJ lL_law_1517 (hj1 hJ lL_law_1518 ⟨rfl, Nat.le_of_ble_eq_true rfl, (vp_in_nI (n := 0) (N := 1) (by decide) (by decide)), ?_⟩))
  show J 1519 lv [.double (M2.2.2.2.2 149 0)] (150, cs + 3 + 0, ss + 18 + 0) M2
  rw [ex]
  refine g_ald hJ lL_law_1519 hl.2.2.2.2.1 (hj1 hJ lL_law_1521 (hj1 hJ lL_law_1522 ⟨rfl, Nat.le_of_ble_eq_true rfl, (vp_in_nI (n := 0) (N := 1) (by decide) (by decide)), ?_⟩))
  show J 1523 lv [.double (M2.2.2.2.2 149 0), .double x] (150, cs + 3 + 0, ss + 18 + 0) M2
  rw [ex]
  refine hj1 hJ lL_law_1523 (hj1 hJ lL_law_1524 ⟨fun w2 => absurd w2 w, fun _ => ?_⟩)
  exact g_dld hJ lL_law_1527 l7 (g_dld hJ lL_law_1529 l7 (hj1 hJ lL_law_1531 (hj1 hJ lL_law_1532 ⟨fun w2 => absurd w2 w, fun _ => hend⟩)))
theorem law_25 (hJ : HJ (tL_law b L xs) J) (hl : LVL b i lv) (hi : ILn i L) (hM : JM M) (h1 : cs + 3 ≤ 601024) (h2 : ss + 18 ≤ 7293034) (hk : LC J b cs ss i) : J 1540 lv [] (150, cs, ss) M := by
  refine g_ald hJ lL_law_1540 hl.2.1 ?_
  refine g_arg hJ lL_law_1541 lL_law_1542 lL_law_1544 lL_law_1545 lL_law_1546 hl hi.1 ?_
  refine g_arg hJ lL_law_1547 lL_law_1548 lL_law_1550 lL_law_1551 lL_law_1552 hl hi.2.1 ?_
  refine g_ald hJ lL_law_1553 hl.2.2.2.1 ?_
  refine g_call hJ lL_law_1554 rfl rfl hl (by omega) (by omega) (s_cost hM) (fun o n M1 hp => ?_)
  obtain ⟨rfl, k, rfl, hp⟩ := hp
  refine ⟨rfl, _, rfl, ?_⟩
  refine hj1 hJ lL_law_1557 ?_
  have hl1 : LVL b i (lset lv 6 (.int k)) := hl.set (by decide) trivial
  have l6 : lset lv 6 (.int k) 6 = some (.int k) := lset_at
  show J 1559 (lset lv 6 (.int k)) [] (150, cs + 2, ss + 12) M1
  generalize lset lv 6 (.int k) = lv at hl1 l6 ⊢
  replace hl := hl1
  refine g_ald hJ lL_law_1559 hl.2.2.1 ?_
  refine g_arg hJ lL_law_1560 lL_law_1561 lL_law_1563 lL_law_1564 lL_law_1565 hl hi.1 ?_
  refine g_arg hJ lL_law_1566 lL_law_1567 lL_law_1569 lL_law_1570 lL_law_1571 hl hi.2.1 ?_
  refine g_callV (st := [.int _, .int _, .ref 125]) (rs := []) (av := [.int _, .int _]) hJ lL_law_1572 rfl rfl rfl (by decide) hl (Nat.zero_le _) (fun v hv => absurd hv List.not_mem_nil) (by omega) (by omega) hp (fun o n M2 hq => ?_)
  obtain ⟨rfl, x, rfl, e0, ex, hm⟩ := hq
  refine ⟨rfl, _, rfl, ?_⟩
  refine hj1 hJ lL_law_1575 ?_
  have hl2 : LVL b i (lset lv 7 (.int x)) := hl.set (by decide) trivial
  have l62 : lset lv 7 (.int x) 6 = some (.int k) := lset_ne l6 (by decide) rfl
  have l7 : lset lv 7 (.int x) 7 = some (.int x) := lset_at
  show J 1577 (lset lv 7 (.int x)) [] (150, cs + 2 + 0, ss + 12 + 0) M2
  generalize lset lv 7 (.int x) = lv at hl2 l62 l7 ⊢
  replace hl := hl2
  replace l6 := l62
  refine g_thrown hJ lL_law_1577 lL_law_1578 lL_law_1581 lL_law_1583 hl l6 (by omega) (by omega) e0 ?_
  have hend : J 1605 lv [] (150, cs + 2 + 0, ss + 12 + 0) M2 := hj1 hJ lL_law_1605 (hk lv _ _ M2 hl hm (by omega) (by omega))
  refine g_ild hJ lL_law_1588 l6 (hj1 hJ lL_law_1590 ⟨fun z => ?_, fun _ => hend⟩)
  have ex := ex z
  refine g_ald hJ lL_law_1593 hl.2.2.2.1 ?_
  refine hj1 hJ lL_law_1594 (hj1 hJ lL_law_1595 ⟨rfl, Nat.le_of_ble_eq_true rfl, (vp_in_nI (n := 0) (N := 1) (by decide) (by decide)), ?_⟩)
  show J 1596 lv [.long (M2.2.2.2.1 148 0)] (150, cs + 2 + 0, ss + 12 + 0) M2
  rw [ex]
  refine g_ild hJ lL_law_1596 l7 (hj1 hJ lL_law_1598 (hj1 hJ lL_law_1599 (hj1 hJ lL_law_1600 ⟨fun _ => hend, fun w => absurd ((lg_cmp_eq _ _).mpr rfl) w⟩)))
theorem law_26 (hJ : HJ (tL_law b L xs) J) (hl : LVL b i lv) (hi : ILn i L) (hM : JM M) (h1 : cs + 3 ≤ 601024) (h2 : ss + 18 ≤ 7293034) (hk : LC J b cs ss i) : J 1608 lv [] (150, cs, ss) M := by
  refine g_ald hJ lL_law_1608 hl.2.1 ?_
  refine g_callV (st := [.ref 0]) (rs := []) (av := []) hJ lL_law_1609 rfl rfl rfl (by decide) hl (Nat.zero_le _) (fun v hv => absurd hv List.not_mem_nil) (by omega) (by omega) (s_cheapest hM) (fun o n M1 hp => ?_)
  obtain ⟨rfl, x, rfl, hp⟩ := hp
  refine ⟨rfl, _, rfl, ?_⟩
  show J 1612 lv [.int x] (150, cs, ss) M1
  refine g_ald hJ lL_law_1612 hl.2.2.1 ?_
  refine g_callV (st := [.ref 125]) (rs := [.int x]) (av := []) hJ lL_law_1613 rfl rfl rfl (by decide) hl (Nat.le_of_ble_eq_true rfl) (fun v hv => by rw [List.mem_singleton] at hv; subst hv; trivial) (by omega) (by omega) hp (fun o n M2 hq => ?_)
  obtain ⟨rfl, rfl, hq⟩ := hq
  refine ⟨rfl, _, rfl, ?_⟩
  exact hj1 hJ lL_law_1616 ⟨fun _ => hk lv cs ss M2 hl hq (by omega) (by omega), fun w => absurd rfl w⟩
theorem law_27 (hJ : HJ (tL_law b L xs) J) (hl : LVL b i lv) (hi : ILn i L) (hM : JM M) (h1 : cs + 3 ≤ 601024) (h2 : ss + 18 ≤ 7293034) (hk : LC J b cs ss i) : J 1621 lv [] (150, cs, ss) M := by
  refine g_ald hJ lL_law_1621 hl.2.1 ?_
  refine g_callV (st := [.ref 0]) (rs := []) (av := []) hJ lL_law_1622 rfl rfl rfl (by decide) hl (Nat.zero_le _) (fun v hv => absurd hv List.not_mem_nil) (by omega) (by omega) (s_save hM) (fun o n M1 hp => ?_)
  obtain ⟨rfl, rfl, hp⟩ := hp
  refine ⟨rfl, _, rfl, ?_⟩
  show J 1625 lv [] (150, cs, ss) M1
  refine g_ald hJ lL_law_1625 hl.2.2.1 ?_
  refine g_callV (st := [.ref 125]) (rs := []) (av := []) hJ lL_law_1626 rfl rfl rfl (by decide) hl (Nat.zero_le _) (fun v hv => absurd hv List.not_mem_nil) (by omega) (by omega) hp (fun o n M2 hq => ?_)
  obtain ⟨rfl, rfl, hq⟩ := hq
  refine ⟨rfl, _, rfl, ?_⟩
  exact hj1 hJ lL_law_1629 (hk lv cs ss M2 hl hq (by omega) (by omega))
theorem law_28 (hJ : HJ (tL_law b L xs) J) (hl : LVL b i lv) (hi : ILn i L) (hM : JM M) (h1 : cs + 3 ≤ 601024) (h2 : ss + 18 ≤ 7293034) (hk : LC J b cs ss i) : J 1632 lv [] (150, cs, ss) M := by
  refine g_ald hJ lL_law_1632 hl.2.1 ?_
  refine g_call hJ lL_law_1633 rfl rfl hl (by omega) (by omega) (s_restore hM) (fun o n M1 hp => ?_)
  obtain ⟨rfl, k, rfl, hp⟩ := hp
  refine ⟨rfl, _, rfl, ?_⟩
  refine hj1 hJ lL_law_1636 ?_
  have hl1 : LVL b i (lset lv 6 (.int k)) := hl.set (by decide) trivial
  have l6 : lset lv 6 (.int k) 6 = some (.int k) := lset_at
  show J 1638 (lset lv 6 (.int k)) [] (150, cs + 1, ss + 6) M1
  generalize lset lv 6 (.int k) = lv at hl1 l6 ⊢
  replace hl := hl1
  refine g_ald hJ lL_law_1638 hl.2.2.1 ?_
  refine g_callV (st := [.ref 125]) (rs := []) (av := []) hJ lL_law_1639 rfl rfl rfl (by decide) hl (Nat.zero_le _) (fun v hv => absurd hv List.not_mem_nil) (by omega) (by omega) hp (fun o n M2 hq => ?_)
  obtain ⟨rfl, rfl, e0, hm⟩ := hq
  refine ⟨rfl, _, rfl, ?_⟩
  show J 1642 lv [] (150, cs + 1 + 0, ss + 6 + 0) M2
  refine g_thrown hJ lL_law_1642 lL_law_1643 lL_law_1646 lL_law_1648 hl l6 (by omega) (by omega) e0 ?_
  exact hj1 hJ lL_law_1653 (hk lv _ _ M2 hl hm (by omega) (by omega))
end
