theorem LC_appendText {σ : Hp} {D i : Int} {s : Lsv} {b bs : Nat} {Q : Res → Hp → Prop} (hi : 0 ≤ i ∧ i + 5 < (σ.sl : Int)) (hs : σ.sl ≤ 3072) (hM : MIv D σ s) (hS : Lstp D σ s m_X10_appendText m_X11_appendText [xISE] [vI (σ.I 96 0 (i + 1)), vI (σ.I 96 0 (i + 2)), vI (σ.I 96 0 (i + 3)), vI (σ.I 96 0 (i + 4)), vI (σ.I 96 0 (i + 5))] okI) (kk : Kq D σ s i b bs Q) : V m_L_law 17 (b + 61) (bs + 419) 276 [some (vR (some (96, 0))), some (vR (some (10, 0))), some (vR (some (11, 0))), some (vR (some (70, 0))), some (vR (some (71, 0))), some (vI i), none, none, none] [] σ Q := by
  obtain ⟨κ, w, D', s', hk, ⟨v, rfl⟩, hp, hc, hm⟩ := hS
  refine V_aldn1 a_L_law_276 ?_
  refine V_aldn0 a_L_law_277 ?_
  refine V_ild5 a_L_law_278 ?_
  refine V_iconst a_L_law_280 ?_
  refine V_iadd a_L_law_281 ?_
  refine V_sld a_L_law_282 (by omega) (by omega) ?_
  refine V_aldn0 a_L_law_283 ?_
  refine V_ild5 a_L_law_284 ?_
  refine V_iconst a_L_law_286 ?_
  refine V_iadd a_L_law_287 ?_
  refine V_sld a_L_law_288 (by omega) (by omega) ?_
  refine V_aldn0 a_L_law_289 ?_
  refine V_ild5 a_L_law_290 ?_
  refine V_iconst a_L_law_292 ?_
  refine V_iadd a_L_law_293 ?_
  refine V_sld a_L_law_294 (by omega) (by omega) ?_
  refine V_aldn0 a_L_law_295 ?_
  refine V_ild5 a_L_law_296 ?_
  refine V_iconst a_L_law_298 ?_
  refine V_iadd a_L_law_299 ?_
  refine V_sld a_L_law_300 (by omega) (by omega) ?_
  refine V_aldn0 a_L_law_301 ?_
  refine V_ild5 a_L_law_302 ?_
  refine V_iconst a_L_law_304 ?_
  refine V_iadd a_L_law_305 ?_
  refine V_sld a_L_law_306 (by omega) (by omega) ?_
  refine V_aldn3 a_L_law_307 ?_
  refine V_w7PR a_L_law_308 c_L_177 (W_appendText hc) (fun τ hτ => ?_)
  obtain ⟨n1, c1, j1⟩ := hτ
  have e1 : τ.I 96 0 = σ.I 96 0 := n1.I n96_o7
  have e2 : τ.sl = σ.sl := n1.1
  have m1 := hm τ n1 c1 (hM.out n1 c1.wf no_o7)
  refine V_ist6 a_L_law_311 ?_
  refine V_aldn2 a_L_law_313 ?_
  refine V_aldn0 a_L_law_314 ?_
  refine V_ild5 a_L_law_315 ?_
  refine V_iconst a_L_law_317 ?_
  refine V_iadd a_L_law_318 ?_
  refine V_sldE a_L_law_319 (by omega) (by omega) (congrFun e1 _) ?_
  refine V_aldn0 a_L_law_320 ?_
  refine V_ild5 a_L_law_321 ?_
  refine V_iconst a_L_law_323 ?_
  refine V_iadd a_L_law_324 ?_
  refine V_sldE a_L_law_325 (by omega) (by omega) (congrFun e1 _) ?_
  refine V_aldn0 a_L_law_326 ?_
  refine V_ild5 a_L_law_327 ?_
  refine V_iconst a_L_law_329 ?_
  refine V_iadd a_L_law_330 ?_
  refine V_sldE a_L_law_331 (by omega) (by omega) (congrFun e1 _) ?_
  refine V_aldn0 a_L_law_332 ?_
  refine V_ild5 a_L_law_333 ?_
  refine V_iconst a_L_law_335 ?_
  refine V_iadd a_L_law_336 ?_
  refine V_sldE a_L_law_337 (by omega) (by omega) (congrFun e1 _) ?_
  refine V_aldn0 a_L_law_338 ?_
  refine V_ild5 a_L_law_339 ?_
  refine V_iconst a_L_law_341 ?_
  refine V_iadd a_L_law_342 ?_
  refine V_sldE a_L_law_343 (by omega) (by omega) (congrFun e1 _) ?_
  refine V_v5PR a_L_law_344 c_L_182 m1 (fun ρ hρ => ?_)
  obtain ⟨n2, ⟨A', q9, m2⟩, e6⟩ := hρ
  have c2 : CIv D' ρ (A', s'.2) := (c1.out n2 m2.1.2.1 no_ml).eq9 q9
  have e3 : ρ.I 96 0 = σ.I 96 0 := (n2.I n96_ml).trans e1
  have e4 : ρ.sl = σ.sl := n2.1.trans e2
  have j2 : κ = 0 → ρ.J 70 0 0 = v.bmod (2 ^ 32) := fun z => by rw [n2.J n70_ml]; exact j1 z
  refine V_ist7 a_L_law_347 ?_
  refine V_aldn2 a_L_law_349 ?_
  refine V_v0R a_L_law_350 c_L_183 (R_thrE e6) ?_
  refine V_ild6 a_L_law_353 ?_
  refine V_icmp_eq_t a_L_law_355 (by omega) (by omega) ?_
  refine V_ild6 a_L_law_360 ?_
  refine V_if_ne a_L_law_362 (by omega) (fun hc362 => ?_) (fun hc362 => ?_)
  · refine V_goto a_L_law_377 ?_
    exact V_fg3 (kk ρ D' (A', s'.2) c2 m2 hp e4 e3)
  · refine V_aldn3 a_L_law_365 ?_
    refine V_iconst a_L_law_366 ?_
    refine V_laldE a_L_law_367 rfl (by omega) (j2 (by omega)) ?_
    refine V_ild7 a_L_law_368 ?_
    refine V_i2lM a_L_law_370 ?_
    refine V_lcmpG a_L_law_371 ?_
    rw [c64_self]
    refine V_if_eq_t a_L_law_372 (by omega) (by omega) ?_
    refine V_goto a_L_law_377 ?_
    exact V_fg3 (kk ρ D' (A', s'.2) c2 m2 hp e4 e3)
theorem LC_truncateText {σ : Hp} {D i : Int} {s : Lsv} {b bs : Nat} {Q : Res → Hp → Prop} (hi : 0 ≤ i ∧ i + 5 < (σ.sl : Int)) (hs : σ.sl ≤ 3072) (hM : MIv D σ s) (hS : Lstp D σ s m_X10_truncateText m_X11_truncateText [xIAE] [vI (σ.I 96 0 (i + 1))] okI) (kk : Kq D σ s i b bs Q) : V m_L_law 17 (b + 61) (bs + 419) 380 [some (vR (some (96, 0))), some (vR (some (10, 0))), some (vR (some (11, 0))), some (vR (some (70, 0))), some (vR (some (71, 0))), some (vI i), none, none, none] [] σ Q := by
  obtain ⟨κ, w, D', s', hk, ⟨v, rfl⟩, hp, hc, hm⟩ := hS
  refine V_aldn1 a_L_law_380 ?_
  refine V_aldn0 a_L_law_381 ?_
  refine V_ild5 a_L_law_382 ?_
  refine V_iconst a_L_law_384 ?_
  refine V_iadd a_L_law_385 ?_
  refine V_sld a_L_law_386 (by omega) (by omega) ?_
  refine V_aldn3 a_L_law_387 ?_
  refine V_w3PR a_L_law_388 c_L_186 (W_truncateText hc) (fun τ hτ => ?_)
  obtain ⟨n1, c1, j1⟩ := hτ
  have e1 : τ.I 96 0 = σ.I 96 0 := n1.I n96_o7
  have e2 : τ.sl = σ.sl := n1.1
  have m1 := hm τ n1 c1 (hM.out n1 c1.wf no_o7)
  refine V_ist6 a_L_law_391 ?_
  refine V_aldn2 a_L_law_393 ?_
  refine V_aldn0 a_L_law_394 ?_
  refine V_ild5 a_L_law_395 ?_
  refine V_iconst a_L_law_397 ?_
  refine V_iadd a_L_law_398 ?_
  refine V_sldE a_L_law_399 (by omega) (by omega) (congrFun e1 _) ?_
  refine V_v1PR a_L_law_400 c_L_189 m1 (fun ρ hρ => ?_)
  obtain ⟨n2, ⟨A', q9, m2⟩, e6⟩ := hρ
  have c2 : CIv D' ρ (A', s'.2) := (c1.out n2 m2.1.2.1 no_ml).eq9 q9
  have e3 : ρ.I 96 0 = σ.I 96 0 := (n2.I n96_ml).trans e1
  have e4 : ρ.sl = σ.sl := n2.1.trans e2
  have j2 : κ = 0 → ρ.J 70 0 0 = v.bmod (2 ^ 32) := fun z => by rw [n2.J n70_ml]; exact j1 z
  refine V_ist7 a_L_law_403 ?_
  refine V_aldn2 a_L_law_405 ?_
  refine V_v0R a_L_law_406 c_L_183 (R_thrE e6) ?_
  refine V_ild6 a_L_law_409 ?_
  refine V_icmp_eq_t a_L_law_411 (by omega) (by omega) ?_
  refine V_ild6 a_L_law_416 ?_
  refine V_if_ne a_L_law_418 (by omega) (fun hc418 => ?_) (fun hc418 => ?_)
  · refine V_goto a_L_law_433 ?_
    exact V_fg3 (kk ρ D' (A', s'.2) c2 m2 hp e4 e3)
  · refine V_aldn3 a_L_law_421 ?_
    refine V_iconst a_L_law_422 ?_
    refine V_laldE a_L_law_423 rfl (by omega) (j2 (by omega)) ?_
    refine V_ild7 a_L_law_424 ?_
    refine V_i2lM a_L_law_426 ?_
    refine V_lcmpG a_L_law_427 ?_
    rw [c64_self]
    refine V_if_eq_t a_L_law_428 (by omega) (by omega) ?_
    refine V_goto a_L_law_433 ?_
    exact V_fg3 (kk ρ D' (A', s'.2) c2 m2 hp e4 e3)
theorem LC_parsePool {σ : Hp} {D i : Int} {s : Lsv} {b bs : Nat} {Q : Res → Hp → Prop} (hi : 0 ≤ i ∧ i + 5 < (σ.sl : Int)) (hs : σ.sl ≤ 3072) (hM : MIv D σ s) (hS : Lstp D σ s m_X10_parsePool m_X11_parsePool [] [] okI) (kk : Kq D σ s i b bs Q) : V m_L_law 17 (b + 61) (bs + 419) 436 [some (vR (some (96, 0))), some (vR (some (10, 0))), some (vR (some (11, 0))), some (vR (some (70, 0))), some (vR (some (71, 0))), some (vI i), none, none, none] [] σ Q := by
  obtain ⟨κ, w, D', s', hk, ⟨v, rfl⟩, hp, hc, hm⟩ := hS
  refine V_aldn1 a_L_law_436 ?_
  refine V_v0PR a_L_law_437 c_L_190 hc.cv (fun τ hτ => ?_)
  obtain ⟨n0, c1⟩ := hτ
  have n1 : Nw o7S σ τ := n0.sub (fun t n z => Or.inl z)
  have e1 : τ.I 96 0 = σ.I 96 0 := n1.I n96_o7
  have e2 : τ.sl = σ.sl := n1.1
  have m1 := hm τ n1 c1 (hM.out n1 c1.wf no_o7)
  refine V_aldn2 a_L_law_440 ?_
  refine V_v0PR a_L_law_441 c_L_193 m1 (fun ρ hρ => ?_)
  obtain ⟨n2, ⟨A', q9, m2⟩, e6⟩ := hρ
  have c2 : CIv D' ρ (A', s'.2) := (c1.out n2 m2.1.2.1 no_ml).eq9 q9
  have e3 : ρ.I 96 0 = σ.I 96 0 := (n2.I n96_ml).trans e1
  have e4 : ρ.sl = σ.sl := n2.1.trans e2
  exact V_icS a_L_law_444 (kk ρ D' (A', s'.2) c2 m2 hp e4 e3)
theorem LC_errorCode {σ : Hp} {D i : Int} {s : Lsv} {b bs : Nat} {Q : Res → Hp → Prop} (hi : 0 ≤ i ∧ i + 5 < (σ.sl : Int)) (hs : σ.sl ≤ 3072) (hM : MIv D σ s) (hS : Lstp D σ s m_X10_errorCode m_X11_errorCode [] [] okI) (kk : Kq D σ s i b bs Q) : V m_L_law 17 (b + 61) (bs + 419) 449 [some (vR (some (96, 0))), some (vR (some (10, 0))), some (vR (some (11, 0))), some (vR (some (70, 0))), some (vR (some (71, 0))), some (vI i), none, none, none] [] σ Q := by
  obtain ⟨κ, w, D', s', hk, ⟨v, rfl⟩, hp, hc, hm⟩ := hS
  refine V_aldn1 a_L_law_449 ?_
  refine V_v0PR a_L_law_450 c_L_194 hc.cv (fun τ hτ => ?_)
  obtain ⟨n0, c1⟩ := hτ
  have n1 : Nw o7S σ τ := n0.sub (fun t n z => Or.inl z)
  have e1 : τ.I 96 0 = σ.I 96 0 := n1.I n96_o7
  have e2 : τ.sl = σ.sl := n1.1
  have m1 := hm τ n1 c1 (hM.out n1 c1.wf no_o7)
  refine V_aldn2 a_L_law_453 ?_
  refine V_v0PR a_L_law_454 c_L_197 m1 (fun ρ hρ => ?_)
  obtain ⟨n2, ⟨A', q9, m2⟩, e6⟩ := hρ
  have c2 : CIv D' ρ (A', s'.2) := (c1.out n2 m2.1.2.1 no_ml).eq9 q9
  have e3 : ρ.I 96 0 = σ.I 96 0 := (n2.I n96_ml).trans e1
  have e4 : ρ.sl = σ.sl := n2.1.trans e2
  exact V_icS a_L_law_457 (kk ρ D' (A', s'.2) c2 m2 hp e4 e3)
theorem LC_errorPosition {σ : Hp} {D i : Int} {s : Lsv} {b bs : Nat} {Q : Res → Hp → Prop} (hi : 0 ≤ i ∧ i + 5 < (σ.sl : Int)) (hs : σ.sl ≤ 3072) (hM : MIv D σ s) (hS : Lstp D σ s m_X10_errorPosition m_X11_errorPosition [] [] okI) (kk : Kq D σ s i b bs Q) : V m_L_law 17 (b + 61) (bs + 419) 462 [some (vR (some (96, 0))), some (vR (some (10, 0))), some (vR (some (11, 0))), some (vR (some (70, 0))), some (vR (some (71, 0))), some (vI i), none, none, none] [] σ Q := by
  obtain ⟨κ, w, D', s', hk, ⟨v, rfl⟩, hp, hc, hm⟩ := hS
  refine V_aldn1 a_L_law_462 ?_
  refine V_v0PR a_L_law_463 c_L_198 hc.cv (fun τ hτ => ?_)
  obtain ⟨n0, c1⟩ := hτ
  have n1 : Nw o7S σ τ := n0.sub (fun t n z => Or.inl z)
  have e1 : τ.I 96 0 = σ.I 96 0 := n1.I n96_o7
  have e2 : τ.sl = σ.sl := n1.1
  have m1 := hm τ n1 c1 (hM.out n1 c1.wf no_o7)
  refine V_aldn2 a_L_law_466 ?_
  refine V_v0PR a_L_law_467 c_L_201 m1 (fun ρ hρ => ?_)
  obtain ⟨n2, ⟨A', q9, m2⟩, e6⟩ := hρ
  have c2 : CIv D' ρ (A', s'.2) := (c1.out n2 m2.1.2.1 no_ml).eq9 q9
  have e3 : ρ.I 96 0 = σ.I 96 0 := (n2.I n96_ml).trans e1
  have e4 : ρ.sl = σ.sl := n2.1.trans e2
  exact V_icS a_L_law_470 (kk ρ D' (A', s'.2) c2 m2 hp e4 e3)
theorem LC_borrow {σ : Hp} {D i : Int} {s : Lsv} {b bs : Nat} {Q : Res → Hp → Prop} (hi : 0 ≤ i ∧ i + 5 < (σ.sl : Int)) (hs : σ.sl ≤ 3072) (hM : MIv D σ s) (hS : Lstp D σ s m_X10_borrow m_X11_borrow [xIOB, xIAE, xISE] [vI (σ.I 96 0 (i + 1)), vI (σ.I 96 0 (i + 2)), vI (σ.I 96 0 (i + 3)), vI (σ.I 96 0 (i + 4))] okI) (kk : Kq D σ s i b bs Q) : V m_L_law 17 (b + 61) (bs + 419) 475 [some (vR (some (96, 0))), some (vR (some (10, 0))), some (vR (some (11, 0))), some (vR (some (70, 0))), some (vR (some (71, 0))), some (vI i), none, none, none] [] σ Q := by
  obtain ⟨κ, w, D', s', hk, ⟨v, rfl⟩, hp, hc, hm⟩ := hS
  refine V_aldn1 a_L_law_475 ?_
  refine V_aldn0 a_L_law_476 ?_
  refine V_ild5 a_L_law_477 ?_
  refine V_iconst a_L_law_479 ?_
  refine V_iadd a_L_law_480 ?_
  refine V_sld a_L_law_481 (by omega) (by omega) ?_
  refine V_aldn0 a_L_law_482 ?_
  refine V_ild5 a_L_law_483 ?_
  refine V_iconst a_L_law_485 ?_
  refine V_iadd a_L_law_486 ?_
  refine V_sld a_L_law_487 (by omega) (by omega) ?_
  refine V_aldn0 a_L_law_488 ?_
  refine V_ild5 a_L_law_489 ?_
  refine V_iconst a_L_law_491 ?_
  refine V_iadd a_L_law_492 ?_
  refine V_sld a_L_law_493 (by omega) (by omega) ?_
  refine V_aldn0 a_L_law_494 ?_
  refine V_ild5 a_L_law_495 ?_
  refine V_iconst a_L_law_497 ?_
  refine V_iadd a_L_law_498 ?_
  refine V_sld a_L_law_499 (by omega) (by omega) ?_
  refine V_aldn3 a_L_law_500 ?_
  refine V_w6PR a_L_law_501 c_L_202 (W_borrow hc) (fun τ hτ => ?_)
  obtain ⟨n1, c1, j1⟩ := hτ
  have e1 : τ.I 96 0 = σ.I 96 0 := n1.I n96_o7
  have e2 : τ.sl = σ.sl := n1.1
  have m1 := hm τ n1 c1 (hM.out n1 c1.wf no_o7)
  refine V_ist6 a_L_law_504 ?_
  refine V_aldn2 a_L_law_506 ?_
  refine V_aldn0 a_L_law_507 ?_
  refine V_ild5 a_L_law_508 ?_
  refine V_iconst a_L_law_510 ?_
  refine V_iadd a_L_law_511 ?_
  refine V_sldE a_L_law_512 (by omega) (by omega) (congrFun e1 _) ?_
  refine V_aldn0 a_L_law_513 ?_
  refine V_ild5 a_L_law_514 ?_
  refine V_iconst a_L_law_516 ?_
  refine V_iadd a_L_law_517 ?_
  refine V_sldE a_L_law_518 (by omega) (by omega) (congrFun e1 _) ?_
  refine V_aldn0 a_L_law_519 ?_
  refine V_ild5 a_L_law_520 ?_
  refine V_iconst a_L_law_522 ?_
  refine V_iadd a_L_law_523 ?_
  refine V_sldE a_L_law_524 (by omega) (by omega) (congrFun e1 _) ?_
  refine V_aldn0 a_L_law_525 ?_
  refine V_ild5 a_L_law_526 ?_
  refine V_iconst a_L_law_528 ?_
  refine V_iadd a_L_law_529 ?_
  refine V_sldE a_L_law_530 (by omega) (by omega) (congrFun e1 _) ?_
  refine V_v4PR a_L_law_531 c_L_205 m1 (fun ρ hρ => ?_)
  obtain ⟨n2, ⟨A', q9, m2⟩, e6⟩ := hρ
  have c2 : CIv D' ρ (A', s'.2) := (c1.out n2 m2.1.2.1 no_ml).eq9 q9
  have e3 : ρ.I 96 0 = σ.I 96 0 := (n2.I n96_ml).trans e1
  have e4 : ρ.sl = σ.sl := n2.1.trans e2
  have j2 : κ = 0 → ρ.J 70 0 0 = v.bmod (2 ^ 32) := fun z => by rw [n2.J n70_ml]; exact j1 z
  refine V_ist7 a_L_law_534 ?_
  refine V_aldn2 a_L_law_536 ?_
  refine V_v0R a_L_law_537 c_L_183 (R_thrE e6) ?_
  refine V_ild6 a_L_law_540 ?_
  refine V_icmp_eq_t a_L_law_542 (by omega) (by omega) ?_
  refine V_ild6 a_L_law_547 ?_
  refine V_if_ne a_L_law_549 (by omega) (fun hc549 => ?_) (fun hc549 => ?_)
  · refine V_goto a_L_law_564 ?_
    exact V_fg3 (kk ρ D' (A', s'.2) c2 m2 hp e4 e3)
  · refine V_aldn3 a_L_law_552 ?_
    refine V_iconst a_L_law_553 ?_
    refine V_laldE a_L_law_554 rfl (by omega) (j2 (by omega)) ?_
    refine V_ild7 a_L_law_555 ?_
    refine V_i2lM a_L_law_557 ?_
    refine V_lcmpG a_L_law_558 ?_
    rw [c64_self]
    refine V_if_eq_t a_L_law_559 (by omega) (by omega) ?_
    refine V_goto a_L_law_564 ?_
    exact V_fg3 (kk ρ D' (A', s'.2) c2 m2 hp e4 e3)
theorem LC_returnShares {σ : Hp} {D i : Int} {s : Lsv} {b bs : Nat} {Q : Res → Hp → Prop} (hi : 0 ≤ i ∧ i + 5 < (σ.sl : Int)) (hs : σ.sl ≤ 3072) (hM : MIv D σ s) (hS : Lstp D σ s m_X10_returnShares m_X11_returnShares [xIOB, xIAE] [vI (σ.I 96 0 (i + 1)), vI (σ.I 96 0 (i + 2))] okI) (kk : Kq D σ s i b bs Q) : V m_L_law 17 (b + 61) (bs + 419) 567 [some (vR (some (96, 0))), some (vR (some (10, 0))), some (vR (some (11, 0))), some (vR (some (70, 0))), some (vR (some (71, 0))), some (vI i), none, none, none] [] σ Q := by
  obtain ⟨κ, w, D', s', hk, ⟨v, rfl⟩, hp, hc, hm⟩ := hS
  refine V_aldn1 a_L_law_567 ?_
  refine V_aldn0 a_L_law_568 ?_
  refine V_ild5 a_L_law_569 ?_
  refine V_iconst a_L_law_571 ?_
  refine V_iadd a_L_law_572 ?_
  refine V_sld a_L_law_573 (by omega) (by omega) ?_
  refine V_aldn0 a_L_law_574 ?_
  refine V_ild5 a_L_law_575 ?_
  refine V_iconst a_L_law_577 ?_
  refine V_iadd a_L_law_578 ?_
  refine V_sld a_L_law_579 (by omega) (by omega) ?_
  refine V_aldn3 a_L_law_580 ?_
  refine V_w4PR a_L_law_581 c_L_206 (W_returnShares hc) (fun τ hτ => ?_)
  obtain ⟨n1, c1, j1⟩ := hτ
  have e1 : τ.I 96 0 = σ.I 96 0 := n1.I n96_o7
  have e2 : τ.sl = σ.sl := n1.1
  have m1 := hm τ n1 c1 (hM.out n1 c1.wf no_o7)
  refine V_ist6 a_L_law_584 ?_
  refine V_aldn2 a_L_law_586 ?_
  refine V_aldn0 a_L_law_587 ?_
  refine V_ild5 a_L_law_588 ?_
  refine V_iconst a_L_law_590 ?_
  refine V_iadd a_L_law_591 ?_
  refine V_sldE a_L_law_592 (by omega) (by omega) (congrFun e1 _) ?_
  refine V_aldn0 a_L_law_593 ?_
  refine V_ild5 a_L_law_594 ?_
  refine V_iconst a_L_law_596 ?_
  refine V_iadd a_L_law_597 ?_
  refine V_sldE a_L_law_598 (by omega) (by omega) (congrFun e1 _) ?_
  refine V_v2PR a_L_law_599 c_L_209 m1 (fun ρ hρ => ?_)
  obtain ⟨n2, ⟨A', q9, m2⟩, e6⟩ := hρ
  have c2 : CIv D' ρ (A', s'.2) := (c1.out n2 m2.1.2.1 no_ml).eq9 q9
  have e3 : ρ.I 96 0 = σ.I 96 0 := (n2.I n96_ml).trans e1
  have e4 : ρ.sl = σ.sl := n2.1.trans e2
  have j2 : κ = 0 → ρ.J 70 0 0 = v.bmod (2 ^ 32) := fun z => by rw [n2.J n70_ml]; exact j1 z
  refine V_ist7 a_L_law_602 ?_
  refine V_aldn2 a_L_law_604 ?_
  refine V_v0R a_L_law_605 c_L_183 (R_thrE e6) ?_
  refine V_ild6 a_L_law_608 ?_
  refine V_icmp_eq_t a_L_law_610 (by omega) (by omega) ?_
  refine V_ild6 a_L_law_615 ?_
  refine V_if_ne a_L_law_617 (by omega) (fun hc617 => ?_) (fun hc617 => ?_)
  · refine V_goto a_L_law_632 ?_
    exact V_fg3 (kk ρ D' (A', s'.2) c2 m2 hp e4 e3)
  · refine V_aldn3 a_L_law_620 ?_
    refine V_iconst a_L_law_621 ?_
    refine V_laldE a_L_law_622 rfl (by omega) (j2 (by omega)) ?_
    refine V_ild7 a_L_law_623 ?_
    refine V_i2lM a_L_law_625 ?_
    refine V_lcmpG a_L_law_626 ?_
    rw [c64_self]
    refine V_if_eq_t a_L_law_627 (by omega) (by omega) ?_
    refine V_goto a_L_law_632 ?_
    exact V_fg3 (kk ρ D' (A', s'.2) c2 m2 hp e4 e3)
theorem LC_recall {σ : Hp} {D i : Int} {s : Lsv} {b bs : Nat} {Q : Res → Hp → Prop} (hi : 0 ≤ i ∧ i + 5 < (σ.sl : Int)) (hs : σ.sl ≤ 3072) (hM : MIv D σ s) (hS : Lstp D σ s m_X10_recall m_X11_recall [xIOB, xIAE, xISE] [vI (σ.I 96 0 (i + 1)), vI (σ.I 96 0 (i + 2)), vI (σ.I 96 0 (i + 3))] okI) (kk : Kq D σ s i b bs Q) : V m_L_law 17 (b + 61) (bs + 419) 635 [some (vR (some (96, 0))), some (vR (some (10, 0))), some (vR (some (11, 0))), some (vR (some (70, 0))), some (vR (some (71, 0))), some (vI i), none, none, none] [] σ Q := by
  obtain ⟨κ, w, D', s', hk, ⟨v, rfl⟩, hp, hc, hm⟩ := hS
  refine V_aldn1 a_L_law_635 ?_
  refine V_aldn0 a_L_law_636 ?_
  refine V_ild5 a_L_law_637 ?_
  refine V_iconst a_L_law_639 ?_
  refine V_iadd a_L_law_640 ?_
  refine V_sld a_L_law_641 (by omega) (by omega) ?_
  refine V_aldn0 a_L_law_642 ?_
  refine V_ild5 a_L_law_643 ?_
  refine V_iconst a_L_law_645 ?_
  refine V_iadd a_L_law_646 ?_
  refine V_sld a_L_law_647 (by omega) (by omega) ?_
  refine V_aldn0 a_L_law_648 ?_
  refine V_ild5 a_L_law_649 ?_
  refine V_iconst a_L_law_651 ?_
  refine V_iadd a_L_law_652 ?_
  refine V_sld a_L_law_653 (by omega) (by omega) ?_
  refine V_aldn3 a_L_law_654 ?_
  refine V_w5PR a_L_law_655 c_L_210 (W_recall hc) (fun τ hτ => ?_)
  obtain ⟨n1, c1, j1⟩ := hτ
  have e1 : τ.I 96 0 = σ.I 96 0 := n1.I n96_o7
  have e2 : τ.sl = σ.sl := n1.1
  have m1 := hm τ n1 c1 (hM.out n1 c1.wf no_o7)
  refine V_ist6 a_L_law_658 ?_
  refine V_aldn2 a_L_law_660 ?_
  refine V_aldn0 a_L_law_661 ?_
  refine V_ild5 a_L_law_662 ?_
  refine V_iconst a_L_law_664 ?_
  refine V_iadd a_L_law_665 ?_
  refine V_sldE a_L_law_666 (by omega) (by omega) (congrFun e1 _) ?_
  refine V_aldn0 a_L_law_667 ?_
  refine V_ild5 a_L_law_668 ?_
  refine V_iconst a_L_law_670 ?_
  refine V_iadd a_L_law_671 ?_
  refine V_sldE a_L_law_672 (by omega) (by omega) (congrFun e1 _) ?_
  refine V_aldn0 a_L_law_673 ?_
  refine V_ild5 a_L_law_674 ?_
  refine V_iconst a_L_law_676 ?_
  refine V_iadd a_L_law_677 ?_
  refine V_sldE a_L_law_678 (by omega) (by omega) (congrFun e1 _) ?_
  refine V_v3PR a_L_law_679 c_L_213 m1 (fun ρ hρ => ?_)
  obtain ⟨n2, ⟨A', q9, m2⟩, e6⟩ := hρ
  have c2 : CIv D' ρ (A', s'.2) := (c1.out n2 m2.1.2.1 no_ml).eq9 q9
  have e3 : ρ.I 96 0 = σ.I 96 0 := (n2.I n96_ml).trans e1
  have e4 : ρ.sl = σ.sl := n2.1.trans e2
  have j2 : κ = 0 → ρ.J 70 0 0 = v.bmod (2 ^ 32) := fun z => by rw [n2.J n70_ml]; exact j1 z
  refine V_ist7 a_L_law_682 ?_
  refine V_aldn2 a_L_law_684 ?_
  refine V_v0R a_L_law_685 c_L_183 (R_thrE e6) ?_
  refine V_ild6 a_L_law_688 ?_
  refine V_icmp_eq_t a_L_law_690 (by omega) (by omega) ?_
  refine V_ild6 a_L_law_695 ?_
  refine V_if_ne a_L_law_697 (by omega) (fun hc697 => ?_) (fun hc697 => ?_)
  · refine V_goto a_L_law_712 ?_
    exact V_fg3 (kk ρ D' (A', s'.2) c2 m2 hp e4 e3)
  · refine V_aldn3 a_L_law_700 ?_
    refine V_iconst a_L_law_701 ?_
    refine V_laldE a_L_law_702 rfl (by omega) (j2 (by omega)) ?_
    refine V_ild7 a_L_law_703 ?_
    refine V_i2lM a_L_law_705 ?_
    refine V_lcmpG a_L_law_706 ?_
    rw [c64_self]
    refine V_if_eq_t a_L_law_707 (by omega) (by omega) ?_
    refine V_goto a_L_law_712 ?_
    exact V_fg3 (kk ρ D' (A', s'.2) c2 m2 hp e4 e3)
theorem LC_passDays {σ : Hp} {D i : Int} {s : Lsv} {b bs : Nat} {Q : Res → Hp → Prop} (hi : 0 ≤ i ∧ i + 5 < (σ.sl : Int)) (hs : σ.sl ≤ 3072) (hM : MIv D σ s) (hS : Lstp D σ s m_X10_passDays m_X11_passDays [xIAE] [vI (σ.I 96 0 (i + 1))] okI) (kk : Kq D σ s i b bs Q) : V m_L_law 17 (b + 61) (bs + 419) 715 [some (vR (some (96, 0))), some (vR (some (10, 0))), some (vR (some (11, 0))), some (vR (some (70, 0))), some (vR (some (71, 0))), some (vI i), none, none, none] [] σ Q := by
  obtain ⟨κ, w, D', s', hk, ⟨v, rfl⟩, hp, hc, hm⟩ := hS
  refine V_aldn1 a_L_law_715 ?_
  refine V_aldn0 a_L_law_716 ?_
  refine V_ild5 a_L_law_717 ?_
  refine V_iconst a_L_law_719 ?_
  refine V_iadd a_L_law_720 ?_
  refine V_sld a_L_law_721 (by omega) (by omega) ?_
  refine V_aldn3 a_L_law_722 ?_
  refine V_w3PR a_L_law_723 c_L_214 (W_passDays hc) (fun τ hτ => ?_)
  obtain ⟨n1, c1, j1⟩ := hτ
  have e1 : τ.I 96 0 = σ.I 96 0 := n1.I n96_o7
  have e2 : τ.sl = σ.sl := n1.1
  have m1 := hm τ n1 c1 (hM.out n1 c1.wf no_o7)
  refine V_ist6 a_L_law_726 ?_
  refine V_aldn2 a_L_law_728 ?_
  refine V_aldn0 a_L_law_729 ?_
  refine V_ild5 a_L_law_730 ?_
  refine V_iconst a_L_law_732 ?_
  refine V_iadd a_L_law_733 ?_
  refine V_sldE a_L_law_734 (by omega) (by omega) (congrFun e1 _) ?_
  refine V_v1PR a_L_law_735 c_L_216 m1 (fun ρ hρ => ?_)
  obtain ⟨n2, ⟨A', q9, m2⟩, e6⟩ := hρ
  have c2 : CIv D' ρ (A', s'.2) := (c1.out n2 m2.1.2.1 no_ml).eq9 q9
  have e3 : ρ.I 96 0 = σ.I 96 0 := (n2.I n96_ml).trans e1
  have e4 : ρ.sl = σ.sl := n2.1.trans e2
  have j2 : κ = 0 → ρ.J 70 0 0 = v.bmod (2 ^ 32) := fun z => by rw [n2.J n70_ml]; exact j1 z
  refine V_ist7 a_L_law_738 ?_
  refine V_aldn2 a_L_law_740 ?_
  refine V_v0R a_L_law_741 c_L_183 (R_thrE e6) ?_
  refine V_ild6 a_L_law_744 ?_
  refine V_icmp_eq_t a_L_law_746 (by omega) (by omega) ?_
  refine V_ild6 a_L_law_751 ?_
  refine V_if_ne a_L_law_753 (by omega) (fun hc753 => ?_) (fun hc753 => ?_)
  · refine V_goto a_L_law_768 ?_
    exact V_fg3 (kk ρ D' (A', s'.2) c2 m2 hp e4 e3)
  · refine V_aldn3 a_L_law_756 ?_
    refine V_iconst a_L_law_757 ?_
    refine V_laldE a_L_law_758 rfl (by omega) (j2 (by omega)) ?_
    refine V_ild7 a_L_law_759 ?_
    refine V_i2lM a_L_law_761 ?_
    refine V_lcmpG a_L_law_762 ?_
    rw [c64_self]
    refine V_if_eq_t a_L_law_763 (by omega) (by omega) ?_
    refine V_goto a_L_law_768 ?_
    exact V_fg3 (kk ρ D' (A', s'.2) c2 m2 hp e4 e3)
theorem LC_payDividend {σ : Hp} {D i : Int} {s : Lsv} {b bs : Nat} {Q : Res → Hp → Prop} (hi : 0 ≤ i ∧ i + 5 < (σ.sl : Int)) (hs : σ.sl ≤ 3072) (hM : MIv D σ s) (hS : Lstp D σ s m_X10_payDividend m_X11_payDividend [xIOB, xIAE] [vI (σ.I 96 0 (i + 1)), vI (σ.I 96 0 (i + 2))] okJ) (kk : Kq D σ s i b bs Q) : V m_L_law 17 (b + 61) (bs + 419) 771 [some (vR (some (96, 0))), some (vR (some (10, 0))), some (vR (some (11, 0))), some (vR (some (70, 0))), some (vR (some (71, 0))), some (vI i), none, none, none] [] σ Q := by
  obtain ⟨κ, w, D', s', hk, ⟨v, rfl⟩, hp, hc, hm⟩ := hS
  refine V_aldn1 a_L_law_771 ?_
  refine V_aldn0 a_L_law_772 ?_
  refine V_ild5 a_L_law_773 ?_
  refine V_iconst a_L_law_775 ?_
  refine V_iadd a_L_law_776 ?_
  refine V_sld a_L_law_777 (by omega) (by omega) ?_
  refine V_aldn0 a_L_law_778 ?_
  refine V_ild5 a_L_law_779 ?_
  refine V_iconst a_L_law_781 ?_
  refine V_iadd a_L_law_782 ?_
  refine V_sld a_L_law_783 (by omega) (by omega) ?_
  refine V_aldn3 a_L_law_784 ?_
  refine V_w4PR a_L_law_785 c_L_217 (W_payDividend hc) (fun τ hτ => ?_)
  obtain ⟨n1, c1, j1⟩ := hτ
  have e1 : τ.I 96 0 = σ.I 96 0 := n1.I n96_o7
  have e2 : τ.sl = σ.sl := n1.1
  have m1 := hm τ n1 c1 (hM.out n1 c1.wf no_o7)
  refine V_ist6 a_L_law_788 ?_
  refine V_aldn2 a_L_law_790 ?_
  refine V_aldn0 a_L_law_791 ?_
  refine V_ild5 a_L_law_792 ?_
  refine V_iconst a_L_law_794 ?_
  refine V_iadd a_L_law_795 ?_
  refine V_sldE a_L_law_796 (by omega) (by omega) (congrFun e1 _) ?_
  refine V_aldn0 a_L_law_797 ?_
  refine V_ild5 a_L_law_798 ?_
  refine V_iconst a_L_law_800 ?_
  refine V_iadd a_L_law_801 ?_
  refine V_sldE a_L_law_802 (by omega) (by omega) (congrFun e1 _) ?_
  refine V_v2PR a_L_law_803 c_L_219 m1 (fun ρ hρ => ?_)
  obtain ⟨n2, ⟨A', q9, m2⟩, e6⟩ := hρ
  have c2 : CIv D' ρ (A', s'.2) := (c1.out n2 m2.1.2.1 no_ml).eq9 q9
  have e3 : ρ.I 96 0 = σ.I 96 0 := (n2.I n96_ml).trans e1
  have e4 : ρ.sl = σ.sl := n2.1.trans e2
  have j2 : κ = 0 → ρ.J 70 0 0 = v := fun z => by rw [n2.J n70_ml]; exact j1 z
  refine V_lst7 a_L_law_806 ?_
  refine V_aldn2 a_L_law_808 ?_
  refine V_v0R a_L_law_809 c_L_183 (R_thrE e6) ?_
  refine V_ild6 a_L_law_812 ?_
  refine V_icmp_eq_t a_L_law_814 (by omega) (by omega) ?_
  refine V_ild6 a_L_law_819 ?_
  refine V_if_ne a_L_law_821 (by omega) (fun hc821 => ?_) (fun hc821 => ?_)
  · refine V_goto a_L_law_835 ?_
    exact V_fg3 (kk ρ D' (A', s'.2) c2 m2 hp e4 e3)
  · refine V_aldn3 a_L_law_824 ?_
    refine V_iconst a_L_law_825 ?_
    refine V_laldE a_L_law_826 rfl (by omega) (j2 (by omega)) ?_
    refine V_lld7 a_L_law_827 ?_
    refine V_lcmpG a_L_law_829 ?_
    rw [c64_self]
    refine V_if_eq_t a_L_law_830 (by omega) (by omega) ?_
    refine V_goto a_L_law_835 ?_
    exact V_fg3 (kk ρ D' (A', s'.2) c2 m2 hp e4 e3)
theorem LC_buyShares {σ : Hp} {D i : Int} {s : Lsv} {b bs : Nat} {Q : Res → Hp → Prop} (hi : 0 ≤ i ∧ i + 5 < (σ.sl : Int)) (hs : σ.sl ≤ 3072) (hM : MIv D σ s) (hS : Lstp D σ s m_X10_buyShares m_X11_buyShares [xIOB, xIAE, xISE] [vI (σ.I 96 0 (i + 1)), vI (σ.I 96 0 (i + 2)), vI (σ.I 96 0 (i + 3))] okI) (kk : Kq D σ s i b bs Q) : V m_L_law 17 (b + 61) (bs + 419) 838 [some (vR (some (96, 0))), some (vR (some (10, 0))), some (vR (some (11, 0))), some (vR (some (70, 0))), some (vR (some (71, 0))), some (vI i), none, none, none] [] σ Q := by
  obtain ⟨κ, w, D', s', hk, ⟨v, rfl⟩, hp, hc, hm⟩ := hS
  refine V_aldn1 a_L_law_838 ?_
  refine V_aldn0 a_L_law_839 ?_
  refine V_ild5 a_L_law_840 ?_
  refine V_iconst a_L_law_842 ?_
  refine V_iadd a_L_law_843 ?_
  refine V_sld a_L_law_844 (by omega) (by omega) ?_
  refine V_aldn0 a_L_law_845 ?_
  refine V_ild5 a_L_law_846 ?_
  refine V_iconst a_L_law_848 ?_
  refine V_iadd a_L_law_849 ?_
  refine V_sld a_L_law_850 (by omega) (by omega) ?_
  refine V_aldn0 a_L_law_851 ?_
  refine V_ild5 a_L_law_852 ?_
  refine V_iconst a_L_law_854 ?_
  refine V_iadd a_L_law_855 ?_
  refine V_sld a_L_law_856 (by omega) (by omega) ?_
  refine V_aldn3 a_L_law_857 ?_
  refine V_w5PR a_L_law_858 c_L_220 (W_buyShares hc) (fun τ hτ => ?_)
  obtain ⟨n1, c1, j1⟩ := hτ
  have e1 : τ.I 96 0 = σ.I 96 0 := n1.I n96_o7
  have e2 : τ.sl = σ.sl := n1.1
  have m1 := hm τ n1 c1 (hM.out n1 c1.wf no_o7)
  refine V_ist6 a_L_law_861 ?_
  refine V_aldn2 a_L_law_863 ?_
  refine V_aldn0 a_L_law_864 ?_
  refine V_ild5 a_L_law_865 ?_
  refine V_iconst a_L_law_867 ?_
  refine V_iadd a_L_law_868 ?_
  refine V_sldE a_L_law_869 (by omega) (by omega) (congrFun e1 _) ?_
  refine V_aldn0 a_L_law_870 ?_
  refine V_ild5 a_L_law_871 ?_
  refine V_iconst a_L_law_873 ?_
  refine V_iadd a_L_law_874 ?_
  refine V_sldE a_L_law_875 (by omega) (by omega) (congrFun e1 _) ?_
  refine V_aldn0 a_L_law_876 ?_
  refine V_ild5 a_L_law_877 ?_
  refine V_iconst a_L_law_879 ?_
  refine V_iadd a_L_law_880 ?_
  refine V_sldE a_L_law_881 (by omega) (by omega) (congrFun e1 _) ?_
  refine V_v3PR a_L_law_882 c_L_222 m1 (fun ρ hρ => ?_)
  obtain ⟨n2, ⟨A', q9, m2⟩, e6⟩ := hρ
  have c2 : CIv D' ρ (A', s'.2) := (c1.out n2 m2.1.2.1 no_ml).eq9 q9
  have e3 : ρ.I 96 0 = σ.I 96 0 := (n2.I n96_ml).trans e1
  have e4 : ρ.sl = σ.sl := n2.1.trans e2
  have j2 : κ = 0 → ρ.J 70 0 0 = v.bmod (2 ^ 32) := fun z => by rw [n2.J n70_ml]; exact j1 z
  refine V_ist7 a_L_law_885 ?_
  refine V_aldn2 a_L_law_887 ?_
  refine V_v0R a_L_law_888 c_L_183 (R_thrE e6) ?_
  refine V_ild6 a_L_law_891 ?_
  refine V_icmp_eq_t a_L_law_893 (by omega) (by omega) ?_
  refine V_ild6 a_L_law_898 ?_
  refine V_if_ne a_L_law_900 (by omega) (fun hc900 => ?_) (fun hc900 => ?_)
  · refine V_goto a_L_law_915 ?_
    exact V_fg3 (kk ρ D' (A', s'.2) c2 m2 hp e4 e3)
  · refine V_aldn3 a_L_law_903 ?_
    refine V_iconst a_L_law_904 ?_
    refine V_laldE a_L_law_905 rfl (by omega) (j2 (by omega)) ?_
    refine V_ild7 a_L_law_906 ?_
    refine V_i2lM a_L_law_908 ?_
    refine V_lcmpG a_L_law_909 ?_
    rw [c64_self]
    refine V_if_eq_t a_L_law_910 (by omega) (by omega) ?_
    refine V_goto a_L_law_915 ?_
    exact V_fg3 (kk ρ D' (A', s'.2) c2 m2 hp e4 e3)
theorem LC_sellShares {σ : Hp} {D i : Int} {s : Lsv} {b bs : Nat} {Q : Res → Hp → Prop} (hi : 0 ≤ i ∧ i + 5 < (σ.sl : Int)) (hs : σ.sl ≤ 3072) (hM : MIv D σ s) (hS : Lstp D σ s m_X10_sellShares m_X11_sellShares [xIOB, xIAE, xISE] [vI (σ.I 96 0 (i + 1)), vI (σ.I 96 0 (i + 2)), vI (σ.I 96 0 (i + 3))] okI) (kk : Kq D σ s i b bs Q) : V m_L_law 17 (b + 61) (bs + 419) 918 [some (vR (some (96, 0))), some (vR (some (10, 0))), some (vR (some (11, 0))), some (vR (some (70, 0))), some (vR (some (71, 0))), some (vI i), none, none, none] [] σ Q := by
  obtain ⟨κ, w, D', s', hk, ⟨v, rfl⟩, hp, hc, hm⟩ := hS
  refine V_aldn1 a_L_law_918 ?_
  refine V_aldn0 a_L_law_919 ?_
  refine V_ild5 a_L_law_920 ?_
  refine V_iconst a_L_law_922 ?_
  refine V_iadd a_L_law_923 ?_
  refine V_sld a_L_law_924 (by omega) (by omega) ?_
  refine V_aldn0 a_L_law_925 ?_
  refine V_ild5 a_L_law_926 ?_
  refine V_iconst a_L_law_928 ?_
  refine V_iadd a_L_law_929 ?_
  refine V_sld a_L_law_930 (by omega) (by omega) ?_
  refine V_aldn0 a_L_law_931 ?_
  refine V_ild5 a_L_law_932 ?_
  refine V_iconst a_L_law_934 ?_
  refine V_iadd a_L_law_935 ?_
  refine V_sld a_L_law_936 (by omega) (by omega) ?_
  refine V_aldn3 a_L_law_937 ?_
  refine V_w5PR a_L_law_938 c_L_223 (W_sellShares hc) (fun τ hτ => ?_)
  obtain ⟨n1, c1, j1⟩ := hτ
  have e1 : τ.I 96 0 = σ.I 96 0 := n1.I n96_o7
  have e2 : τ.sl = σ.sl := n1.1
  have m1 := hm τ n1 c1 (hM.out n1 c1.wf no_o7)
  refine V_ist6 a_L_law_941 ?_
  refine V_aldn2 a_L_law_943 ?_
  refine V_aldn0 a_L_law_944 ?_
  refine V_ild5 a_L_law_945 ?_
  refine V_iconst a_L_law_947 ?_
  refine V_iadd a_L_law_948 ?_
  refine V_sldE a_L_law_949 (by omega) (by omega) (congrFun e1 _) ?_
  refine V_aldn0 a_L_law_950 ?_
  refine V_ild5 a_L_law_951 ?_
  refine V_iconst a_L_law_953 ?_
  refine V_iadd a_L_law_954 ?_
  refine V_sldE a_L_law_955 (by omega) (by omega) (congrFun e1 _) ?_
  refine V_aldn0 a_L_law_956 ?_
  refine V_ild5 a_L_law_957 ?_
  refine V_iconst a_L_law_959 ?_
  refine V_iadd a_L_law_960 ?_
  refine V_sldE a_L_law_961 (by omega) (by omega) (congrFun e1 _) ?_
  refine V_v3PR a_L_law_962 c_L_225 m1 (fun ρ hρ => ?_)
  obtain ⟨n2, ⟨A', q9, m2⟩, e6⟩ := hρ
  have c2 : CIv D' ρ (A', s'.2) := (c1.out n2 m2.1.2.1 no_ml).eq9 q9
  have e3 : ρ.I 96 0 = σ.I 96 0 := (n2.I n96_ml).trans e1
  have e4 : ρ.sl = σ.sl := n2.1.trans e2
  have j2 : κ = 0 → ρ.J 70 0 0 = v.bmod (2 ^ 32) := fun z => by rw [n2.J n70_ml]; exact j1 z
  refine V_ist7 a_L_law_965 ?_
  refine V_aldn2 a_L_law_967 ?_
  refine V_v0R a_L_law_968 c_L_183 (R_thrE e6) ?_
  refine V_ild6 a_L_law_971 ?_
  refine V_icmp_eq_t a_L_law_973 (by omega) (by omega) ?_
  refine V_ild6 a_L_law_978 ?_
  refine V_if_ne a_L_law_980 (by omega) (fun hc980 => ?_) (fun hc980 => ?_)
  · refine V_goto a_L_law_995 ?_
    exact V_fg3 (kk ρ D' (A', s'.2) c2 m2 hp e4 e3)
  · refine V_aldn3 a_L_law_983 ?_
    refine V_iconst a_L_law_984 ?_
    refine V_laldE a_L_law_985 rfl (by omega) (j2 (by omega)) ?_
    refine V_ild7 a_L_law_986 ?_
    refine V_i2lM a_L_law_988 ?_
    refine V_lcmpG a_L_law_989 ?_
    rw [c64_self]
    refine V_if_eq_t a_L_law_990 (by omega) (by omega) ?_
    refine V_goto a_L_law_995 ?_
    exact V_fg3 (kk ρ D' (A', s'.2) c2 m2 hp e4 e3)
theorem LC_setPrice {σ : Hp} {D i : Int} {s : Lsv} {b bs : Nat} {Q : Res → Hp → Prop} (hi : 0 ≤ i ∧ i + 5 < (σ.sl : Int)) (hs : σ.sl ≤ 3072) (hM : MIv D σ s) (hS : Lstp D σ s m_X10_setPrice m_X11_setPrice [xIOB, xIAE] [vI (σ.I 96 0 (i + 1)), vI (σ.I 96 0 (i + 2))] okI) (kk : Kq D σ s i b bs Q) : V m_L_law 17 (b + 61) (bs + 419) 998 [some (vR (some (96, 0))), some (vR (some (10, 0))), some (vR (some (11, 0))), some (vR (some (70, 0))), some (vR (some (71, 0))), some (vI i), none, none, none] [] σ Q := by
  obtain ⟨κ, w, D', s', hk, ⟨v, rfl⟩, hp, hc, hm⟩ := hS
  refine V_aldn1 a_L_law_998 ?_
  refine V_aldn0 a_L_law_999 ?_
  refine V_ild5 a_L_law_1000 ?_
  refine V_iconst a_L_law_1002 ?_
  refine V_iadd a_L_law_1003 ?_
  refine V_sld a_L_law_1004 (by omega) (by omega) ?_
  refine V_aldn0 a_L_law_1005 ?_
  refine V_ild5 a_L_law_1006 ?_
  refine V_iconst a_L_law_1008 ?_
  refine V_iadd a_L_law_1009 ?_
  refine V_sld a_L_law_1010 (by omega) (by omega) ?_
  refine V_aldn3 a_L_law_1011 ?_
  refine V_w4PR a_L_law_1012 c_L_226 (W_setPrice hc) (fun τ hτ => ?_)
  obtain ⟨n1, c1, j1⟩ := hτ
  have e1 : τ.I 96 0 = σ.I 96 0 := n1.I n96_o7
  have e2 : τ.sl = σ.sl := n1.1
  have m1 := hm τ n1 c1 (hM.out n1 c1.wf no_o7)
  refine V_ist6 a_L_law_1015 ?_
  refine V_aldn2 a_L_law_1017 ?_
  refine V_aldn0 a_L_law_1018 ?_
  refine V_ild5 a_L_law_1019 ?_
  refine V_iconst a_L_law_1021 ?_
  refine V_iadd a_L_law_1022 ?_
  refine V_sldE a_L_law_1023 (by omega) (by omega) (congrFun e1 _) ?_
  refine V_aldn0 a_L_law_1024 ?_
  refine V_ild5 a_L_law_1025 ?_
  refine V_iconst a_L_law_1027 ?_
  refine V_iadd a_L_law_1028 ?_
  refine V_sldE a_L_law_1029 (by omega) (by omega) (congrFun e1 _) ?_
  refine V_v2PR a_L_law_1030 c_L_228 m1 (fun ρ hρ => ?_)
  obtain ⟨n2, ⟨A', q9, m2⟩, e6⟩ := hρ
  have c2 : CIv D' ρ (A', s'.2) := (c1.out n2 m2.1.2.1 no_ml).eq9 q9
  have e3 : ρ.I 96 0 = σ.I 96 0 := (n2.I n96_ml).trans e1
  have e4 : ρ.sl = σ.sl := n2.1.trans e2
  have j2 : κ = 0 → ρ.J 70 0 0 = v.bmod (2 ^ 32) := fun z => by rw [n2.J n70_ml]; exact j1 z
  refine V_ist7 a_L_law_1033 ?_
  refine V_aldn2 a_L_law_1035 ?_
  refine V_v0R a_L_law_1036 c_L_183 (R_thrE e6) ?_
  refine V_ild6 a_L_law_1039 ?_
  refine V_icmp_eq_t a_L_law_1041 (by omega) (by omega) ?_
  refine V_ild6 a_L_law_1046 ?_
  refine V_if_ne a_L_law_1048 (by omega) (fun hc1048 => ?_) (fun hc1048 => ?_)
  · refine V_goto a_L_law_1063 ?_
    exact V_fg3 (kk ρ D' (A', s'.2) c2 m2 hp e4 e3)
  · refine V_aldn3 a_L_law_1051 ?_
    refine V_iconst a_L_law_1052 ?_
    refine V_laldE a_L_law_1053 rfl (by omega) (j2 (by omega)) ?_
    refine V_ild7 a_L_law_1054 ?_
    refine V_i2lM a_L_law_1056 ?_
    refine V_lcmpG a_L_law_1057 ?_
    rw [c64_self]
    refine V_if_eq_t a_L_law_1058 (by omega) (by omega) ?_
    refine V_goto a_L_law_1063 ?_
    exact V_fg3 (kk ρ D' (A', s'.2) c2 m2 hp e4 e3)
theorem LC_setRate {σ : Hp} {D i : Int} {s : Lsv} {b bs : Nat} {Q : Res → Hp → Prop} (hi : 0 ≤ i ∧ i + 5 < (σ.sl : Int)) (hs : σ.sl ≤ 3072) (hM : MIv D σ s) (hS : Lstp D σ s m_X10_setRate m_X11_setRate [xIOB, xIAE] [vI (σ.I 96 0 (i + 1)), vI (σ.I 96 0 (i + 2))] okI) (kk : Kq D σ s i b bs Q) : V m_L_law 17 (b + 61) (bs + 419) 1066 [some (vR (some (96, 0))), some (vR (some (10, 0))), some (vR (some (11, 0))), some (vR (some (70, 0))), some (vR (some (71, 0))), some (vI i), none, none, none] [] σ Q := by
  obtain ⟨κ, w, D', s', hk, ⟨v, rfl⟩, hp, hc, hm⟩ := hS
  refine V_aldn1 a_L_law_1066 ?_
  refine V_aldn0 a_L_law_1067 ?_
  refine V_ild5 a_L_law_1068 ?_
  refine V_iconst a_L_law_1070 ?_
  refine V_iadd a_L_law_1071 ?_
  refine V_sld a_L_law_1072 (by omega) (by omega) ?_
  refine V_aldn0 a_L_law_1073 ?_
  refine V_ild5 a_L_law_1074 ?_
  refine V_iconst a_L_law_1076 ?_
  refine V_iadd a_L_law_1077 ?_
  refine V_sld a_L_law_1078 (by omega) (by omega) ?_
  refine V_aldn3 a_L_law_1079 ?_
  refine V_w4PR a_L_law_1080 c_L_229 (W_setRate hc) (fun τ hτ => ?_)
  obtain ⟨n1, c1, j1⟩ := hτ
  have e1 : τ.I 96 0 = σ.I 96 0 := n1.I n96_o7
  have e2 : τ.sl = σ.sl := n1.1
  have m1 := hm τ n1 c1 (hM.out n1 c1.wf no_o7)
  refine V_ist6 a_L_law_1083 ?_
  refine V_aldn2 a_L_law_1085 ?_
  refine V_aldn0 a_L_law_1086 ?_
  refine V_ild5 a_L_law_1087 ?_
  refine V_iconst a_L_law_1089 ?_
  refine V_iadd a_L_law_1090 ?_
  refine V_sldE a_L_law_1091 (by omega) (by omega) (congrFun e1 _) ?_
  refine V_aldn0 a_L_law_1092 ?_
  refine V_ild5 a_L_law_1093 ?_
  refine V_iconst a_L_law_1095 ?_
  refine V_iadd a_L_law_1096 ?_
  refine V_sldE a_L_law_1097 (by omega) (by omega) (congrFun e1 _) ?_
  refine V_v2PR a_L_law_1098 c_L_231 m1 (fun ρ hρ => ?_)
  obtain ⟨n2, ⟨A', q9, m2⟩, e6⟩ := hρ
  have c2 : CIv D' ρ (A', s'.2) := (c1.out n2 m2.1.2.1 no_ml).eq9 q9
  have e3 : ρ.I 96 0 = σ.I 96 0 := (n2.I n96_ml).trans e1
  have e4 : ρ.sl = σ.sl := n2.1.trans e2
  have j2 : κ = 0 → ρ.J 70 0 0 = v.bmod (2 ^ 32) := fun z => by rw [n2.J n70_ml]; exact j1 z
  refine V_ist7 a_L_law_1101 ?_
  refine V_aldn2 a_L_law_1103 ?_
  refine V_v0R a_L_law_1104 c_L_183 (R_thrE e6) ?_
  refine V_ild6 a_L_law_1107 ?_
  refine V_icmp_eq_t a_L_law_1109 (by omega) (by omega) ?_
  refine V_ild6 a_L_law_1114 ?_
  refine V_if_ne a_L_law_1116 (by omega) (fun hc1116 => ?_) (fun hc1116 => ?_)
  · refine V_goto a_L_law_1131 ?_
    exact V_fg3 (kk ρ D' (A', s'.2) c2 m2 hp e4 e3)
  · refine V_aldn3 a_L_law_1119 ?_
    refine V_iconst a_L_law_1120 ?_
    refine V_laldE a_L_law_1121 rfl (by omega) (j2 (by omega)) ?_
    refine V_ild7 a_L_law_1122 ?_
    refine V_i2lM a_L_law_1124 ?_
    refine V_lcmpG a_L_law_1125 ?_
    rw [c64_self]
    refine V_if_eq_t a_L_law_1126 (by omega) (by omega) ?_
    refine V_goto a_L_law_1131 ?_
    exact V_fg3 (kk ρ D' (A', s'.2) c2 m2 hp e4 e3)
theorem LC_setLimit {σ : Hp} {D i : Int} {s : Lsv} {b bs : Nat} {Q : Res → Hp → Prop} (hi : 0 ≤ i ∧ i + 5 < (σ.sl : Int)) (hs : σ.sl ≤ 3072) (hM : MIv D σ s) (hS : Lstp D σ s m_X10_setLimit m_X11_setLimit [xIOB, xIAE] [vI (σ.I 96 0 (i + 1)), vI (σ.I 96 0 (i + 2))] okI) (kk : Kq D σ s i b bs Q) : V m_L_law 17 (b + 61) (bs + 419) 1134 [some (vR (some (96, 0))), some (vR (some (10, 0))), some (vR (some (11, 0))), some (vR (some (70, 0))), some (vR (some (71, 0))), some (vI i), none, none, none] [] σ Q := by
  obtain ⟨κ, w, D', s', hk, ⟨v, rfl⟩, hp, hc, hm⟩ := hS
  refine V_aldn1 a_L_law_1134 ?_
  refine V_aldn0 a_L_law_1135 ?_
  refine V_ild5 a_L_law_1136 ?_
  refine V_iconst a_L_law_1138 ?_
  refine V_iadd a_L_law_1139 ?_
  refine V_sld a_L_law_1140 (by omega) (by omega) ?_
  refine V_aldn0 a_L_law_1141 ?_
  refine V_ild5 a_L_law_1142 ?_
  refine V_iconst a_L_law_1144 ?_
  refine V_iadd a_L_law_1145 ?_
  refine V_sld a_L_law_1146 (by omega) (by omega) ?_
  refine V_aldn3 a_L_law_1147 ?_
  refine V_w4PR a_L_law_1148 c_L_232 (W_setLimit hc) (fun τ hτ => ?_)
  obtain ⟨n1, c1, j1⟩ := hτ
  have e1 : τ.I 96 0 = σ.I 96 0 := n1.I n96_o7
  have e2 : τ.sl = σ.sl := n1.1
  have m1 := hm τ n1 c1 (hM.out n1 c1.wf no_o7)
  refine V_ist6 a_L_law_1151 ?_
  refine V_aldn2 a_L_law_1153 ?_
  refine V_aldn0 a_L_law_1154 ?_
  refine V_ild5 a_L_law_1155 ?_
  refine V_iconst a_L_law_1157 ?_
  refine V_iadd a_L_law_1158 ?_
  refine V_sldE a_L_law_1159 (by omega) (by omega) (congrFun e1 _) ?_
  refine V_aldn0 a_L_law_1160 ?_
  refine V_ild5 a_L_law_1161 ?_
  refine V_iconst a_L_law_1163 ?_
  refine V_iadd a_L_law_1164 ?_
  refine V_sldE a_L_law_1165 (by omega) (by omega) (congrFun e1 _) ?_
  refine V_v2PR a_L_law_1166 c_L_234 m1 (fun ρ hρ => ?_)
  obtain ⟨n2, ⟨A', q9, m2⟩, e6⟩ := hρ
  have c2 : CIv D' ρ (A', s'.2) := (c1.out n2 m2.1.2.1 no_ml).eq9 q9
  have e3 : ρ.I 96 0 = σ.I 96 0 := (n2.I n96_ml).trans e1
  have e4 : ρ.sl = σ.sl := n2.1.trans e2
  have j2 : κ = 0 → ρ.J 70 0 0 = v.bmod (2 ^ 32) := fun z => by rw [n2.J n70_ml]; exact j1 z
  refine V_ist7 a_L_law_1169 ?_
  refine V_aldn2 a_L_law_1171 ?_
  refine V_v0R a_L_law_1172 c_L_183 (R_thrE e6) ?_
  refine V_ild6 a_L_law_1175 ?_
  refine V_icmp_eq_t a_L_law_1177 (by omega) (by omega) ?_
  refine V_ild6 a_L_law_1182 ?_
  refine V_if_ne a_L_law_1184 (by omega) (fun hc1184 => ?_) (fun hc1184 => ?_)
  · refine V_goto a_L_law_1199 ?_
    exact V_fg3 (kk ρ D' (A', s'.2) c2 m2 hp e4 e3)
  · refine V_aldn3 a_L_law_1187 ?_
    refine V_iconst a_L_law_1188 ?_
    refine V_laldE a_L_law_1189 rfl (by omega) (j2 (by omega)) ?_
    refine V_ild7 a_L_law_1190 ?_
    refine V_i2lM a_L_law_1192 ?_
    refine V_lcmpG a_L_law_1193 ?_
    rw [c64_self]
    refine V_if_eq_t a_L_law_1194 (by omega) (by omega) ?_
    refine V_goto a_L_law_1199 ?_
    exact V_fg3 (kk ρ D' (A', s'.2) c2 m2 hp e4 e3)
theorem LC_setPolicy {σ : Hp} {D i : Int} {s : Lsv} {b bs : Nat} {Q : Res → Hp → Prop} (hi : 0 ≤ i ∧ i + 5 < (σ.sl : Int)) (hs : σ.sl ≤ 3072) (hM : MIv D σ s) (hS : Lstp D σ s m_X10_setPolicy m_X11_setPolicy [xIAE] [vI (σ.I 96 0 (i + 1))] okI) (kk : Kq D σ s i b bs Q) : V m_L_law 17 (b + 61) (bs + 419) 1202 [some (vR (some (96, 0))), some (vR (some (10, 0))), some (vR (some (11, 0))), some (vR (some (70, 0))), some (vR (some (71, 0))), some (vI i), none, none, none] [] σ Q := by
  obtain ⟨κ, w, D', s', hk, ⟨v, rfl⟩, hp, hc, hm⟩ := hS
  refine V_aldn1 a_L_law_1202 ?_
  refine V_aldn0 a_L_law_1203 ?_
  refine V_ild5 a_L_law_1204 ?_
  refine V_iconst a_L_law_1206 ?_
  refine V_iadd a_L_law_1207 ?_
  refine V_sld a_L_law_1208 (by omega) (by omega) ?_
  refine V_aldn3 a_L_law_1209 ?_
  refine V_w3PR a_L_law_1210 c_L_235 (W_setPolicy hc) (fun τ hτ => ?_)
  obtain ⟨n1, c1, j1⟩ := hτ
  have e1 : τ.I 96 0 = σ.I 96 0 := n1.I n96_o7
  have e2 : τ.sl = σ.sl := n1.1
  have m1 := hm τ n1 c1 (hM.out n1 c1.wf no_o7)
  refine V_ist6 a_L_law_1213 ?_
  refine V_aldn2 a_L_law_1215 ?_
  refine V_aldn0 a_L_law_1216 ?_
  refine V_ild5 a_L_law_1217 ?_
  refine V_iconst a_L_law_1219 ?_
  refine V_iadd a_L_law_1220 ?_
  refine V_sldE a_L_law_1221 (by omega) (by omega) (congrFun e1 _) ?_
  refine V_v1PR a_L_law_1222 c_L_237 m1 (fun ρ hρ => ?_)
  obtain ⟨n2, ⟨A', q9, m2⟩, e6⟩ := hρ
  have c2 : CIv D' ρ (A', s'.2) := (c1.out n2 m2.1.2.1 no_ml).eq9 q9
  have e3 : ρ.I 96 0 = σ.I 96 0 := (n2.I n96_ml).trans e1
  have e4 : ρ.sl = σ.sl := n2.1.trans e2
  have j2 : κ = 0 → ρ.J 70 0 0 = v.bmod (2 ^ 32) := fun z => by rw [n2.J n70_ml]; exact j1 z
  refine V_ist7 a_L_law_1225 ?_
  refine V_aldn2 a_L_law_1227 ?_
  refine V_v0R a_L_law_1228 c_L_183 (R_thrE e6) ?_
  refine V_ild6 a_L_law_1231 ?_
  refine V_icmp_eq_t a_L_law_1233 (by omega) (by omega) ?_
  refine V_ild6 a_L_law_1238 ?_
  refine V_if_ne a_L_law_1240 (by omega) (fun hc1240 => ?_) (fun hc1240 => ?_)
  · refine V_goto a_L_law_1255 ?_
    exact V_fg3 (kk ρ D' (A', s'.2) c2 m2 hp e4 e3)
  · refine V_aldn3 a_L_law_1243 ?_
    refine V_iconst a_L_law_1244 ?_
    refine V_laldE a_L_law_1245 rfl (by omega) (j2 (by omega)) ?_
    refine V_ild7 a_L_law_1246 ?_
    refine V_i2lM a_L_law_1248 ?_
    refine V_lcmpG a_L_law_1249 ?_
    rw [c64_self]
    refine V_if_eq_t a_L_law_1250 (by omega) (by omega) ?_
    refine V_goto a_L_law_1255 ?_
    exact V_fg3 (kk ρ D' (A', s'.2) c2 m2 hp e4 e3)
theorem LC_runOrders {σ : Hp} {D i : Int} {s : Lsv} {b bs : Nat} {Q : Res → Hp → Prop} (hi : 0 ≤ i ∧ i + 5 < (σ.sl : Int)) (hs : σ.sl ≤ 3072) (hM : MIv D σ s) (hS : Lstp D σ s m_X10_runOrders m_X11_runOrders [] [] okI) (kk : Kq D σ s i b bs Q) : V m_L_law 17 (b + 61) (bs + 419) 1258 [some (vR (some (96, 0))), some (vR (some (10, 0))), some (vR (some (11, 0))), some (vR (some (70, 0))), some (vR (some (71, 0))), some (vI i), none, none, none] [] σ Q := by
  obtain ⟨κ, w, D', s', hk, ⟨v, rfl⟩, hp, hc, hm⟩ := hS
  refine V_aldn1 a_L_law_1258 ?_
  refine V_v0PR a_L_law_1259 c_L_238 hc.cv (fun τ hτ => ?_)
  obtain ⟨n0, c1⟩ := hτ
  have n1 : Nw o7S σ τ := n0.sub (fun t n z => Or.inl z)
  have e1 : τ.I 96 0 = σ.I 96 0 := n1.I n96_o7
  have e2 : τ.sl = σ.sl := n1.1
  have m1 := hm τ n1 c1 (hM.out n1 c1.wf no_o7)
  refine V_aldn2 a_L_law_1262 ?_
  refine V_v0PR a_L_law_1263 c_L_241 m1 (fun ρ hρ => ?_)
  obtain ⟨n2, ⟨A', q9, m2⟩, e6⟩ := hρ
  have c2 : CIv D' ρ (A', s'.2) := (c1.out n2 m2.1.2.1 no_ml).eq9 q9
  have e3 : ρ.I 96 0 = σ.I 96 0 := (n2.I n96_ml).trans e1
  have e4 : ρ.sl = σ.sl := n2.1.trans e2
  exact V_icS a_L_law_1266 (kk ρ D' (A', s'.2) c2 m2 hp e4 e3)
theorem LC_count {σ : Hp} {D i : Int} {s : Lsv} {b bs : Nat} {Q : Res → Hp → Prop} (hi : 0 ≤ i ∧ i + 5 < (σ.sl : Int)) (hs : σ.sl ≤ 3072) (hM : MIv D σ s) (hS : Lstp D σ s m_X10_count m_X11_count [xIAE] [vI (σ.I 96 0 (i + 1))] okI) (kk : Kq D σ s i b bs Q) : V m_L_law 17 (b + 61) (bs + 419) 1271 [some (vR (some (96, 0))), some (vR (some (10, 0))), some (vR (some (11, 0))), some (vR (some (70, 0))), some (vR (some (71, 0))), some (vI i), none, none, none] [] σ Q := by
  obtain ⟨κ, w, D', s', hk, ⟨v, rfl⟩, hp, hc, hm⟩ := hS
  refine V_aldn1 a_L_law_1271 ?_
  refine V_aldn0 a_L_law_1272 ?_
  refine V_ild5 a_L_law_1273 ?_
  refine V_iconst a_L_law_1275 ?_
  refine V_iadd a_L_law_1276 ?_
  refine V_sld a_L_law_1277 (by omega) (by omega) ?_
  refine V_aldn3 a_L_law_1278 ?_
  refine V_w3PR a_L_law_1279 c_L_242 (W_count hc) (fun τ hτ => ?_)
  obtain ⟨n1, c1, j1⟩ := hτ
  have e1 : τ.I 96 0 = σ.I 96 0 := n1.I n96_o7
  have e2 : τ.sl = σ.sl := n1.1
  have m1 := hm τ n1 c1 (hM.out n1 c1.wf no_o7)
  refine V_ist6 a_L_law_1282 ?_
  refine V_aldn2 a_L_law_1284 ?_
  refine V_aldn0 a_L_law_1285 ?_
  refine V_ild5 a_L_law_1286 ?_
  refine V_iconst a_L_law_1288 ?_
  refine V_iadd a_L_law_1289 ?_
  refine V_sldE a_L_law_1290 (by omega) (by omega) (congrFun e1 _) ?_
  refine V_v1PR a_L_law_1291 c_L_244 m1 (fun ρ hρ => ?_)
  obtain ⟨n2, ⟨A', q9, m2⟩, e6⟩ := hρ
  have c2 : CIv D' ρ (A', s'.2) := (c1.out n2 m2.1.2.1 no_ml).eq9 q9
  have e3 : ρ.I 96 0 = σ.I 96 0 := (n2.I n96_ml).trans e1
  have e4 : ρ.sl = σ.sl := n2.1.trans e2
  have j2 : κ = 0 → ρ.J 70 0 0 = v.bmod (2 ^ 32) := fun z => by rw [n2.J n70_ml]; exact j1 z
  refine V_ist7 a_L_law_1294 ?_
  refine V_aldn2 a_L_law_1296 ?_
  refine V_v0R a_L_law_1297 c_L_183 (R_thrE e6) ?_
  refine V_ild6 a_L_law_1300 ?_
  refine V_icmp_eq_t a_L_law_1302 (by omega) (by omega) ?_
  refine V_ild6 a_L_law_1307 ?_
  refine V_if_ne a_L_law_1309 (by omega) (fun hc1309 => ?_) (fun hc1309 => ?_)
  · refine V_goto a_L_law_1324 ?_
    exact V_fg3 (kk ρ D' (A', s'.2) c2 m2 hp e4 e3)
  · refine V_aldn3 a_L_law_1312 ?_
    refine V_iconst a_L_law_1313 ?_
    refine V_laldE a_L_law_1314 rfl (by omega) (j2 (by omega)) ?_
    refine V_ild7 a_L_law_1315 ?_
    refine V_i2lM a_L_law_1317 ?_
    refine V_lcmpG a_L_law_1318 ?_
    rw [c64_self]
    refine V_if_eq_t a_L_law_1319 (by omega) (by omega) ?_
    refine V_goto a_L_law_1324 ?_
    exact V_fg3 (kk ρ D' (A', s'.2) c2 m2 hp e4 e3)

