set_option maxHeartbeats 1000000 in
set_option maxRecDepth 100000 in
theorem lw_op4 {X : Xt} {Y : Yt} {b N : Nat} {xs : Nat → Int32} (C : Cx X Y cL_law 4 RL) (D : LwX X Y b N xs) {S : Mm} {mc : Nat} {lc : Nat → Nat} (h : RR S S mc lc) {k cells slots : Nat} (hk : 7 * k + 7 ≤ N) (hc : cells + 13 ≤ 600000) (hs : slots + 838 ≤ 7302250) (K : ∀ S' mc' lc', RR S' S' mc' lc' → G X Y (cells + 13) (slots + 838) S' 1168 (lwL k) []) : G X Y cells slots S 324 (lwL k) [] := by
  obtain ⟨v, S1, S2, mcx, msx, frx, mc1, lc1, hm, hms, hf, hl, x, m, hr⟩ := o_tube X.2.1 Y.1 Y.2.1 Y.2.2.1 h (xs (7 * k + 1)) (xs (7 * k + 2)) (xs (7 * k + 3))
  refine g_aload_n (pc := 324) C dL_law_324 rfl ?_
  refine g_aload_n (pc := 325) C dL_law_325 rfl ?_
  refine g_iload_n (pc := 326) C dL_law_326 rfl ?_
  refine g_iconst (pc := 327) C 1 dL_law_327 (by decide) ?_
  refine g_iadd (pc := 328) C dL_law_328 ?_
  refine g_eqi (nI (7 * k + 1)) (nI_add (7 * k) 1) ?_
  refine g_sldN (pc := 329) C D (i := 7 * k + 1) (by omega) dL_law_329 ?_
  refine g_aload_n (pc := 330) C dL_law_330 rfl ?_
  refine g_iload_n (pc := 331) C dL_law_331 rfl ?_
  refine g_iconst (pc := 332) C 2 dL_law_332 (by decide) ?_
  refine g_iadd (pc := 333) C dL_law_333 ?_
  refine g_eqi (nI (7 * k + 2)) (nI_add (7 * k) 2) ?_
  refine g_sldN (pc := 334) C D (i := 7 * k + 2) (by omega) dL_law_334 ?_
  refine g_aload_n (pc := 335) C dL_law_335 rfl ?_
  refine g_iload_n (pc := 336) C dL_law_336 rfl ?_
  refine g_iconst (pc := 337) C 3 dL_law_337 (by decide) ?_
  refine g_iadd (pc := 338) C dL_law_338 ?_
  refine g_eqi (nI (7 * k + 3)) (nI_add (7 * k) 3) ?_
  refine g_sldN (pc := 339) C D (i := 7 * k + 3) (by omega) dL_law_339 ?_
  refine g_callVf (pc := 340) (st := []) C mL_33 x rfl rfl rfl rfl (h.ix.1.1 0 (by decide)) (by rw [D.1]; decide) (by rw [D.1]; show cells + mcx ≤ 600000 ∧ slots + msx ≤ 7302250; omega) (by decide) dL_law_340 (fun q hq => by rw [D.2.1]; exact decide_eq_true (by rcases hf q hq with z | z <;> omega)) (lw_okL hf k) rfl (fun rr SS hP => ?_)
  obtain ⟨rfl, rfl⟩ := hP
  refine g_aload_n (pc := 343) C dL_law_343 rfl ?_
  refine g_aload_n (pc := 344) C dL_law_344 rfl ?_
  refine g_iload_n (pc := 345) C dL_law_345 rfl ?_
  refine g_iconst (pc := 346) C 1 dL_law_346 (by decide) ?_
  refine g_iadd (pc := 347) C dL_law_347 ?_
  refine g_eqi (nI (7 * k + 1)) (nI_add (7 * k) 1) ?_
  refine g_sldN (pc := 348) C D (i := 7 * k + 1) (by omega) dL_law_348 ?_
  refine g_aload_n (pc := 349) C dL_law_349 rfl ?_
  refine g_iload_n (pc := 350) C dL_law_350 rfl ?_
  refine g_iconst (pc := 351) C 2 dL_law_351 (by decide) ?_
  refine g_iadd (pc := 352) C dL_law_352 ?_
  refine g_eqi (nI (7 * k + 2)) (nI_add (7 * k) 2) ?_
  refine g_sldN (pc := 353) C D (i := 7 * k + 2) (by omega) dL_law_353 ?_
  refine g_aload_n (pc := 354) C dL_law_354 rfl ?_
  refine g_iload_n (pc := 355) C dL_law_355 rfl ?_
  refine g_iconst (pc := 356) C 3 dL_law_356 (by decide) ?_
  refine g_iadd (pc := 357) C dL_law_357 ?_
  refine g_eqi (nI (7 * k + 3)) (nI_add (7 * k) 3) ?_
  refine g_sldN (pc := 358) C D (i := 7 * k + 3) (by omega) dL_law_358 ?_
  refine g_callVf (pc := 359) (st := [vi v]) C mL_36 m rfl rfl rfl rfl hl (by rw [D.1]; decide) (by rw [D.1]; show cells + mcx + 0 ≤ 600000 ∧ slots + msx + 0 ≤ 7302250; omega) (Nat.le_of_ble_eq_true rfl) dL_law_359 (fun _ z => by cases z) (no_allL _) (no_all _) (fun rr SS hP => ?_)
  obtain ⟨rfl, rfl⟩ := hP
  refine g_icmp_eq (pc := 362) C 1168 dL_law_362 (by decide) (fun _ => ?_) (fun q => absurd rfl q)
  exact g_widen (by omega) (by omega) (K _ _ _ hr)
set_option maxHeartbeats 1000000 in
set_option maxRecDepth 100000 in
theorem lw_op5 {X : Xt} {Y : Yt} {b N : Nat} {xs : Nat → Int32} (C : Cx X Y cL_law 4 RL) (D : LwX X Y b N xs) {S : Mm} {mc : Nat} {lc : Nat → Nat} (h : RR S S mc lc) {k cells slots : Nat} (hk : 7 * k + 7 ≤ N) (hc : cells + 13 ≤ 600000) (hs : slots + 838 ≤ 7302250) (K : ∀ S' mc' lc', RR S' S' mc' lc' → G X Y (cells + 13) (slots + 838) S' 1168 (lwL k) []) : G X Y cells slots S 367 (lwL k) [] := by
  obtain ⟨v, S1, S2, mcx, msx, frx, mc1, lc1, hm, hms, hf, hl, x, m, hr⟩ := o_stick X.2.1 Y.1 Y.2.1 Y.2.2.1 h (xs (7 * k + 1)) (xs (7 * k + 2)) (xs (7 * k + 3))
  refine g_aload_n (pc := 367) C dL_law_367 rfl ?_
  refine g_aload_n (pc := 368) C dL_law_368 rfl ?_
  refine g_iload_n (pc := 369) C dL_law_369 rfl ?_
  refine g_iconst (pc := 370) C 1 dL_law_370 (by decide) ?_
  refine g_iadd (pc := 371) C dL_law_371 ?_
  refine g_eqi (nI (7 * k + 1)) (nI_add (7 * k) 1) ?_
  refine g_sldN (pc := 372) C D (i := 7 * k + 1) (by omega) dL_law_372 ?_
  refine g_aload_n (pc := 373) C dL_law_373 rfl ?_
  refine g_iload_n (pc := 374) C dL_law_374 rfl ?_
  refine g_iconst (pc := 375) C 2 dL_law_375 (by decide) ?_
  refine g_iadd (pc := 376) C dL_law_376 ?_
  refine g_eqi (nI (7 * k + 2)) (nI_add (7 * k) 2) ?_
  refine g_sldN (pc := 377) C D (i := 7 * k + 2) (by omega) dL_law_377 ?_
  refine g_aload_n (pc := 378) C dL_law_378 rfl ?_
  refine g_iload_n (pc := 379) C dL_law_379 rfl ?_
  refine g_iconst (pc := 380) C 3 dL_law_380 (by decide) ?_
  refine g_iadd (pc := 381) C dL_law_381 ?_
  refine g_eqi (nI (7 * k + 3)) (nI_add (7 * k) 3) ?_
  refine g_sldN (pc := 382) C D (i := 7 * k + 3) (by omega) dL_law_382 ?_
  refine g_callVf (pc := 383) (st := []) C mL_37 x rfl rfl rfl rfl (h.ix.1.1 0 (by decide)) (by rw [D.1]; decide) (by rw [D.1]; show cells + mcx ≤ 600000 ∧ slots + msx ≤ 7302250; omega) (by decide) dL_law_383 (fun q hq => by rw [D.2.1]; exact decide_eq_true (by rcases hf q hq with z | z <;> omega)) (lw_okL hf k) rfl (fun rr SS hP => ?_)
  obtain ⟨rfl, rfl⟩ := hP
  refine g_aload_n (pc := 386) C dL_law_386 rfl ?_
  refine g_aload_n (pc := 387) C dL_law_387 rfl ?_
  refine g_iload_n (pc := 388) C dL_law_388 rfl ?_
  refine g_iconst (pc := 389) C 1 dL_law_389 (by decide) ?_
  refine g_iadd (pc := 390) C dL_law_390 ?_
  refine g_eqi (nI (7 * k + 1)) (nI_add (7 * k) 1) ?_
  refine g_sldN (pc := 391) C D (i := 7 * k + 1) (by omega) dL_law_391 ?_
  refine g_aload_n (pc := 392) C dL_law_392 rfl ?_
  refine g_iload_n (pc := 393) C dL_law_393 rfl ?_
  refine g_iconst (pc := 394) C 2 dL_law_394 (by decide) ?_
  refine g_iadd (pc := 395) C dL_law_395 ?_
  refine g_eqi (nI (7 * k + 2)) (nI_add (7 * k) 2) ?_
  refine g_sldN (pc := 396) C D (i := 7 * k + 2) (by omega) dL_law_396 ?_
  refine g_aload_n (pc := 397) C dL_law_397 rfl ?_
  refine g_iload_n (pc := 398) C dL_law_398 rfl ?_
  refine g_iconst (pc := 399) C 3 dL_law_399 (by decide) ?_
  refine g_iadd (pc := 400) C dL_law_400 ?_
  refine g_eqi (nI (7 * k + 3)) (nI_add (7 * k) 3) ?_
  refine g_sldN (pc := 401) C D (i := 7 * k + 3) (by omega) dL_law_401 ?_
  refine g_callVf (pc := 402) (st := [vi v]) C mL_40 m rfl rfl rfl rfl hl (by rw [D.1]; decide) (by rw [D.1]; show cells + mcx + 0 ≤ 600000 ∧ slots + msx + 0 ≤ 7302250; omega) (Nat.le_of_ble_eq_true rfl) dL_law_402 (fun _ z => by cases z) (no_allL _) (no_all _) (fun rr SS hP => ?_)
  obtain ⟨rfl, rfl⟩ := hP
  refine g_icmp_eq (pc := 405) C 1168 dL_law_405 (by decide) (fun _ => ?_) (fun q => absurd rfl q)
  exact g_widen (by omega) (by omega) (K _ _ _ hr)
set_option maxHeartbeats 1000000 in
set_option maxRecDepth 100000 in
theorem lw_op6 {X : Xt} {Y : Yt} {b N : Nat} {xs : Nat → Int32} (C : Cx X Y cL_law 4 RL) (D : LwX X Y b N xs) {S : Mm} {mc : Nat} {lc : Nat → Nat} (h : RR S S mc lc) {k cells slots : Nat} (hk : 7 * k + 7 ≤ N) (hc : cells + 13 ≤ 600000) (hs : slots + 838 ≤ 7302250) (K : ∀ S' mc' lc', RR S' S' mc' lc' → G X Y (cells + 13) (slots + 838) S' 1168 (lwL k) []) : G X Y cells slots S 410 (lwL k) [] := by
  by_cases hz : xs (7 * k + 3) = 0
  ·
    obtain ⟨v, S1, S2, mcx, msx, frx, mc1, lc1, hm, hms, hf, hl, x, m, hr⟩ := o_shut X.2.1 Y.1 Y.2.1 Y.2.2.1 h (xs (7 * k + 1)) (xs (7 * k + 2)) 0 (Or.inl rfl)
    refine g_aload_n (pc := 410) C dL_law_410 rfl ?_
    refine g_aload_n (pc := 411) C dL_law_411 rfl ?_
    refine g_iload_n (pc := 412) C dL_law_412 rfl ?_
    refine g_iconst (pc := 413) C 1 dL_law_413 (by decide) ?_
    refine g_iadd (pc := 414) C dL_law_414 ?_
    refine g_eqi (nI (7 * k + 1)) (nI_add (7 * k) 1) ?_
    refine g_sldN (pc := 415) C D (i := 7 * k + 1) (by omega) dL_law_415 ?_
    refine g_aload_n (pc := 416) C dL_law_416 rfl ?_
    refine g_iload_n (pc := 417) C dL_law_417 rfl ?_
    refine g_iconst (pc := 418) C 2 dL_law_418 (by decide) ?_
    refine g_iadd (pc := 419) C dL_law_419 ?_
    refine g_eqi (nI (7 * k + 2)) (nI_add (7 * k) 2) ?_
    refine g_sldN (pc := 420) C D (i := 7 * k + 2) (by omega) dL_law_420 ?_
    refine g_aload_n (pc := 421) C dL_law_421 rfl ?_
    refine g_iload_n (pc := 422) C dL_law_422 rfl ?_
    refine g_iconst (pc := 423) C 3 dL_law_423 (by decide) ?_
    refine g_iadd (pc := 424) C dL_law_424 ?_
    refine g_eqi (nI (7 * k + 3)) (nI_add (7 * k) 3) ?_
    refine g_sldN (pc := 425) C D (i := 7 * k + 3) (by omega) dL_law_425 ?_
    refine g_if_eq (pc := 426) C 433 dL_law_426 (by decide) (fun _ => ?_) (fun q => absurd hz q)
    refine g_iconst (pc := 433) C 0 dL_law_433 (by decide) ?_
    refine g_callVf (pc := 434) (st := []) C mL_41 x rfl rfl rfl rfl (h.ix.1.1 0 (by decide)) (by rw [D.1]; decide) (by rw [D.1]; show cells + mcx ≤ 600000 ∧ slots + msx ≤ 7302250; omega) (by decide) dL_law_434 (fun q hq => by rw [D.2.1]; exact decide_eq_true (by rcases hf q hq with z | z <;> omega)) (lw_okL hf k) rfl (fun rr SS hP => ?_)
    obtain ⟨rfl, rfl⟩ := hP
    refine g_aload_n (pc := 437) C dL_law_437 rfl ?_
    refine g_aload_n (pc := 438) C dL_law_438 rfl ?_
    refine g_iload_n (pc := 439) C dL_law_439 rfl ?_
    refine g_iconst (pc := 440) C 1 dL_law_440 (by decide) ?_
    refine g_iadd (pc := 441) C dL_law_441 ?_
    refine g_eqi (nI (7 * k + 1)) (nI_add (7 * k) 1) ?_
    refine g_sldN (pc := 442) C D (i := 7 * k + 1) (by omega) dL_law_442 ?_
    refine g_aload_n (pc := 443) C dL_law_443 rfl ?_
    refine g_iload_n (pc := 444) C dL_law_444 rfl ?_
    refine g_iconst (pc := 445) C 2 dL_law_445 (by decide) ?_
    refine g_iadd (pc := 446) C dL_law_446 ?_
    refine g_eqi (nI (7 * k + 2)) (nI_add (7 * k) 2) ?_
    refine g_sldN (pc := 447) C D (i := 7 * k + 2) (by omega) dL_law_447 ?_
    refine g_aload_n (pc := 448) C dL_law_448 rfl ?_
    refine g_iload_n (pc := 449) C dL_law_449 rfl ?_
    refine g_iconst (pc := 450) C 3 dL_law_450 (by decide) ?_
    refine g_iadd (pc := 451) C dL_law_451 ?_
    refine g_eqi (nI (7 * k + 3)) (nI_add (7 * k) 3) ?_
    refine g_sldN (pc := 452) C D (i := 7 * k + 3) (by omega) dL_law_452 ?_
    refine g_if_eq (pc := 453) C 460 dL_law_453 (by decide) (fun _ => ?_) (fun q => absurd hz q)
    refine g_iconst (pc := 460) C 0 dL_law_460 (by decide) ?_
    refine g_callVf (pc := 461) (st := [vi v]) C mL_45 m rfl rfl rfl rfl hl (by rw [D.1]; decide) (by rw [D.1]; show cells + mcx + 0 ≤ 600000 ∧ slots + msx + 0 ≤ 7302250; omega) (Nat.le_of_ble_eq_true rfl) dL_law_461 (fun _ z => by cases z) (no_allL _) (no_all _) (fun rr SS hP => ?_)
    obtain ⟨rfl, rfl⟩ := hP
    refine g_icmp_eq (pc := 464) C 1168 dL_law_464 (by decide) (fun _ => ?_) (fun q => absurd rfl q)
    exact g_widen (by omega) (by omega) (K _ _ _ hr)
  ·
    obtain ⟨v, S1, S2, mcx, msx, frx, mc1, lc1, hm, hms, hf, hl, x, m, hr⟩ := o_shut X.2.1 Y.1 Y.2.1 Y.2.2.1 h (xs (7 * k + 1)) (xs (7 * k + 2)) 1 (Or.inr rfl)
    refine g_aload_n (pc := 410) C dL_law_410 rfl ?_
    refine g_aload_n (pc := 411) C dL_law_411 rfl ?_
    refine g_iload_n (pc := 412) C dL_law_412 rfl ?_
    refine g_iconst (pc := 413) C 1 dL_law_413 (by decide) ?_
    refine g_iadd (pc := 414) C dL_law_414 ?_
    refine g_eqi (nI (7 * k + 1)) (nI_add (7 * k) 1) ?_
    refine g_sldN (pc := 415) C D (i := 7 * k + 1) (by omega) dL_law_415 ?_
    refine g_aload_n (pc := 416) C dL_law_416 rfl ?_
    refine g_iload_n (pc := 417) C dL_law_417 rfl ?_
    refine g_iconst (pc := 418) C 2 dL_law_418 (by decide) ?_
    refine g_iadd (pc := 419) C dL_law_419 ?_
    refine g_eqi (nI (7 * k + 2)) (nI_add (7 * k) 2) ?_
    refine g_sldN (pc := 420) C D (i := 7 * k + 2) (by omega) dL_law_420 ?_
    refine g_aload_n (pc := 421) C dL_law_421 rfl ?_
    refine g_iload_n (pc := 422) C dL_law_422 rfl ?_
    refine g_iconst (pc := 423) C 3 dL_law_423 (by decide) ?_
    refine g_iadd (pc := 424) C dL_law_424 ?_
    refine g_eqi (nI (7 * k + 3)) (nI_add (7 * k) 3) ?_
    refine g_sldN (pc := 425) C D (i := 7 * k + 3) (by omega) dL_law_425 ?_
    refine g_if_eq (pc := 426) C 433 dL_law_426 (by decide) (fun q => absurd q hz) (fun _ => ?_)
    refine g_iconst (pc := 429) C 1 dL_law_429 (by decide) ?_
    refine g_goto (pc := 430) C 434 dL_law_430 (by decide) ?_
    refine g_callVf (pc := 434) (st := []) C mL_41 x rfl rfl rfl rfl (h.ix.1.1 0 (by decide)) (by rw [D.1]; decide) (by rw [D.1]; show cells + mcx ≤ 600000 ∧ slots + msx ≤ 7302250; omega) (by decide) dL_law_434 (fun q hq => by rw [D.2.1]; exact decide_eq_true (by rcases hf q hq with z | z <;> omega)) (lw_okL hf k) rfl (fun rr SS hP => ?_)
    obtain ⟨rfl, rfl⟩ := hP
    refine g_aload_n (pc := 437) C dL_law_437 rfl ?_
    refine g_aload_n (pc := 438) C dL_law_438 rfl ?_
    refine g_iload_n (pc := 439) C dL_law_439 rfl ?_
    refine g_iconst (pc := 440) C 1 dL_law_440 (by decide) ?_
    refine g_iadd (pc := 441) C dL_law_441 ?_
    refine g_eqi (nI (7 * k + 1)) (nI_add (7 * k) 1) ?_
    refine g_sldN (pc := 442) C D (i := 7 * k + 1) (by omega) dL_law_442 ?_
    refine g_aload_n (pc := 443) C dL_law_443 rfl ?_
    refine g_iload_n (pc := 444) C dL_law_444 rfl ?_
    refine g_iconst (pc := 445) C 2 dL_law_445 (by decide) ?_
    refine g_iadd (pc := 446) C dL_law_446 ?_
    refine g_eqi (nI (7 * k + 2)) (nI_add (7 * k) 2) ?_
    refine g_sldN (pc := 447) C D (i := 7 * k + 2) (by omega) dL_law_447 ?_
    refine g_aload_n (pc := 448) C dL_law_448 rfl ?_
    refine g_iload_n (pc := 449) C dL_law_449 rfl ?_
    refine g_iconst (pc := 450) C 3 dL_law_450 (by decide) ?_
    refine g_iadd (pc := 451) C dL_law_451 ?_
    refine g_eqi (nI (7 * k + 3)) (nI_add (7 * k) 3) ?_
    refine g_sldN (pc := 452) C D (i := 7 * k + 3) (by omega) dL_law_452 ?_
    refine g_if_eq (pc := 453) C 460 dL_law_453 (by decide) (fun q => absurd q hz) (fun _ => ?_)
    refine g_iconst (pc := 456) C 1 dL_law_456 (by decide) ?_
    refine g_goto (pc := 457) C 461 dL_law_457 (by decide) ?_
    refine g_callVf (pc := 461) (st := [vi v]) C mL_45 m rfl rfl rfl rfl hl (by rw [D.1]; decide) (by rw [D.1]; show cells + mcx + 0 ≤ 600000 ∧ slots + msx + 0 ≤ 7302250; omega) (Nat.le_of_ble_eq_true rfl) dL_law_461 (fun _ z => by cases z) (no_allL _) (no_all _) (fun rr SS hP => ?_)
    obtain ⟨rfl, rfl⟩ := hP
    refine g_icmp_eq (pc := 464) C 1168 dL_law_464 (by decide) (fun _ => ?_) (fun q => absurd rfl q)
    exact g_widen (by omega) (by omega) (K _ _ _ hr)
set_option maxHeartbeats 1000000 in
set_option maxRecDepth 100000 in
theorem lw_op7 {X : Xt} {Y : Yt} {b N : Nat} {xs : Nat → Int32} (C : Cx X Y cL_law 4 RL) (D : LwX X Y b N xs) {S : Mm} {mc : Nat} {lc : Nat → Nat} (h : RR S S mc lc) {k cells slots : Nat} (hk : 7 * k + 7 ≤ N) (hc : cells + 13 ≤ 600000) (hs : slots + 838 ≤ 7302250) (K : ∀ S' mc' lc', RR S' S' mc' lc' → G X Y (cells + 13) (slots + 838) S' 1168 (lwL k) []) : G X Y cells slots S 469 (lwL k) [] := by
  by_cases hz : xs (7 * k + 2) = 0
  ·
    obtain ⟨v, S1, S2, mcx, msx, frx, mc1, lc1, hm, hms, hf, hl, x, m, hr⟩ := o_power X.2.1 Y.1 Y.2.1 Y.2.2.1 h (xs (7 * k + 1)) 0 (Or.inl rfl)
    refine g_aload_n (pc := 469) C dL_law_469 rfl ?_
    refine g_aload_n (pc := 470) C dL_law_470 rfl ?_
    refine g_iload_n (pc := 471) C dL_law_471 rfl ?_
    refine g_iconst (pc := 472) C 1 dL_law_472 (by decide) ?_
    refine g_iadd (pc := 473) C dL_law_473 ?_
    refine g_eqi (nI (7 * k + 1)) (nI_add (7 * k) 1) ?_
    refine g_sldN (pc := 474) C D (i := 7 * k + 1) (by omega) dL_law_474 ?_
    refine g_aload_n (pc := 475) C dL_law_475 rfl ?_
    refine g_iload_n (pc := 476) C dL_law_476 rfl ?_
    refine g_iconst (pc := 477) C 2 dL_law_477 (by decide) ?_
    refine g_iadd (pc := 478) C dL_law_478 ?_
    refine g_eqi (nI (7 * k + 2)) (nI_add (7 * k) 2) ?_
    refine g_sldN (pc := 479) C D (i := 7 * k + 2) (by omega) dL_law_479 ?_
    refine g_if_eq (pc := 480) C 487 dL_law_480 (by decide) (fun _ => ?_) (fun q => absurd hz q)
    refine g_iconst (pc := 487) C 0 dL_law_487 (by decide) ?_
    refine g_callVf (pc := 488) (st := []) C mL_46 x rfl rfl rfl rfl (h.ix.1.1 0 (by decide)) (by rw [D.1]; decide) (by rw [D.1]; show cells + mcx ≤ 600000 ∧ slots + msx ≤ 7302250; omega) (by decide) dL_law_488 (fun q hq => by rw [D.2.1]; exact decide_eq_true (by rcases hf q hq with z | z <;> omega)) (lw_okL hf k) rfl (fun rr SS hP => ?_)
    obtain ⟨rfl, rfl⟩ := hP
    refine g_aload_n (pc := 491) C dL_law_491 rfl ?_
    refine g_aload_n (pc := 492) C dL_law_492 rfl ?_
    refine g_iload_n (pc := 493) C dL_law_493 rfl ?_
    refine g_iconst (pc := 494) C 1 dL_law_494 (by decide) ?_
    refine g_iadd (pc := 495) C dL_law_495 ?_
    refine g_eqi (nI (7 * k + 1)) (nI_add (7 * k) 1) ?_
    refine g_sldN (pc := 496) C D (i := 7 * k + 1) (by omega) dL_law_496 ?_
    refine g_aload_n (pc := 497) C dL_law_497 rfl ?_
    refine g_iload_n (pc := 498) C dL_law_498 rfl ?_
    refine g_iconst (pc := 499) C 2 dL_law_499 (by decide) ?_
    refine g_iadd (pc := 500) C dL_law_500 ?_
    refine g_eqi (nI (7 * k + 2)) (nI_add (7 * k) 2) ?_
    refine g_sldN (pc := 501) C D (i := 7 * k + 2) (by omega) dL_law_501 ?_
    refine g_if_eq (pc := 502) C 509 dL_law_502 (by decide) (fun _ => ?_) (fun q => absurd hz q)
    refine g_iconst (pc := 509) C 0 dL_law_509 (by decide) ?_
    refine g_callVf (pc := 510) (st := [vi v]) C mL_50 m rfl rfl rfl rfl hl (by rw [D.1]; decide) (by rw [D.1]; show cells + mcx + 0 ≤ 600000 ∧ slots + msx + 0 ≤ 7302250; omega) (Nat.le_of_ble_eq_true rfl) dL_law_510 (fun _ z => by cases z) (no_allL _) (no_all _) (fun rr SS hP => ?_)
    obtain ⟨rfl, rfl⟩ := hP
    refine g_icmp_eq (pc := 513) C 1168 dL_law_513 (by decide) (fun _ => ?_) (fun q => absurd rfl q)
    exact g_widen (by omega) (by omega) (K _ _ _ hr)
  ·
    obtain ⟨v, S1, S2, mcx, msx, frx, mc1, lc1, hm, hms, hf, hl, x, m, hr⟩ := o_power X.2.1 Y.1 Y.2.1 Y.2.2.1 h (xs (7 * k + 1)) 1 (Or.inr rfl)
    refine g_aload_n (pc := 469) C dL_law_469 rfl ?_
    refine g_aload_n (pc := 470) C dL_law_470 rfl ?_
    refine g_iload_n (pc := 471) C dL_law_471 rfl ?_
    refine g_iconst (pc := 472) C 1 dL_law_472 (by decide) ?_
    refine g_iadd (pc := 473) C dL_law_473 ?_
    refine g_eqi (nI (7 * k + 1)) (nI_add (7 * k) 1) ?_
    refine g_sldN (pc := 474) C D (i := 7 * k + 1) (by omega) dL_law_474 ?_
    refine g_aload_n (pc := 475) C dL_law_475 rfl ?_
    refine g_iload_n (pc := 476) C dL_law_476 rfl ?_
    refine g_iconst (pc := 477) C 2 dL_law_477 (by decide) ?_
    refine g_iadd (pc := 478) C dL_law_478 ?_
    refine g_eqi (nI (7 * k + 2)) (nI_add (7 * k) 2) ?_
    refine g_sldN (pc := 479) C D (i := 7 * k + 2) (by omega) dL_law_479 ?_
    refine g_if_eq (pc := 480) C 487 dL_law_480 (by decide) (fun q => absurd q hz) (fun _ => ?_)
    refine g_iconst (pc := 483) C 1 dL_law_483 (by decide) ?_
    refine g_goto (pc := 484) C 488 dL_law_484 (by decide) ?_
    refine g_callVf (pc := 488) (st := []) C mL_46 x rfl rfl rfl rfl (h.ix.1.1 0 (by decide)) (by rw [D.1]; decide) (by rw [D.1]; show cells + mcx ≤ 600000 ∧ slots + msx ≤ 7302250; omega) (by decide) dL_law_488 (fun q hq => by rw [D.2.1]; exact decide_eq_true (by rcases hf q hq with z | z <;> omega)) (lw_okL hf k) rfl (fun rr SS hP => ?_)
    obtain ⟨rfl, rfl⟩ := hP
    refine g_aload_n (pc := 491) C dL_law_491 rfl ?_
    refine g_aload_n (pc := 492) C dL_law_492 rfl ?_
    refine g_iload_n (pc := 493) C dL_law_493 rfl ?_
    refine g_iconst (pc := 494) C 1 dL_law_494 (by decide) ?_
    refine g_iadd (pc := 495) C dL_law_495 ?_
    refine g_eqi (nI (7 * k + 1)) (nI_add (7 * k) 1) ?_
    refine g_sldN (pc := 496) C D (i := 7 * k + 1) (by omega) dL_law_496 ?_
    refine g_aload_n (pc := 497) C dL_law_497 rfl ?_
    refine g_iload_n (pc := 498) C dL_law_498 rfl ?_
    refine g_iconst (pc := 499) C 2 dL_law_499 (by decide) ?_
    refine g_iadd (pc := 500) C dL_law_500 ?_
    refine g_eqi (nI (7 * k + 2)) (nI_add (7 * k) 2) ?_
    refine g_sldN (pc := 501) C D (i := 7 * k + 2) (by omega) dL_law_501 ?_
    refine g_if_eq (pc := 502) C 509 dL_law_502 (by decide) (fun q => absurd q hz) (fun _ => ?_)
    refine g_iconst (pc := 505) C 1 dL_law_505 (by decide) ?_
    refine g_goto (pc := 506) C 510 dL_law_506 (by decide) ?_
    refine g_callVf (pc := 510) (st := [vi v]) C mL_50 m rfl rfl rfl rfl hl (by rw [D.1]; decide) (by rw [D.1]; show cells + mcx + 0 ≤ 600000 ∧ slots + msx + 0 ≤ 7302250; omega) (Nat.le_of_ble_eq_true rfl) dL_law_510 (fun _ z => by cases z) (no_allL _) (no_all _) (fun rr SS hP => ?_)
    obtain ⟨rfl, rfl⟩ := hP
    refine g_icmp_eq (pc := 513) C 1168 dL_law_513 (by decide) (fun _ => ?_) (fun q => absurd rfl q)
    exact g_widen (by omega) (by omega) (K _ _ _ hr)
set_option maxHeartbeats 1000000 in
set_option maxRecDepth 100000 in
theorem lw_op8 {X : Xt} {Y : Yt} {b N : Nat} {xs : Nat → Int32} (C : Cx X Y cL_law 4 RL) (D : LwX X Y b N xs) {S : Mm} {mc : Nat} {lc : Nat → Nat} (h : RR S S mc lc) {k cells slots : Nat} (hk : 7 * k + 7 ≤ N) (hc : cells + 13 ≤ 600000) (hs : slots + 838 ≤ 7302250) (K : ∀ S' mc' lc', RR S' S' mc' lc' → G X Y (cells + 13) (slots + 838) S' 1168 (lwL k) []) : G X Y cells slots S 518 (lwL k) [] := by
  obtain ⟨v, S1, S2, mcx, msx, frx, mc1, lc1, hm, hms, hf, hl, x, m, hr⟩ := o_fill X.2.1 Y.1 Y.2.1 Y.2.2.1 h (xs (7 * k + 1)) (xs (7 * k + 2)) (xs (7 * k + 3))
  refine g_aload_n (pc := 518) C dL_law_518 rfl ?_
  refine g_aload_n (pc := 519) C dL_law_519 rfl ?_
  refine g_iload_n (pc := 520) C dL_law_520 rfl ?_
  refine g_iconst (pc := 521) C 1 dL_law_521 (by decide) ?_
  refine g_iadd (pc := 522) C dL_law_522 ?_
  refine g_eqi (nI (7 * k + 1)) (nI_add (7 * k) 1) ?_
  refine g_sldN (pc := 523) C D (i := 7 * k + 1) (by omega) dL_law_523 ?_
  refine g_aload_n (pc := 524) C dL_law_524 rfl ?_
  refine g_iload_n (pc := 525) C dL_law_525 rfl ?_
  refine g_iconst (pc := 526) C 2 dL_law_526 (by decide) ?_
  refine g_iadd (pc := 527) C dL_law_527 ?_
  refine g_eqi (nI (7 * k + 2)) (nI_add (7 * k) 2) ?_
  refine g_sldN (pc := 528) C D (i := 7 * k + 2) (by omega) dL_law_528 ?_
  refine g_aload_n (pc := 529) C dL_law_529 rfl ?_
  refine g_iload_n (pc := 530) C dL_law_530 rfl ?_
  refine g_iconst (pc := 531) C 3 dL_law_531 (by decide) ?_
  refine g_iadd (pc := 532) C dL_law_532 ?_
  refine g_eqi (nI (7 * k + 3)) (nI_add (7 * k) 3) ?_
  refine g_sldN (pc := 533) C D (i := 7 * k + 3) (by omega) dL_law_533 ?_
  refine g_callVf (pc := 534) (st := []) C mL_51 x rfl rfl rfl rfl (h.ix.1.1 0 (by decide)) (by rw [D.1]; decide) (by rw [D.1]; show cells + mcx ≤ 600000 ∧ slots + msx ≤ 7302250; omega) (by decide) dL_law_534 (fun q hq => by rw [D.2.1]; exact decide_eq_true (by rcases hf q hq with z | z <;> omega)) (lw_okL hf k) rfl (fun rr SS hP => ?_)
  obtain ⟨rfl, rfl⟩ := hP
  refine g_aload_n (pc := 537) C dL_law_537 rfl ?_
  refine g_aload_n (pc := 538) C dL_law_538 rfl ?_
  refine g_iload_n (pc := 539) C dL_law_539 rfl ?_
  refine g_iconst (pc := 540) C 1 dL_law_540 (by decide) ?_
  refine g_iadd (pc := 541) C dL_law_541 ?_
  refine g_eqi (nI (7 * k + 1)) (nI_add (7 * k) 1) ?_
  refine g_sldN (pc := 542) C D (i := 7 * k + 1) (by omega) dL_law_542 ?_
  refine g_aload_n (pc := 543) C dL_law_543 rfl ?_
  refine g_iload_n (pc := 544) C dL_law_544 rfl ?_
  refine g_iconst (pc := 545) C 2 dL_law_545 (by decide) ?_
  refine g_iadd (pc := 546) C dL_law_546 ?_
  refine g_eqi (nI (7 * k + 2)) (nI_add (7 * k) 2) ?_
  refine g_sldN (pc := 547) C D (i := 7 * k + 2) (by omega) dL_law_547 ?_
  refine g_aload_n (pc := 548) C dL_law_548 rfl ?_
  refine g_iload_n (pc := 549) C dL_law_549 rfl ?_
  refine g_iconst (pc := 550) C 3 dL_law_550 (by decide) ?_
  refine g_iadd (pc := 551) C dL_law_551 ?_
  refine g_eqi (nI (7 * k + 3)) (nI_add (7 * k) 3) ?_
  refine g_sldN (pc := 552) C D (i := 7 * k + 3) (by omega) dL_law_552 ?_
  refine g_callVf (pc := 553) (st := [vi v]) C mL_54 m rfl rfl rfl rfl hl (by rw [D.1]; decide) (by rw [D.1]; show cells + mcx + 0 ≤ 600000 ∧ slots + msx + 0 ≤ 7302250; omega) (Nat.le_of_ble_eq_true rfl) dL_law_553 (fun _ z => by cases z) (no_allL _) (no_all _) (fun rr SS hP => ?_)
  obtain ⟨rfl, rfl⟩ := hP
  refine g_icmp_eq (pc := 556) C 1168 dL_law_556 (by decide) (fun _ => ?_) (fun q => absurd rfl q)
  exact g_widen (by omega) (by omega) (K _ _ _ hr)
set_option maxHeartbeats 1000000 in
set_option maxRecDepth 100000 in
theorem lw_op9 {X : Xt} {Y : Yt} {b N : Nat} {xs : Nat → Int32} (C : Cx X Y cL_law 4 RL) (D : LwX X Y b N xs) {S : Mm} {mc : Nat} {lc : Nat → Nat} (h : RR S S mc lc) {k cells slots : Nat} (hk : 7 * k + 7 ≤ N) (hc : cells + 13 ≤ 600000) (hs : slots + 838 ≤ 7302250) (K : ∀ S' mc' lc', RR S' S' mc' lc' → G X Y (cells + 13) (slots + 838) S' 1168 (lwL k) []) : G X Y cells slots S 561 (lwL k) [] := by
  obtain ⟨v, S1, S2, mcx, msx, frx, mc1, lc1, hm, hms, hf, hl, x, m, hr⟩ := o_found X.2.1 Y.1 Y.2.1 Y.2.2.1 h (xs (7 * k + 1)) (xs (7 * k + 2)) (xs (7 * k + 3))
  refine g_aload_n (pc := 561) C dL_law_561 rfl ?_
  refine g_aload_n (pc := 562) C dL_law_562 rfl ?_
  refine g_iload_n (pc := 563) C dL_law_563 rfl ?_
  refine g_iconst (pc := 564) C 1 dL_law_564 (by decide) ?_
  refine g_iadd (pc := 565) C dL_law_565 ?_
  refine g_eqi (nI (7 * k + 1)) (nI_add (7 * k) 1) ?_
  refine g_sldN (pc := 566) C D (i := 7 * k + 1) (by omega) dL_law_566 ?_
  refine g_aload_n (pc := 567) C dL_law_567 rfl ?_
  refine g_iload_n (pc := 568) C dL_law_568 rfl ?_
  refine g_iconst (pc := 569) C 2 dL_law_569 (by decide) ?_
  refine g_iadd (pc := 570) C dL_law_570 ?_
  refine g_eqi (nI (7 * k + 2)) (nI_add (7 * k) 2) ?_
  refine g_sldN (pc := 571) C D (i := 7 * k + 2) (by omega) dL_law_571 ?_
  refine g_aload_n (pc := 572) C dL_law_572 rfl ?_
  refine g_iload_n (pc := 573) C dL_law_573 rfl ?_
  refine g_iconst (pc := 574) C 3 dL_law_574 (by decide) ?_
  refine g_iadd (pc := 575) C dL_law_575 ?_
  refine g_eqi (nI (7 * k + 3)) (nI_add (7 * k) 3) ?_
  refine g_sldN (pc := 576) C D (i := 7 * k + 3) (by omega) dL_law_576 ?_
  refine g_callVf (pc := 577) (st := []) C mL_55 x rfl rfl rfl rfl (h.ix.1.1 0 (by decide)) (by rw [D.1]; decide) (by rw [D.1]; show cells + mcx ≤ 600000 ∧ slots + msx ≤ 7302250; omega) (by decide) dL_law_577 (fun q hq => by rw [D.2.1]; exact decide_eq_true (by rcases hf q hq with z | z <;> omega)) (lw_okL hf k) rfl (fun rr SS hP => ?_)
  obtain ⟨rfl, rfl⟩ := hP
  refine g_aload_n (pc := 580) C dL_law_580 rfl ?_
  refine g_aload_n (pc := 581) C dL_law_581 rfl ?_
  refine g_iload_n (pc := 582) C dL_law_582 rfl ?_
  refine g_iconst (pc := 583) C 1 dL_law_583 (by decide) ?_
  refine g_iadd (pc := 584) C dL_law_584 ?_
  refine g_eqi (nI (7 * k + 1)) (nI_add (7 * k) 1) ?_
  refine g_sldN (pc := 585) C D (i := 7 * k + 1) (by omega) dL_law_585 ?_
  refine g_aload_n (pc := 586) C dL_law_586 rfl ?_
  refine g_iload_n (pc := 587) C dL_law_587 rfl ?_
  refine g_iconst (pc := 588) C 2 dL_law_588 (by decide) ?_
  refine g_iadd (pc := 589) C dL_law_589 ?_
  refine g_eqi (nI (7 * k + 2)) (nI_add (7 * k) 2) ?_
  refine g_sldN (pc := 590) C D (i := 7 * k + 2) (by omega) dL_law_590 ?_
  refine g_aload_n (pc := 591) C dL_law_591 rfl ?_
  refine g_iload_n (pc := 592) C dL_law_592 rfl ?_
  refine g_iconst (pc := 593) C 3 dL_law_593 (by decide) ?_
  refine g_iadd (pc := 594) C dL_law_594 ?_
  refine g_eqi (nI (7 * k + 3)) (nI_add (7 * k) 3) ?_
  refine g_sldN (pc := 595) C D (i := 7 * k + 3) (by omega) dL_law_595 ?_
  refine g_callVf (pc := 596) (st := [vi v]) C mL_58 m rfl rfl rfl rfl hl (by rw [D.1]; decide) (by rw [D.1]; show cells + mcx + 0 ≤ 600000 ∧ slots + msx + 0 ≤ 7302250; omega) (Nat.le_of_ble_eq_true rfl) dL_law_596 (fun _ z => by cases z) (no_allL _) (no_all _) (fun rr SS hP => ?_)
  obtain ⟨rfl, rfl⟩ := hP
  refine g_icmp_eq (pc := 599) C 1168 dL_law_599 (by decide) (fun _ => ?_) (fun q => absurd rfl q)
  exact g_widen (by omega) (by omega) (K _ _ _ hr)
set_option maxHeartbeats 1000000 in
set_option maxRecDepth 100000 in
theorem lw_op10 {X : Xt} {Y : Yt} {b N : Nat} {xs : Nat → Int32} (C : Cx X Y cL_law 4 RL) (D : LwX X Y b N xs) {S : Mm} {mc : Nat} {lc : Nat → Nat} (h : RR S S mc lc) {k cells slots : Nat} (hk : 7 * k + 7 ≤ N) (hc : cells + 13 ≤ 600000) (hs : slots + 838 ≤ 7302250) (K : ∀ S' mc' lc', RR S' S' mc' lc' → G X Y (cells + 13) (slots + 838) S' 1168 (lwL k) []) : G X Y cells slots S 604 (lwL k) [] := by
  obtain ⟨v, S1, S2, mcx, msx, frx, mc1, lc1, hm, hms, hf, hl, x, m, hr⟩ := o_empty X.2.1 Y.1 Y.2.1 Y.2.2.1 h (xs (7 * k + 1)) (xs (7 * k + 2))
  refine g_aload_n (pc := 604) C dL_law_604 rfl ?_
  refine g_aload_n (pc := 605) C dL_law_605 rfl ?_
  refine g_iload_n (pc := 606) C dL_law_606 rfl ?_
  refine g_iconst (pc := 607) C 1 dL_law_607 (by decide) ?_
  refine g_iadd (pc := 608) C dL_law_608 ?_
  refine g_eqi (nI (7 * k + 1)) (nI_add (7 * k) 1) ?_
  refine g_sldN (pc := 609) C D (i := 7 * k + 1) (by omega) dL_law_609 ?_
  refine g_aload_n (pc := 610) C dL_law_610 rfl ?_
  refine g_iload_n (pc := 611) C dL_law_611 rfl ?_
  refine g_iconst (pc := 612) C 2 dL_law_612 (by decide) ?_
  refine g_iadd (pc := 613) C dL_law_613 ?_
  refine g_eqi (nI (7 * k + 2)) (nI_add (7 * k) 2) ?_
  refine g_sldN (pc := 614) C D (i := 7 * k + 2) (by omega) dL_law_614 ?_
  refine g_callVf (pc := 615) (st := []) C mL_59 x rfl rfl rfl rfl (h.ix.1.1 0 (by decide)) (by rw [D.1]; decide) (by rw [D.1]; show cells + mcx ≤ 600000 ∧ slots + msx ≤ 7302250; omega) (by decide) dL_law_615 (fun q hq => by rw [D.2.1]; exact decide_eq_true (by rcases hf q hq with z | z <;> omega)) (lw_okL hf k) rfl (fun rr SS hP => ?_)
  obtain ⟨rfl, rfl⟩ := hP
  refine g_aload_n (pc := 618) C dL_law_618 rfl ?_
  refine g_aload_n (pc := 619) C dL_law_619 rfl ?_
  refine g_iload_n (pc := 620) C dL_law_620 rfl ?_
  refine g_iconst (pc := 621) C 1 dL_law_621 (by decide) ?_
  refine g_iadd (pc := 622) C dL_law_622 ?_
  refine g_eqi (nI (7 * k + 1)) (nI_add (7 * k) 1) ?_
  refine g_sldN (pc := 623) C D (i := 7 * k + 1) (by omega) dL_law_623 ?_
  refine g_aload_n (pc := 624) C dL_law_624 rfl ?_
  refine g_iload_n (pc := 625) C dL_law_625 rfl ?_
  refine g_iconst (pc := 626) C 2 dL_law_626 (by decide) ?_
  refine g_iadd (pc := 627) C dL_law_627 ?_
  refine g_eqi (nI (7 * k + 2)) (nI_add (7 * k) 2) ?_
  refine g_sldN (pc := 628) C D (i := 7 * k + 2) (by omega) dL_law_628 ?_
  refine g_callVf (pc := 629) (st := [vi v]) C mL_62 m rfl rfl rfl rfl hl (by rw [D.1]; decide) (by rw [D.1]; show cells + mcx + 0 ≤ 600000 ∧ slots + msx + 0 ≤ 7302250; omega) (Nat.le_of_ble_eq_true rfl) dL_law_629 (fun _ z => by cases z) (no_allL _) (no_all _) (fun rr SS hP => ?_)
  obtain ⟨rfl, rfl⟩ := hP
  refine g_icmp_eq (pc := 632) C 1168 dL_law_632 (by decide) (fun _ => ?_) (fun q => absurd rfl q)
  exact g_widen (by omega) (by omega) (K _ _ _ hr)
