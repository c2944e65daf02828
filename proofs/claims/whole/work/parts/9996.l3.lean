section L3
theorem jk_rm {G : jk_G} {M : jk_M} {pc : Nat} {ls : List (Option Value)} {st : List Value} {n : Nat} {t : jk_T} {σ : jk_I} {ρ : jk_P} {rc rs : Nat} {Q : jk_Q} {X : jk_X} {rc2 rs2 : Nat} (k : jk_J G M pc ls st n t σ ρ rc2 rs2 Q X) (h1 : rc2 ≤ rc) (h2 : rs2 ≤ rs) : jk_J G M pc ls st n t σ ρ rc rs Q X :=
  fun p e R s m args below meth c H locs cells slots ls' C hl hR hS hc hs => k p e R s m args below meth c H locs cells slots ls' C hl hR hS (by omega) (by omega)
/-- what the law answers -/
def lq_Q : jk_Q := fun v' _ _ _ _ => v' = some (jI 1)
/-- behind a case: the model's number, the row of the answer, the relation -/
def lz (x m o d k : Nat) (c1 v2 : Int) (n : Nat) (t : jk_T) (σ : jk_I) (ρ : jk_P) : Prop := (∃ O, md_at t ρ m ∧ σ m = O ∧ O 12 = c1) ∧ t o = some (.inl (.long, 1)) ∧ (c1 = 0 → σ o 0 = jk_w v2) ∧ lr x m o d (k + 1) n t σ ρ
def lc_F (G : jk_G) (yL : MethodName) (mL : jk_M) (hh : List (Nat × Nat × Nat × Nat)) (mc ms : Nat) (As : List Value) (yM : MethodName) (mM : jk_M) (Bs : List Value) (bo : Bool) (x m o d k : Nat) (n : Nat) (t : jk_T) (σ : jk_I) (ρ : jk_P) : Prop :=
  ∃ P1, jk_KH G yL mL hh mc ms As n t σ ρ P1 jk_no ∧ ∀ v' n' t' σ' ρ', P1 v' n' t' σ' ρ' → ∃ c1, v' = some (jI c1) ∧ jk_in c1 ∧ t' m = some (.inr 13) ∧ ∃ P2, jk_K G yM mM 0 0 Bs n' t' σ' ρ' P2 jk_no ∧ ∀ w n2 t2 σ2 ρ2, P2 w n2 t2 σ2 ρ2 → ∃ v2, w = some (jI v2) ∧ (bo = true → ∃ b : Bool, v2 = jB b) ∧ lz x m o d k c1 v2 n2 t2 σ2 ρ2
def lc_V (G : jk_G) (yC : MethodName) (mC : jk_M) (mc ms : Nat) (yM : MethodName) (mM : jk_M) (x m o d k : Nat) (n : Nat) (t : jk_T) (σ : jk_I) (ρ : jk_P) : Prop :=
  ∃ P1 X1, jk_K G yC mC mc ms [.ref x] n t σ ρ P1 X1 ∧ (∀ E n' t' σ' ρ', X1 E n' t' σ' ρ' → False) ∧ t x = some (.inr 12) ∧ ∀ v' n' t' σ' ρ', P1 v' n' t' σ' ρ' → ∃ v1, v' = some (jI v1) ∧ jk_in v1 ∧ t' m = some (.inr 13) ∧ ∃ P2, jk_K G yM mM 0 0 [.ref m] n' t' σ' ρ' P2 jk_no ∧ ∀ w n2 t2 σ2 ρ2, P2 w n2 t2 σ2 ρ2 → w = some (jI v1) ∧ lr x m o d (k + 1) n2 t2 σ2 ρ2

theorem lw_0 {G : jk_G} {n : Nat} {t : jk_T} {σ : jk_I} {ρ : jk_P} {L : Nat} {f : Nat → Int} {x m o d k rc rs mc ms : Nat} (hL : L ≤ 2560) (hsc : ∀ s, jk_Z G s → va_T .int (jk_ad G 63) L (fun j => jI (f j)) (jk_A G) s s.heap) (hk : 5 * k + 4 < L) (hmc : mc ≤ 14) (hms : ms ≤ 420) (hrc : 14 ≤ rc) (hrs : 420 ≤ rs) (hF : lc_F G yL_addBenchmark mL_addBenchmark [(0, 8, 11, 13)] mc ms [.ref x, .ref o] yX13_addBenchmark mX13_addBenchmark [.ref m] false x m o d k n t σ ρ) (hc : ∀ n' t' σ' ρ', lr x m o d (k + 1) n' t' σ' ρ' → jk_J G mL_law 3459 [some (.ref 63), some (.ref x), some (.ref m), some (.ref o), some (.ref d), some (jI (5 * (k : Int))), none, none, none] [] n' t' σ' ρ' (rc - 14) (rs - 420) lq_Q jk_no) : jk_J G mL_law 312 [some (.ref 63), some (.ref x), some (.ref m), some (.ref o), some (.ref d), some (jI (5 * (k : Int))), none, none, none] [] n t σ ρ rc rs lq_Q jk_no := by
  obtain ⟨P1, K1, hP1⟩ := hF
  refine jk_aload_n (q := 313) dL_law_312 rfl rfl ?_
  refine jk_aload_n (q := 314) dL_law_313 rfl rfl ?_
  refine jk_callSH (q := 317) (As := [.ref x, .ref o]) K1 jm_L_addBenchmark jw_960 rfl rfl rfl (by omega) (by omega) rfl dL_law_314 rfl (fun v' n' t' σ' ρ' hq => ?_) (fun _ _ _ _ _ h => h.elim)
  obtain ⟨c1, rfl, hc1, hm1, P2, K2, hP2⟩ := hP1 _ _ _ _ _ hq
  simp only [Option.toList_some, List.cons_append, List.nil_append]
  refine jk_istore6 (q := 319) dL_law_317 rfl rfl rfl ?_
  refine jk_aload_n (q := 320) dL_law_319 rfl rfl ?_
  refine jk_cV0g (q := 323) (K2) jm_X13_addBenchmark jw_1922 rfl (by first | assumption) rfl rfl (Nat.zero_le _) (Nat.zero_le _) rfl dL_law_320 rfl (fun v' n' t' σ' ρ' hq => ?_) (fun _ _ _ _ _ h => h.elim)
  obtain ⟨v2, rfl, hbo, ⟨O, hat, hO, hO12⟩, hto, hcm, hlr⟩ := hP2 _ _ _ _ _ hq
  have hm2 := hat.1
  simp only [Option.toList_some, List.cons_append, List.nil_append]
  simp only [Nat.sub_zero]
  refine jk_istore7 (q := 325) dL_law_323 rfl rfl rfl ?_
  refine jk_aload_n (q := 326) dL_law_325 rfl rfl ?_
  refine jk_cV0p (q := 329) (c_X13_thrown hat hO) jm_X13_thrown jw_1918 rfl (by first | assumption) rfl rfl rfl dL_law_326 rfl ?_
  rw [hO12]
  refine jk_iload (q := 331) dL_law_329 rfl rfl ?_
  refine jk_icmp_eq (q := 336) (q2 := 334) dL_law_331 rfl rfl (by first | decide | assumption | omega) (by first | decide | assumption | omega) (fun z1 => ?_) (fun z1 => ?_)
  · refine jk_iload (q := 338) dL_law_336 rfl rfl ?_
    refine jk_if_ne (q := 353) (q2 := 341) dL_law_338 rfl rfl (by first | decide | assumption | omega) (fun z2 => ?_) (fun z2 => ?_)
    · refine jk_goto (q := 3459) dL_law_353 rfl ?_
      refine jk_convw (jk_rm (hc _ _ _ _ hlr) (by omega) (by omega)) (jk_wkS rfl (jk_wkS rfl (jk_wkS rfl (jk_wkS rfl (jk_wkS rfl (jk_wkS rfl (jk_wkN (jk_wkN (jk_wkN jk_wk0)))))))))
    · refine jk_aload_n (q := 342) dL_law_341 rfl rfl ?_
      refine jk_iconst (q := 343) dL_law_342 rfl ?_
      refine jk_laldR (q := 344) (by first | assumption) (by rfl) (by first | decide | assumption | omega) dL_law_343 rfl ?_
      refine jk_iload (q := 346) dL_law_344 rfl rfl ?_
      refine jk_i2lw (q := 347) dL_law_346 rfl ?_
      refine jk_lcmp0 (q := 348) (by exact hcm (by assumption)) dL_law_347 rfl ?_
      refine jk_ifT_eq (q := 353) (by decide) (by decide) dL_law_348 rfl ?_
      refine jk_goto (q := 3459) dL_law_353 rfl ?_
      refine jk_convw (jk_rm (hc _ _ _ _ hlr) (by omega) (by omega)) (jk_wkS rfl (jk_wkS rfl (jk_wkS rfl (jk_wkS rfl (jk_wkS rfl (jk_wkS rfl (jk_wkN (jk_wkN (jk_wkN jk_wk0)))))))))
  · exact absurd rfl (by assumption)
theorem lw_1 {G : jk_G} {n : Nat} {t : jk_T} {σ : jk_I} {ρ : jk_P} {L : Nat} {f : Nat → Int} {x m o d k rc rs mc ms : Nat} (hL : L ≤ 2560) (hsc : ∀ s, jk_Z G s → va_T .int (jk_ad G 63) L (fun j => jI (f j)) (jk_A G) s s.heap) (hk : 5 * k + 4 < L) (hmc : mc ≤ 14) (hms : ms ≤ 420) (hrc : 14 ≤ rc) (hrs : 420 ≤ rs) (hF : lc_F G yL_fix mL_fix [(0, 10, 13, 19), (0, 10, 17, 21)] mc ms [.ref x, jI (f (5 * (k : Int) + 1).toNat), jI (f (5 * (k : Int) + 2).toNat), .ref o] yX13_fix mX13_fix [.ref m, jI (f (5 * (k : Int) + 1).toNat), jI (f (5 * (k : Int) + 2).toNat)] false x m o d k n t σ ρ) (hc : ∀ n' t' σ' ρ', lr x m o d (k + 1) n' t' σ' ρ' → jk_J G mL_law 3459 [some (.ref 63), some (.ref x), some (.ref m), some (.ref o), some (.ref d), some (jI (5 * (k : Int))), none, none, none] [] n' t' σ' ρ' (rc - 14) (rs - 420) lq_Q jk_no) : jk_J G mL_law 356 [some (.ref 63), some (.ref x), some (.ref m), some (.ref o), some (.ref d), some (jI (5 * (k : Int))), none, none, none] [] n t σ ρ rc rs lq_Q jk_no := by
  obtain ⟨P1, K1, hP1⟩ := hF
  refine jk_aload_n (q := 357) dL_law_356 rfl rfl ?_
  refine jk_aload_n (q := 358) dL_law_357 rfl rfl ?_
  refine jk_iload (q := 360) dL_law_358 rfl rfl ?_
  refine jk_iconst (q := 361) dL_law_360 rfl ?_
  refine jk_iadd (q := 362) dL_law_361 rfl ?_
  refine jk_tabs (q := 363) (hsc) (by first | decide | omega) (by first | decide | assumption | omega) dL_law_362 rfl ?_
  refine jk_aload_n (q := 364) dL_law_363 rfl rfl ?_
  refine jk_iload (q := 366) dL_law_364 rfl rfl ?_
  refine jk_iconst (q := 367) dL_law_366 rfl ?_
  refine jk_iadd (q := 368) dL_law_367 rfl ?_
  refine jk_tabs (q := 369) (hsc) (by first | decide | omega) (by first | decide | assumption | omega) dL_law_368 rfl ?_
  refine jk_aload_n (q := 370) dL_law_369 rfl rfl ?_
  refine jk_callSH (q := 373) (As := [.ref x, jI (f (5 * (k : Int) + 1).toNat), jI (f (5 * (k : Int) + 2).toNat), .ref o]) K1 jm_L_fix jw_970 rfl rfl rfl (by omega) (by omega) rfl dL_law_370 rfl (fun v' n' t' σ' ρ' hq => ?_) (fun _ _ _ _ _ h => h.elim)
  obtain ⟨c1, rfl, hc1, hm1, P2, K2, hP2⟩ := hP1 _ _ _ _ _ hq
  simp only [Option.toList_some, List.cons_append, List.nil_append]
  refine jk_istore6 (q := 375) dL_law_373 rfl rfl rfl ?_
  refine jk_aload_n (q := 376) dL_law_375 rfl rfl ?_
  refine jk_aload_n (q := 377) dL_law_376 rfl rfl ?_
  refine jk_iload (q := 379) dL_law_377 rfl rfl ?_
  refine jk_iconst (q := 380) dL_law_379 rfl ?_
  refine jk_iadd (q := 381) dL_law_380 rfl ?_
  refine jk_tabs (q := 382) (hsc) (by first | decide | omega) (by first | decide | assumption | omega) dL_law_381 rfl ?_
  refine jk_aload_n (q := 383) dL_law_382 rfl rfl ?_
  refine jk_iload (q := 385) dL_law_383 rfl rfl ?_
  refine jk_iconst (q := 386) dL_law_385 rfl ?_
  refine jk_iadd (q := 387) dL_law_386 rfl ?_
  refine jk_tabs (q := 388) (hsc) (by first | decide | omega) (by first | decide | assumption | omega) dL_law_387 rfl ?_
  refine jk_cV2g (q := 391) (K2) jm_X13_fix jw_1949 rfl (by first | assumption) rfl rfl (Nat.zero_le _) (Nat.zero_le _) rfl dL_law_388 rfl (fun v' n' t' σ' ρ' hq => ?_) (fun _ _ _ _ _ h => h.elim)
  obtain ⟨v2, rfl, hbo, ⟨O, hat, hO, hO12⟩, hto, hcm, hlr⟩ := hP2 _ _ _ _ _ hq
  have hm2 := hat.1
  simp only [Option.toList_some, List.cons_append, List.nil_append]
  simp only [Nat.sub_zero]
  refine jk_istore7 (q := 393) dL_law_391 rfl rfl rfl ?_
  refine jk_aload_n (q := 394) dL_law_393 rfl rfl ?_
  refine jk_cV0p (q := 397) (c_X13_thrown hat hO) jm_X13_thrown jw_1918 rfl (by first | assumption) rfl rfl rfl dL_law_394 rfl ?_
  rw [hO12]
  refine jk_iload (q := 399) dL_law_397 rfl rfl ?_
  refine jk_icmp_eq (q := 404) (q2 := 402) dL_law_399 rfl rfl (by first | decide | assumption | omega) (by first | decide | assumption | omega) (fun z1 => ?_) (fun z1 => ?_)
  · refine jk_iload (q := 406) dL_law_404 rfl rfl ?_
    refine jk_if_ne (q := 421) (q2 := 409) dL_law_406 rfl rfl (by first | decide | assumption | omega) (fun z2 => ?_) (fun z2 => ?_)
    · refine jk_goto (q := 3459) dL_law_421 rfl ?_
      refine jk_convw (jk_rm (hc _ _ _ _ hlr) (by omega) (by omega)) (jk_wkS rfl (jk_wkS rfl (jk_wkS rfl (jk_wkS rfl (jk_wkS rfl (jk_wkS rfl (jk_wkN (jk_wkN (jk_wkN jk_wk0)))))))))
    · refine jk_aload_n (q := 410) dL_law_409 rfl rfl ?_
      refine jk_iconst (q := 411) dL_law_410 rfl ?_
      refine jk_laldR (q := 412) (by first | assumption) (by rfl) (by first | decide | assumption | omega) dL_law_411 rfl ?_
      refine jk_iload (q := 414) dL_law_412 rfl rfl ?_
      refine jk_i2lw (q := 415) dL_law_414 rfl ?_
      refine jk_lcmp0 (q := 416) (by exact hcm (by assumption)) dL_law_415 rfl ?_
      refine jk_ifT_eq (q := 421) (by decide) (by decide) dL_law_416 rfl ?_
      refine jk_goto (q := 3459) dL_law_421 rfl ?_
      refine jk_convw (jk_rm (hc _ _ _ _ hlr) (by omega) (by omega)) (jk_wkS rfl (jk_wkS rfl (jk_wkS rfl (jk_wkS rfl (jk_wkS rfl (jk_wkS rfl (jk_wkN (jk_wkN (jk_wkN jk_wk0)))))))))
  · exact absurd rfl (by assumption)
theorem lw_2 {G : jk_G} {n : Nat} {t : jk_T} {σ : jk_I} {ρ : jk_P} {L : Nat} {f : Nat → Int} {x m o d k rc rs mc ms : Nat} (hL : L ≤ 2560) (hsc : ∀ s, jk_Z G s → va_T .int (jk_ad G 63) L (fun j => jI (f j)) (jk_A G) s s.heap) (hk : 5 * k + 4 < L) (hmc : mc ≤ 14) (hms : ms ≤ 420) (hrc : 14 ≤ rc) (hrs : 420 ≤ rs) (hF : lc_F G yL_release mL_release [(0, 9, 12, 19), (0, 9, 15, 13)] mc ms [.ref x, jI (f (5 * (k : Int) + 1).toNat), .ref o] yX13_release mX13_release [.ref m, jI (f (5 * (k : Int) + 1).toNat)] false x m o d k n t σ ρ) (hc : ∀ n' t' σ' ρ', lr x m o d (k + 1) n' t' σ' ρ' → jk_J G mL_law 3459 [some (.ref 63), some (.ref x), some (.ref m), some (.ref o), some (.ref d), some (jI (5 * (k : Int))), none, none, none] [] n' t' σ' ρ' (rc - 14) (rs - 420) lq_Q jk_no) : jk_J G mL_law 424 [some (.ref 63), some (.ref x), some (.ref m), some (.ref o), some (.ref d), some (jI (5 * (k : Int))), none, none, none] [] n t σ ρ rc rs lq_Q jk_no := by
  obtain ⟨P1, K1, hP1⟩ := hF
  refine jk_aload_n (q := 425) dL_law_424 rfl rfl ?_
  refine jk_aload_n (q := 426) dL_law_425 rfl rfl ?_
  refine jk_iload (q := 428) dL_law_426 rfl rfl ?_
  refine jk_iconst (q := 429) dL_law_428 rfl ?_
  refine jk_iadd (q := 430) dL_law_429 rfl ?_
  refine jk_tabs (q := 431) (hsc) (by first | decide | omega) (by first | decide | assumption | omega) dL_law_430 rfl ?_
  refine jk_aload_n (q := 432) dL_law_431 rfl rfl ?_
  refine jk_callSH (q := 435) (As := [.ref x, jI (f (5 * (k : Int) + 1).toNat), .ref o]) K1 jm_L_release jw_1001 rfl rfl rfl (by omega) (by omega) rfl dL_law_432 rfl (fun v' n' t' σ' ρ' hq => ?_) (fun _ _ _ _ _ h => h.elim)
  obtain ⟨c1, rfl, hc1, hm1, P2, K2, hP2⟩ := hP1 _ _ _ _ _ hq
  simp only [Option.toList_some, List.cons_append, List.nil_append]
  refine jk_istore6 (q := 437) dL_law_435 rfl rfl rfl ?_
  refine jk_aload_n (q := 438) dL_law_437 rfl rfl ?_
  refine jk_aload_n (q := 439) dL_law_438 rfl rfl ?_
  refine jk_iload (q := 441) dL_law_439 rfl rfl ?_
  refine jk_iconst (q := 442) dL_law_441 rfl ?_
  refine jk_iadd (q := 443) dL_law_442 rfl ?_
  refine jk_tabs (q := 444) (hsc) (by first | decide | omega) (by first | decide | assumption | omega) dL_law_443 rfl ?_
  refine jk_cV1g (q := 447) (K2) jm_X13_release jw_1966 rfl (by first | assumption) rfl rfl (Nat.zero_le _) (Nat.zero_le _) rfl dL_law_444 rfl (fun v' n' t' σ' ρ' hq => ?_) (fun _ _ _ _ _ h => h.elim)
  obtain ⟨v2, rfl, hbo, ⟨O, hat, hO, hO12⟩, hto, hcm, hlr⟩ := hP2 _ _ _ _ _ hq
  have hm2 := hat.1
  simp only [Option.toList_some, List.cons_append, List.nil_append]
  simp only [Nat.sub_zero]
  refine jk_istore7 (q := 449) dL_law_447 rfl rfl rfl ?_
  refine jk_aload_n (q := 450) dL_law_449 rfl rfl ?_
  refine jk_cV0p (q := 453) (c_X13_thrown hat hO) jm_X13_thrown jw_1918 rfl (by first | assumption) rfl rfl rfl dL_law_450 rfl ?_
  rw [hO12]
  refine jk_iload (q := 455) dL_law_453 rfl rfl ?_
  refine jk_icmp_eq (q := 460) (q2 := 458) dL_law_455 rfl rfl (by first | decide | assumption | omega) (by first | decide | assumption | omega) (fun z1 => ?_) (fun z1 => ?_)
  · refine jk_iload (q := 462) dL_law_460 rfl rfl ?_
    refine jk_if_ne (q := 477) (q2 := 465) dL_law_462 rfl rfl (by first | decide | assumption | omega) (fun z2 => ?_) (fun z2 => ?_)
    · refine jk_goto (q := 3459) dL_law_477 rfl ?_
      refine jk_convw (jk_rm (hc _ _ _ _ hlr) (by omega) (by omega)) (jk_wkS rfl (jk_wkS rfl (jk_wkS rfl (jk_wkS rfl (jk_wkS rfl (jk_wkS rfl (jk_wkN (jk_wkN (jk_wkN jk_wk0)))))))))
    · refine jk_aload_n (q := 466) dL_law_465 rfl rfl ?_
      refine jk_iconst (q := 467) dL_law_466 rfl ?_
      refine jk_laldR (q := 468) (by first | assumption) (by rfl) (by first | decide | assumption | omega) dL_law_467 rfl ?_
      refine jk_iload (q := 470) dL_law_468 rfl rfl ?_
      refine jk_i2lw (q := 471) dL_law_470 rfl ?_
      refine jk_lcmp0 (q := 472) (by exact hcm (by assumption)) dL_law_471 rfl ?_
      refine jk_ifT_eq (q := 477) (by decide) (by decide) dL_law_472 rfl ?_
      refine jk_goto (q := 3459) dL_law_477 rfl ?_
      refine jk_convw (jk_rm (hc _ _ _ _ hlr) (by omega) (by omega)) (jk_wkS rfl (jk_wkS rfl (jk_wkS rfl (jk_wkS rfl (jk_wkS rfl (jk_wkS rfl (jk_wkN (jk_wkN (jk_wkN jk_wk0)))))))))
  · exact absurd rfl (by assumption)
theorem lw_3 {G : jk_G} {n : Nat} {t : jk_T} {σ : jk_I} {ρ : jk_P} {L : Nat} {f : Nat → Int} {x m o d k rc rs mc ms : Nat} (hL : L ≤ 2560) (hsc : ∀ s, jk_Z G s → va_T .int (jk_ad G 63) L (fun j => jI (f j)) (jk_A G) s s.heap) (hk : 5 * k + 4 < L) (hmc : mc ≤ 14) (hms : ms ≤ 420) (hrc : 14 ≤ rc) (hrs : 420 ≤ rs) (hF : lc_F G yL_addLine mL_addLine [(0, 14, 17, 19), (0, 14, 21, 21), (0, 14, 25, 13)] mc ms [.ref x, jI (f (5 * (k : Int) + 1).toNat), jI (f (5 * (k : Int) + 2).toNat), jI (f (5 * (k : Int) + 3).toNat), jI (f (5 * (k : Int) + 4).toNat), .ref o] yX13_addLine mX13_addLine [.ref m, jI (f (5 * (k : Int) + 1).toNat), jI (f (5 * (k : Int) + 2).toNat), jI (f (5 * (k : Int) + 3).toNat), jI (f (5 * (k : Int) + 4).toNat)] false x m o d k n t σ ρ) (hc : ∀ n' t' σ' ρ', lr x m o d (k + 1) n' t' σ' ρ' → jk_J G mL_law 3459 [some (.ref 63), some (.ref x), some (.ref m), some (.ref o), some (.ref d), some (jI (5 * (k : Int))), none, none, none] [] n' t' σ' ρ' (rc - 14) (rs - 420) lq_Q jk_no) : jk_J G mL_law 480 [some (.ref 63), some (.ref x), some (.ref m), some (.ref o), some (.ref d), some (jI (5 * (k : Int))), none, none, none] [] n t σ ρ rc rs lq_Q jk_no := by
  obtain ⟨P1, K1, hP1⟩ := hF
  refine jk_aload_n (q := 481) dL_law_480 rfl rfl ?_
  refine jk_aload_n (q := 482) dL_law_481 rfl rfl ?_
  refine jk_iload (q := 484) dL_law_482 rfl rfl ?_
  refine jk_iconst (q := 485) dL_law_484 rfl ?_
  refine jk_iadd (q := 486) dL_law_485 rfl ?_
  refine jk_tabs (q := 487) (hsc) (by first | decide | omega) (by first | decide | assumption | omega) dL_law_486 rfl ?_
  refine jk_aload_n (q := 488) dL_law_487 rfl rfl ?_
  refine jk_iload (q := 490) dL_law_488 rfl rfl ?_
  refine jk_iconst (q := 491) dL_law_490 rfl ?_
  refine jk_iadd (q := 492) dL_law_491 rfl ?_
  refine jk_tabs (q := 493) (hsc) (by first | decide | omega) (by first | decide | assumption | omega) dL_law_492 rfl ?_
  refine jk_aload_n (q := 494) dL_law_493 rfl rfl ?_
  refine jk_iload (q := 496) dL_law_494 rfl rfl ?_
  refine jk_iconst (q := 497) dL_law_496 rfl ?_
  refine jk_iadd (q := 498) dL_law_497 rfl ?_
  refine jk_tabs (q := 499) (hsc) (by first | decide | omega) (by first | decide | assumption | omega) dL_law_498 rfl ?_
  refine jk_aload_n (q := 500) dL_law_499 rfl rfl ?_
  refine jk_iload (q := 502) dL_law_500 rfl rfl ?_
  refine jk_iconst (q := 503) dL_law_502 rfl ?_
  refine jk_iadd (q := 504) dL_law_503 rfl ?_
  refine jk_tabs (q := 505) (hsc) (by first | decide | omega) (by first | decide | assumption | omega) dL_law_504 rfl ?_
  refine jk_aload_n (q := 506) dL_law_505 rfl rfl ?_
  refine jk_callSH (q := 509) (As := [.ref x, jI (f (5 * (k : Int) + 1).toNat), jI (f (5 * (k : Int) + 2).toNat), jI (f (5 * (k : Int) + 3).toNat), jI (f (5 * (k : Int) + 4).toNat), .ref o]) K1 jm_L_addLine jw_1010 rfl rfl rfl (by omega) (by omega) rfl dL_law_506 rfl (fun v' n' t' σ' ρ' hq => ?_) (fun _ _ _ _ _ h => h.elim)
  obtain ⟨c1, rfl, hc1, hm1, P2, K2, hP2⟩ := hP1 _ _ _ _ _ hq
  simp only [Option.toList_some, List.cons_append, List.nil_append]
  refine jk_istore6 (q := 511) dL_law_509 rfl rfl rfl ?_
  refine jk_aload_n (q := 512) dL_law_511 rfl rfl ?_
  refine jk_aload_n (q := 513) dL_law_512 rfl rfl ?_
  refine jk_iload (q := 515) dL_law_513 rfl rfl ?_
  refine jk_iconst (q := 516) dL_law_515 rfl ?_
  refine jk_iadd (q := 517) dL_law_516 rfl ?_
  refine jk_tabs (q := 518) (hsc) (by first | decide | omega) (by first | decide | assumption | omega) dL_law_517 rfl ?_
  refine jk_aload_n (q := 519) dL_law_518 rfl rfl ?_
  refine jk_iload (q := 521) dL_law_519 rfl rfl ?_
  refine jk_iconst (q := 522) dL_law_521 rfl ?_
  refine jk_iadd (q := 523) dL_law_522 rfl ?_
  refine jk_tabs (q := 524) (hsc) (by first | decide | omega) (by first | decide | assumption | omega) dL_law_523 rfl ?_
  refine jk_aload_n (q := 525) dL_law_524 rfl rfl ?_
  refine jk_iload (q := 527) dL_law_525 rfl rfl ?_
  refine jk_iconst (q := 528) dL_law_527 rfl ?_
  refine jk_iadd (q := 529) dL_law_528 rfl ?_
  refine jk_tabs (q := 530) (hsc) (by first | decide | omega) (by first | decide | assumption | omega) dL_law_529 rfl ?_
  refine jk_aload_n (q := 531) dL_law_530 rfl rfl ?_
  refine jk_iload (q := 533) dL_law_531 rfl rfl ?_
  refine jk_iconst (q := 534) dL_law_533 rfl ?_
  refine jk_iadd (q := 535) dL_law_534 rfl ?_
  refine jk_tabs (q := 536) (hsc) (by first | decide | omega) (by first | decide | assumption | omega) dL_law_535 rfl ?_
  refine jk_cV4g (q := 539) (K2) jm_X13_addLine jw_1974 rfl (by first | assumption) rfl rfl (Nat.zero_le _) (Nat.zero_le _) rfl dL_law_536 rfl (fun v' n' t' σ' ρ' hq => ?_) (fun _ _ _ _ _ h => h.elim)
  obtain ⟨v2, rfl, hbo, ⟨O, hat, hO, hO12⟩, hto, hcm, hlr⟩ := hP2 _ _ _ _ _ hq
  have hm2 := hat.1
  simp only [Option.toList_some, List.cons_append, List.nil_append]
  simp only [Nat.sub_zero]
  refine jk_istore7 (q := 541) dL_law_539 rfl rfl rfl ?_
  refine jk_aload_n (q := 542) dL_law_541 rfl rfl ?_
  refine jk_cV0p (q := 545) (c_X13_thrown hat hO) jm_X13_thrown jw_1918 rfl (by first | assumption) rfl rfl rfl dL_law_542 rfl ?_
  rw [hO12]
  refine jk_iload (q := 547) dL_law_545 rfl rfl ?_
  refine jk_icmp_eq (q := 552) (q2 := 550) dL_law_547 rfl rfl (by first | decide | assumption | omega) (by first | decide | assumption | omega) (fun z1 => ?_) (fun z1 => ?_)
  · refine jk_iload (q := 554) dL_law_552 rfl rfl ?_
    refine jk_if_ne (q := 569) (q2 := 557) dL_law_554 rfl rfl (by first | decide | assumption | omega) (fun z2 => ?_) (fun z2 => ?_)
    · refine jk_goto (q := 3459) dL_law_569 rfl ?_
      refine jk_convw (jk_rm (hc _ _ _ _ hlr) (by omega) (by omega)) (jk_wkS rfl (jk_wkS rfl (jk_wkS rfl (jk_wkS rfl (jk_wkS rfl (jk_wkS rfl (jk_wkN (jk_wkN (jk_wkN jk_wk0)))))))))
    · refine jk_aload_n (q := 558) dL_law_557 rfl rfl ?_
      refine jk_iconst (q := 559) dL_law_558 rfl ?_
      refine jk_laldR (q := 560) (by first | assumption) (by rfl) (by first | decide | assumption | omega) dL_law_559 rfl ?_
      refine jk_iload (q := 562) dL_law_560 rfl rfl ?_
      refine jk_i2lw (q := 563) dL_law_562 rfl ?_
      refine jk_lcmp0 (q := 564) (by exact hcm (by assumption)) dL_law_563 rfl ?_
      refine jk_ifT_eq (q := 569) (by decide) (by decide) dL_law_564 rfl ?_
      refine jk_goto (q := 3459) dL_law_569 rfl ?_
      refine jk_convw (jk_rm (hc _ _ _ _ hlr) (by omega) (by omega)) (jk_wkS rfl (jk_wkS rfl (jk_wkS rfl (jk_wkS rfl (jk_wkS rfl (jk_wkS rfl (jk_wkN (jk_wkN (jk_wkN jk_wk0)))))))))
  · exact absurd rfl (by assumption)
theorem lw_4 {G : jk_G} {n : Nat} {t : jk_T} {σ : jk_I} {ρ : jk_P} {L : Nat} {f : Nat → Int} {x m o d k rc rs mc ms : Nat} (hL : L ≤ 2560) (hsc : ∀ s, jk_Z G s → va_T .int (jk_ad G 63) L (fun j => jI (f j)) (jk_A G) s s.heap) (hk : 5 * k + 4 < L) (hmc : mc ≤ 14) (hms : ms ≤ 420) (hrc : 14 ≤ rc) (hrs : 420 ≤ rs) (hF : lc_F G yL_addBackwardRun mL_addBackwardRun [(0, 10, 13, 19), (0, 10, 17, 21), (0, 10, 21, 13)] mc ms [.ref x, jI (f (5 * (k : Int) + 1).toNat), jI (f (5 * (k : Int) + 2).toNat), .ref o] yX13_addBackwardRun mX13_addBackwardRun [.ref m, jI (f (5 * (k : Int) + 1).toNat), jI (f (5 * (k : Int) + 2).toNat)] false x m o d k n t σ ρ) (hc : ∀ n' t' σ' ρ', lr x m o d (k + 1) n' t' σ' ρ' → jk_J G mL_law 3459 [some (.ref 63), some (.ref x), some (.ref m), some (.ref o), some (.ref d), some (jI (5 * (k : Int))), none, none, none] [] n' t' σ' ρ' (rc - 14) (rs - 420) lq_Q jk_no) : jk_J G mL_law 572 [some (.ref 63), some (.ref x), some (.ref m), some (.ref o), some (.ref d), some (jI (5 * (k : Int))), none, none, none] [] n t σ ρ rc rs lq_Q jk_no := by
  obtain ⟨P1, K1, hP1⟩ := hF
  refine jk_aload_n (q := 573) dL_law_572 rfl rfl ?_
  refine jk_aload_n (q := 574) dL_law_573 rfl rfl ?_
  refine jk_iload (q := 576) dL_law_574 rfl rfl ?_
  refine jk_iconst (q := 577) dL_law_576 rfl ?_
  refine jk_iadd (q := 578) dL_law_577 rfl ?_
  refine jk_tabs (q := 579) (hsc) (by first | decide | omega) (by first | decide | assumption | omega) dL_law_578 rfl ?_
  refine jk_aload_n (q := 580) dL_law_579 rfl rfl ?_
  refine jk_iload (q := 582) dL_law_580 rfl rfl ?_
  refine jk_iconst (q := 583) dL_law_582 rfl ?_
  refine jk_iadd (q := 584) dL_law_583 rfl ?_
  refine jk_tabs (q := 585) (hsc) (by first | decide | omega) (by first | decide | assumption | omega) dL_law_584 rfl ?_
  refine jk_aload_n (q := 586) dL_law_585 rfl rfl ?_
  refine jk_callSH (q := 589) (As := [.ref x, jI (f (5 * (k : Int) + 1).toNat), jI (f (5 * (k : Int) + 2).toNat), .ref o]) K1 jm_L_addBackwardRun jw_1019 rfl rfl rfl (by omega) (by omega) rfl dL_law_586 rfl (fun v' n' t' σ' ρ' hq => ?_) (fun _ _ _ _ _ h => h.elim)
  obtain ⟨c1, rfl, hc1, hm1, P2, K2, hP2⟩ := hP1 _ _ _ _ _ hq
  simp only [Option.toList_some, List.cons_append, List.nil_append]
  refine jk_istore6 (q := 591) dL_law_589 rfl rfl rfl ?_
  refine jk_aload_n (q := 592) dL_law_591 rfl rfl ?_
  refine jk_aload_n (q := 593) dL_law_592 rfl rfl ?_
  refine jk_iload (q := 595) dL_law_593 rfl rfl ?_
  refine jk_iconst (q := 596) dL_law_595 rfl ?_
  refine jk_iadd (q := 597) dL_law_596 rfl ?_
  refine jk_tabs (q := 598) (hsc) (by first | decide | omega) (by first | decide | assumption | omega) dL_law_597 rfl ?_
  refine jk_aload_n (q := 599) dL_law_598 rfl rfl ?_
  refine jk_iload (q := 601) dL_law_599 rfl rfl ?_
  refine jk_iconst (q := 602) dL_law_601 rfl ?_
  refine jk_iadd (q := 603) dL_law_602 rfl ?_
  refine jk_tabs (q := 604) (hsc) (by first | decide | omega) (by first | decide | assumption | omega) dL_law_603 rfl ?_
  refine jk_cV2g (q := 607) (K2) jm_X13_addBackwardRun jw_1982 rfl (by first | assumption) rfl rfl (Nat.zero_le _) (Nat.zero_le _) rfl dL_law_604 rfl (fun v' n' t' σ' ρ' hq => ?_) (fun _ _ _ _ _ h => h.elim)
  obtain ⟨v2, rfl, hbo, ⟨O, hat, hO, hO12⟩, hto, hcm, hlr⟩ := hP2 _ _ _ _ _ hq
  have hm2 := hat.1
  simp only [Option.toList_some, List.cons_append, List.nil_append]
  simp only [Nat.sub_zero]
  refine jk_istore7 (q := 609) dL_law_607 rfl rfl rfl ?_
  refine jk_aload_n (q := 610) dL_law_609 rfl rfl ?_
  refine jk_cV0p (q := 613) (c_X13_thrown hat hO) jm_X13_thrown jw_1918 rfl (by first | assumption) rfl rfl rfl dL_law_610 rfl ?_
  rw [hO12]
  refine jk_iload (q := 615) dL_law_613 rfl rfl ?_
  refine jk_icmp_eq (q := 620) (q2 := 618) dL_law_615 rfl rfl (by first | decide | assumption | omega) (by first | decide | assumption | omega) (fun z1 => ?_) (fun z1 => ?_)
  · refine jk_iload (q := 622) dL_law_620 rfl rfl ?_
    refine jk_if_ne (q := 637) (q2 := 625) dL_law_622 rfl rfl (by first | decide | assumption | omega) (fun z2 => ?_) (fun z2 => ?_)
    · refine jk_goto (q := 3459) dL_law_637 rfl ?_
      refine jk_convw (jk_rm (hc _ _ _ _ hlr) (by omega) (by omega)) (jk_wkS rfl (jk_wkS rfl (jk_wkS rfl (jk_wkS rfl (jk_wkS rfl (jk_wkS rfl (jk_wkN (jk_wkN (jk_wkN jk_wk0)))))))))
    · refine jk_aload_n (q := 626) dL_law_625 rfl rfl ?_
      refine jk_iconst (q := 627) dL_law_626 rfl ?_
      refine jk_laldR (q := 628) (by first | assumption) (by rfl) (by first | decide | assumption | omega) dL_law_627 rfl ?_
      refine jk_iload (q := 630) dL_law_628 rfl rfl ?_
      refine jk_i2lw (q := 631) dL_law_630 rfl ?_
      refine jk_lcmp0 (q := 632) (by exact hcm (by assumption)) dL_law_631 rfl ?_
      refine jk_ifT_eq (q := 637) (by decide) (by decide) dL_law_632 rfl ?_
      refine jk_goto (q := 3459) dL_law_637 rfl ?_
      refine jk_convw (jk_rm (hc _ _ _ _ hlr) (by omega) (by omega)) (jk_wkS rfl (jk_wkS rfl (jk_wkS rfl (jk_wkS rfl (jk_wkS rfl (jk_wkS rfl (jk_wkN (jk_wkN (jk_wkN jk_wk0)))))))))
  · exact absurd rfl (by assumption)
theorem lw_5 {G : jk_G} {n : Nat} {t : jk_T} {σ : jk_I} {ρ : jk_P} {L : Nat} {f : Nat → Int} {x m o d k rc rs mc ms : Nat} (hL : L ≤ 2560) (hsc : ∀ s, jk_Z G s → va_T .int (jk_ad G 63) L (fun j => jI (f j)) (jk_A G) s s.heap) (hk : 5 * k + 4 < L) (hmc : mc ≤ 14) (hms : ms ≤ 420) (hrc : 14 ≤ rc) (hrs : 420 ≤ rs) (hF : lc_F G yL_exclude mL_exclude [(0, 9, 12, 19), (0, 9, 15, 13)] mc ms [.ref x, jI (f (5 * (k : Int) + 1).toNat), .ref o] yX13_exclude mX13_exclude [.ref m, jI (f (5 * (k : Int) + 1).toNat)] false x m o d k n t σ ρ) (hc : ∀ n' t' σ' ρ', lr x m o d (k + 1) n' t' σ' ρ' → jk_J G mL_law 3459 [some (.ref 63), some (.ref x), some (.ref m), some (.ref o), some (.ref d), some (jI (5 * (k : Int))), none, none, none] [] n' t' σ' ρ' (rc - 14) (rs - 420) lq_Q jk_no) : jk_J G mL_law 640 [some (.ref 63), some (.ref x), some (.ref m), some (.ref o), some (.ref d), some (jI (5 * (k : Int))), none, none, none] [] n t σ ρ rc rs lq_Q jk_no := by
  obtain ⟨P1, K1, hP1⟩ := hF
  refine jk_aload_n (q := 641) dL_law_640 rfl rfl ?_
  refine jk_aload_n (q := 642) dL_law_641 rfl rfl ?_
  refine jk_iload (q := 644) dL_law_642 rfl rfl ?_
  refine jk_iconst (q := 645) dL_law_644 rfl ?_
  refine jk_iadd (q := 646) dL_law_645 rfl ?_
  refine jk_tabs (q := 647) (hsc) (by first | decide | omega) (by first | decide | assumption | omega) dL_law_646 rfl ?_
  refine jk_aload_n (q := 648) dL_law_647 rfl rfl ?_
  refine jk_callSH (q := 651) (As := [.ref x, jI (f (5 * (k : Int) + 1).toNat), .ref o]) K1 jm_L_exclude jw_1028 rfl rfl rfl (by omega) (by omega) rfl dL_law_648 rfl (fun v' n' t' σ' ρ' hq => ?_) (fun _ _ _ _ _ h => h.elim)
  obtain ⟨c1, rfl, hc1, hm1, P2, K2, hP2⟩ := hP1 _ _ _ _ _ hq
  simp only [Option.toList_some, List.cons_append, List.nil_append]
  refine jk_istore6 (q := 653) dL_law_651 rfl rfl rfl ?_
  refine jk_aload_n (q := 654) dL_law_653 rfl rfl ?_
  refine jk_aload_n (q := 655) dL_law_654 rfl rfl ?_
  refine jk_iload (q := 657) dL_law_655 rfl rfl ?_
  refine jk_iconst (q := 658) dL_law_657 rfl ?_
  refine jk_iadd (q := 659) dL_law_658 rfl ?_
  refine jk_tabs (q := 660) (hsc) (by first | decide | omega) (by first | decide | assumption | omega) dL_law_659 rfl ?_
  refine jk_cV1g (q := 663) (K2) jm_X13_exclude jw_1998 rfl (by first | assumption) rfl rfl (Nat.zero_le _) (Nat.zero_le _) rfl dL_law_660 rfl (fun v' n' t' σ' ρ' hq => ?_) (fun _ _ _ _ _ h => h.elim)
  obtain ⟨v2, rfl, hbo, ⟨O, hat, hO, hO12⟩, hto, hcm, hlr⟩ := hP2 _ _ _ _ _ hq
  have hm2 := hat.1
  simp only [Option.toList_some, List.cons_append, List.nil_append]
  simp only [Nat.sub_zero]
  refine jk_istore7 (q := 665) dL_law_663 rfl rfl rfl ?_
  refine jk_aload_n (q := 666) dL_law_665 rfl rfl ?_
  refine jk_cV0p (q := 669) (c_X13_thrown hat hO) jm_X13_thrown jw_1918 rfl (by first | assumption) rfl rfl rfl dL_law_666 rfl ?_
  rw [hO12]
  refine jk_iload (q := 671) dL_law_669 rfl rfl ?_
  refine jk_icmp_eq (q := 676) (q2 := 674) dL_law_671 rfl rfl (by first | decide | assumption | omega) (by first | decide | assumption | omega) (fun z1 => ?_) (fun z1 => ?_)
  · refine jk_iload (q := 678) dL_law_676 rfl rfl ?_
    refine jk_if_ne (q := 693) (q2 := 681) dL_law_678 rfl rfl (by first | decide | assumption | omega) (fun z2 => ?_) (fun z2 => ?_)
    · refine jk_goto (q := 3459) dL_law_693 rfl ?_
      refine jk_convw (jk_rm (hc _ _ _ _ hlr) (by omega) (by omega)) (jk_wkS rfl (jk_wkS rfl (jk_wkS rfl (jk_wkS rfl (jk_wkS rfl (jk_wkS rfl (jk_wkN (jk_wkN (jk_wkN jk_wk0)))))))))
    · refine jk_aload_n (q := 682) dL_law_681 rfl rfl ?_
      refine jk_iconst (q := 683) dL_law_682 rfl ?_
      refine jk_laldR (q := 684) (by first | assumption) (by rfl) (by first | decide | assumption | omega) dL_law_683 rfl ?_
      refine jk_iload (q := 686) dL_law_684 rfl rfl ?_
      refine jk_i2lw (q := 687) dL_law_686 rfl ?_
      refine jk_lcmp0 (q := 688) (by exact hcm (by assumption)) dL_law_687 rfl ?_
      refine jk_ifT_eq (q := 693) (by decide) (by decide) dL_law_688 rfl ?_
      refine jk_goto (q := 3459) dL_law_693 rfl ?_
      refine jk_convw (jk_rm (hc _ _ _ _ hlr) (by omega) (by omega)) (jk_wkS rfl (jk_wkS rfl (jk_wkS rfl (jk_wkS rfl (jk_wkS rfl (jk_wkS rfl (jk_wkN (jk_wkN (jk_wkN jk_wk0)))))))))
  · exact absurd rfl (by assumption)
theorem lw_6 {G : jk_G} {n : Nat} {t : jk_T} {σ : jk_I} {ρ : jk_P} {L : Nat} {f : Nat → Int} {x m o d k rc rs mc ms : Nat} (hL : L ≤ 2560) (hsc : ∀ s, jk_Z G s → va_T .int (jk_ad G 63) L (fun j => jI (f j)) (jk_A G) s s.heap) (hk : 5 * k + 4 < L) (hmc : mc ≤ 14) (hms : ms ≤ 420) (hrc : 14 ≤ rc) (hrs : 420 ≤ rs) (hF : lc_F G yL_include mL_include [(0, 9, 12, 19), (0, 9, 15, 13)] mc ms [.ref x, jI (f (5 * (k : Int) + 1).toNat), .ref o] yX13_include mX13_include [.ref m, jI (f (5 * (k : Int) + 1).toNat)] false x m o d k n t σ ρ) (hc : ∀ n' t' σ' ρ', lr x m o d (k + 1) n' t' σ' ρ' → jk_J G mL_law 3459 [some (.ref 63), some (.ref x), some (.ref m), some (.ref o), some (.ref d), some (jI (5 * (k : Int))), none, none, none] [] n' t' σ' ρ' (rc - 14) (rs - 420) lq_Q jk_no) : jk_J G mL_law 696 [some (.ref 63), some (.ref x), some (.ref m), some (.ref o), some (.ref d), some (jI (5 * (k : Int))), none, none, none] [] n t σ ρ rc rs lq_Q jk_no := by
  obtain ⟨P1, K1, hP1⟩ := hF
  refine jk_aload_n (q := 697) dL_law_696 rfl rfl ?_
  refine jk_aload_n (q := 698) dL_law_697 rfl rfl ?_
  refine jk_iload (q := 700) dL_law_698 rfl rfl ?_
  refine jk_iconst (q := 701) dL_law_700 rfl ?_
  refine jk_iadd (q := 702) dL_law_701 rfl ?_
  refine jk_tabs (q := 703) (hsc) (by first | decide | omega) (by first | decide | assumption | omega) dL_law_702 rfl ?_
  refine jk_aload_n (q := 704) dL_law_703 rfl rfl ?_
  refine jk_callSH (q := 707) (As := [.ref x, jI (f (5 * (k : Int) + 1).toNat), .ref o]) K1 jm_L_include jw_1037 rfl rfl rfl (by omega) (by omega) rfl dL_law_704 rfl (fun v' n' t' σ' ρ' hq => ?_) (fun _ _ _ _ _ h => h.elim)
  obtain ⟨c1, rfl, hc1, hm1, P2, K2, hP2⟩ := hP1 _ _ _ _ _ hq
  simp only [Option.toList_some, List.cons_append, List.nil_append]
  refine jk_istore6 (q := 709) dL_law_707 rfl rfl rfl ?_
  refine jk_aload_n (q := 710) dL_law_709 rfl rfl ?_
  refine jk_aload_n (q := 711) dL_law_710 rfl rfl ?_
  refine jk_iload (q := 713) dL_law_711 rfl rfl ?_
  refine jk_iconst (q := 714) dL_law_713 rfl ?_
  refine jk_iadd (q := 715) dL_law_714 rfl ?_
  refine jk_tabs (q := 716) (hsc) (by first | decide | omega) (by first | decide | assumption | omega) dL_law_715 rfl ?_
  refine jk_cV1g (q := 719) (K2) jm_X13_include jw_2020 rfl (by first | assumption) rfl rfl (Nat.zero_le _) (Nat.zero_le _) rfl dL_law_716 rfl (fun v' n' t' σ' ρ' hq => ?_) (fun _ _ _ _ _ h => h.elim)
  obtain ⟨v2, rfl, hbo, ⟨O, hat, hO, hO12⟩, hto, hcm, hlr⟩ := hP2 _ _ _ _ _ hq
  have hm2 := hat.1
  simp only [Option.toList_some, List.cons_append, List.nil_append]
  simp only [Nat.sub_zero]
  refine jk_istore7 (q := 721) dL_law_719 rfl rfl rfl ?_
  refine jk_aload_n (q := 722) dL_law_721 rfl rfl ?_
  refine jk_cV0p (q := 725) (c_X13_thrown hat hO) jm_X13_thrown jw_1918 rfl (by first | assumption) rfl rfl rfl dL_law_722 rfl ?_
  rw [hO12]
  refine jk_iload (q := 727) dL_law_725 rfl rfl ?_
  refine jk_icmp_eq (q := 732) (q2 := 730) dL_law_727 rfl rfl (by first | decide | assumption | omega) (by first | decide | assumption | omega) (fun z1 => ?_) (fun z1 => ?_)
  · refine jk_iload (q := 734) dL_law_732 rfl rfl ?_
    refine jk_if_ne (q := 749) (q2 := 737) dL_law_734 rfl rfl (by first | decide | assumption | omega) (fun z2 => ?_) (fun z2 => ?_)
    · refine jk_goto (q := 3459) dL_law_749 rfl ?_
      refine jk_convw (jk_rm (hc _ _ _ _ hlr) (by omega) (by omega)) (jk_wkS rfl (jk_wkS rfl (jk_wkS rfl (jk_wkS rfl (jk_wkS rfl (jk_wkS rfl (jk_wkN (jk_wkN (jk_wkN jk_wk0)))))))))
    · refine jk_aload_n (q := 738) dL_law_737 rfl rfl ?_
      refine jk_iconst (q := 739) dL_law_738 rfl ?_
      refine jk_laldR (q := 740) (by first | assumption) (by rfl) (by first | decide | assumption | omega) dL_law_739 rfl ?_
      refine jk_iload (q := 742) dL_law_740 rfl rfl ?_
      refine jk_i2lw (q := 743) dL_law_742 rfl ?_
      refine jk_lcmp0 (q := 744) (by exact hcm (by assumption)) dL_law_743 rfl ?_
      refine jk_ifT_eq (q := 749) (by decide) (by decide) dL_law_744 rfl ?_
      refine jk_goto (q := 3459) dL_law_749 rfl ?_
      refine jk_convw (jk_rm (hc _ _ _ _ hlr) (by omega) (by omega)) (jk_wkS rfl (jk_wkS rfl (jk_wkS rfl (jk_wkS rfl (jk_wkS rfl (jk_wkS rfl (jk_wkN (jk_wkN (jk_wkN jk_wk0)))))))))
  · exact absurd rfl (by assumption)
theorem lw_7 {G : jk_G} {n : Nat} {t : jk_T} {σ : jk_I} {ρ : jk_P} {L : Nat} {f : Nat → Int} {x m o d k rc rs mc ms : Nat} (hL : L ≤ 2560) (hsc : ∀ s, jk_Z G s → va_T .int (jk_ad G 63) L (fun j => jI (f j)) (jk_A G) s s.heap) (hk : 5 * k + 4 < L) (hmc : mc ≤ 14) (hms : ms ≤ 420) (hrc : 14 ≤ rc) (hrs : 420 ≤ rs) (hF : lc_F G yL_shareMisclosure mL_shareMisclosure [(0, 9, 12, 19), (0, 9, 15, 43), (0, 9, 18, 45)] mc ms [.ref x, jI (f (5 * (k : Int) + 1).toNat), .ref o] yX13_shareMisclosure mX13_shareMisclosure [.ref m, jI (f (5 * (k : Int) + 1).toNat)] false x m o d k n t σ ρ) (hc : ∀ n' t' σ' ρ', lr x m o d (k + 1) n' t' σ' ρ' → jk_J G mL_law 3459 [some (.ref 63), some (.ref x), some (.ref m), some (.ref o), some (.ref d), some (jI (5 * (k : Int))), none, none, none] [] n' t' σ' ρ' (rc - 14) (rs - 420) lq_Q jk_no) : jk_J G mL_law 752 [some (.ref 63), some (.ref x), some (.ref m), some (.ref o), some (.ref d), some (jI (5 * (k : Int))), none, none, none] [] n t σ ρ rc rs lq_Q jk_no := by
  obtain ⟨P1, K1, hP1⟩ := hF
  refine jk_aload_n (q := 753) dL_law_752 rfl rfl ?_
  refine jk_aload_n (q := 754) dL_law_753 rfl rfl ?_
  refine jk_iload (q := 756) dL_law_754 rfl rfl ?_
  refine jk_iconst (q := 757) dL_law_756 rfl ?_
  refine jk_iadd (q := 758) dL_law_757 rfl ?_
  refine jk_tabs (q := 759) (hsc) (by first | decide | omega) (by first | decide | assumption | omega) dL_law_758 rfl ?_
  refine jk_aload_n (q := 760) dL_law_759 rfl rfl ?_
  refine jk_callSH (q := 763) (As := [.ref x, jI (f (5 * (k : Int) + 1).toNat), .ref o]) K1 jm_L_shareMisclosure jw_1046 rfl rfl rfl (by omega) (by omega) rfl dL_law_760 rfl (fun v' n' t' σ' ρ' hq => ?_) (fun _ _ _ _ _ h => h.elim)
  obtain ⟨c1, rfl, hc1, hm1, P2, K2, hP2⟩ := hP1 _ _ _ _ _ hq
  simp only [Option.toList_some, List.cons_append, List.nil_append]
  refine jk_istore6 (q := 765) dL_law_763 rfl rfl rfl ?_
  refine jk_aload_n (q := 766) dL_law_765 rfl rfl ?_
  refine jk_aload_n (q := 767) dL_law_766 rfl rfl ?_
  refine jk_iload (q := 769) dL_law_767 rfl rfl ?_
  refine jk_iconst (q := 770) dL_law_769 rfl ?_
  refine jk_iadd (q := 771) dL_law_770 rfl ?_
  refine jk_tabs (q := 772) (hsc) (by first | decide | omega) (by first | decide | assumption | omega) dL_law_771 rfl ?_
  refine jk_cV1g (q := 775) (K2) jm_X13_shareMisclosure jw_2024 rfl (by first | assumption) rfl rfl (Nat.zero_le _) (Nat.zero_le _) rfl dL_law_772 rfl (fun v' n' t' σ' ρ' hq => ?_) (fun _ _ _ _ _ h => h.elim)
  obtain ⟨v2, rfl, hbo, ⟨O, hat, hO, hO12⟩, hto, hcm, hlr⟩ := hP2 _ _ _ _ _ hq
  have hm2 := hat.1
  simp only [Option.toList_some, List.cons_append, List.nil_append]
  simp only [Nat.sub_zero]
  refine jk_istore7 (q := 777) dL_law_775 rfl rfl rfl ?_
  refine jk_aload_n (q := 778) dL_law_777 rfl rfl ?_
  refine jk_cV0p (q := 781) (c_X13_thrown hat hO) jm_X13_thrown jw_1918 rfl (by first | assumption) rfl rfl rfl dL_law_778 rfl ?_
  rw [hO12]
  refine jk_iload (q := 783) dL_law_781 rfl rfl ?_
  refine jk_icmp_eq (q := 788) (q2 := 786) dL_law_783 rfl rfl (by first | decide | assumption | omega) (by first | decide | assumption | omega) (fun z1 => ?_) (fun z1 => ?_)
  · refine jk_iload (q := 790) dL_law_788 rfl rfl ?_
    refine jk_if_ne (q := 805) (q2 := 793) dL_law_790 rfl rfl (by first | decide | assumption | omega) (fun z2 => ?_) (fun z2 => ?_)
    · refine jk_goto (q := 3459) dL_law_805 rfl ?_
      refine jk_convw (jk_rm (hc _ _ _ _ hlr) (by omega) (by omega)) (jk_wkS rfl (jk_wkS rfl (jk_wkS rfl (jk_wkS rfl (jk_wkS rfl (jk_wkS rfl (jk_wkN (jk_wkN (jk_wkN jk_wk0)))))))))
    · refine jk_aload_n (q := 794) dL_law_793 rfl rfl ?_
      refine jk_iconst (q := 795) dL_law_794 rfl ?_
      refine jk_laldR (q := 796) (by first | assumption) (by rfl) (by first | decide | assumption | omega) dL_law_795 rfl ?_
      refine jk_iload (q := 798) dL_law_796 rfl rfl ?_
      refine jk_i2lw (q := 799) dL_law_798 rfl ?_
      refine jk_lcmp0 (q := 800) (by exact hcm (by assumption)) dL_law_799 rfl ?_
      refine jk_ifT_eq (q := 805) (by decide) (by decide) dL_law_800 rfl ?_
      refine jk_goto (q := 3459) dL_law_805 rfl ?_
      refine jk_convw (jk_rm (hc _ _ _ _ hlr) (by omega) (by omega)) (jk_wkS rfl (jk_wkS rfl (jk_wkS rfl (jk_wkS rfl (jk_wkS rfl (jk_wkS rfl (jk_wkN (jk_wkN (jk_wkN jk_wk0)))))))))
  · exact absurd rfl (by assumption)
theorem lw_8 {G : jk_G} {n : Nat} {t : jk_T} {σ : jk_I} {ρ : jk_P} {L : Nat} {f : Nat → Int} {x m o d k rc rs mc ms : Nat} (hL : L ≤ 2560) (hsc : ∀ s, jk_Z G s → va_T .int (jk_ad G 63) L (fun j => jI (f j)) (jk_A G) s s.heap) (hk : 5 * k + 4 < L) (hmc : mc ≤ 14) (hms : ms ≤ 420) (hrc : 14 ≤ rc) (hrs : 420 ≤ rs) (hF : lc_V G yX12_resetCorrections mX12_resetCorrections mc ms yX13_resetCorrections mX13_resetCorrections x m o d k n t σ ρ) (hc : ∀ n' t' σ' ρ', lr x m o d (k + 1) n' t' σ' ρ' → jk_J G mL_law 3459 [some (.ref 63), some (.ref x), some (.ref m), some (.ref o), some (.ref d), some (jI (5 * (k : Int))), none, none, none] [] n' t' σ' ρ' (rc - 14) (rs - 420) lq_Q jk_no) : jk_J G mL_law 808 [some (.ref 63), some (.ref x), some (.ref m), some (.ref o), some (.ref d), some (jI (5 * (k : Int))), none, none, none] [] n t σ ρ rc rs lq_Q jk_no := by
  obtain ⟨P1, X1, K1, hX1, hx, hP1⟩ := hF
  refine jk_aload_n (q := 809) dL_law_808 rfl rfl ?_
  refine jk_cV0g (q := 812) (K1) jm_X12_resetCorrections jw_422 rfl (by first | assumption) rfl rfl (by omega) (by omega) rfl dL_law_809 rfl (fun v' n' t' σ' ρ' hq => ?_) (fun _ _ _ _ _ h => (hX1 _ _ _ _ _ h).elim)
  obtain ⟨v1, rfl, hv1, hm1, P2, K2, hP2⟩ := hP1 _ _ _ _ _ hq
  simp only [Option.toList_some, List.cons_append, List.nil_append]
  refine jk_aload_n (q := 813) dL_law_812 rfl rfl ?_
  refine jk_cV0g (q := 816) (K2) jm_X13_resetCorrections jw_2091 rfl (by first | assumption) rfl rfl (Nat.zero_le _) (Nat.zero_le _) rfl dL_law_813 rfl (fun v' n' t' σ' ρ' hq => ?_) (fun _ _ _ _ _ h => h.elim)
  obtain ⟨rfl, hlr⟩ := hP2 _ _ _ _ _ hq
  simp only [Option.toList_some, List.cons_append, List.nil_append]
  simp only [Nat.sub_zero]
  refine jk_icmp_eq (q := 3459) (q2 := 819) dL_law_816 rfl rfl (by first | decide | assumption | omega) (by first | decide | assumption | omega) (fun z1 => ?_) (fun z1 => ?_)
  · refine jk_convw (jk_rm (hc _ _ _ _ hlr) (by omega) (by omega)) (jk_wkS rfl (jk_wkS rfl (jk_wkS rfl (jk_wkS rfl (jk_wkS rfl (jk_wkS rfl (jk_wkN (jk_wkN (jk_wkN jk_wk0)))))))))
  · exact absurd rfl (by assumption)
theorem lw_9 {G : jk_G} {n : Nat} {t : jk_T} {σ : jk_I} {ρ : jk_P} {L : Nat} {f : Nat → Int} {x m o d k rc rs mc ms : Nat} (hL : L ≤ 2560) (hsc : ∀ s, jk_Z G s → va_T .int (jk_ad G 63) L (fun j => jI (f j)) (jk_A G) s s.heap) (hk : 5 * k + 4 < L) (hmc : mc ≤ 14) (hms : ms ≤ 420) (hrc : 14 ≤ rc) (hrs : 420 ≤ rs) (hF : lc_F G yL_addProfile mL_addProfile [(0, 9, 12, 19), (0, 9, 15, 13)] mc ms [.ref x, jI (f (5 * (k : Int) + 1).toNat), .ref o] yX13_addProfile mX13_addProfile [.ref m, jI (f (5 * (k : Int) + 1).toNat)] false x m o d k n t σ ρ) (hc : ∀ n' t' σ' ρ', lr x m o d (k + 1) n' t' σ' ρ' → jk_J G mL_law 3459 [some (.ref 63), some (.ref x), some (.ref m), some (.ref o), some (.ref d), some (jI (5 * (k : Int))), none, none, none] [] n' t' σ' ρ' (rc - 14) (rs - 420) lq_Q jk_no) : jk_J G mL_law 821 [some (.ref 63), some (.ref x), some (.ref m), some (.ref o), some (.ref d), some (jI (5 * (k : Int))), none, none, none] [] n t σ ρ rc rs lq_Q jk_no := by
  obtain ⟨P1, K1, hP1⟩ := hF
  refine jk_aload_n (q := 822) dL_law_821 rfl rfl ?_
  refine jk_aload_n (q := 823) dL_law_822 rfl rfl ?_
  refine jk_iload (q := 825) dL_law_823 rfl rfl ?_
  refine jk_iconst (q := 826) dL_law_825 rfl ?_
  refine jk_iadd (q := 827) dL_law_826 rfl ?_
  refine jk_tabs (q := 828) (hsc) (by first | decide | omega) (by first | decide | assumption | omega) dL_law_827 rfl ?_
  refine jk_aload_n (q := 829) dL_law_828 rfl rfl ?_
  refine jk_callSH (q := 832) (As := [.ref x, jI (f (5 * (k : Int) + 1).toNat), .ref o]) K1 jm_L_addProfile jw_1057 rfl rfl rfl (by omega) (by omega) rfl dL_law_829 rfl (fun v' n' t' σ' ρ' hq => ?_) (fun _ _ _ _ _ h => h.elim)
  obtain ⟨c1, rfl, hc1, hm1, P2, K2, hP2⟩ := hP1 _ _ _ _ _ hq
  simp only [Option.toList_some, List.cons_append, List.nil_append]
  refine jk_istore6 (q := 834) dL_law_832 rfl rfl rfl ?_
  refine jk_aload_n (q := 835) dL_law_834 rfl rfl ?_
  refine jk_aload_n (q := 836) dL_law_835 rfl rfl ?_
  refine jk_iload (q := 838) dL_law_836 rfl rfl ?_
  refine jk_iconst (q := 839) dL_law_838 rfl ?_
  refine jk_iadd (q := 840) dL_law_839 rfl ?_
  refine jk_tabs (q := 841) (hsc) (by first | decide | omega) (by first | decide | assumption | omega) dL_law_840 rfl ?_
  refine jk_cV1g (q := 844) (K2) jm_X13_addProfile jw_2099 rfl (by first | assumption) rfl rfl (Nat.zero_le _) (Nat.zero_le _) rfl dL_law_841 rfl (fun v' n' t' σ' ρ' hq => ?_) (fun _ _ _ _ _ h => h.elim)
  obtain ⟨v2, rfl, hbo, ⟨O, hat, hO, hO12⟩, hto, hcm, hlr⟩ := hP2 _ _ _ _ _ hq
  have hm2 := hat.1
  simp only [Option.toList_some, List.cons_append, List.nil_append]
  simp only [Nat.sub_zero]
  refine jk_istore7 (q := 846) dL_law_844 rfl rfl rfl ?_
  refine jk_aload_n (q := 847) dL_law_846 rfl rfl ?_
  refine jk_cV0p (q := 850) (c_X13_thrown hat hO) jm_X13_thrown jw_1918 rfl (by first | assumption) rfl rfl rfl dL_law_847 rfl ?_
  rw [hO12]
  refine jk_iload (q := 852) dL_law_850 rfl rfl ?_
  refine jk_icmp_eq (q := 857) (q2 := 855) dL_law_852 rfl rfl (by first | decide | assumption | omega) (by first | decide | assumption | omega) (fun z1 => ?_) (fun z1 => ?_)
  · refine jk_iload (q := 859) dL_law_857 rfl rfl ?_
    refine jk_if_ne (q := 874) (q2 := 862) dL_law_859 rfl rfl (by first | decide | assumption | omega) (fun z2 => ?_) (fun z2 => ?_)
    · refine jk_goto (q := 3459) dL_law_874 rfl ?_
      refine jk_convw (jk_rm (hc _ _ _ _ hlr) (by omega) (by omega)) (jk_wkS rfl (jk_wkS rfl (jk_wkS rfl (jk_wkS rfl (jk_wkS rfl (jk_wkS rfl (jk_wkN (jk_wkN (jk_wkN jk_wk0)))))))))
    · refine jk_aload_n (q := 863) dL_law_862 rfl rfl ?_
      refine jk_iconst (q := 864) dL_law_863 rfl ?_
      refine jk_laldR (q := 865) (by first | assumption) (by rfl) (by first | decide | assumption | omega) dL_law_864 rfl ?_
      refine jk_iload (q := 867) dL_law_865 rfl rfl ?_
      refine jk_i2lw (q := 868) dL_law_867 rfl ?_
      refine jk_lcmp0 (q := 869) (by exact hcm (by assumption)) dL_law_868 rfl ?_
      refine jk_ifT_eq (q := 874) (by decide) (by decide) dL_law_869 rfl ?_
      refine jk_goto (q := 3459) dL_law_874 rfl ?_
      refine jk_convw (jk_rm (hc _ _ _ _ hlr) (by omega) (by omega)) (jk_wkS rfl (jk_wkS rfl (jk_wkS rfl (jk_wkS rfl (jk_wkS rfl (jk_wkS rfl (jk_wkN (jk_wkN (jk_wkN jk_wk0)))))))))
  · exact absurd rfl (by assumption)
theorem lw_10 {G : jk_G} {n : Nat} {t : jk_T} {σ : jk_I} {ρ : jk_P} {L : Nat} {f : Nat → Int} {x m o d k rc rs mc ms : Nat} (hL : L ≤ 2560) (hsc : ∀ s, jk_Z G s → va_T .int (jk_ad G 63) L (fun j => jI (f j)) (jk_A G) s s.heap) (hk : 5 * k + 4 < L) (hmc : mc ≤ 14) (hms : ms ≤ 420) (hrc : 14 ≤ rc) (hrs : 420 ≤ rs) (hF : lc_F G yL_addStation mL_addStation [(0, 12, 15, 19), (0, 12, 19, 21), (0, 12, 23, 13)] mc ms [.ref x, jI (f (5 * (k : Int) + 1).toNat), jI (f (5 * (k : Int) + 2).toNat), jI (f (5 * (k : Int) + 3).toNat), .ref o] yX13_addStation mX13_addStation [.ref m, jI (f (5 * (k : Int) + 1).toNat), jI (f (5 * (k : Int) + 2).toNat), jI (f (5 * (k : Int) + 3).toNat)] false x m o d k n t σ ρ) (hc : ∀ n' t' σ' ρ', lr x m o d (k + 1) n' t' σ' ρ' → jk_J G mL_law 3459 [some (.ref 63), some (.ref x), some (.ref m), some (.ref o), some (.ref d), some (jI (5 * (k : Int))), none, none, none] [] n' t' σ' ρ' (rc - 14) (rs - 420) lq_Q jk_no) : jk_J G mL_law 877 [some (.ref 63), some (.ref x), some (.ref m), some (.ref o), some (.ref d), some (jI (5 * (k : Int))), none, none, none] [] n t σ ρ rc rs lq_Q jk_no := by
  obtain ⟨P1, K1, hP1⟩ := hF
  refine jk_aload_n (q := 878) dL_law_877 rfl rfl ?_
  refine jk_aload_n (q := 879) dL_law_878 rfl rfl ?_
  refine jk_iload (q := 881) dL_law_879 rfl rfl ?_
  refine jk_iconst (q := 882) dL_law_881 rfl ?_
  refine jk_iadd (q := 883) dL_law_882 rfl ?_
  refine jk_tabs (q := 884) (hsc) (by first | decide | omega) (by first | decide | assumption | omega) dL_law_883 rfl ?_
  refine jk_aload_n (q := 885) dL_law_884 rfl rfl ?_
  refine jk_iload (q := 887) dL_law_885 rfl rfl ?_
  refine jk_iconst (q := 888) dL_law_887 rfl ?_
  refine jk_iadd (q := 889) dL_law_888 rfl ?_
  refine jk_tabs (q := 890) (hsc) (by first | decide | omega) (by first | decide | assumption | omega) dL_law_889 rfl ?_
  refine jk_aload_n (q := 891) dL_law_890 rfl rfl ?_
  refine jk_iload (q := 893) dL_law_891 rfl rfl ?_
  refine jk_iconst (q := 894) dL_law_893 rfl ?_
  refine jk_iadd (q := 895) dL_law_894 rfl ?_
  refine jk_tabs (q := 896) (hsc) (by first | decide | omega) (by first | decide | assumption | omega) dL_law_895 rfl ?_
  refine jk_aload_n (q := 897) dL_law_896 rfl rfl ?_
  refine jk_callSH (q := 900) (As := [.ref x, jI (f (5 * (k : Int) + 1).toNat), jI (f (5 * (k : Int) + 2).toNat), jI (f (5 * (k : Int) + 3).toNat), .ref o]) K1 jm_L_addStation jw_1066 rfl rfl rfl (by omega) (by omega) rfl dL_law_897 rfl (fun v' n' t' σ' ρ' hq => ?_) (fun _ _ _ _ _ h => h.elim)
  obtain ⟨c1, rfl, hc1, hm1, P2, K2, hP2⟩ := hP1 _ _ _ _ _ hq
  simp only [Option.toList_some, List.cons_append, List.nil_append]
  refine jk_istore6 (q := 902) dL_law_900 rfl rfl rfl ?_
  refine jk_aload_n (q := 903) dL_law_902 rfl rfl ?_
  refine jk_aload_n (q := 904) dL_law_903 rfl rfl ?_
  refine jk_iload (q := 906) dL_law_904 rfl rfl ?_
  refine jk_iconst (q := 907) dL_law_906 rfl ?_
  refine jk_iadd (q := 908) dL_law_907 rfl ?_
  refine jk_tabs (q := 909) (hsc) (by first | decide | omega) (by first | decide | assumption | omega) dL_law_908 rfl ?_
  refine jk_aload_n (q := 910) dL_law_909 rfl rfl ?_
  refine jk_iload (q := 912) dL_law_910 rfl rfl ?_
  refine jk_iconst (q := 913) dL_law_912 rfl ?_
  refine jk_iadd (q := 914) dL_law_913 rfl ?_
  refine jk_tabs (q := 915) (hsc) (by first | decide | omega) (by first | decide | assumption | omega) dL_law_914 rfl ?_
  refine jk_aload_n (q := 916) dL_law_915 rfl rfl ?_
  refine jk_iload (q := 918) dL_law_916 rfl rfl ?_
  refine jk_iconst (q := 919) dL_law_918 rfl ?_
  refine jk_iadd (q := 920) dL_law_919 rfl ?_
  refine jk_tabs (q := 921) (hsc) (by first | decide | omega) (by first | decide | assumption | omega) dL_law_920 rfl ?_
  refine jk_cV3g (q := 924) (K2) jm_X13_addStation jw_2107 rfl (by first | assumption) rfl rfl (Nat.zero_le _) (Nat.zero_le _) rfl dL_law_921 rfl (fun v' n' t' σ' ρ' hq => ?_) (fun _ _ _ _ _ h => h.elim)
  obtain ⟨v2, rfl, hbo, ⟨O, hat, hO, hO12⟩, hto, hcm, hlr⟩ := hP2 _ _ _ _ _ hq
  have hm2 := hat.1
  simp only [Option.toList_some, List.cons_append, List.nil_append]
  simp only [Nat.sub_zero]
  refine jk_istore7 (q := 926) dL_law_924 rfl rfl rfl ?_
  refine jk_aload_n (q := 927) dL_law_926 rfl rfl ?_
  refine jk_cV0p (q := 930) (c_X13_thrown hat hO) jm_X13_thrown jw_1918 rfl (by first | assumption) rfl rfl rfl dL_law_927 rfl ?_
  rw [hO12]
  refine jk_iload (q := 932) dL_law_930 rfl rfl ?_
  refine jk_icmp_eq (q := 937) (q2 := 935) dL_law_932 rfl rfl (by first | decide | assumption | omega) (by first | decide | assumption | omega) (fun z1 => ?_) (fun z1 => ?_)
  · refine jk_iload (q := 939) dL_law_937 rfl rfl ?_
    refine jk_if_ne (q := 954) (q2 := 942) dL_law_939 rfl rfl (by first | decide | assumption | omega) (fun z2 => ?_) (fun z2 => ?_)
    · refine jk_goto (q := 3459) dL_law_954 rfl ?_
      refine jk_convw (jk_rm (hc _ _ _ _ hlr) (by omega) (by omega)) (jk_wkS rfl (jk_wkS rfl (jk_wkS rfl (jk_wkS rfl (jk_wkS rfl (jk_wkS rfl (jk_wkN (jk_wkN (jk_wkN jk_wk0)))))))))
    · refine jk_aload_n (q := 943) dL_law_942 rfl rfl ?_
      refine jk_iconst (q := 944) dL_law_943 rfl ?_
      refine jk_laldR (q := 945) (by first | assumption) (by rfl) (by first | decide | assumption | omega) dL_law_944 rfl ?_
      refine jk_iload (q := 947) dL_law_945 rfl rfl ?_
      refine jk_i2lw (q := 948) dL_law_947 rfl ?_
      refine jk_lcmp0 (q := 949) (by exact hcm (by assumption)) dL_law_948 rfl ?_
      refine jk_ifT_eq (q := 954) (by decide) (by decide) dL_law_949 rfl ?_
      refine jk_goto (q := 3459) dL_law_954 rfl ?_
      refine jk_convw (jk_rm (hc _ _ _ _ hlr) (by omega) (by omega)) (jk_wkS rfl (jk_wkS rfl (jk_wkS rfl (jk_wkS rfl (jk_wkS rfl (jk_wkS rfl (jk_wkN (jk_wkN (jk_wkN jk_wk0)))))))))
  · exact absurd rfl (by assumption)
theorem lw_11 {G : jk_G} {n : Nat} {t : jk_T} {σ : jk_I} {ρ : jk_P} {L : Nat} {f : Nat → Int} {x m o d k rc rs mc ms : Nat} (hL : L ≤ 2560) (hsc : ∀ s, jk_Z G s → va_T .int (jk_ad G 63) L (fun j => jI (f j)) (jk_A G) s s.heap) (hk : 5 * k + 4 < L) (hmc : mc ≤ 14) (hms : ms ≤ 420) (hrc : 14 ≤ rc) (hrs : 420 ≤ rs) (hF : lc_F G yL_setWaterLevel mL_setWaterLevel [(0, 9, 12, 21)] mc ms [.ref x, jI (f (5 * (k : Int) + 1).toNat), .ref o] yX13_setWaterLevel mX13_setWaterLevel [.ref m, jI (f (5 * (k : Int) + 1).toNat)] false x m o d k n t σ ρ) (hc : ∀ n' t' σ' ρ', lr x m o d (k + 1) n' t' σ' ρ' → jk_J G mL_law 3459 [some (.ref 63), some (.ref x), some (.ref m), some (.ref o), some (.ref d), some (jI (5 * (k : Int))), none, none, none] [] n' t' σ' ρ' (rc - 14) (rs - 420) lq_Q jk_no) : jk_J G mL_law 957 [some (.ref 63), some (.ref x), some (.ref m), some (.ref o), some (.ref d), some (jI (5 * (k : Int))), none, none, none] [] n t σ ρ rc rs lq_Q jk_no := by
  obtain ⟨P1, K1, hP1⟩ := hF
  refine jk_aload_n (q := 958) dL_law_957 rfl rfl ?_
  refine jk_aload_n (q := 959) dL_law_958 rfl rfl ?_
  refine jk_iload (q := 961) dL_law_959 rfl rfl ?_
  refine jk_iconst (q := 962) dL_law_961 rfl ?_
  refine jk_iadd (q := 963) dL_law_962 rfl ?_
  refine jk_tabs (q := 964) (hsc) (by first | decide | omega) (by first | decide | assumption | omega) dL_law_963 rfl ?_
  refine jk_aload_n (q := 965) dL_law_964 rfl rfl ?_
  refine jk_callSH (q := 968) (As := [.ref x, jI (f (5 * (k : Int) + 1).toNat), .ref o]) K1 jm_L_setWaterLevel jw_1075 rfl rfl rfl (by omega) (by omega) rfl dL_law_965 rfl (fun v' n' t' σ' ρ' hq => ?_) (fun _ _ _ _ _ h => h.elim)
  obtain ⟨c1, rfl, hc1, hm1, P2, K2, hP2⟩ := hP1 _ _ _ _ _ hq
  simp only [Option.toList_some, List.cons_append, List.nil_append]
  refine jk_istore6 (q := 970) dL_law_968 rfl rfl rfl ?_
  refine jk_aload_n (q := 971) dL_law_970 rfl rfl ?_
  refine jk_aload_n (q := 972) dL_law_971 rfl rfl ?_
  refine jk_iload (q := 974) dL_law_972 rfl rfl ?_
  refine jk_iconst (q := 975) dL_law_974 rfl ?_
  refine jk_iadd (q := 976) dL_law_975 rfl ?_
  refine jk_tabs (q := 977) (hsc) (by first | decide | omega) (by first | decide | assumption | omega) dL_law_976 rfl ?_
  refine jk_cV1g (q := 980) (K2) jm_X13_setWaterLevel jw_2123 rfl (by first | assumption) rfl rfl (Nat.zero_le _) (Nat.zero_le _) rfl dL_law_977 rfl (fun v' n' t' σ' ρ' hq => ?_) (fun _ _ _ _ _ h => h.elim)
  obtain ⟨v2, rfl, hbo, ⟨O, hat, hO, hO12⟩, hto, hcm, hlr⟩ := hP2 _ _ _ _ _ hq
  have hm2 := hat.1
  simp only [Option.toList_some, List.cons_append, List.nil_append]
  simp only [Nat.sub_zero]
  refine jk_istore7 (q := 982) dL_law_980 rfl rfl rfl ?_
  refine jk_aload_n (q := 983) dL_law_982 rfl rfl ?_
  refine jk_cV0p (q := 986) (c_X13_thrown hat hO) jm_X13_thrown jw_1918 rfl (by first | assumption) rfl rfl rfl dL_law_983 rfl ?_
  rw [hO12]
  refine jk_iload (q := 988) dL_law_986 rfl rfl ?_
  refine jk_icmp_eq (q := 993) (q2 := 991) dL_law_988 rfl rfl (by first | decide | assumption | omega) (by first | decide | assumption | omega) (fun z1 => ?_) (fun z1 => ?_)
  · refine jk_iload (q := 995) dL_law_993 rfl rfl ?_
    refine jk_if_ne (q := 1010) (q2 := 998) dL_law_995 rfl rfl (by first | decide | assumption | omega) (fun z2 => ?_) (fun z2 => ?_)
    · refine jk_goto (q := 3459) dL_law_1010 rfl ?_
      refine jk_convw (jk_rm (hc _ _ _ _ hlr) (by omega) (by omega)) (jk_wkS rfl (jk_wkS rfl (jk_wkS rfl (jk_wkS rfl (jk_wkS rfl (jk_wkS rfl (jk_wkN (jk_wkN (jk_wkN jk_wk0)))))))))
    · refine jk_aload_n (q := 999) dL_law_998 rfl rfl ?_
      refine jk_iconst (q := 1000) dL_law_999 rfl ?_
      refine jk_laldR (q := 1001) (by first | assumption) (by rfl) (by first | decide | assumption | omega) dL_law_1000 rfl ?_
      refine jk_iload (q := 1003) dL_law_1001 rfl rfl ?_
      refine jk_i2lw (q := 1004) dL_law_1003 rfl ?_
      refine jk_lcmp0 (q := 1005) (by exact hcm (by assumption)) dL_law_1004 rfl ?_
      refine jk_ifT_eq (q := 1010) (by decide) (by decide) dL_law_1005 rfl ?_
      refine jk_goto (q := 3459) dL_law_1010 rfl ?_
      refine jk_convw (jk_rm (hc _ _ _ _ hlr) (by omega) (by omega)) (jk_wkS rfl (jk_wkS rfl (jk_wkS rfl (jk_wkS rfl (jk_wkS rfl (jk_wkS rfl (jk_wkN (jk_wkN (jk_wkN jk_wk0)))))))))
  · exact absurd rfl (by assumption)
theorem lw_12 {G : jk_G} {n : Nat} {t : jk_T} {σ : jk_I} {ρ : jk_P} {L : Nat} {f : Nat → Int} {x m o d k rc rs mc ms : Nat} (hL : L ≤ 2560) (hsc : ∀ s, jk_Z G s → va_T .int (jk_ad G 63) L (fun j => jI (f j)) (jk_A G) s s.heap) (hk : 5 * k + 4 < L) (hmc : mc ≤ 14) (hms : ms ≤ 420) (hrc : 14 ≤ rc) (hrs : 420 ≤ rs) (hF : lc_V G yX12_benchmarkCount mX12_benchmarkCount mc ms yX13_benchmarkCount mX13_benchmarkCount x m o d k n t σ ρ) (hc : ∀ n' t' σ' ρ', lr x m o d (k + 1) n' t' σ' ρ' → jk_J G mL_law 3459 [some (.ref 63), some (.ref x), some (.ref m), some (.ref o), some (.ref d), some (jI (5 * (k : Int))), none, none, none] [] n' t' σ' ρ' (rc - 14) (rs - 420) lq_Q jk_no) : jk_J G mL_law 1013 [some (.ref 63), some (.ref x), some (.ref m), some (.ref o), some (.ref d), some (jI (5 * (k : Int))), none, none, none] [] n t σ ρ rc rs lq_Q jk_no := by
  obtain ⟨P1, X1, K1, hX1, hx, hP1⟩ := hF
  refine jk_aload_n (q := 1014) dL_law_1013 rfl rfl ?_
  refine jk_cV0g (q := 1017) (K1) jm_X12_benchmarkCount jw_804 rfl (by first | assumption) rfl rfl (by omega) (by omega) rfl dL_law_1014 rfl (fun v' n' t' σ' ρ' hq => ?_) (fun _ _ _ _ _ h => (hX1 _ _ _ _ _ h).elim)
  obtain ⟨v1, rfl, hv1, hm1, P2, K2, hP2⟩ := hP1 _ _ _ _ _ hq
  simp only [Option.toList_some, List.cons_append, List.nil_append]
  refine jk_aload_n (q := 1018) dL_law_1017 rfl rfl ?_
  refine jk_cV0g (q := 1021) (K2) jm_X13_benchmarkCount jw_2131 rfl (by first | assumption) rfl rfl (Nat.zero_le _) (Nat.zero_le _) rfl dL_law_1018 rfl (fun v' n' t' σ' ρ' hq => ?_) (fun _ _ _ _ _ h => h.elim)
  obtain ⟨rfl, hlr⟩ := hP2 _ _ _ _ _ hq
  simp only [Option.toList_some, List.cons_append, List.nil_append]
  simp only [Nat.sub_zero]
  refine jk_icmp_eq (q := 3459) (q2 := 1024) dL_law_1021 rfl rfl (by first | decide | assumption | omega) (by first | decide | assumption | omega) (fun z1 => ?_) (fun z1 => ?_)
  · refine jk_convw (jk_rm (hc _ _ _ _ hlr) (by omega) (by omega)) (jk_wkS rfl (jk_wkS rfl (jk_wkS rfl (jk_wkS rfl (jk_wkS rfl (jk_wkS rfl (jk_wkN (jk_wkN (jk_wkN jk_wk0)))))))))
  · exact absurd rfl (by assumption)
theorem lw_13 {G : jk_G} {n : Nat} {t : jk_T} {σ : jk_I} {ρ : jk_P} {L : Nat} {f : Nat → Int} {x m o d k rc rs mc ms : Nat} (hL : L ≤ 2560) (hsc : ∀ s, jk_Z G s → va_T .int (jk_ad G 63) L (fun j => jI (f j)) (jk_A G) s s.heap) (hk : 5 * k + 4 < L) (hmc : mc ≤ 14) (hms : ms ≤ 420) (hrc : 14 ≤ rc) (hrs : 420 ≤ rs) (hF : lc_F G yL_isFixed mL_isFixed [(0, 16, 19, 19)] mc ms [.ref x, jI (f (5 * (k : Int) + 1).toNat), .ref o] yX13_isFixed mX13_isFixed [.ref m, jI (f (5 * (k : Int) + 1).toNat)] true x m o d k n t σ ρ) (hc : ∀ n' t' σ' ρ', lr x m o d (k + 1) n' t' σ' ρ' → jk_J G mL_law 3459 [some (.ref 63), some (.ref x), some (.ref m), some (.ref o), some (.ref d), some (jI (5 * (k : Int))), none, none, none] [] n' t' σ' ρ' (rc - 14) (rs - 420) lq_Q jk_no) : jk_J G mL_law 1026 [some (.ref 63), some (.ref x), some (.ref m), some (.ref o), some (.ref d), some (jI (5 * (k : Int))), none, none, none] [] n t σ ρ rc rs lq_Q jk_no := by
  obtain ⟨P1, K1, hP1⟩ := hF
  refine jk_aload_n (q := 1027) dL_law_1026 rfl rfl ?_
  refine jk_aload_n (q := 1028) dL_law_1027 rfl rfl ?_
  refine jk_iload (q := 1030) dL_law_1028 rfl rfl ?_
  refine jk_iconst (q := 1031) dL_law_1030 rfl ?_
  refine jk_iadd (q := 1032) dL_law_1031 rfl ?_
  refine jk_tabs (q := 1033) (hsc) (by first | decide | omega) (by first | decide | assumption | omega) dL_law_1032 rfl ?_
  refine jk_aload_n (q := 1034) dL_law_1033 rfl rfl ?_
  refine jk_callSH (q := 1037) (As := [.ref x, jI (f (5 * (k : Int) + 1).toNat), .ref o]) K1 jm_L_isFixed jw_1084 rfl rfl rfl (by omega) (by omega) rfl dL_law_1034 rfl (fun v' n' t' σ' ρ' hq => ?_) (fun _ _ _ _ _ h => h.elim)
  obtain ⟨c1, rfl, hc1, hm1, P2, K2, hP2⟩ := hP1 _ _ _ _ _ hq
  simp only [Option.toList_some, List.cons_append, List.nil_append]
  refine jk_istore6 (q := 1039) dL_law_1037 rfl rfl rfl ?_
  refine jk_aload_n (q := 1040) dL_law_1039 rfl rfl ?_
  refine jk_aload_n (q := 1041) dL_law_1040 rfl rfl ?_
  refine jk_iload (q := 1043) dL_law_1041 rfl rfl ?_
  refine jk_iconst (q := 1044) dL_law_1043 rfl ?_
  refine jk_iadd (q := 1045) dL_law_1044 rfl ?_
  refine jk_tabs (q := 1046) (hsc) (by first | decide | omega) (by first | decide | assumption | omega) dL_law_1045 rfl ?_
  refine jk_cV1g (q := 1049) (K2) jm_X13_isFixed jw_2135 rfl (by first | assumption) rfl rfl (Nat.zero_le _) (Nat.zero_le _) rfl dL_law_1046 rfl (fun v' n' t' σ' ρ' hq => ?_) (fun _ _ _ _ _ h => h.elim)
  obtain ⟨v2, rfl, hbo, ⟨O, hat, hO, hO12⟩, hto, hcm, hlr⟩ := hP2 _ _ _ _ _ hq
  obtain ⟨b, rfl⟩ := hbo rfl
  have hm2 := hat.1
  simp only [Option.toList_some, List.cons_append, List.nil_append]
  simp only [Nat.sub_zero]
  refine jk_istore7 (q := 1051) dL_law_1049 rfl rfl rfl ?_
  refine jk_aload_n (q := 1052) dL_law_1051 rfl rfl ?_
  refine jk_cV0p (q := 1055) (c_X13_thrown hat hO) jm_X13_thrown jw_1918 rfl (by first | assumption) rfl rfl rfl dL_law_1052 rfl ?_
  rw [hO12]
  refine jk_iload (q := 1057) dL_law_1055 rfl rfl ?_
  refine jk_icmp_eq (q := 1062) (q2 := 1060) dL_law_1057 rfl rfl (by first | decide | assumption | omega) (by first | decide | assumption | omega) (fun z1 => ?_) (fun z1 => ?_)
  · refine jk_iload (q := 1064) dL_law_1062 rfl rfl ?_
    refine jk_if_ne (q := 1086) (q2 := 1067) dL_law_1064 rfl rfl (by first | decide | assumption | omega) (fun z2 => ?_) (fun z2 => ?_)
    · refine jk_goto (q := 3459) dL_law_1086 rfl ?_
      refine jk_convw (jk_rm (hc _ _ _ _ hlr) (by omega) (by omega)) (jk_wkS rfl (jk_wkS rfl (jk_wkS rfl (jk_wkS rfl (jk_wkS rfl (jk_wkS rfl (jk_wkN (jk_wkN (jk_wkN jk_wk0)))))))))
    · refine jk_aload_n (q := 1068) dL_law_1067 rfl rfl ?_
      refine jk_iconst (q := 1069) dL_law_1068 rfl ?_
      refine jk_laldR (q := 1070) (by first | assumption) (by rfl) (by first | decide | assumption | omega) dL_law_1069 rfl ?_
      refine jk_iload (q := 1072) dL_law_1070 rfl rfl ?_
      refine jk_ifB_eq (q := 1079) (q2 := 1075) dL_law_1072 rfl rfl (fun z3 => ?_) (fun z3 => ?_)
      · refine jk_lconst (q := 1080) (y := 0) dL_law_1079 rfl (by decide) ?_
        refine jk_lcmp0 (q := 1081) (by rw [hcm (by assumption), jk_wB, (by assumption : b = _)]; rfl) dL_law_1080 rfl ?_
        refine jk_ifT_eq (q := 1086) (by decide) (by decide) dL_law_1081 rfl ?_
        refine jk_goto (q := 3459) dL_law_1086 rfl ?_
        refine jk_convw (jk_rm (hc _ _ _ _ hlr) (by omega) (by omega)) (jk_wkS rfl (jk_wkS rfl (jk_wkS rfl (jk_wkS rfl (jk_wkS rfl (jk_wkS rfl (jk_wkN (jk_wkN (jk_wkN jk_wk0)))))))))
      · refine jk_lconst (q := 1076) (y := 1) dL_law_1075 rfl (by decide) ?_
        refine jk_goto (q := 1080) dL_law_1076 rfl ?_
        refine jk_lcmp0 (q := 1081) (by rw [hcm (by assumption), jk_wB, (by assumption : b = _)]; rfl) dL_law_1080 rfl ?_
        refine jk_ifT_eq (q := 1086) (by decide) (by decide) dL_law_1081 rfl ?_
        refine jk_goto (q := 3459) dL_law_1086 rfl ?_
        refine jk_convw (jk_rm (hc _ _ _ _ hlr) (by omega) (by omega)) (jk_wkS rfl (jk_wkS rfl (jk_wkS rfl (jk_wkS rfl (jk_wkS rfl (jk_wkS rfl (jk_wkN (jk_wkN (jk_wkN jk_wk0)))))))))
  · exact absurd rfl (by assumption)
theorem lw_14 {G : jk_G} {n : Nat} {t : jk_T} {σ : jk_I} {ρ : jk_P} {L : Nat} {f : Nat → Int} {x m o d k rc rs mc ms : Nat} (hL : L ≤ 2560) (hsc : ∀ s, jk_Z G s → va_T .int (jk_ad G 63) L (fun j => jI (f j)) (jk_A G) s s.heap) (hk : 5 * k + 4 < L) (hmc : mc ≤ 14) (hms : ms ≤ 420) (hrc : 14 ≤ rc) (hrs : 420 ≤ rs) (hF : lc_F G yL_hasHeight mL_hasHeight [(0, 16, 19, 19)] mc ms [.ref x, jI (f (5 * (k : Int) + 1).toNat), .ref o] yX13_hasHeight mX13_hasHeight [.ref m, jI (f (5 * (k : Int) + 1).toNat)] true x m o d k n t σ ρ) (hc : ∀ n' t' σ' ρ', lr x m o d (k + 1) n' t' σ' ρ' → jk_J G mL_law 3459 [some (.ref 63), some (.ref x), some (.ref m), some (.ref o), some (.ref d), some (jI (5 * (k : Int))), none, none, none] [] n' t' σ' ρ' (rc - 14) (rs - 420) lq_Q jk_no) : jk_J G mL_law 1089 [some (.ref 63), some (.ref x), some (.ref m), some (.ref o), some (.ref d), some (jI (5 * (k : Int))), none, none, none] [] n t σ ρ rc rs lq_Q jk_no := by
  obtain ⟨P1, K1, hP1⟩ := hF
  refine jk_aload_n (q := 1090) dL_law_1089 rfl rfl ?_
  refine jk_aload_n (q := 1091) dL_law_1090 rfl rfl ?_
  refine jk_iload (q := 1093) dL_law_1091 rfl rfl ?_
  refine jk_iconst (q := 1094) dL_law_1093 rfl ?_
  refine jk_iadd (q := 1095) dL_law_1094 rfl ?_
  refine jk_tabs (q := 1096) (hsc) (by first | decide | omega) (by first | decide | assumption | omega) dL_law_1095 rfl ?_
  refine jk_aload_n (q := 1097) dL_law_1096 rfl rfl ?_
  refine jk_callSH (q := 1100) (As := [.ref x, jI (f (5 * (k : Int) + 1).toNat), .ref o]) K1 jm_L_hasHeight jw_1097 rfl rfl rfl (by omega) (by omega) rfl dL_law_1097 rfl (fun v' n' t' σ' ρ' hq => ?_) (fun _ _ _ _ _ h => h.elim)
  obtain ⟨c1, rfl, hc1, hm1, P2, K2, hP2⟩ := hP1 _ _ _ _ _ hq
  simp only [Option.toList_some, List.cons_append, List.nil_append]
  refine jk_istore6 (q := 1102) dL_law_1100 rfl rfl rfl ?_
  refine jk_aload_n (q := 1103) dL_law_1102 rfl rfl ?_
  refine jk_aload_n (q := 1104) dL_law_1103 rfl rfl ?_
  refine jk_iload (q := 1106) dL_law_1104 rfl rfl ?_
  refine jk_iconst (q := 1107) dL_law_1106 rfl ?_
  refine jk_iadd (q := 1108) dL_law_1107 rfl ?_
  refine jk_tabs (q := 1109) (hsc) (by first | decide | omega) (by first | decide | assumption | omega) dL_law_1108 rfl ?_
  refine jk_cV1g (q := 1112) (K2) jm_X13_hasHeight jw_2139 rfl (by first | assumption) rfl rfl (Nat.zero_le _) (Nat.zero_le _) rfl dL_law_1109 rfl (fun v' n' t' σ' ρ' hq => ?_) (fun _ _ _ _ _ h => h.elim)
  obtain ⟨v2, rfl, hbo, ⟨O, hat, hO, hO12⟩, hto, hcm, hlr⟩ := hP2 _ _ _ _ _ hq
  obtain ⟨b, rfl⟩ := hbo rfl
  have hm2 := hat.1
  simp only [Option.toList_some, List.cons_append, List.nil_append]
  simp only [Nat.sub_zero]
  refine jk_istore7 (q := 1114) dL_law_1112 rfl rfl rfl ?_
  refine jk_aload_n (q := 1115) dL_law_1114 rfl rfl ?_
  refine jk_cV0p (q := 1118) (c_X13_thrown hat hO) jm_X13_thrown jw_1918 rfl (by first | assumption) rfl rfl rfl dL_law_1115 rfl ?_
  rw [hO12]
  refine jk_iload (q := 1120) dL_law_1118 rfl rfl ?_
  refine jk_icmp_eq (q := 1125) (q2 := 1123) dL_law_1120 rfl rfl (by first | decide | assumption | omega) (by first | decide | assumption | omega) (fun z1 => ?_) (fun z1 => ?_)
  · refine jk_iload (q := 1127) dL_law_1125 rfl rfl ?_
    refine jk_if_ne (q := 1149) (q2 := 1130) dL_law_1127 rfl rfl (by first | decide | assumption | omega) (fun z2 => ?_) (fun z2 => ?_)
    · refine jk_goto (q := 3459) dL_law_1149 rfl ?_
      refine jk_convw (jk_rm (hc _ _ _ _ hlr) (by omega) (by omega)) (jk_wkS rfl (jk_wkS rfl (jk_wkS rfl (jk_wkS rfl (jk_wkS rfl (jk_wkS rfl (jk_wkN (jk_wkN (jk_wkN jk_wk0)))))))))
    · refine jk_aload_n (q := 1131) dL_law_1130 rfl rfl ?_
      refine jk_iconst (q := 1132) dL_law_1131 rfl ?_
      refine jk_laldR (q := 1133) (by first | assumption) (by rfl) (by first | decide | assumption | omega) dL_law_1132 rfl ?_
      refine jk_iload (q := 1135) dL_law_1133 rfl rfl ?_
      refine jk_ifB_eq (q := 1142) (q2 := 1138) dL_law_1135 rfl rfl (fun z3 => ?_) (fun z3 => ?_)
      · refine jk_lconst (q := 1143) (y := 0) dL_law_1142 rfl (by decide) ?_
        refine jk_lcmp0 (q := 1144) (by rw [hcm (by assumption), jk_wB, (by assumption : b = _)]; rfl) dL_law_1143 rfl ?_
        refine jk_ifT_eq (q := 1149) (by decide) (by decide) dL_law_1144 rfl ?_
        refine jk_goto (q := 3459) dL_law_1149 rfl ?_
        refine jk_convw (jk_rm (hc _ _ _ _ hlr) (by omega) (by omega)) (jk_wkS rfl (jk_wkS rfl (jk_wkS rfl (jk_wkS rfl (jk_wkS rfl (jk_wkS rfl (jk_wkN (jk_wkN (jk_wkN jk_wk0)))))))))
      · refine jk_lconst (q := 1139) (y := 1) dL_law_1138 rfl (by decide) ?_
        refine jk_goto (q := 1143) dL_law_1139 rfl ?_
        refine jk_lcmp0 (q := 1144) (by rw [hcm (by assumption), jk_wB, (by assumption : b = _)]; rfl) dL_law_1143 rfl ?_
        refine jk_ifT_eq (q := 1149) (by decide) (by decide) dL_law_1144 rfl ?_
        refine jk_goto (q := 3459) dL_law_1149 rfl ?_
        refine jk_convw (jk_rm (hc _ _ _ _ hlr) (by omega) (by omega)) (jk_wkS rfl (jk_wkS rfl (jk_wkS rfl (jk_wkS rfl (jk_wkS rfl (jk_wkS rfl (jk_wkN (jk_wkN (jk_wkN jk_wk0)))))))))
  · exact absurd rfl (by assumption)
theorem lw_15 {G : jk_G} {n : Nat} {t : jk_T} {σ : jk_I} {ρ : jk_P} {L : Nat} {f : Nat → Int} {x m o d k rc rs mc ms : Nat} (hL : L ≤ 2560) (hsc : ∀ s, jk_Z G s → va_T .int (jk_ad G 63) L (fun j => jI (f j)) (jk_A G) s s.heap) (hk : 5 * k + 4 < L) (hmc : mc ≤ 14) (hms : ms ≤ 420) (hrc : 14 ≤ rc) (hrs : 420 ≤ rs) (hF : lc_F G yL_height mL_height [(0, 9, 12, 19), (0, 9, 15, 43)] mc ms [.ref x, jI (f (5 * (k : Int) + 1).toNat), .ref o] yX13_height mX13_height [.ref m, jI (f (5 * (k : Int) + 1).toNat)] false x m o d k n t σ ρ) (hc : ∀ n' t' σ' ρ', lr x m o d (k + 1) n' t' σ' ρ' → jk_J G mL_law 3459 [some (.ref 63), some (.ref x), some (.ref m), some (.ref o), some (.ref d), some (jI (5 * (k : Int))), none, none, none] [] n' t' σ' ρ' (rc - 14) (rs - 420) lq_Q jk_no) : jk_J G mL_law 1152 [some (.ref 63), some (.ref x), some (.ref m), some (.ref o), some (.ref d), some (jI (5 * (k : Int))), none, none, none] [] n t σ ρ rc rs lq_Q jk_no := by
  obtain ⟨P1, K1, hP1⟩ := hF
  refine jk_aload_n (q := 1153) dL_law_1152 rfl rfl ?_
  refine jk_aload_n (q := 1154) dL_law_1153 rfl rfl ?_
  refine jk_iload (q := 1156) dL_law_1154 rfl rfl ?_
  refine jk_iconst (q := 1157) dL_law_1156 rfl ?_
  refine jk_iadd (q := 1158) dL_law_1157 rfl ?_
  refine jk_tabs (q := 1159) (hsc) (by first | decide | omega) (by first | decide | assumption | omega) dL_law_1158 rfl ?_
  refine jk_aload_n (q := 1160) dL_law_1159 rfl rfl ?_
  refine jk_callSH (q := 1163) (As := [.ref x, jI (f (5 * (k : Int) + 1).toNat), .ref o]) K1 jm_L_height jw_1104 rfl rfl rfl (by omega) (by omega) rfl dL_law_1160 rfl (fun v' n' t' σ' ρ' hq => ?_) (fun _ _ _ _ _ h => h.elim)
  obtain ⟨c1, rfl, hc1, hm1, P2, K2, hP2⟩ := hP1 _ _ _ _ _ hq
  simp only [Option.toList_some, List.cons_append, List.nil_append]
  refine jk_istore6 (q := 1165) dL_law_1163 rfl rfl rfl ?_
  refine jk_aload_n (q := 1166) dL_law_1165 rfl rfl ?_
  refine jk_aload_n (q := 1167) dL_law_1166 rfl rfl ?_
  refine jk_iload (q := 1169) dL_law_1167 rfl rfl ?_
  refine jk_iconst (q := 1170) dL_law_1169 rfl ?_
  refine jk_iadd (q := 1171) dL_law_1170 rfl ?_
  refine jk_tabs (q := 1172) (hsc) (by first | decide | omega) (by first | decide | assumption | omega) dL_law_1171 rfl ?_
  refine jk_cV1g (q := 1175) (K2) jm_X13_height jw_2151 rfl (by first | assumption) rfl rfl (Nat.zero_le _) (Nat.zero_le _) rfl dL_law_1172 rfl (fun v' n' t' σ' ρ' hq => ?_) (fun _ _ _ _ _ h => h.elim)
  obtain ⟨v2, rfl, hbo, ⟨O, hat, hO, hO12⟩, hto, hcm, hlr⟩ := hP2 _ _ _ _ _ hq
  have hm2 := hat.1
  simp only [Option.toList_some, List.cons_append, List.nil_append]
  simp only [Nat.sub_zero]
  refine jk_istore7 (q := 1177) dL_law_1175 rfl rfl rfl ?_
  refine jk_aload_n (q := 1178) dL_law_1177 rfl rfl ?_
  refine jk_cV0p (q := 1181) (c_X13_thrown hat hO) jm_X13_thrown jw_1918 rfl (by first | assumption) rfl rfl rfl dL_law_1178 rfl ?_
  rw [hO12]
  refine jk_iload (q := 1183) dL_law_1181 rfl rfl ?_
  refine jk_icmp_eq (q := 1188) (q2 := 1186) dL_law_1183 rfl rfl (by first | decide | assumption | omega) (by first | decide | assumption | omega) (fun z1 => ?_) (fun z1 => ?_)
  · refine jk_iload (q := 1190) dL_law_1188 rfl rfl ?_
    refine jk_if_ne (q := 1205) (q2 := 1193) dL_law_1190 rfl rfl (by first | decide | assumption | omega) (fun z2 => ?_) (fun z2 => ?_)
    · refine jk_goto (q := 3459) dL_law_1205 rfl ?_
      refine jk_convw (jk_rm (hc _ _ _ _ hlr) (by omega) (by omega)) (jk_wkS rfl (jk_wkS rfl (jk_wkS rfl (jk_wkS rfl (jk_wkS rfl (jk_wkS rfl (jk_wkN (jk_wkN (jk_wkN jk_wk0)))))))))
    · refine jk_aload_n (q := 1194) dL_law_1193 rfl rfl ?_
      refine jk_iconst (q := 1195) dL_law_1194 rfl ?_
      refine jk_laldR (q := 1196) (by first | assumption) (by rfl) (by first | decide | assumption | omega) dL_law_1195 rfl ?_
      refine jk_iload (q := 1198) dL_law_1196 rfl rfl ?_
      refine jk_i2lw (q := 1199) dL_law_1198 rfl ?_
      refine jk_lcmp0 (q := 1200) (by exact hcm (by assumption)) dL_law_1199 rfl ?_
      refine jk_ifT_eq (q := 1205) (by decide) (by decide) dL_law_1200 rfl ?_
      refine jk_goto (q := 3459) dL_law_1205 rfl ?_
      refine jk_convw (jk_rm (hc _ _ _ _ hlr) (by omega) (by omega)) (jk_wkS rfl (jk_wkS rfl (jk_wkS rfl (jk_wkS rfl (jk_wkS rfl (jk_wkS rfl (jk_wkN (jk_wkN (jk_wkN jk_wk0)))))))))
  · exact absurd rfl (by assumption)
theorem lw_16 {G : jk_G} {n : Nat} {t : jk_T} {σ : jk_I} {ρ : jk_P} {L : Nat} {f : Nat → Int} {x m o d k rc rs mc ms : Nat} (hL : L ≤ 2560) (hsc : ∀ s, jk_Z G s → va_T .int (jk_ad G 63) L (fun j => jI (f j)) (jk_A G) s s.heap) (hk : 5 * k + 4 < L) (hmc : mc ≤ 14) (hms : ms ≤ 420) (hrc : 14 ≤ rc) (hrs : 420 ≤ rs) (hF : lc_F G yL_heightByRounds mL_heightByRounds [(0, 9, 12, 19), (0, 9, 15, 43)] mc ms [.ref x, jI (f (5 * (k : Int) + 1).toNat), .ref o] yX13_heightByRounds mX13_heightByRounds [.ref m, jI (f (5 * (k : Int) + 1).toNat)] false x m o d k n t σ ρ) (hc : ∀ n' t' σ' ρ', lr x m o d (k + 1) n' t' σ' ρ' → jk_J G mL_law 3459 [some (.ref 63), some (.ref x), some (.ref m), some (.ref o), some (.ref d), some (jI (5 * (k : Int))), none, none, none] [] n' t' σ' ρ' (rc - 14) (rs - 420) lq_Q jk_no) : jk_J G mL_law 1208 [some (.ref 63), some (.ref x), some (.ref m), some (.ref o), some (.ref d), some (jI (5 * (k : Int))), none, none, none] [] n t σ ρ rc rs lq_Q jk_no := by
  obtain ⟨P1, K1, hP1⟩ := hF
  refine jk_aload_n (q := 1209) dL_law_1208 rfl rfl ?_
  refine jk_aload_n (q := 1210) dL_law_1209 rfl rfl ?_
  refine jk_iload (q := 1212) dL_law_1210 rfl rfl ?_
  refine jk_iconst (q := 1213) dL_law_1212 rfl ?_
  refine jk_iadd (q := 1214) dL_law_1213 rfl ?_
  refine jk_tabs (q := 1215) (hsc) (by first | decide | omega) (by first | decide | assumption | omega) dL_law_1214 rfl ?_
  refine jk_aload_n (q := 1216) dL_law_1215 rfl rfl ?_
  refine jk_callSH (q := 1219) (As := [.ref x, jI (f (5 * (k : Int) + 1).toNat), .ref o]) K1 jm_L_heightByRounds jw_1116 rfl rfl rfl (by omega) (by omega) rfl dL_law_1216 rfl (fun v' n' t' σ' ρ' hq => ?_) (fun _ _ _ _ _ h => h.elim)
  obtain ⟨c1, rfl, hc1, hm1, P2, K2, hP2⟩ := hP1 _ _ _ _ _ hq
  simp only [Option.toList_some, List.cons_append, List.nil_append]
  refine jk_istore6 (q := 1221) dL_law_1219 rfl rfl rfl ?_
  refine jk_aload_n (q := 1222) dL_law_1221 rfl rfl ?_
  refine jk_aload_n (q := 1223) dL_law_1222 rfl rfl ?_
  refine jk_iload (q := 1225) dL_law_1223 rfl rfl ?_
  refine jk_iconst (q := 1226) dL_law_1225 rfl ?_
  refine jk_iadd (q := 1227) dL_law_1226 rfl ?_
  refine jk_tabs (q := 1228) (hsc) (by first | decide | omega) (by first | decide | assumption | omega) dL_law_1227 rfl ?_
  refine jk_cV1g (q := 1231) (K2) jm_X13_heightByRounds jw_2163 rfl (by first | assumption) rfl rfl (Nat.zero_le _) (Nat.zero_le _) rfl dL_law_1228 rfl (fun v' n' t' σ' ρ' hq => ?_) (fun _ _ _ _ _ h => h.elim)
  obtain ⟨v2, rfl, hbo, ⟨O, hat, hO, hO12⟩, hto, hcm, hlr⟩ := hP2 _ _ _ _ _ hq
  have hm2 := hat.1
  simp only [Option.toList_some, List.cons_append, List.nil_append]
  simp only [Nat.sub_zero]
  refine jk_istore7 (q := 1233) dL_law_1231 rfl rfl rfl ?_
  refine jk_aload_n (q := 1234) dL_law_1233 rfl rfl ?_
  refine jk_cV0p (q := 1237) (c_X13_thrown hat hO) jm_X13_thrown jw_1918 rfl (by first | assumption) rfl rfl rfl dL_law_1234 rfl ?_
  rw [hO12]
  refine jk_iload (q := 1239) dL_law_1237 rfl rfl ?_
  refine jk_icmp_eq (q := 1244) (q2 := 1242) dL_law_1239 rfl rfl (by first | decide | assumption | omega) (by first | decide | assumption | omega) (fun z1 => ?_) (fun z1 => ?_)
  · refine jk_iload (q := 1246) dL_law_1244 rfl rfl ?_
    refine jk_if_ne (q := 1261) (q2 := 1249) dL_law_1246 rfl rfl (by first | decide | assumption | omega) (fun z2 => ?_) (fun z2 => ?_)
    · refine jk_goto (q := 3459) dL_law_1261 rfl ?_
      refine jk_convw (jk_rm (hc _ _ _ _ hlr) (by omega) (by omega)) (jk_wkS rfl (jk_wkS rfl (jk_wkS rfl (jk_wkS rfl (jk_wkS rfl (jk_wkS rfl (jk_wkN (jk_wkN (jk_wkN jk_wk0)))))))))
    · refine jk_aload_n (q := 1250) dL_law_1249 rfl rfl ?_
      refine jk_iconst (q := 1251) dL_law_1250 rfl ?_
      refine jk_laldR (q := 1252) (by first | assumption) (by rfl) (by first | decide | assumption | omega) dL_law_1251 rfl ?_
      refine jk_iload (q := 1254) dL_law_1252 rfl rfl ?_
      refine jk_i2lw (q := 1255) dL_law_1254 rfl ?_
      refine jk_lcmp0 (q := 1256) (by exact hcm (by assumption)) dL_law_1255 rfl ?_
      refine jk_ifT_eq (q := 1261) (by decide) (by decide) dL_law_1256 rfl ?_
      refine jk_goto (q := 3459) dL_law_1261 rfl ?_
      refine jk_convw (jk_rm (hc _ _ _ _ hlr) (by omega) (by omega)) (jk_wkS rfl (jk_wkS rfl (jk_wkS rfl (jk_wkS rfl (jk_wkS rfl (jk_wkS rfl (jk_wkN (jk_wkN (jk_wkN jk_wk0)))))))))
  · exact absurd rfl (by assumption)
theorem lw_17 {G : jk_G} {n : Nat} {t : jk_T} {σ : jk_I} {ρ : jk_P} {L : Nat} {f : Nat → Int} {x m o d k rc rs mc ms : Nat} (hL : L ≤ 2560) (hsc : ∀ s, jk_Z G s → va_T .int (jk_ad G 63) L (fun j => jI (f j)) (jk_A G) s s.heap) (hk : 5 * k + 4 < L) (hmc : mc ≤ 14) (hms : ms ≤ 420) (hrc : 14 ≤ rc) (hrs : 420 ≤ rs) (hF : lc_F G yL_closingError mL_closingError [(0, 9, 12, 19), (0, 9, 15, 43)] mc ms [.ref x, jI (f (5 * (k : Int) + 1).toNat), .ref o] yX13_closingError mX13_closingError [.ref m, jI (f (5 * (k : Int) + 1).toNat)] false x m o d k n t σ ρ) (hc : ∀ n' t' σ' ρ', lr x m o d (k + 1) n' t' σ' ρ' → jk_J G mL_law 3459 [some (.ref 63), some (.ref x), some (.ref m), some (.ref o), some (.ref d), some (jI (5 * (k : Int))), none, none, none] [] n' t' σ' ρ' (rc - 14) (rs - 420) lq_Q jk_no) : jk_J G mL_law 1264 [some (.ref 63), some (.ref x), some (.ref m), some (.ref o), some (.ref d), some (jI (5 * (k : Int))), none, none, none] [] n t σ ρ rc rs lq_Q jk_no := by
  obtain ⟨P1, K1, hP1⟩ := hF
  refine jk_aload_n (q := 1265) dL_law_1264 rfl rfl ?_
  refine jk_aload_n (q := 1266) dL_law_1265 rfl rfl ?_
  refine jk_iload (q := 1268) dL_law_1266 rfl rfl ?_
  refine jk_iconst (q := 1269) dL_law_1268 rfl ?_
  refine jk_iadd (q := 1270) dL_law_1269 rfl ?_
  refine jk_tabs (q := 1271) (hsc) (by first | decide | omega) (by first | decide | assumption | omega) dL_law_1270 rfl ?_
  refine jk_aload_n (q := 1272) dL_law_1271 rfl rfl ?_
  refine jk_callSH (q := 1275) (As := [.ref x, jI (f (5 * (k : Int) + 1).toNat), .ref o]) K1 jm_L_closingError jw_1123 rfl rfl rfl (by omega) (by omega) rfl dL_law_1272 rfl (fun v' n' t' σ' ρ' hq => ?_) (fun _ _ _ _ _ h => h.elim)
  obtain ⟨c1, rfl, hc1, hm1, P2, K2, hP2⟩ := hP1 _ _ _ _ _ hq
  simp only [Option.toList_some, List.cons_append, List.nil_append]
  refine jk_istore6 (q := 1277) dL_law_1275 rfl rfl rfl ?_
  refine jk_aload_n (q := 1278) dL_law_1277 rfl rfl ?_
  refine jk_aload_n (q := 1279) dL_law_1278 rfl rfl ?_
  refine jk_iload (q := 1281) dL_law_1279 rfl rfl ?_
  refine jk_iconst (q := 1282) dL_law_1281 rfl ?_
  refine jk_iadd (q := 1283) dL_law_1282 rfl ?_
  refine jk_tabs (q := 1284) (hsc) (by first | decide | omega) (by first | decide | assumption | omega) dL_law_1283 rfl ?_
  refine jk_cV1g (q := 1287) (K2) jm_X13_closingError jw_2168 rfl (by first | assumption) rfl rfl (Nat.zero_le _) (Nat.zero_le _) rfl dL_law_1284 rfl (fun v' n' t' σ' ρ' hq => ?_) (fun _ _ _ _ _ h => h.elim)
  obtain ⟨v2, rfl, hbo, ⟨O, hat, hO, hO12⟩, hto, hcm, hlr⟩ := hP2 _ _ _ _ _ hq
  have hm2 := hat.1
  simp only [Option.toList_some, List.cons_append, List.nil_append]
  simp only [Nat.sub_zero]
  refine jk_istore7 (q := 1289) dL_law_1287 rfl rfl rfl ?_
  refine jk_aload_n (q := 1290) dL_law_1289 rfl rfl ?_
  refine jk_cV0p (q := 1293) (c_X13_thrown hat hO) jm_X13_thrown jw_1918 rfl (by first | assumption) rfl rfl rfl dL_law_1290 rfl ?_
  rw [hO12]
  refine jk_iload (q := 1295) dL_law_1293 rfl rfl ?_
  refine jk_icmp_eq (q := 1300) (q2 := 1298) dL_law_1295 rfl rfl (by first | decide | assumption | omega) (by first | decide | assumption | omega) (fun z1 => ?_) (fun z1 => ?_)
  · refine jk_iload (q := 1302) dL_law_1300 rfl rfl ?_
    refine jk_if_ne (q := 1317) (q2 := 1305) dL_law_1302 rfl rfl (by first | decide | assumption | omega) (fun z2 => ?_) (fun z2 => ?_)
    · refine jk_goto (q := 3459) dL_law_1317 rfl ?_
      refine jk_convw (jk_rm (hc _ _ _ _ hlr) (by omega) (by omega)) (jk_wkS rfl (jk_wkS rfl (jk_wkS rfl (jk_wkS rfl (jk_wkS rfl (jk_wkS rfl (jk_wkN (jk_wkN (jk_wkN jk_wk0)))))))))
    · refine jk_aload_n (q := 1306) dL_law_1305 rfl rfl ?_
      refine jk_iconst (q := 1307) dL_law_1306 rfl ?_
      refine jk_laldR (q := 1308) (by first | assumption) (by rfl) (by first | decide | assumption | omega) dL_law_1307 rfl ?_
      refine jk_iload (q := 1310) dL_law_1308 rfl rfl ?_
      refine jk_i2lw (q := 1311) dL_law_1310 rfl ?_
      refine jk_lcmp0 (q := 1312) (by exact hcm (by assumption)) dL_law_1311 rfl ?_
      refine jk_ifT_eq (q := 1317) (by decide) (by decide) dL_law_1312 rfl ?_
      refine jk_goto (q := 3459) dL_law_1317 rfl ?_
      refine jk_convw (jk_rm (hc _ _ _ _ hlr) (by omega) (by omega)) (jk_wkS rfl (jk_wkS rfl (jk_wkS rfl (jk_wkS rfl (jk_wkS rfl (jk_wkS rfl (jk_wkN (jk_wkN (jk_wkN jk_wk0)))))))))
  · exact absurd rfl (by assumption)
theorem lw_18 {G : jk_G} {n : Nat} {t : jk_T} {σ : jk_I} {ρ : jk_P} {L : Nat} {f : Nat → Int} {x m o d k rc rs mc ms : Nat} (hL : L ≤ 2560) (hsc : ∀ s, jk_Z G s → va_T .int (jk_ad G 63) L (fun j => jI (f j)) (jk_A G) s s.heap) (hk : 5 * k + 4 < L) (hmc : mc ≤ 14) (hms : ms ≤ 420) (hrc : 14 ≤ rc) (hrs : 420 ≤ rs) (hF : lc_F G yL_datum mL_datum [(0, 9, 12, 19), (0, 9, 15, 43)] mc ms [.ref x, jI (f (5 * (k : Int) + 1).toNat), .ref o] yX13_datum mX13_datum [.ref m, jI (f (5 * (k : Int) + 1).toNat)] false x m o d k n t σ ρ) (hc : ∀ n' t' σ' ρ', lr x m o d (k + 1) n' t' σ' ρ' → jk_J G mL_law 3459 [some (.ref 63), some (.ref x), some (.ref m), some (.ref o), some (.ref d), some (jI (5 * (k : Int))), none, none, none] [] n' t' σ' ρ' (rc - 14) (rs - 420) lq_Q jk_no) : jk_J G mL_law 1320 [some (.ref 63), some (.ref x), some (.ref m), some (.ref o), some (.ref d), some (jI (5 * (k : Int))), none, none, none] [] n t σ ρ rc rs lq_Q jk_no := by
  obtain ⟨P1, K1, hP1⟩ := hF
  refine jk_aload_n (q := 1321) dL_law_1320 rfl rfl ?_
  refine jk_aload_n (q := 1322) dL_law_1321 rfl rfl ?_
  refine jk_iload (q := 1324) dL_law_1322 rfl rfl ?_
  refine jk_iconst (q := 1325) dL_law_1324 rfl ?_
  refine jk_iadd (q := 1326) dL_law_1325 rfl ?_
  refine jk_tabs (q := 1327) (hsc) (by first | decide | omega) (by first | decide | assumption | omega) dL_law_1326 rfl ?_
  refine jk_aload_n (q := 1328) dL_law_1327 rfl rfl ?_
  refine jk_callSH (q := 1331) (As := [.ref x, jI (f (5 * (k : Int) + 1).toNat), .ref o]) K1 jm_L_datum jw_1132 rfl rfl rfl (by omega) (by omega) rfl dL_law_1328 rfl (fun v' n' t' σ' ρ' hq => ?_) (fun _ _ _ _ _ h => h.elim)
  obtain ⟨c1, rfl, hc1, hm1, P2, K2, hP2⟩ := hP1 _ _ _ _ _ hq
  simp only [Option.toList_some, List.cons_append, List.nil_append]
  refine jk_istore6 (q := 1333) dL_law_1331 rfl rfl rfl ?_
  refine jk_aload_n (q := 1334) dL_law_1333 rfl rfl ?_
  refine jk_aload_n (q := 1335) dL_law_1334 rfl rfl ?_
  refine jk_iload (q := 1337) dL_law_1335 rfl rfl ?_
  refine jk_iconst (q := 1338) dL_law_1337 rfl ?_
  refine jk_iadd (q := 1339) dL_law_1338 rfl ?_
  refine jk_tabs (q := 1340) (hsc) (by first | decide | omega) (by first | decide | assumption | omega) dL_law_1339 rfl ?_
  refine jk_cV1g (q := 1343) (K2) jm_X13_datum jw_2172 rfl (by first | assumption) rfl rfl (Nat.zero_le _) (Nat.zero_le _) rfl dL_law_1340 rfl (fun v' n' t' σ' ρ' hq => ?_) (fun _ _ _ _ _ h => h.elim)
  obtain ⟨v2, rfl, hbo, ⟨O, hat, hO, hO12⟩, hto, hcm, hlr⟩ := hP2 _ _ _ _ _ hq
  have hm2 := hat.1
  simp only [Option.toList_some, List.cons_append, List.nil_append]
  simp only [Nat.sub_zero]
  refine jk_istore7 (q := 1345) dL_law_1343 rfl rfl rfl ?_
  refine jk_aload_n (q := 1346) dL_law_1345 rfl rfl ?_
  refine jk_cV0p (q := 1349) (c_X13_thrown hat hO) jm_X13_thrown jw_1918 rfl (by first | assumption) rfl rfl rfl dL_law_1346 rfl ?_
  rw [hO12]
  refine jk_iload (q := 1351) dL_law_1349 rfl rfl ?_
  refine jk_icmp_eq (q := 1356) (q2 := 1354) dL_law_1351 rfl rfl (by first | decide | assumption | omega) (by first | decide | assumption | omega) (fun z1 => ?_) (fun z1 => ?_)
  · refine jk_iload (q := 1358) dL_law_1356 rfl rfl ?_
    refine jk_if_ne (q := 1373) (q2 := 1361) dL_law_1358 rfl rfl (by first | decide | assumption | omega) (fun z2 => ?_) (fun z2 => ?_)
    · refine jk_goto (q := 3459) dL_law_1373 rfl ?_
      refine jk_convw (jk_rm (hc _ _ _ _ hlr) (by omega) (by omega)) (jk_wkS rfl (jk_wkS rfl (jk_wkS rfl (jk_wkS rfl (jk_wkS rfl (jk_wkS rfl (jk_wkN (jk_wkN (jk_wkN jk_wk0)))))))))
    · refine jk_aload_n (q := 1362) dL_law_1361 rfl rfl ?_
      refine jk_iconst (q := 1363) dL_law_1362 rfl ?_
      refine jk_laldR (q := 1364) (by first | assumption) (by rfl) (by first | decide | assumption | omega) dL_law_1363 rfl ?_
      refine jk_iload (q := 1366) dL_law_1364 rfl rfl ?_
      refine jk_i2lw (q := 1367) dL_law_1366 rfl ?_
      refine jk_lcmp0 (q := 1368) (by exact hcm (by assumption)) dL_law_1367 rfl ?_
      refine jk_ifT_eq (q := 1373) (by decide) (by decide) dL_law_1368 rfl ?_
      refine jk_goto (q := 3459) dL_law_1373 rfl ?_
      refine jk_convw (jk_rm (hc _ _ _ _ hlr) (by omega) (by omega)) (jk_wkS rfl (jk_wkS rfl (jk_wkS rfl (jk_wkS rfl (jk_wkS rfl (jk_wkS rfl (jk_wkN (jk_wkN (jk_wkN jk_wk0)))))))))
  · exact absurd rfl (by assumption)
theorem lw_19 {G : jk_G} {n : Nat} {t : jk_T} {σ : jk_I} {ρ : jk_P} {L : Nat} {f : Nat → Int} {x m o d k rc rs mc ms : Nat} (hL : L ≤ 2560) (hsc : ∀ s, jk_Z G s → va_T .int (jk_ad G 63) L (fun j => jI (f j)) (jk_A G) s s.heap) (hk : 5 * k + 4 < L) (hmc : mc ≤ 14) (hms : ms ≤ 420) (hrc : 14 ≤ rc) (hrs : 420 ≤ rs) (hF : lc_F G yL_benchmarkByHeight mL_benchmarkByHeight [(0, 9, 12, 43)] mc ms [.ref x, jI (f (5 * (k : Int) + 1).toNat), .ref o] yX13_benchmarkByHeight mX13_benchmarkByHeight [.ref m, jI (f (5 * (k : Int) + 1).toNat)] false x m o d k n t σ ρ) (hc : ∀ n' t' σ' ρ', lr x m o d (k + 1) n' t' σ' ρ' → jk_J G mL_law 3459 [some (.ref 63), some (.ref x), some (.ref m), some (.ref o), some (.ref d), some (jI (5 * (k : Int))), none, none, none] [] n' t' σ' ρ' (rc - 14) (rs - 420) lq_Q jk_no) : jk_J G mL_law 1376 [some (.ref 63), some (.ref x), some (.ref m), some (.ref o), some (.ref d), some (jI (5 * (k : Int))), none, none, none] [] n t σ ρ rc rs lq_Q jk_no := by
  obtain ⟨P1, K1, hP1⟩ := hF
  refine jk_aload_n (q := 1377) dL_law_1376 rfl rfl ?_
  refine jk_aload_n (q := 1378) dL_law_1377 rfl rfl ?_
  refine jk_iload (q := 1380) dL_law_1378 rfl rfl ?_
  refine jk_iconst (q := 1381) dL_law_1380 rfl ?_
  refine jk_iadd (q := 1382) dL_law_1381 rfl ?_
  refine jk_tabs (q := 1383) (hsc) (by first | decide | omega) (by first | decide | assumption | omega) dL_law_1382 rfl ?_
  refine jk_aload_n (q := 1384) dL_law_1383 rfl rfl ?_
  refine jk_callSH (q := 1387) (As := [.ref x, jI (f (5 * (k : Int) + 1).toNat), .ref o]) K1 jm_L_benchmarkByHeight jw_1141 rfl rfl rfl (by omega) (by omega) rfl dL_law_1384 rfl (fun v' n' t' σ' ρ' hq => ?_) (fun _ _ _ _ _ h => h.elim)
  obtain ⟨c1, rfl, hc1, hm1, P2, K2, hP2⟩ := hP1 _ _ _ _ _ hq
  simp only [Option.toList_some, List.cons_append, List.nil_append]
  refine jk_istore6 (q := 1389) dL_law_1387 rfl rfl rfl ?_
  refine jk_aload_n (q := 1390) dL_law_1389 rfl rfl ?_
  refine jk_aload_n (q := 1391) dL_law_1390 rfl rfl ?_
  refine jk_iload (q := 1393) dL_law_1391 rfl rfl ?_
  refine jk_iconst (q := 1394) dL_law_1393 rfl ?_
  refine jk_iadd (q := 1395) dL_law_1394 rfl ?_
  refine jk_tabs (q := 1396) (hsc) (by first | decide | omega) (by first | decide | assumption | omega) dL_law_1395 rfl ?_
  refine jk_cV1g (q := 1399) (K2) jm_X13_benchmarkByHeight jw_2176 rfl (by first | assumption) rfl rfl (Nat.zero_le _) (Nat.zero_le _) rfl dL_law_1396 rfl (fun v' n' t' σ' ρ' hq => ?_) (fun _ _ _ _ _ h => h.elim)
  obtain ⟨v2, rfl, hbo, ⟨O, hat, hO, hO12⟩, hto, hcm, hlr⟩ := hP2 _ _ _ _ _ hq
  have hm2 := hat.1
  simp only [Option.toList_some, List.cons_append, List.nil_append]
  simp only [Nat.sub_zero]
  refine jk_istore7 (q := 1401) dL_law_1399 rfl rfl rfl ?_
  refine jk_aload_n (q := 1402) dL_law_1401 rfl rfl ?_
  refine jk_cV0p (q := 1405) (c_X13_thrown hat hO) jm_X13_thrown jw_1918 rfl (by first | assumption) rfl rfl rfl dL_law_1402 rfl ?_
  rw [hO12]
  refine jk_iload (q := 1407) dL_law_1405 rfl rfl ?_
  refine jk_icmp_eq (q := 1412) (q2 := 1410) dL_law_1407 rfl rfl (by first | decide | assumption | omega) (by first | decide | assumption | omega) (fun z1 => ?_) (fun z1 => ?_)
  · refine jk_iload (q := 1414) dL_law_1412 rfl rfl ?_
    refine jk_if_ne (q := 1429) (q2 := 1417) dL_law_1414 rfl rfl (by first | decide | assumption | omega) (fun z2 => ?_) (fun z2 => ?_)
    · refine jk_goto (q := 3459) dL_law_1429 rfl ?_
      refine jk_convw (jk_rm (hc _ _ _ _ hlr) (by omega) (by omega)) (jk_wkS rfl (jk_wkS rfl (jk_wkS rfl (jk_wkS rfl (jk_wkS rfl (jk_wkS rfl (jk_wkN (jk_wkN (jk_wkN jk_wk0)))))))))
    · refine jk_aload_n (q := 1418) dL_law_1417 rfl rfl ?_
      refine jk_iconst (q := 1419) dL_law_1418 rfl ?_
      refine jk_laldR (q := 1420) (by first | assumption) (by rfl) (by first | decide | assumption | omega) dL_law_1419 rfl ?_
      refine jk_iload (q := 1422) dL_law_1420 rfl rfl ?_
      refine jk_i2lw (q := 1423) dL_law_1422 rfl ?_
      refine jk_lcmp0 (q := 1424) (by exact hcm (by assumption)) dL_law_1423 rfl ?_
      refine jk_ifT_eq (q := 1429) (by decide) (by decide) dL_law_1424 rfl ?_
      refine jk_goto (q := 3459) dL_law_1429 rfl ?_
      refine jk_convw (jk_rm (hc _ _ _ _ hlr) (by omega) (by omega)) (jk_wkS rfl (jk_wkS rfl (jk_wkS rfl (jk_wkS rfl (jk_wkS rfl (jk_wkS rfl (jk_wkN (jk_wkN (jk_wkN jk_wk0)))))))))
  · exact absurd rfl (by assumption)
theorem lw_20 {G : jk_G} {n : Nat} {t : jk_T} {σ : jk_I} {ρ : jk_P} {L : Nat} {f : Nat → Int} {x m o d k rc rs mc ms : Nat} (hL : L ≤ 2560) (hsc : ∀ s, jk_Z G s → va_T .int (jk_ad G 63) L (fun j => jI (f j)) (jk_A G) s s.heap) (hk : 5 * k + 4 < L) (hmc : mc ≤ 14) (hms : ms ≤ 420) (hrc : 14 ≤ rc) (hrs : 420 ≤ rs) (hF : lc_V G yX12_lineCount mX12_lineCount mc ms yX13_lineCount mX13_lineCount x m o d k n t σ ρ) (hc : ∀ n' t' σ' ρ', lr x m o d (k + 1) n' t' σ' ρ' → jk_J G mL_law 3459 [some (.ref 63), some (.ref x), some (.ref m), some (.ref o), some (.ref d), some (jI (5 * (k : Int))), none, none, none] [] n' t' σ' ρ' (rc - 14) (rs - 420) lq_Q jk_no) : jk_J G mL_law 1432 [some (.ref 63), some (.ref x), some (.ref m), some (.ref o), some (.ref d), some (jI (5 * (k : Int))), none, none, none] [] n t σ ρ rc rs lq_Q jk_no := by
  obtain ⟨P1, X1, K1, hX1, hx, hP1⟩ := hF
  refine jk_aload_n (q := 1433) dL_law_1432 rfl rfl ?_
  refine jk_cV0g (q := 1436) (K1) jm_X12_lineCount jw_808 rfl (by first | assumption) rfl rfl (by omega) (by omega) rfl dL_law_1433 rfl (fun v' n' t' σ' ρ' hq => ?_) (fun _ _ _ _ _ h => (hX1 _ _ _ _ _ h).elim)
  obtain ⟨v1, rfl, hv1, hm1, P2, K2, hP2⟩ := hP1 _ _ _ _ _ hq
  simp only [Option.toList_some, List.cons_append, List.nil_append]
  refine jk_aload_n (q := 1437) dL_law_1436 rfl rfl ?_
  refine jk_cV0g (q := 1440) (K2) jm_X13_lineCount jw_2184 rfl (by first | assumption) rfl rfl (Nat.zero_le _) (Nat.zero_le _) rfl dL_law_1437 rfl (fun v' n' t' σ' ρ' hq => ?_) (fun _ _ _ _ _ h => h.elim)
  obtain ⟨rfl, hlr⟩ := hP2 _ _ _ _ _ hq
  simp only [Option.toList_some, List.cons_append, List.nil_append]
  simp only [Nat.sub_zero]
  refine jk_icmp_eq (q := 3459) (q2 := 1443) dL_law_1440 rfl rfl (by first | decide | assumption | omega) (by first | decide | assumption | omega) (fun z1 => ?_) (fun z1 => ?_)
  · refine jk_convw (jk_rm (hc _ _ _ _ hlr) (by omega) (by omega)) (jk_wkS rfl (jk_wkS rfl (jk_wkS rfl (jk_wkS rfl (jk_wkS rfl (jk_wkS rfl (jk_wkN (jk_wkN (jk_wkN jk_wk0)))))))))
  · exact absurd rfl (by assumption)
theorem lw_21 {G : jk_G} {n : Nat} {t : jk_T} {σ : jk_I} {ρ : jk_P} {L : Nat} {f : Nat → Int} {x m o d k rc rs mc ms : Nat} (hL : L ≤ 2560) (hsc : ∀ s, jk_Z G s → va_T .int (jk_ad G 63) L (fun j => jI (f j)) (jk_A G) s s.heap) (hk : 5 * k + 4 < L) (hmc : mc ≤ 14) (hms : ms ≤ 420) (hrc : 14 ≤ rc) (hrs : 420 ≤ rs) (hF : lc_F G yL_firstOf mL_firstOf [(0, 9, 12, 19)] mc ms [.ref x, jI (f (5 * (k : Int) + 1).toNat), .ref o] yX13_firstOf mX13_firstOf [.ref m, jI (f (5 * (k : Int) + 1).toNat)] false x m o d k n t σ ρ) (hc : ∀ n' t' σ' ρ', lr x m o d (k + 1) n' t' σ' ρ' → jk_J G mL_law 3459 [some (.ref 63), some (.ref x), some (.ref m), some (.ref o), some (.ref d), some (jI (5 * (k : Int))), none, none, none] [] n' t' σ' ρ' (rc - 14) (rs - 420) lq_Q jk_no) : jk_J G mL_law 1445 [some (.ref 63), some (.ref x), some (.ref m), some (.ref o), some (.ref d), some (jI (5 * (k : Int))), none, none, none] [] n t σ ρ rc rs lq_Q jk_no := by
  obtain ⟨P1, K1, hP1⟩ := hF
  refine jk_aload_n (q := 1446) dL_law_1445 rfl rfl ?_
  refine jk_aload_n (q := 1447) dL_law_1446 rfl rfl ?_
  refine jk_iload (q := 1449) dL_law_1447 rfl rfl ?_
  refine jk_iconst (q := 1450) dL_law_1449 rfl ?_
  refine jk_iadd (q := 1451) dL_law_1450 rfl ?_
  refine jk_tabs (q := 1452) (hsc) (by first | decide | omega) (by first | decide | assumption | omega) dL_law_1451 rfl ?_
  refine jk_aload_n (q := 1453) dL_law_1452 rfl rfl ?_
  refine jk_callSH (q := 1456) (As := [.ref x, jI (f (5 * (k : Int) + 1).toNat), .ref o]) K1 jm_L_firstOf jw_1159 rfl rfl rfl (by omega) (by omega) rfl dL_law_1453 rfl (fun v' n' t' σ' ρ' hq => ?_) (fun _ _ _ _ _ h => h.elim)
  obtain ⟨c1, rfl, hc1, hm1, P2, K2, hP2⟩ := hP1 _ _ _ _ _ hq
  simp only [Option.toList_some, List.cons_append, List.nil_append]
  refine jk_istore6 (q := 1458) dL_law_1456 rfl rfl rfl ?_
  refine jk_aload_n (q := 1459) dL_law_1458 rfl rfl ?_
  refine jk_aload_n (q := 1460) dL_law_1459 rfl rfl ?_
  refine jk_iload (q := 1462) dL_law_1460 rfl rfl ?_
  refine jk_iconst (q := 1463) dL_law_1462 rfl ?_
  refine jk_iadd (q := 1464) dL_law_1463 rfl ?_
  refine jk_tabs (q := 1465) (hsc) (by first | decide | omega) (by first | decide | assumption | omega) dL_law_1464 rfl ?_
  refine jk_cV1g (q := 1468) (K2) jm_X13_firstOf jw_2188 rfl (by first | assumption) rfl rfl (Nat.zero_le _) (Nat.zero_le _) rfl dL_law_1465 rfl (fun v' n' t' σ' ρ' hq => ?_) (fun _ _ _ _ _ h => h.elim)
  obtain ⟨v2, rfl, hbo, ⟨O, hat, hO, hO12⟩, hto, hcm, hlr⟩ := hP2 _ _ _ _ _ hq
  have hm2 := hat.1
  simp only [Option.toList_some, List.cons_append, List.nil_append]
  simp only [Nat.sub_zero]
  refine jk_istore7 (q := 1470) dL_law_1468 rfl rfl rfl ?_
  refine jk_aload_n (q := 1471) dL_law_1470 rfl rfl ?_
  refine jk_cV0p (q := 1474) (c_X13_thrown hat hO) jm_X13_thrown jw_1918 rfl (by first | assumption) rfl rfl rfl dL_law_1471 rfl ?_
  rw [hO12]
  refine jk_iload (q := 1476) dL_law_1474 rfl rfl ?_
  refine jk_icmp_eq (q := 1481) (q2 := 1479) dL_law_1476 rfl rfl (by first | decide | assumption | omega) (by first | decide | assumption | omega) (fun z1 => ?_) (fun z1 => ?_)
  · refine jk_iload (q := 1483) dL_law_1481 rfl rfl ?_
    refine jk_if_ne (q := 1498) (q2 := 1486) dL_law_1483 rfl rfl (by first | decide | assumption | omega) (fun z2 => ?_) (fun z2 => ?_)
    · refine jk_goto (q := 3459) dL_law_1498 rfl ?_
      refine jk_convw (jk_rm (hc _ _ _ _ hlr) (by omega) (by omega)) (jk_wkS rfl (jk_wkS rfl (jk_wkS rfl (jk_wkS rfl (jk_wkS rfl (jk_wkS rfl (jk_wkN (jk_wkN (jk_wkN jk_wk0)))))))))
    · refine jk_aload_n (q := 1487) dL_law_1486 rfl rfl ?_
      refine jk_iconst (q := 1488) dL_law_1487 rfl ?_
      refine jk_laldR (q := 1489) (by first | assumption) (by rfl) (by first | decide | assumption | omega) dL_law_1488 rfl ?_
      refine jk_iload (q := 1491) dL_law_1489 rfl rfl ?_
      refine jk_i2lw (q := 1492) dL_law_1491 rfl ?_
      refine jk_lcmp0 (q := 1493) (by exact hcm (by assumption)) dL_law_1492 rfl ?_
      refine jk_ifT_eq (q := 1498) (by decide) (by decide) dL_law_1493 rfl ?_
      refine jk_goto (q := 3459) dL_law_1498 rfl ?_
      refine jk_convw (jk_rm (hc _ _ _ _ hlr) (by omega) (by omega)) (jk_wkS rfl (jk_wkS rfl (jk_wkS rfl (jk_wkS rfl (jk_wkS rfl (jk_wkS rfl (jk_wkN (jk_wkN (jk_wkN jk_wk0)))))))))
  · exact absurd rfl (by assumption)
theorem lw_22 {G : jk_G} {n : Nat} {t : jk_T} {σ : jk_I} {ρ : jk_P} {L : Nat} {f : Nat → Int} {x m o d k rc rs mc ms : Nat} (hL : L ≤ 2560) (hsc : ∀ s, jk_Z G s → va_T .int (jk_ad G 63) L (fun j => jI (f j)) (jk_A G) s s.heap) (hk : 5 * k + 4 < L) (hmc : mc ≤ 14) (hms : ms ≤ 420) (hrc : 14 ≤ rc) (hrs : 420 ≤ rs) (hF : lc_F G yL_secondOf mL_secondOf [(0, 9, 12, 19)] mc ms [.ref x, jI (f (5 * (k : Int) + 1).toNat), .ref o] yX13_secondOf mX13_secondOf [.ref m, jI (f (5 * (k : Int) + 1).toNat)] false x m o d k n t σ ρ) (hc : ∀ n' t' σ' ρ', lr x m o d (k + 1) n' t' σ' ρ' → jk_J G mL_law 3459 [some (.ref 63), some (.ref x), some (.ref m), some (.ref o), some (.ref d), some (jI (5 * (k : Int))), none, none, none] [] n' t' σ' ρ' (rc - 14) (rs - 420) lq_Q jk_no) : jk_J G mL_law 1501 [some (.ref 63), some (.ref x), some (.ref m), some (.ref o), some (.ref d), some (jI (5 * (k : Int))), none, none, none] [] n t σ ρ rc rs lq_Q jk_no := by
  obtain ⟨P1, K1, hP1⟩ := hF
  refine jk_aload_n (q := 1502) dL_law_1501 rfl rfl ?_
  refine jk_aload_n (q := 1503) dL_law_1502 rfl rfl ?_
  refine jk_iload (q := 1505) dL_law_1503 rfl rfl ?_
  refine jk_iconst (q := 1506) dL_law_1505 rfl ?_
  refine jk_iadd (q := 1507) dL_law_1506 rfl ?_
  refine jk_tabs (q := 1508) (hsc) (by first | decide | omega) (by first | decide | assumption | omega) dL_law_1507 rfl ?_
  refine jk_aload_n (q := 1509) dL_law_1508 rfl rfl ?_
  refine jk_callSH (q := 1512) (As := [.ref x, jI (f (5 * (k : Int) + 1).toNat), .ref o]) K1 jm_L_secondOf jw_1172 rfl rfl rfl (by omega) (by omega) rfl dL_law_1509 rfl (fun v' n' t' σ' ρ' hq => ?_) (fun _ _ _ _ _ h => h.elim)
  obtain ⟨c1, rfl, hc1, hm1, P2, K2, hP2⟩ := hP1 _ _ _ _ _ hq
  simp only [Option.toList_some, List.cons_append, List.nil_append]
  refine jk_istore6 (q := 1514) dL_law_1512 rfl rfl rfl ?_
  refine jk_aload_n (q := 1515) dL_law_1514 rfl rfl ?_
  refine jk_aload_n (q := 1516) dL_law_1515 rfl rfl ?_
  refine jk_iload (q := 1518) dL_law_1516 rfl rfl ?_
  refine jk_iconst (q := 1519) dL_law_1518 rfl ?_
  refine jk_iadd (q := 1520) dL_law_1519 rfl ?_
  refine jk_tabs (q := 1521) (hsc) (by first | decide | omega) (by first | decide | assumption | omega) dL_law_1520 rfl ?_
  refine jk_cV1g (q := 1524) (K2) jm_X13_secondOf jw_2196 rfl (by first | assumption) rfl rfl (Nat.zero_le _) (Nat.zero_le _) rfl dL_law_1521 rfl (fun v' n' t' σ' ρ' hq => ?_) (fun _ _ _ _ _ h => h.elim)
  obtain ⟨v2, rfl, hbo, ⟨O, hat, hO, hO12⟩, hto, hcm, hlr⟩ := hP2 _ _ _ _ _ hq
  have hm2 := hat.1
  simp only [Option.toList_some, List.cons_append, List.nil_append]
  simp only [Nat.sub_zero]
  refine jk_istore7 (q := 1526) dL_law_1524 rfl rfl rfl ?_
  refine jk_aload_n (q := 1527) dL_law_1526 rfl rfl ?_
  refine jk_cV0p (q := 1530) (c_X13_thrown hat hO) jm_X13_thrown jw_1918 rfl (by first | assumption) rfl rfl rfl dL_law_1527 rfl ?_
  rw [hO12]
  refine jk_iload (q := 1532) dL_law_1530 rfl rfl ?_
  refine jk_icmp_eq (q := 1537) (q2 := 1535) dL_law_1532 rfl rfl (by first | decide | assumption | omega) (by first | decide | assumption | omega) (fun z1 => ?_) (fun z1 => ?_)
  · refine jk_iload (q := 1539) dL_law_1537 rfl rfl ?_
    refine jk_if_ne (q := 1554) (q2 := 1542) dL_law_1539 rfl rfl (by first | decide | assumption | omega) (fun z2 => ?_) (fun z2 => ?_)
    · refine jk_goto (q := 3459) dL_law_1554 rfl ?_
      refine jk_convw (jk_rm (hc _ _ _ _ hlr) (by omega) (by omega)) (jk_wkS rfl (jk_wkS rfl (jk_wkS rfl (jk_wkS rfl (jk_wkS rfl (jk_wkS rfl (jk_wkN (jk_wkN (jk_wkN jk_wk0)))))))))
    · refine jk_aload_n (q := 1543) dL_law_1542 rfl rfl ?_
      refine jk_iconst (q := 1544) dL_law_1543 rfl ?_
      refine jk_laldR (q := 1545) (by first | assumption) (by rfl) (by first | decide | assumption | omega) dL_law_1544 rfl ?_
      refine jk_iload (q := 1547) dL_law_1545 rfl rfl ?_
      refine jk_i2lw (q := 1548) dL_law_1547 rfl ?_
      refine jk_lcmp0 (q := 1549) (by exact hcm (by assumption)) dL_law_1548 rfl ?_
      refine jk_ifT_eq (q := 1554) (by decide) (by decide) dL_law_1549 rfl ?_
      refine jk_goto (q := 3459) dL_law_1554 rfl ?_
      refine jk_convw (jk_rm (hc _ _ _ _ hlr) (by omega) (by omega)) (jk_wkS rfl (jk_wkS rfl (jk_wkS rfl (jk_wkS rfl (jk_wkS rfl (jk_wkS rfl (jk_wkN (jk_wkN (jk_wkN jk_wk0)))))))))
  · exact absurd rfl (by assumption)
theorem lw_23 {G : jk_G} {n : Nat} {t : jk_T} {σ : jk_I} {ρ : jk_P} {L : Nat} {f : Nat → Int} {x m o d k rc rs mc ms : Nat} (hL : L ≤ 2560) (hsc : ∀ s, jk_Z G s → va_T .int (jk_ad G 63) L (fun j => jI (f j)) (jk_A G) s s.heap) (hk : 5 * k + 4 < L) (hmc : mc ≤ 14) (hms : ms ≤ 420) (hrc : 14 ≤ rc) (hrs : 420 ≤ rs) (hF : lc_F G yL_lengthOf mL_lengthOf [(0, 9, 12, 19)] mc ms [.ref x, jI (f (5 * (k : Int) + 1).toNat), .ref o] yX13_lengthOf mX13_lengthOf [.ref m, jI (f (5 * (k : Int) + 1).toNat)] false x m o d k n t σ ρ) (hc : ∀ n' t' σ' ρ', lr x m o d (k + 1) n' t' σ' ρ' → jk_J G mL_law 3459 [some (.ref 63), some (.ref x), some (.ref m), some (.ref o), some (.ref d), some (jI (5 * (k : Int))), none, none, none] [] n' t' σ' ρ' (rc - 14) (rs - 420) lq_Q jk_no) : jk_J G mL_law 1557 [some (.ref 63), some (.ref x), some (.ref m), some (.ref o), some (.ref d), some (jI (5 * (k : Int))), none, none, none] [] n t σ ρ rc rs lq_Q jk_no := by
  obtain ⟨P1, K1, hP1⟩ := hF
  refine jk_aload_n (q := 1558) dL_law_1557 rfl rfl ?_
  refine jk_aload_n (q := 1559) dL_law_1558 rfl rfl ?_
  refine jk_iload (q := 1561) dL_law_1559 rfl rfl ?_
  refine jk_iconst (q := 1562) dL_law_1561 rfl ?_
  refine jk_iadd (q := 1563) dL_law_1562 rfl ?_
  refine jk_tabs (q := 1564) (hsc) (by first | decide | omega) (by first | decide | assumption | omega) dL_law_1563 rfl ?_
  refine jk_aload_n (q := 1565) dL_law_1564 rfl rfl ?_
  refine jk_callSH (q := 1568) (As := [.ref x, jI (f (5 * (k : Int) + 1).toNat), .ref o]) K1 jm_L_lengthOf jw_1179 rfl rfl rfl (by omega) (by omega) rfl dL_law_1565 rfl (fun v' n' t' σ' ρ' hq => ?_) (fun _ _ _ _ _ h => h.elim)
  obtain ⟨c1, rfl, hc1, hm1, P2, K2, hP2⟩ := hP1 _ _ _ _ _ hq
  simp only [Option.toList_some, List.cons_append, List.nil_append]
  refine jk_istore6 (q := 1570) dL_law_1568 rfl rfl rfl ?_
  refine jk_aload_n (q := 1571) dL_law_1570 rfl rfl ?_
  refine jk_aload_n (q := 1572) dL_law_1571 rfl rfl ?_
  refine jk_iload (q := 1574) dL_law_1572 rfl rfl ?_
  refine jk_iconst (q := 1575) dL_law_1574 rfl ?_
  refine jk_iadd (q := 1576) dL_law_1575 rfl ?_
  refine jk_tabs (q := 1577) (hsc) (by first | decide | omega) (by first | decide | assumption | omega) dL_law_1576 rfl ?_
  refine jk_cV1g (q := 1580) (K2) jm_X13_lengthOf jw_2200 rfl (by first | assumption) rfl rfl (Nat.zero_le _) (Nat.zero_le _) rfl dL_law_1577 rfl (fun v' n' t' σ' ρ' hq => ?_) (fun _ _ _ _ _ h => h.elim)
  obtain ⟨v2, rfl, hbo, ⟨O, hat, hO, hO12⟩, hto, hcm, hlr⟩ := hP2 _ _ _ _ _ hq
  have hm2 := hat.1
  simp only [Option.toList_some, List.cons_append, List.nil_append]
  simp only [Nat.sub_zero]
  refine jk_istore7 (q := 1582) dL_law_1580 rfl rfl rfl ?_
  refine jk_aload_n (q := 1583) dL_law_1582 rfl rfl ?_
  refine jk_cV0p (q := 1586) (c_X13_thrown hat hO) jm_X13_thrown jw_1918 rfl (by first | assumption) rfl rfl rfl dL_law_1583 rfl ?_
  rw [hO12]
  refine jk_iload (q := 1588) dL_law_1586 rfl rfl ?_
  refine jk_icmp_eq (q := 1593) (q2 := 1591) dL_law_1588 rfl rfl (by first | decide | assumption | omega) (by first | decide | assumption | omega) (fun z1 => ?_) (fun z1 => ?_)
  · refine jk_iload (q := 1595) dL_law_1593 rfl rfl ?_
    refine jk_if_ne (q := 1610) (q2 := 1598) dL_law_1595 rfl rfl (by first | decide | assumption | omega) (fun z2 => ?_) (fun z2 => ?_)
    · refine jk_goto (q := 3459) dL_law_1610 rfl ?_
      refine jk_convw (jk_rm (hc _ _ _ _ hlr) (by omega) (by omega)) (jk_wkS rfl (jk_wkS rfl (jk_wkS rfl (jk_wkS rfl (jk_wkS rfl (jk_wkS rfl (jk_wkN (jk_wkN (jk_wkN jk_wk0)))))))))
    · refine jk_aload_n (q := 1599) dL_law_1598 rfl rfl ?_
      refine jk_iconst (q := 1600) dL_law_1599 rfl ?_
      refine jk_laldR (q := 1601) (by first | assumption) (by rfl) (by first | decide | assumption | omega) dL_law_1600 rfl ?_
      refine jk_iload (q := 1603) dL_law_1601 rfl rfl ?_
      refine jk_i2lw (q := 1604) dL_law_1603 rfl ?_
      refine jk_lcmp0 (q := 1605) (by exact hcm (by assumption)) dL_law_1604 rfl ?_
      refine jk_ifT_eq (q := 1610) (by decide) (by decide) dL_law_1605 rfl ?_
      refine jk_goto (q := 3459) dL_law_1610 rfl ?_
      refine jk_convw (jk_rm (hc _ _ _ _ hlr) (by omega) (by omega)) (jk_wkS rfl (jk_wkS rfl (jk_wkS rfl (jk_wkS rfl (jk_wkS rfl (jk_wkS rfl (jk_wkN (jk_wkN (jk_wkN jk_wk0)))))))))
  · exact absurd rfl (by assumption)
theorem lw_24 {G : jk_G} {n : Nat} {t : jk_T} {σ : jk_I} {ρ : jk_P} {L : Nat} {f : Nat → Int} {x m o d k rc rs mc ms : Nat} (hL : L ≤ 2560) (hsc : ∀ s, jk_Z G s → va_T .int (jk_ad G 63) L (fun j => jI (f j)) (jk_A G) s s.heap) (hk : 5 * k + 4 < L) (hmc : mc ≤ 14) (hms : ms ≤ 420) (hrc : 14 ≤ rc) (hrs : 420 ≤ rs) (hF : lc_F G yL_levelledDifference mL_levelledDifference [(0, 9, 12, 19)] mc ms [.ref x, jI (f (5 * (k : Int) + 1).toNat), .ref o] yX13_levelledDifference mX13_levelledDifference [.ref m, jI (f (5 * (k : Int) + 1).toNat)] false x m o d k n t σ ρ) (hc : ∀ n' t' σ' ρ', lr x m o d (k + 1) n' t' σ' ρ' → jk_J G mL_law 3459 [some (.ref 63), some (.ref x), some (.ref m), some (.ref o), some (.ref d), some (jI (5 * (k : Int))), none, none, none] [] n' t' σ' ρ' (rc - 14) (rs - 420) lq_Q jk_no) : jk_J G mL_law 1613 [some (.ref 63), some (.ref x), some (.ref m), some (.ref o), some (.ref d), some (jI (5 * (k : Int))), none, none, none] [] n t σ ρ rc rs lq_Q jk_no := by
  obtain ⟨P1, K1, hP1⟩ := hF
  refine jk_aload_n (q := 1614) dL_law_1613 rfl rfl ?_
  refine jk_aload_n (q := 1615) dL_law_1614 rfl rfl ?_
  refine jk_iload (q := 1617) dL_law_1615 rfl rfl ?_
  refine jk_iconst (q := 1618) dL_law_1617 rfl ?_
  refine jk_iadd (q := 1619) dL_law_1618 rfl ?_
  refine jk_tabs (q := 1620) (hsc) (by first | decide | omega) (by first | decide | assumption | omega) dL_law_1619 rfl ?_
  refine jk_aload_n (q := 1621) dL_law_1620 rfl rfl ?_
  refine jk_callSH (q := 1624) (As := [.ref x, jI (f (5 * (k : Int) + 1).toNat), .ref o]) K1 jm_L_levelledDifference jw_1186 rfl rfl rfl (by omega) (by omega) rfl dL_law_1621 rfl (fun v' n' t' σ' ρ' hq => ?_) (fun _ _ _ _ _ h => h.elim)
  obtain ⟨c1, rfl, hc1, hm1, P2, K2, hP2⟩ := hP1 _ _ _ _ _ hq
  simp only [Option.toList_some, List.cons_append, List.nil_append]
  refine jk_istore6 (q := 1626) dL_law_1624 rfl rfl rfl ?_
  refine jk_aload_n (q := 1627) dL_law_1626 rfl rfl ?_
  refine jk_aload_n (q := 1628) dL_law_1627 rfl rfl ?_
  refine jk_iload (q := 1630) dL_law_1628 rfl rfl ?_
  refine jk_iconst (q := 1631) dL_law_1630 rfl ?_
  refine jk_iadd (q := 1632) dL_law_1631 rfl ?_
  refine jk_tabs (q := 1633) (hsc) (by first | decide | omega) (by first | decide | assumption | omega) dL_law_1632 rfl ?_
  refine jk_cV1g (q := 1636) (K2) jm_X13_levelledDifference jw_2204 rfl (by first | assumption) rfl rfl (Nat.zero_le _) (Nat.zero_le _) rfl dL_law_1633 rfl (fun v' n' t' σ' ρ' hq => ?_) (fun _ _ _ _ _ h => h.elim)
  obtain ⟨v2, rfl, hbo, ⟨O, hat, hO, hO12⟩, hto, hcm, hlr⟩ := hP2 _ _ _ _ _ hq
  have hm2 := hat.1
  simp only [Option.toList_some, List.cons_append, List.nil_append]
  simp only [Nat.sub_zero]
  refine jk_istore7 (q := 1638) dL_law_1636 rfl rfl rfl ?_
  refine jk_aload_n (q := 1639) dL_law_1638 rfl rfl ?_
  refine jk_cV0p (q := 1642) (c_X13_thrown hat hO) jm_X13_thrown jw_1918 rfl (by first | assumption) rfl rfl rfl dL_law_1639 rfl ?_
  rw [hO12]
  refine jk_iload (q := 1644) dL_law_1642 rfl rfl ?_
  refine jk_icmp_eq (q := 1649) (q2 := 1647) dL_law_1644 rfl rfl (by first | decide | assumption | omega) (by first | decide | assumption | omega) (fun z1 => ?_) (fun z1 => ?_)
  · refine jk_iload (q := 1651) dL_law_1649 rfl rfl ?_
    refine jk_if_ne (q := 1666) (q2 := 1654) dL_law_1651 rfl rfl (by first | decide | assumption | omega) (fun z2 => ?_) (fun z2 => ?_)
    · refine jk_goto (q := 3459) dL_law_1666 rfl ?_
      refine jk_convw (jk_rm (hc _ _ _ _ hlr) (by omega) (by omega)) (jk_wkS rfl (jk_wkS rfl (jk_wkS rfl (jk_wkS rfl (jk_wkS rfl (jk_wkS rfl (jk_wkN (jk_wkN (jk_wkN jk_wk0)))))))))
    · refine jk_aload_n (q := 1655) dL_law_1654 rfl rfl ?_
      refine jk_iconst (q := 1656) dL_law_1655 rfl ?_
      refine jk_laldR (q := 1657) (by first | assumption) (by rfl) (by first | decide | assumption | omega) dL_law_1656 rfl ?_
      refine jk_iload (q := 1659) dL_law_1657 rfl rfl ?_
      refine jk_i2lw (q := 1660) dL_law_1659 rfl ?_
      refine jk_lcmp0 (q := 1661) (by exact hcm (by assumption)) dL_law_1660 rfl ?_
      refine jk_ifT_eq (q := 1666) (by decide) (by decide) dL_law_1661 rfl ?_
      refine jk_goto (q := 3459) dL_law_1666 rfl ?_
      refine jk_convw (jk_rm (hc _ _ _ _ hlr) (by omega) (by omega)) (jk_wkS rfl (jk_wkS rfl (jk_wkS rfl (jk_wkS rfl (jk_wkS rfl (jk_wkS rfl (jk_wkN (jk_wkN (jk_wkN jk_wk0)))))))))
  · exact absurd rfl (by assumption)
theorem lw_25 {G : jk_G} {n : Nat} {t : jk_T} {σ : jk_I} {ρ : jk_P} {L : Nat} {f : Nat → Int} {x m o d k rc rs mc ms : Nat} (hL : L ≤ 2560) (hsc : ∀ s, jk_Z G s → va_T .int (jk_ad G 63) L (fun j => jI (f j)) (jk_A G) s s.heap) (hk : 5 * k + 4 < L) (hmc : mc ≤ 14) (hms : ms ≤ 420) (hrc : 14 ≤ rc) (hrs : 420 ≤ rs) (hF : lc_F G yL_correction mL_correction [(0, 9, 12, 19)] mc ms [.ref x, jI (f (5 * (k : Int) + 1).toNat), .ref o] yX13_correction mX13_correction [.ref m, jI (f (5 * (k : Int) + 1).toNat)] false x m o d k n t σ ρ) (hc : ∀ n' t' σ' ρ', lr x m o d (k + 1) n' t' σ' ρ' → jk_J G mL_law 3459 [some (.ref 63), some (.ref x), some (.ref m), some (.ref o), some (.ref d), some (jI (5 * (k : Int))), none, none, none] [] n' t' σ' ρ' (rc - 14) (rs - 420) lq_Q jk_no) : jk_J G mL_law 1669 [some (.ref 63), some (.ref x), some (.ref m), some (.ref o), some (.ref d), some (jI (5 * (k : Int))), none, none, none] [] n t σ ρ rc rs lq_Q jk_no := by
  obtain ⟨P1, K1, hP1⟩ := hF
  refine jk_aload_n (q := 1670) dL_law_1669 rfl rfl ?_
  refine jk_aload_n (q := 1671) dL_law_1670 rfl rfl ?_
  refine jk_iload (q := 1673) dL_law_1671 rfl rfl ?_
  refine jk_iconst (q := 1674) dL_law_1673 rfl ?_
  refine jk_iadd (q := 1675) dL_law_1674 rfl ?_
  refine jk_tabs (q := 1676) (hsc) (by first | decide | omega) (by first | decide | assumption | omega) dL_law_1675 rfl ?_
  refine jk_aload_n (q := 1677) dL_law_1676 rfl rfl ?_
  refine jk_callSH (q := 1680) (As := [.ref x, jI (f (5 * (k : Int) + 1).toNat), .ref o]) K1 jm_L_correction jw_1194 rfl rfl rfl (by omega) (by omega) rfl dL_law_1677 rfl (fun v' n' t' σ' ρ' hq => ?_) (fun _ _ _ _ _ h => h.elim)
  obtain ⟨c1, rfl, hc1, hm1, P2, K2, hP2⟩ := hP1 _ _ _ _ _ hq
  simp only [Option.toList_some, List.cons_append, List.nil_append]
  refine jk_istore6 (q := 1682) dL_law_1680 rfl rfl rfl ?_
  refine jk_aload_n (q := 1683) dL_law_1682 rfl rfl ?_
  refine jk_aload_n (q := 1684) dL_law_1683 rfl rfl ?_
  refine jk_iload (q := 1686) dL_law_1684 rfl rfl ?_
  refine jk_iconst (q := 1687) dL_law_1686 rfl ?_
  refine jk_iadd (q := 1688) dL_law_1687 rfl ?_
  refine jk_tabs (q := 1689) (hsc) (by first | decide | omega) (by first | decide | assumption | omega) dL_law_1688 rfl ?_
  refine jk_cV1g (q := 1692) (K2) jm_X13_correction jw_2208 rfl (by first | assumption) rfl rfl (Nat.zero_le _) (Nat.zero_le _) rfl dL_law_1689 rfl (fun v' n' t' σ' ρ' hq => ?_) (fun _ _ _ _ _ h => h.elim)
  obtain ⟨v2, rfl, hbo, ⟨O, hat, hO, hO12⟩, hto, hcm, hlr⟩ := hP2 _ _ _ _ _ hq
  have hm2 := hat.1
  simp only [Option.toList_some, List.cons_append, List.nil_append]
  simp only [Nat.sub_zero]
  refine jk_istore7 (q := 1694) dL_law_1692 rfl rfl rfl ?_
  refine jk_aload_n (q := 1695) dL_law_1694 rfl rfl ?_
  refine jk_cV0p (q := 1698) (c_X13_thrown hat hO) jm_X13_thrown jw_1918 rfl (by first | assumption) rfl rfl rfl dL_law_1695 rfl ?_
  rw [hO12]
  refine jk_iload (q := 1700) dL_law_1698 rfl rfl ?_
  refine jk_icmp_eq (q := 1705) (q2 := 1703) dL_law_1700 rfl rfl (by first | decide | assumption | omega) (by first | decide | assumption | omega) (fun z1 => ?_) (fun z1 => ?_)
  · refine jk_iload (q := 1707) dL_law_1705 rfl rfl ?_
    refine jk_if_ne (q := 1722) (q2 := 1710) dL_law_1707 rfl rfl (by first | decide | assumption | omega) (fun z2 => ?_) (fun z2 => ?_)
    · refine jk_goto (q := 3459) dL_law_1722 rfl ?_
      refine jk_convw (jk_rm (hc _ _ _ _ hlr) (by omega) (by omega)) (jk_wkS rfl (jk_wkS rfl (jk_wkS rfl (jk_wkS rfl (jk_wkS rfl (jk_wkS rfl (jk_wkN (jk_wkN (jk_wkN jk_wk0)))))))))
    · refine jk_aload_n (q := 1711) dL_law_1710 rfl rfl ?_
      refine jk_iconst (q := 1712) dL_law_1711 rfl ?_
      refine jk_laldR (q := 1713) (by first | assumption) (by rfl) (by first | decide | assumption | omega) dL_law_1712 rfl ?_
      refine jk_iload (q := 1715) dL_law_1713 rfl rfl ?_
      refine jk_i2lw (q := 1716) dL_law_1715 rfl ?_
      refine jk_lcmp0 (q := 1717) (by exact hcm (by assumption)) dL_law_1716 rfl ?_
      refine jk_ifT_eq (q := 1722) (by decide) (by decide) dL_law_1717 rfl ?_
      refine jk_goto (q := 3459) dL_law_1722 rfl ?_
      refine jk_convw (jk_rm (hc _ _ _ _ hlr) (by omega) (by omega)) (jk_wkS rfl (jk_wkS rfl (jk_wkS rfl (jk_wkS rfl (jk_wkS rfl (jk_wkS rfl (jk_wkN (jk_wkN (jk_wkN jk_wk0)))))))))
  · exact absurd rfl (by assumption)
theorem lw_26 {G : jk_G} {n : Nat} {t : jk_T} {σ : jk_I} {ρ : jk_P} {L : Nat} {f : Nat → Int} {x m o d k rc rs mc ms : Nat} (hL : L ≤ 2560) (hsc : ∀ s, jk_Z G s → va_T .int (jk_ad G 63) L (fun j => jI (f j)) (jk_A G) s s.heap) (hk : 5 * k + 4 < L) (hmc : mc ≤ 14) (hms : ms ≤ 420) (hrc : 14 ≤ rc) (hrs : 420 ≤ rs) (hF : lc_F G yL_discrepancy mL_discrepancy [(0, 9, 12, 19), (0, 9, 15, 43)] mc ms [.ref x, jI (f (5 * (k : Int) + 1).toNat), .ref o] yX13_discrepancy mX13_discrepancy [.ref m, jI (f (5 * (k : Int) + 1).toNat)] false x m o d k n t σ ρ) (hc : ∀ n' t' σ' ρ', lr x m o d (k + 1) n' t' σ' ρ' → jk_J G mL_law 3459 [some (.ref 63), some (.ref x), some (.ref m), some (.ref o), some (.ref d), some (jI (5 * (k : Int))), none, none, none] [] n' t' σ' ρ' (rc - 14) (rs - 420) lq_Q jk_no) : jk_J G mL_law 1725 [some (.ref 63), some (.ref x), some (.ref m), some (.ref o), some (.ref d), some (jI (5 * (k : Int))), none, none, none] [] n t σ ρ rc rs lq_Q jk_no := by
  obtain ⟨P1, K1, hP1⟩ := hF
  refine jk_aload_n (q := 1726) dL_law_1725 rfl rfl ?_
  refine jk_aload_n (q := 1727) dL_law_1726 rfl rfl ?_
  refine jk_iload (q := 1729) dL_law_1727 rfl rfl ?_
  refine jk_iconst (q := 1730) dL_law_1729 rfl ?_
  refine jk_iadd (q := 1731) dL_law_1730 rfl ?_
  refine jk_tabs (q := 1732) (hsc) (by first | decide | omega) (by first | decide | assumption | omega) dL_law_1731 rfl ?_
  refine jk_aload_n (q := 1733) dL_law_1732 rfl rfl ?_
  refine jk_callSH (q := 1736) (As := [.ref x, jI (f (5 * (k : Int) + 1).toNat), .ref o]) K1 jm_L_discrepancy jw_1201 rfl rfl rfl (by omega) (by omega) rfl dL_law_1733 rfl (fun v' n' t' σ' ρ' hq => ?_) (fun _ _ _ _ _ h => h.elim)
  obtain ⟨c1, rfl, hc1, hm1, P2, K2, hP2⟩ := hP1 _ _ _ _ _ hq
  simp only [Option.toList_some, List.cons_append, List.nil_append]
  refine jk_istore6 (q := 1738) dL_law_1736 rfl rfl rfl ?_
  refine jk_aload_n (q := 1739) dL_law_1738 rfl rfl ?_
  refine jk_aload_n (q := 1740) dL_law_1739 rfl rfl ?_
  refine jk_iload (q := 1742) dL_law_1740 rfl rfl ?_
  refine jk_iconst (q := 1743) dL_law_1742 rfl ?_
  refine jk_iadd (q := 1744) dL_law_1743 rfl ?_
  refine jk_tabs (q := 1745) (hsc) (by first | decide | omega) (by first | decide | assumption | omega) dL_law_1744 rfl ?_
  refine jk_cV1g (q := 1748) (K2) jm_X13_discrepancy jw_2212 rfl (by first | assumption) rfl rfl (Nat.zero_le _) (Nat.zero_le _) rfl dL_law_1745 rfl (fun v' n' t' σ' ρ' hq => ?_) (fun _ _ _ _ _ h => h.elim)
  obtain ⟨v2, rfl, hbo, ⟨O, hat, hO, hO12⟩, hto, hcm, hlr⟩ := hP2 _ _ _ _ _ hq
  have hm2 := hat.1
  simp only [Option.toList_some, List.cons_append, List.nil_append]
  simp only [Nat.sub_zero]
  refine jk_istore7 (q := 1750) dL_law_1748 rfl rfl rfl ?_
  refine jk_aload_n (q := 1751) dL_law_1750 rfl rfl ?_
  refine jk_cV0p (q := 1754) (c_X13_thrown hat hO) jm_X13_thrown jw_1918 rfl (by first | assumption) rfl rfl rfl dL_law_1751 rfl ?_
  rw [hO12]
  refine jk_iload (q := 1756) dL_law_1754 rfl rfl ?_
  refine jk_icmp_eq (q := 1761) (q2 := 1759) dL_law_1756 rfl rfl (by first | decide | assumption | omega) (by first | decide | assumption | omega) (fun z1 => ?_) (fun z1 => ?_)
  · refine jk_iload (q := 1763) dL_law_1761 rfl rfl ?_
    refine jk_if_ne (q := 1778) (q2 := 1766) dL_law_1763 rfl rfl (by first | decide | assumption | omega) (fun z2 => ?_) (fun z2 => ?_)
    · refine jk_goto (q := 3459) dL_law_1778 rfl ?_
      refine jk_convw (jk_rm (hc _ _ _ _ hlr) (by omega) (by omega)) (jk_wkS rfl (jk_wkS rfl (jk_wkS rfl (jk_wkS rfl (jk_wkS rfl (jk_wkS rfl (jk_wkN (jk_wkN (jk_wkN jk_wk0)))))))))
    · refine jk_aload_n (q := 1767) dL_law_1766 rfl rfl ?_
      refine jk_iconst (q := 1768) dL_law_1767 rfl ?_
      refine jk_laldR (q := 1769) (by first | assumption) (by rfl) (by first | decide | assumption | omega) dL_law_1768 rfl ?_
      refine jk_iload (q := 1771) dL_law_1769 rfl rfl ?_
      refine jk_i2lw (q := 1772) dL_law_1771 rfl ?_
      refine jk_lcmp0 (q := 1773) (by exact hcm (by assumption)) dL_law_1772 rfl ?_
      refine jk_ifT_eq (q := 1778) (by decide) (by decide) dL_law_1773 rfl ?_
      refine jk_goto (q := 3459) dL_law_1778 rfl ?_
      refine jk_convw (jk_rm (hc _ _ _ _ hlr) (by omega) (by omega)) (jk_wkS rfl (jk_wkS rfl (jk_wkS rfl (jk_wkS rfl (jk_wkS rfl (jk_wkS rfl (jk_wkN (jk_wkN (jk_wkN jk_wk0)))))))))
  · exact absurd rfl (by assumption)
theorem lw_27 {G : jk_G} {n : Nat} {t : jk_T} {σ : jk_I} {ρ : jk_P} {L : Nat} {f : Nat → Int} {x m o d k rc rs mc ms : Nat} (hL : L ≤ 2560) (hsc : ∀ s, jk_Z G s → va_T .int (jk_ad G 63) L (fun j => jI (f j)) (jk_A G) s s.heap) (hk : 5 * k + 4 < L) (hmc : mc ≤ 14) (hms : ms ≤ 420) (hrc : 14 ≤ rc) (hrs : 420 ≤ rs) (hF : lc_F G yL_isExcluded mL_isExcluded [(0, 16, 19, 19)] mc ms [.ref x, jI (f (5 * (k : Int) + 1).toNat), .ref o] yX13_isExcluded mX13_isExcluded [.ref m, jI (f (5 * (k : Int) + 1).toNat)] true x m o d k n t σ ρ) (hc : ∀ n' t' σ' ρ', lr x m o d (k + 1) n' t' σ' ρ' → jk_J G mL_law 3459 [some (.ref 63), some (.ref x), some (.ref m), some (.ref o), some (.ref d), some (jI (5 * (k : Int))), none, none, none] [] n' t' σ' ρ' (rc - 14) (rs - 420) lq_Q jk_no) : jk_J G mL_law 1781 [some (.ref 63), some (.ref x), some (.ref m), some (.ref o), some (.ref d), some (jI (5 * (k : Int))), none, none, none] [] n t σ ρ rc rs lq_Q jk_no := by
  obtain ⟨P1, K1, hP1⟩ := hF
  refine jk_aload_n (q := 1782) dL_law_1781 rfl rfl ?_
  refine jk_aload_n (q := 1783) dL_law_1782 rfl rfl ?_
  refine jk_iload (q := 1785) dL_law_1783 rfl rfl ?_
  refine jk_iconst (q := 1786) dL_law_1785 rfl ?_
  refine jk_iadd (q := 1787) dL_law_1786 rfl ?_
  refine jk_tabs (q := 1788) (hsc) (by first | decide | omega) (by first | decide | assumption | omega) dL_law_1787 rfl ?_
  refine jk_aload_n (q := 1789) dL_law_1788 rfl rfl ?_
  refine jk_callSH (q := 1792) (As := [.ref x, jI (f (5 * (k : Int) + 1).toNat), .ref o]) K1 jm_L_isExcluded jw_1210 rfl rfl rfl (by omega) (by omega) rfl dL_law_1789 rfl (fun v' n' t' σ' ρ' hq => ?_) (fun _ _ _ _ _ h => h.elim)
  obtain ⟨c1, rfl, hc1, hm1, P2, K2, hP2⟩ := hP1 _ _ _ _ _ hq
  simp only [Option.toList_some, List.cons_append, List.nil_append]
  refine jk_istore6 (q := 1794) dL_law_1792 rfl rfl rfl ?_
  refine jk_aload_n (q := 1795) dL_law_1794 rfl rfl ?_
  refine jk_aload_n (q := 1796) dL_law_1795 rfl rfl ?_
  refine jk_iload (q := 1798) dL_law_1796 rfl rfl ?_
  refine jk_iconst (q := 1799) dL_law_1798 rfl ?_
  refine jk_iadd (q := 1800) dL_law_1799 rfl ?_
  refine jk_tabs (q := 1801) (hsc) (by first | decide | omega) (by first | decide | assumption | omega) dL_law_1800 rfl ?_
  refine jk_cV1g (q := 1804) (K2) jm_X13_isExcluded jw_2216 rfl (by first | assumption) rfl rfl (Nat.zero_le _) (Nat.zero_le _) rfl dL_law_1801 rfl (fun v' n' t' σ' ρ' hq => ?_) (fun _ _ _ _ _ h => h.elim)
  obtain ⟨v2, rfl, hbo, ⟨O, hat, hO, hO12⟩, hto, hcm, hlr⟩ := hP2 _ _ _ _ _ hq
  obtain ⟨b, rfl⟩ := hbo rfl
  have hm2 := hat.1
  simp only [Option.toList_some, List.cons_append, List.nil_append]
  simp only [Nat.sub_zero]
  refine jk_istore7 (q := 1806) dL_law_1804 rfl rfl rfl ?_
  refine jk_aload_n (q := 1807) dL_law_1806 rfl rfl ?_
  refine jk_cV0p (q := 1810) (c_X13_thrown hat hO) jm_X13_thrown jw_1918 rfl (by first | assumption) rfl rfl rfl dL_law_1807 rfl ?_
  rw [hO12]
  refine jk_iload (q := 1812) dL_law_1810 rfl rfl ?_
  refine jk_icmp_eq (q := 1817) (q2 := 1815) dL_law_1812 rfl rfl (by first | decide | assumption | omega) (by first | decide | assumption | omega) (fun z1 => ?_) (fun z1 => ?_)
  · refine jk_iload (q := 1819) dL_law_1817 rfl rfl ?_
    refine jk_if_ne (q := 1841) (q2 := 1822) dL_law_1819 rfl rfl (by first | decide | assumption | omega) (fun z2 => ?_) (fun z2 => ?_)
    · refine jk_goto (q := 3459) dL_law_1841 rfl ?_
      refine jk_convw (jk_rm (hc _ _ _ _ hlr) (by omega) (by omega)) (jk_wkS rfl (jk_wkS rfl (jk_wkS rfl (jk_wkS rfl (jk_wkS rfl (jk_wkS rfl (jk_wkN (jk_wkN (jk_wkN jk_wk0)))))))))
    · refine jk_aload_n (q := 1823) dL_law_1822 rfl rfl ?_
      refine jk_iconst (q := 1824) dL_law_1823 rfl ?_
      refine jk_laldR (q := 1825) (by first | assumption) (by rfl) (by first | decide | assumption | omega) dL_law_1824 rfl ?_
      refine jk_iload (q := 1827) dL_law_1825 rfl rfl ?_
      refine jk_ifB_eq (q := 1834) (q2 := 1830) dL_law_1827 rfl rfl (fun z3 => ?_) (fun z3 => ?_)
      · refine jk_lconst (q := 1835) (y := 0) dL_law_1834 rfl (by decide) ?_
        refine jk_lcmp0 (q := 1836) (by rw [hcm (by assumption), jk_wB, (by assumption : b = _)]; rfl) dL_law_1835 rfl ?_
        refine jk_ifT_eq (q := 1841) (by decide) (by decide) dL_law_1836 rfl ?_
        refine jk_goto (q := 3459) dL_law_1841 rfl ?_
        refine jk_convw (jk_rm (hc _ _ _ _ hlr) (by omega) (by omega)) (jk_wkS rfl (jk_wkS rfl (jk_wkS rfl (jk_wkS rfl (jk_wkS rfl (jk_wkS rfl (jk_wkN (jk_wkN (jk_wkN jk_wk0)))))))))
      · refine jk_lconst (q := 1831) (y := 1) dL_law_1830 rfl (by decide) ?_
        refine jk_goto (q := 1835) dL_law_1831 rfl ?_
        refine jk_lcmp0 (q := 1836) (by rw [hcm (by assumption), jk_wB, (by assumption : b = _)]; rfl) dL_law_1835 rfl ?_
        refine jk_ifT_eq (q := 1841) (by decide) (by decide) dL_law_1836 rfl ?_
        refine jk_goto (q := 3459) dL_law_1841 rfl ?_
        refine jk_convw (jk_rm (hc _ _ _ _ hlr) (by omega) (by omega)) (jk_wkS rfl (jk_wkS rfl (jk_wkS rfl (jk_wkS rfl (jk_wkS rfl (jk_wkS rfl (jk_wkN (jk_wkN (jk_wkN jk_wk0)))))))))
  · exact absurd rfl (by assumption)
theorem lw_28 {G : jk_G} {n : Nat} {t : jk_T} {σ : jk_I} {ρ : jk_P} {L : Nat} {f : Nat → Int} {x m o d k rc rs mc ms : Nat} (hL : L ≤ 2560) (hsc : ∀ s, jk_Z G s → va_T .int (jk_ad G 63) L (fun j => jI (f j)) (jk_A G) s s.heap) (hk : 5 * k + 4 < L) (hmc : mc ≤ 14) (hms : ms ≤ 420) (hrc : 14 ≤ rc) (hrs : 420 ≤ rs) (hF : lc_F G yL_isUsable mL_isUsable [(0, 16, 19, 19)] mc ms [.ref x, jI (f (5 * (k : Int) + 1).toNat), .ref o] yX13_isUsable mX13_isUsable [.ref m, jI (f (5 * (k : Int) + 1).toNat)] true x m o d k n t σ ρ) (hc : ∀ n' t' σ' ρ', lr x m o d (k + 1) n' t' σ' ρ' → jk_J G mL_law 3459 [some (.ref 63), some (.ref x), some (.ref m), some (.ref o), some (.ref d), some (jI (5 * (k : Int))), none, none, none] [] n' t' σ' ρ' (rc - 14) (rs - 420) lq_Q jk_no) : jk_J G mL_law 1844 [some (.ref 63), some (.ref x), some (.ref m), some (.ref o), some (.ref d), some (jI (5 * (k : Int))), none, none, none] [] n t σ ρ rc rs lq_Q jk_no := by
  obtain ⟨P1, K1, hP1⟩ := hF
  refine jk_aload_n (q := 1845) dL_law_1844 rfl rfl ?_
  refine jk_aload_n (q := 1846) dL_law_1845 rfl rfl ?_
  refine jk_iload (q := 1848) dL_law_1846 rfl rfl ?_
  refine jk_iconst (q := 1849) dL_law_1848 rfl ?_
  refine jk_iadd (q := 1850) dL_law_1849 rfl ?_
  refine jk_tabs (q := 1851) (hsc) (by first | decide | omega) (by first | decide | assumption | omega) dL_law_1850 rfl ?_
  refine jk_aload_n (q := 1852) dL_law_1851 rfl rfl ?_
  refine jk_callSH (q := 1855) (As := [.ref x, jI (f (5 * (k : Int) + 1).toNat), .ref o]) K1 jm_L_isUsable jw_1217 rfl rfl rfl (by omega) (by omega) rfl dL_law_1852 rfl (fun v' n' t' σ' ρ' hq => ?_) (fun _ _ _ _ _ h => h.elim)
  obtain ⟨c1, rfl, hc1, hm1, P2, K2, hP2⟩ := hP1 _ _ _ _ _ hq
  simp only [Option.toList_some, List.cons_append, List.nil_append]
  refine jk_istore6 (q := 1857) dL_law_1855 rfl rfl rfl ?_
  refine jk_aload_n (q := 1858) dL_law_1857 rfl rfl ?_
  refine jk_aload_n (q := 1859) dL_law_1858 rfl rfl ?_
  refine jk_iload (q := 1861) dL_law_1859 rfl rfl ?_
  refine jk_iconst (q := 1862) dL_law_1861 rfl ?_
  refine jk_iadd (q := 1863) dL_law_1862 rfl ?_
  refine jk_tabs (q := 1864) (hsc) (by first | decide | omega) (by first | decide | assumption | omega) dL_law_1863 rfl ?_
  refine jk_cV1g (q := 1867) (K2) jm_X13_isUsable jw_2220 rfl (by first | assumption) rfl rfl (Nat.zero_le _) (Nat.zero_le _) rfl dL_law_1864 rfl (fun v' n' t' σ' ρ' hq => ?_) (fun _ _ _ _ _ h => h.elim)
  obtain ⟨v2, rfl, hbo, ⟨O, hat, hO, hO12⟩, hto, hcm, hlr⟩ := hP2 _ _ _ _ _ hq
  obtain ⟨b, rfl⟩ := hbo rfl
  have hm2 := hat.1
  simp only [Option.toList_some, List.cons_append, List.nil_append]
  simp only [Nat.sub_zero]
  refine jk_istore7 (q := 1869) dL_law_1867 rfl rfl rfl ?_
  refine jk_aload_n (q := 1870) dL_law_1869 rfl rfl ?_
  refine jk_cV0p (q := 1873) (c_X13_thrown hat hO) jm_X13_thrown jw_1918 rfl (by first | assumption) rfl rfl rfl dL_law_1870 rfl ?_
  rw [hO12]
  refine jk_iload (q := 1875) dL_law_1873 rfl rfl ?_
  refine jk_icmp_eq (q := 1880) (q2 := 1878) dL_law_1875 rfl rfl (by first | decide | assumption | omega) (by first | decide | assumption | omega) (fun z1 => ?_) (fun z1 => ?_)
  · refine jk_iload (q := 1882) dL_law_1880 rfl rfl ?_
    refine jk_if_ne (q := 1904) (q2 := 1885) dL_law_1882 rfl rfl (by first | decide | assumption | omega) (fun z2 => ?_) (fun z2 => ?_)
    · refine jk_goto (q := 3459) dL_law_1904 rfl ?_
      refine jk_convw (jk_rm (hc _ _ _ _ hlr) (by omega) (by omega)) (jk_wkS rfl (jk_wkS rfl (jk_wkS rfl (jk_wkS rfl (jk_wkS rfl (jk_wkS rfl (jk_wkN (jk_wkN (jk_wkN jk_wk0)))))))))
    · refine jk_aload_n (q := 1886) dL_law_1885 rfl rfl ?_
      refine jk_iconst (q := 1887) dL_law_1886 rfl ?_
      refine jk_laldR (q := 1888) (by first | assumption) (by rfl) (by first | decide | assumption | omega) dL_law_1887 rfl ?_
      refine jk_iload (q := 1890) dL_law_1888 rfl rfl ?_
      refine jk_ifB_eq (q := 1897) (q2 := 1893) dL_law_1890 rfl rfl (fun z3 => ?_) (fun z3 => ?_)
      · refine jk_lconst (q := 1898) (y := 0) dL_law_1897 rfl (by decide) ?_
        refine jk_lcmp0 (q := 1899) (by rw [hcm (by assumption), jk_wB, (by assumption : b = _)]; rfl) dL_law_1898 rfl ?_
        refine jk_ifT_eq (q := 1904) (by decide) (by decide) dL_law_1899 rfl ?_
        refine jk_goto (q := 3459) dL_law_1904 rfl ?_
        refine jk_convw (jk_rm (hc _ _ _ _ hlr) (by omega) (by omega)) (jk_wkS rfl (jk_wkS rfl (jk_wkS rfl (jk_wkS rfl (jk_wkS rfl (jk_wkS rfl (jk_wkN (jk_wkN (jk_wkN jk_wk0)))))))))
      · refine jk_lconst (q := 1894) (y := 1) dL_law_1893 rfl (by decide) ?_
        refine jk_goto (q := 1898) dL_law_1894 rfl ?_
        refine jk_lcmp0 (q := 1899) (by rw [hcm (by assumption), jk_wB, (by assumption : b = _)]; rfl) dL_law_1898 rfl ?_
        refine jk_ifT_eq (q := 1904) (by decide) (by decide) dL_law_1899 rfl ?_
        refine jk_goto (q := 3459) dL_law_1904 rfl ?_
        refine jk_convw (jk_rm (hc _ _ _ _ hlr) (by omega) (by omega)) (jk_wkS rfl (jk_wkS rfl (jk_wkS rfl (jk_wkS rfl (jk_wkS rfl (jk_wkS rfl (jk_wkN (jk_wkN (jk_wkN jk_wk0)))))))))
  · exact absurd rfl (by assumption)
theorem lw_29 {G : jk_G} {n : Nat} {t : jk_T} {σ : jk_I} {ρ : jk_P} {L : Nat} {f : Nat → Int} {x m o d k rc rs mc ms : Nat} (hL : L ≤ 2560) (hsc : ∀ s, jk_Z G s → va_T .int (jk_ad G 63) L (fun j => jI (f j)) (jk_A G) s s.heap) (hk : 5 * k + 4 < L) (hmc : mc ≤ 14) (hms : ms ≤ 420) (hrc : 14 ≤ rc) (hrs : 420 ≤ rs) (hF : lc_F G yL_tolerance mL_tolerance [(0, 9, 12, 21)] mc ms [.ref x, jI (f (5 * (k : Int) + 1).toNat), .ref o] yX13_tolerance mX13_tolerance [.ref m, jI (f (5 * (k : Int) + 1).toNat)] false x m o d k n t σ ρ) (hc : ∀ n' t' σ' ρ', lr x m o d (k + 1) n' t' σ' ρ' → jk_J G mL_law 3459 [some (.ref 63), some (.ref x), some (.ref m), some (.ref o), some (.ref d), some (jI (5 * (k : Int))), none, none, none] [] n' t' σ' ρ' (rc - 14) (rs - 420) lq_Q jk_no) : jk_J G mL_law 1907 [some (.ref 63), some (.ref x), some (.ref m), some (.ref o), some (.ref d), some (jI (5 * (k : Int))), none, none, none] [] n t σ ρ rc rs lq_Q jk_no := by
  obtain ⟨P1, K1, hP1⟩ := hF
  refine jk_aload_n (q := 1908) dL_law_1907 rfl rfl ?_
  refine jk_aload_n (q := 1909) dL_law_1908 rfl rfl ?_
  refine jk_iload (q := 1911) dL_law_1909 rfl rfl ?_
  refine jk_iconst (q := 1912) dL_law_1911 rfl ?_
  refine jk_iadd (q := 1913) dL_law_1912 rfl ?_
  refine jk_tabs (q := 1914) (hsc) (by first | decide | omega) (by first | decide | assumption | omega) dL_law_1913 rfl ?_
  refine jk_aload_n (q := 1915) dL_law_1914 rfl rfl ?_
  refine jk_callSH (q := 1918) (As := [.ref x, jI (f (5 * (k : Int) + 1).toNat), .ref o]) K1 jm_L_tolerance jw_1225 rfl rfl rfl (by omega) (by omega) rfl dL_law_1915 rfl (fun v' n' t' σ' ρ' hq => ?_) (fun _ _ _ _ _ h => h.elim)
  obtain ⟨c1, rfl, hc1, hm1, P2, K2, hP2⟩ := hP1 _ _ _ _ _ hq
  simp only [Option.toList_some, List.cons_append, List.nil_append]
  refine jk_istore6 (q := 1920) dL_law_1918 rfl rfl rfl ?_
  refine jk_aload_n (q := 1921) dL_law_1920 rfl rfl ?_
  refine jk_aload_n (q := 1922) dL_law_1921 rfl rfl ?_
  refine jk_iload (q := 1924) dL_law_1922 rfl rfl ?_
  refine jk_iconst (q := 1925) dL_law_1924 rfl ?_
  refine jk_iadd (q := 1926) dL_law_1925 rfl ?_
  refine jk_tabs (q := 1927) (hsc) (by first | decide | omega) (by first | decide | assumption | omega) dL_law_1926 rfl ?_
  refine jk_cV1g (q := 1930) (K2) jm_X13_tolerance jw_2224 rfl (by first | assumption) rfl rfl (Nat.zero_le _) (Nat.zero_le _) rfl dL_law_1927 rfl (fun v' n' t' σ' ρ' hq => ?_) (fun _ _ _ _ _ h => h.elim)
  obtain ⟨v2, rfl, hbo, ⟨O, hat, hO, hO12⟩, hto, hcm, hlr⟩ := hP2 _ _ _ _ _ hq
  have hm2 := hat.1
  simp only [Option.toList_some, List.cons_append, List.nil_append]
  simp only [Nat.sub_zero]
  refine jk_istore7 (q := 1932) dL_law_1930 rfl rfl rfl ?_
  refine jk_aload_n (q := 1933) dL_law_1932 rfl rfl ?_
  refine jk_cV0p (q := 1936) (c_X13_thrown hat hO) jm_X13_thrown jw_1918 rfl (by first | assumption) rfl rfl rfl dL_law_1933 rfl ?_
  rw [hO12]
  refine jk_iload (q := 1938) dL_law_1936 rfl rfl ?_
  refine jk_icmp_eq (q := 1943) (q2 := 1941) dL_law_1938 rfl rfl (by first | decide | assumption | omega) (by first | decide | assumption | omega) (fun z1 => ?_) (fun z1 => ?_)
  · refine jk_iload (q := 1945) dL_law_1943 rfl rfl ?_
    refine jk_if_ne (q := 1960) (q2 := 1948) dL_law_1945 rfl rfl (by first | decide | assumption | omega) (fun z2 => ?_) (fun z2 => ?_)
    · refine jk_goto (q := 3459) dL_law_1960 rfl ?_
      refine jk_convw (jk_rm (hc _ _ _ _ hlr) (by omega) (by omega)) (jk_wkS rfl (jk_wkS rfl (jk_wkS rfl (jk_wkS rfl (jk_wkS rfl (jk_wkS rfl (jk_wkN (jk_wkN (jk_wkN jk_wk0)))))))))
    · refine jk_aload_n (q := 1949) dL_law_1948 rfl rfl ?_
      refine jk_iconst (q := 1950) dL_law_1949 rfl ?_
      refine jk_laldR (q := 1951) (by first | assumption) (by rfl) (by first | decide | assumption | omega) dL_law_1950 rfl ?_
      refine jk_iload (q := 1953) dL_law_1951 rfl rfl ?_
      refine jk_i2lw (q := 1954) dL_law_1953 rfl ?_
      refine jk_lcmp0 (q := 1955) (by exact hcm (by assumption)) dL_law_1954 rfl ?_
      refine jk_ifT_eq (q := 1960) (by decide) (by decide) dL_law_1955 rfl ?_
      refine jk_goto (q := 3459) dL_law_1960 rfl ?_
      refine jk_convw (jk_rm (hc _ _ _ _ hlr) (by omega) (by omega)) (jk_wkS rfl (jk_wkS rfl (jk_wkS rfl (jk_wkS rfl (jk_wkS rfl (jk_wkS rfl (jk_wkN (jk_wkN (jk_wkN jk_wk0)))))))))
  · exact absurd rfl (by assumption)
theorem lw_30 {G : jk_G} {n : Nat} {t : jk_T} {σ : jk_I} {ρ : jk_P} {L : Nat} {f : Nat → Int} {x m o d k rc rs mc ms : Nat} (hL : L ≤ 2560) (hsc : ∀ s, jk_Z G s → va_T .int (jk_ad G 63) L (fun j => jI (f j)) (jk_A G) s s.heap) (hk : 5 * k + 4 < L) (hmc : mc ≤ 14) (hms : ms ≤ 420) (hrc : 14 ≤ rc) (hrs : 420 ≤ rs) (hF : lc_F G yL_lineByDiscrepancy mL_lineByDiscrepancy [(0, 9, 12, 43)] mc ms [.ref x, jI (f (5 * (k : Int) + 1).toNat), .ref o] yX13_lineByDiscrepancy mX13_lineByDiscrepancy [.ref m, jI (f (5 * (k : Int) + 1).toNat)] false x m o d k n t σ ρ) (hc : ∀ n' t' σ' ρ', lr x m o d (k + 1) n' t' σ' ρ' → jk_J G mL_law 3459 [some (.ref 63), some (.ref x), some (.ref m), some (.ref o), some (.ref d), some (jI (5 * (k : Int))), none, none, none] [] n' t' σ' ρ' (rc - 14) (rs - 420) lq_Q jk_no) : jk_J G mL_law 1963 [some (.ref 63), some (.ref x), some (.ref m), some (.ref o), some (.ref d), some (jI (5 * (k : Int))), none, none, none] [] n t σ ρ rc rs lq_Q jk_no := by
  obtain ⟨P1, K1, hP1⟩ := hF
  refine jk_aload_n (q := 1964) dL_law_1963 rfl rfl ?_
  refine jk_aload_n (q := 1965) dL_law_1964 rfl rfl ?_
  refine jk_iload (q := 1967) dL_law_1965 rfl rfl ?_
  refine jk_iconst (q := 1968) dL_law_1967 rfl ?_
  refine jk_iadd (q := 1969) dL_law_1968 rfl ?_
  refine jk_tabs (q := 1970) (hsc) (by first | decide | omega) (by first | decide | assumption | omega) dL_law_1969 rfl ?_
  refine jk_aload_n (q := 1971) dL_law_1970 rfl rfl ?_
  refine jk_callSH (q := 1974) (As := [.ref x, jI (f (5 * (k : Int) + 1).toNat), .ref o]) K1 jm_L_lineByDiscrepancy jw_1235 rfl rfl rfl (by omega) (by omega) rfl dL_law_1971 rfl (fun v' n' t' σ' ρ' hq => ?_) (fun _ _ _ _ _ h => h.elim)
  obtain ⟨c1, rfl, hc1, hm1, P2, K2, hP2⟩ := hP1 _ _ _ _ _ hq
  simp only [Option.toList_some, List.cons_append, List.nil_append]
  refine jk_istore6 (q := 1976) dL_law_1974 rfl rfl rfl ?_
  refine jk_aload_n (q := 1977) dL_law_1976 rfl rfl ?_
  refine jk_aload_n (q := 1978) dL_law_1977 rfl rfl ?_
  refine jk_iload (q := 1980) dL_law_1978 rfl rfl ?_
  refine jk_iconst (q := 1981) dL_law_1980 rfl ?_
  refine jk_iadd (q := 1982) dL_law_1981 rfl ?_
  refine jk_tabs (q := 1983) (hsc) (by first | decide | omega) (by first | decide | assumption | omega) dL_law_1982 rfl ?_
  refine jk_cV1g (q := 1986) (K2) jm_X13_lineByDiscrepancy jw_2228 rfl (by first | assumption) rfl rfl (Nat.zero_le _) (Nat.zero_le _) rfl dL_law_1983 rfl (fun v' n' t' σ' ρ' hq => ?_) (fun _ _ _ _ _ h => h.elim)
  obtain ⟨v2, rfl, hbo, ⟨O, hat, hO, hO12⟩, hto, hcm, hlr⟩ := hP2 _ _ _ _ _ hq
  have hm2 := hat.1
  simp only [Option.toList_some, List.cons_append, List.nil_append]
  simp only [Nat.sub_zero]
  refine jk_istore7 (q := 1988) dL_law_1986 rfl rfl rfl ?_
  refine jk_aload_n (q := 1989) dL_law_1988 rfl rfl ?_
  refine jk_cV0p (q := 1992) (c_X13_thrown hat hO) jm_X13_thrown jw_1918 rfl (by first | assumption) rfl rfl rfl dL_law_1989 rfl ?_
  rw [hO12]
  refine jk_iload (q := 1994) dL_law_1992 rfl rfl ?_
  refine jk_icmp_eq (q := 1999) (q2 := 1997) dL_law_1994 rfl rfl (by first | decide | assumption | omega) (by first | decide | assumption | omega) (fun z1 => ?_) (fun z1 => ?_)
  · refine jk_iload (q := 2001) dL_law_1999 rfl rfl ?_
    refine jk_if_ne (q := 2016) (q2 := 2004) dL_law_2001 rfl rfl (by first | decide | assumption | omega) (fun z2 => ?_) (fun z2 => ?_)
    · refine jk_goto (q := 3459) dL_law_2016 rfl ?_
      refine jk_convw (jk_rm (hc _ _ _ _ hlr) (by omega) (by omega)) (jk_wkS rfl (jk_wkS rfl (jk_wkS rfl (jk_wkS rfl (jk_wkS rfl (jk_wkS rfl (jk_wkN (jk_wkN (jk_wkN jk_wk0)))))))))
    · refine jk_aload_n (q := 2005) dL_law_2004 rfl rfl ?_
      refine jk_iconst (q := 2006) dL_law_2005 rfl ?_
      refine jk_laldR (q := 2007) (by first | assumption) (by rfl) (by first | decide | assumption | omega) dL_law_2006 rfl ?_
      refine jk_iload (q := 2009) dL_law_2007 rfl rfl ?_
      refine jk_i2lw (q := 2010) dL_law_2009 rfl ?_
      refine jk_lcmp0 (q := 2011) (by exact hcm (by assumption)) dL_law_2010 rfl ?_
      refine jk_ifT_eq (q := 2016) (by decide) (by decide) dL_law_2011 rfl ?_
      refine jk_goto (q := 3459) dL_law_2016 rfl ?_
      refine jk_convw (jk_rm (hc _ _ _ _ hlr) (by omega) (by omega)) (jk_wkS rfl (jk_wkS rfl (jk_wkS rfl (jk_wkS rfl (jk_wkS rfl (jk_wkS rfl (jk_wkN (jk_wkN (jk_wkN jk_wk0)))))))))
  · exact absurd rfl (by assumption)
theorem lw_31 {G : jk_G} {n : Nat} {t : jk_T} {σ : jk_I} {ρ : jk_P} {L : Nat} {f : Nat → Int} {x m o d k rc rs mc ms : Nat} (hL : L ≤ 2560) (hsc : ∀ s, jk_Z G s → va_T .int (jk_ad G 63) L (fun j => jI (f j)) (jk_A G) s s.heap) (hk : 5 * k + 4 < L) (hmc : mc ≤ 14) (hms : ms ≤ 420) (hrc : 14 ≤ rc) (hrs : 420 ≤ rs) (hF : lc_F G yL_isInForest mL_isInForest [(0, 16, 19, 19)] mc ms [.ref x, jI (f (5 * (k : Int) + 1).toNat), .ref o] yX13_isInForest mX13_isInForest [.ref m, jI (f (5 * (k : Int) + 1).toNat)] true x m o d k n t σ ρ) (hc : ∀ n' t' σ' ρ', lr x m o d (k + 1) n' t' σ' ρ' → jk_J G mL_law 3459 [some (.ref 63), some (.ref x), some (.ref m), some (.ref o), some (.ref d), some (jI (5 * (k : Int))), none, none, none] [] n' t' σ' ρ' (rc - 14) (rs - 420) lq_Q jk_no) : jk_J G mL_law 2019 [some (.ref 63), some (.ref x), some (.ref m), some (.ref o), some (.ref d), some (jI (5 * (k : Int))), none, none, none] [] n t σ ρ rc rs lq_Q jk_no := by
  obtain ⟨P1, K1, hP1⟩ := hF
  refine jk_aload_n (q := 2020) dL_law_2019 rfl rfl ?_
  refine jk_aload_n (q := 2021) dL_law_2020 rfl rfl ?_
  refine jk_iload (q := 2023) dL_law_2021 rfl rfl ?_
  refine jk_iconst (q := 2024) dL_law_2023 rfl ?_
  refine jk_iadd (q := 2025) dL_law_2024 rfl ?_
  refine jk_tabs (q := 2026) (hsc) (by first | decide | omega) (by first | decide | assumption | omega) dL_law_2025 rfl ?_
  refine jk_aload_n (q := 2027) dL_law_2026 rfl rfl ?_
  refine jk_callSH (q := 2030) (As := [.ref x, jI (f (5 * (k : Int) + 1).toNat), .ref o]) K1 jm_L_isInForest jw_1250 rfl rfl rfl (by omega) (by omega) rfl dL_law_2027 rfl (fun v' n' t' σ' ρ' hq => ?_) (fun _ _ _ _ _ h => h.elim)
  obtain ⟨c1, rfl, hc1, hm1, P2, K2, hP2⟩ := hP1 _ _ _ _ _ hq
  simp only [Option.toList_some, List.cons_append, List.nil_append]
  refine jk_istore6 (q := 2032) dL_law_2030 rfl rfl rfl ?_
  refine jk_aload_n (q := 2033) dL_law_2032 rfl rfl ?_
  refine jk_aload_n (q := 2034) dL_law_2033 rfl rfl ?_
  refine jk_iload (q := 2036) dL_law_2034 rfl rfl ?_
  refine jk_iconst (q := 2037) dL_law_2036 rfl ?_
  refine jk_iadd (q := 2038) dL_law_2037 rfl ?_
  refine jk_tabs (q := 2039) (hsc) (by first | decide | omega) (by first | decide | assumption | omega) dL_law_2038 rfl ?_
  refine jk_cV1g (q := 2042) (K2) jm_X13_isInForest jw_2236 rfl (by first | assumption) rfl rfl (Nat.zero_le _) (Nat.zero_le _) rfl dL_law_2039 rfl (fun v' n' t' σ' ρ' hq => ?_) (fun _ _ _ _ _ h => h.elim)
  obtain ⟨v2, rfl, hbo, ⟨O, hat, hO, hO12⟩, hto, hcm, hlr⟩ := hP2 _ _ _ _ _ hq
  obtain ⟨b, rfl⟩ := hbo rfl
  have hm2 := hat.1
  simp only [Option.toList_some, List.cons_append, List.nil_append]
  simp only [Nat.sub_zero]
  refine jk_istore7 (q := 2044) dL_law_2042 rfl rfl rfl ?_
  refine jk_aload_n (q := 2045) dL_law_2044 rfl rfl ?_
  refine jk_cV0p (q := 2048) (c_X13_thrown hat hO) jm_X13_thrown jw_1918 rfl (by first | assumption) rfl rfl rfl dL_law_2045 rfl ?_
  rw [hO12]
  refine jk_iload (q := 2050) dL_law_2048 rfl rfl ?_
  refine jk_icmp_eq (q := 2055) (q2 := 2053) dL_law_2050 rfl rfl (by first | decide | assumption | omega) (by first | decide | assumption | omega) (fun z1 => ?_) (fun z1 => ?_)
  · refine jk_iload (q := 2057) dL_law_2055 rfl rfl ?_
    refine jk_if_ne (q := 2079) (q2 := 2060) dL_law_2057 rfl rfl (by first | decide | assumption | omega) (fun z2 => ?_) (fun z2 => ?_)
    · refine jk_goto (q := 3459) dL_law_2079 rfl ?_
      refine jk_convw (jk_rm (hc _ _ _ _ hlr) (by omega) (by omega)) (jk_wkS rfl (jk_wkS rfl (jk_wkS rfl (jk_wkS rfl (jk_wkS rfl (jk_wkS rfl (jk_wkN (jk_wkN (jk_wkN jk_wk0)))))))))
    · refine jk_aload_n (q := 2061) dL_law_2060 rfl rfl ?_
      refine jk_iconst (q := 2062) dL_law_2061 rfl ?_
      refine jk_laldR (q := 2063) (by first | assumption) (by rfl) (by first | decide | assumption | omega) dL_law_2062 rfl ?_
      refine jk_iload (q := 2065) dL_law_2063 rfl rfl ?_
      refine jk_ifB_eq (q := 2072) (q2 := 2068) dL_law_2065 rfl rfl (fun z3 => ?_) (fun z3 => ?_)
      · refine jk_lconst (q := 2073) (y := 0) dL_law_2072 rfl (by decide) ?_
        refine jk_lcmp0 (q := 2074) (by rw [hcm (by assumption), jk_wB, (by assumption : b = _)]; rfl) dL_law_2073 rfl ?_
        refine jk_ifT_eq (q := 2079) (by decide) (by decide) dL_law_2074 rfl ?_
        refine jk_goto (q := 3459) dL_law_2079 rfl ?_
        refine jk_convw (jk_rm (hc _ _ _ _ hlr) (by omega) (by omega)) (jk_wkS rfl (jk_wkS rfl (jk_wkS rfl (jk_wkS rfl (jk_wkS rfl (jk_wkS rfl (jk_wkN (jk_wkN (jk_wkN jk_wk0)))))))))
      · refine jk_lconst (q := 2069) (y := 1) dL_law_2068 rfl (by decide) ?_
        refine jk_goto (q := 2073) dL_law_2069 rfl ?_
        refine jk_lcmp0 (q := 2074) (by rw [hcm (by assumption), jk_wB, (by assumption : b = _)]; rfl) dL_law_2073 rfl ?_
        refine jk_ifT_eq (q := 2079) (by decide) (by decide) dL_law_2074 rfl ?_
        refine jk_goto (q := 3459) dL_law_2079 rfl ?_
        refine jk_convw (jk_rm (hc _ _ _ _ hlr) (by omega) (by omega)) (jk_wkS rfl (jk_wkS rfl (jk_wkS rfl (jk_wkS rfl (jk_wkS rfl (jk_wkS rfl (jk_wkN (jk_wkN (jk_wkN jk_wk0)))))))))
  · exact absurd rfl (by assumption)
theorem lw_32 {G : jk_G} {n : Nat} {t : jk_T} {σ : jk_I} {ρ : jk_P} {L : Nat} {f : Nat → Int} {x m o d k rc rs mc ms : Nat} (hL : L ≤ 2560) (hsc : ∀ s, jk_Z G s → va_T .int (jk_ad G 63) L (fun j => jI (f j)) (jk_A G) s s.heap) (hk : 5 * k + 4 < L) (hmc : mc ≤ 14) (hms : ms ≤ 420) (hrc : 14 ≤ rc) (hrs : 420 ≤ rs) (hF : lc_V G yX12_forestLength mX12_forestLength mc ms yX13_forestLength mX13_forestLength x m o d k n t σ ρ) (hc : ∀ n' t' σ' ρ', lr x m o d (k + 1) n' t' σ' ρ' → jk_J G mL_law 3459 [some (.ref 63), some (.ref x), some (.ref m), some (.ref o), some (.ref d), some (jI (5 * (k : Int))), none, none, none] [] n' t' σ' ρ' (rc - 14) (rs - 420) lq_Q jk_no) : jk_J G mL_law 2082 [some (.ref 63), some (.ref x), some (.ref m), some (.ref o), some (.ref d), some (jI (5 * (k : Int))), none, none, none] [] n t σ ρ rc rs lq_Q jk_no := by
  obtain ⟨P1, X1, K1, hX1, hx, hP1⟩ := hF
  refine jk_aload_n (q := 2083) dL_law_2082 rfl rfl ?_
  refine jk_cV0g (q := 2086) (K1) jm_X12_forestLength jw_812 rfl (by first | assumption) rfl rfl (by omega) (by omega) rfl dL_law_2083 rfl (fun v' n' t' σ' ρ' hq => ?_) (fun _ _ _ _ _ h => (hX1 _ _ _ _ _ h).elim)
  obtain ⟨v1, rfl, hv1, hm1, P2, K2, hP2⟩ := hP1 _ _ _ _ _ hq
  simp only [Option.toList_some, List.cons_append, List.nil_append]
  refine jk_aload_n (q := 2087) dL_law_2086 rfl rfl ?_
  refine jk_cV0g (q := 2090) (K2) jm_X13_forestLength jw_2240 rfl (by first | assumption) rfl rfl (Nat.zero_le _) (Nat.zero_le _) rfl dL_law_2087 rfl (fun v' n' t' σ' ρ' hq => ?_) (fun _ _ _ _ _ h => h.elim)
  obtain ⟨rfl, hlr⟩ := hP2 _ _ _ _ _ hq
  simp only [Option.toList_some, List.cons_append, List.nil_append]
  simp only [Nat.sub_zero]
  refine jk_icmp_eq (q := 3459) (q2 := 2093) dL_law_2090 rfl rfl (by first | decide | assumption | omega) (by first | decide | assumption | omega) (fun z1 => ?_) (fun z1 => ?_)
  · refine jk_convw (jk_rm (hc _ _ _ _ hlr) (by omega) (by omega)) (jk_wkS rfl (jk_wkS rfl (jk_wkS rfl (jk_wkS rfl (jk_wkS rfl (jk_wkS rfl (jk_wkN (jk_wkN (jk_wkN jk_wk0)))))))))
  · exact absurd rfl (by assumption)
theorem lw_33 {G : jk_G} {n : Nat} {t : jk_T} {σ : jk_I} {ρ : jk_P} {L : Nat} {f : Nat → Int} {x m o d k rc rs mc ms : Nat} (hL : L ≤ 2560) (hsc : ∀ s, jk_Z G s → va_T .int (jk_ad G 63) L (fun j => jI (f j)) (jk_A G) s s.heap) (hk : 5 * k + 4 < L) (hmc : mc ≤ 14) (hms : ms ≤ 420) (hrc : 14 ≤ rc) (hrs : 420 ≤ rs) (hF : lc_V G yX12_forestLengthByGrowing mX12_forestLengthByGrowing mc ms yX13_forestLengthByGrowing mX13_forestLengthByGrowing x m o d k n t σ ρ) (hc : ∀ n' t' σ' ρ', lr x m o d (k + 1) n' t' σ' ρ' → jk_J G mL_law 3459 [some (.ref 63), some (.ref x), some (.ref m), some (.ref o), some (.ref d), some (jI (5 * (k : Int))), none, none, none] [] n' t' σ' ρ' (rc - 14) (rs - 420) lq_Q jk_no) : jk_J G mL_law 2095 [some (.ref 63), some (.ref x), some (.ref m), some (.ref o), some (.ref d), some (jI (5 * (k : Int))), none, none, none] [] n t σ ρ rc rs lq_Q jk_no := by
  obtain ⟨P1, X1, K1, hX1, hx, hP1⟩ := hF
  refine jk_aload_n (q := 2096) dL_law_2095 rfl rfl ?_
  refine jk_cV0g (q := 2099) (K1) jm_X12_forestLengthByGrowing jw_821 rfl (by first | assumption) rfl rfl (by omega) (by omega) rfl dL_law_2096 rfl (fun v' n' t' σ' ρ' hq => ?_) (fun _ _ _ _ _ h => (hX1 _ _ _ _ _ h).elim)
  obtain ⟨v1, rfl, hv1, hm1, P2, K2, hP2⟩ := hP1 _ _ _ _ _ hq
  simp only [Option.toList_some, List.cons_append, List.nil_append]
  refine jk_aload_n (q := 2100) dL_law_2099 rfl rfl ?_
  refine jk_cV0g (q := 2103) (K2) jm_X13_forestLengthByGrowing jw_2244 rfl (by first | assumption) rfl rfl (Nat.zero_le _) (Nat.zero_le _) rfl dL_law_2100 rfl (fun v' n' t' σ' ρ' hq => ?_) (fun _ _ _ _ _ h => h.elim)
  obtain ⟨rfl, hlr⟩ := hP2 _ _ _ _ _ hq
  simp only [Option.toList_some, List.cons_append, List.nil_append]
  simp only [Nat.sub_zero]
  refine jk_icmp_eq (q := 3459) (q2 := 2106) dL_law_2103 rfl rfl (by first | decide | assumption | omega) (by first | decide | assumption | omega) (fun z1 => ?_) (fun z1 => ?_)
  · refine jk_convw (jk_rm (hc _ _ _ _ hlr) (by omega) (by omega)) (jk_wkS rfl (jk_wkS rfl (jk_wkS rfl (jk_wkS rfl (jk_wkS rfl (jk_wkS rfl (jk_wkN (jk_wkN (jk_wkN jk_wk0)))))))))
  · exact absurd rfl (by assumption)
theorem lw_34 {G : jk_G} {n : Nat} {t : jk_T} {σ : jk_I} {ρ : jk_P} {L : Nat} {f : Nat → Int} {x m o d k rc rs mc ms : Nat} (hL : L ≤ 2560) (hsc : ∀ s, jk_Z G s → va_T .int (jk_ad G 63) L (fun j => jI (f j)) (jk_A G) s s.heap) (hk : 5 * k + 4 < L) (hmc : mc ≤ 14) (hms : ms ≤ 420) (hrc : 14 ≤ rc) (hrs : 420 ≤ rs) (hF : lc_V G yX12_treeCount mX12_treeCount mc ms yX13_treeCount mX13_treeCount x m o d k n t σ ρ) (hc : ∀ n' t' σ' ρ', lr x m o d (k + 1) n' t' σ' ρ' → jk_J G mL_law 3459 [some (.ref 63), some (.ref x), some (.ref m), some (.ref o), some (.ref d), some (jI (5 * (k : Int))), none, none, none] [] n' t' σ' ρ' (rc - 14) (rs - 420) lq_Q jk_no) : jk_J G mL_law 2108 [some (.ref 63), some (.ref x), some (.ref m), some (.ref o), some (.ref d), some (jI (5 * (k : Int))), none, none, none] [] n t σ ρ rc rs lq_Q jk_no := by
  obtain ⟨P1, X1, K1, hX1, hx, hP1⟩ := hF
  refine jk_aload_n (q := 2109) dL_law_2108 rfl rfl ?_
  refine jk_cV0g (q := 2112) (K1) jm_X12_treeCount jw_837 rfl (by first | assumption) rfl rfl (by omega) (by omega) rfl dL_law_2109 rfl (fun v' n' t' σ' ρ' hq => ?_) (fun _ _ _ _ _ h => (hX1 _ _ _ _ _ h).elim)
  obtain ⟨v1, rfl, hv1, hm1, P2, K2, hP2⟩ := hP1 _ _ _ _ _ hq
  simp only [Option.toList_some, List.cons_append, List.nil_append]
  refine jk_aload_n (q := 2113) dL_law_2112 rfl rfl ?_
  refine jk_cV0g (q := 2116) (K2) jm_X13_treeCount jw_2249 rfl (by first | assumption) rfl rfl (Nat.zero_le _) (Nat.zero_le _) rfl dL_law_2113 rfl (fun v' n' t' σ' ρ' hq => ?_) (fun _ _ _ _ _ h => h.elim)
  obtain ⟨rfl, hlr⟩ := hP2 _ _ _ _ _ hq
  simp only [Option.toList_some, List.cons_append, List.nil_append]
  simp only [Nat.sub_zero]
  refine jk_icmp_eq (q := 3459) (q2 := 2119) dL_law_2116 rfl rfl (by first | decide | assumption | omega) (by first | decide | assumption | omega) (fun z1 => ?_) (fun z1 => ?_)
  · refine jk_convw (jk_rm (hc _ _ _ _ hlr) (by omega) (by omega)) (jk_wkS rfl (jk_wkS rfl (jk_wkS rfl (jk_wkS rfl (jk_wkS rfl (jk_wkS rfl (jk_wkN (jk_wkN (jk_wkN jk_wk0)))))))))
  · exact absurd rfl (by assumption)
theorem lw_35 {G : jk_G} {n : Nat} {t : jk_T} {σ : jk_I} {ρ : jk_P} {L : Nat} {f : Nat → Int} {x m o d k rc rs mc ms : Nat} (hL : L ≤ 2560) (hsc : ∀ s, jk_Z G s → va_T .int (jk_ad G 63) L (fun j => jI (f j)) (jk_A G) s s.heap) (hk : 5 * k + 4 < L) (hmc : mc ≤ 14) (hms : ms ≤ 420) (hrc : 14 ≤ rc) (hrs : 420 ≤ rs) (hF : lc_V G yX12_loopCount mX12_loopCount mc ms yX13_loopCount mX13_loopCount x m o d k n t σ ρ) (hc : ∀ n' t' σ' ρ', lr x m o d (k + 1) n' t' σ' ρ' → jk_J G mL_law 3459 [some (.ref 63), some (.ref x), some (.ref m), some (.ref o), some (.ref d), some (jI (5 * (k : Int))), none, none, none] [] n' t' σ' ρ' (rc - 14) (rs - 420) lq_Q jk_no) : jk_J G mL_law 2121 [some (.ref 63), some (.ref x), some (.ref m), some (.ref o), some (.ref d), some (jI (5 * (k : Int))), none, none, none] [] n t σ ρ rc rs lq_Q jk_no := by
  obtain ⟨P1, X1, K1, hX1, hx, hP1⟩ := hF
  refine jk_aload_n (q := 2122) dL_law_2121 rfl rfl ?_
  refine jk_cV0g (q := 2125) (K1) jm_X12_loopCount jw_845 rfl (by first | assumption) rfl rfl (by omega) (by omega) rfl dL_law_2122 rfl (fun v' n' t' σ' ρ' hq => ?_) (fun _ _ _ _ _ h => (hX1 _ _ _ _ _ h).elim)
  obtain ⟨v1, rfl, hv1, hm1, P2, K2, hP2⟩ := hP1 _ _ _ _ _ hq
  simp only [Option.toList_some, List.cons_append, List.nil_append]
  refine jk_aload_n (q := 2126) dL_law_2125 rfl rfl ?_
  refine jk_cV0g (q := 2129) (K2) jm_X13_loopCount jw_2253 rfl (by first | assumption) rfl rfl (Nat.zero_le _) (Nat.zero_le _) rfl dL_law_2126 rfl (fun v' n' t' σ' ρ' hq => ?_) (fun _ _ _ _ _ h => h.elim)
  obtain ⟨rfl, hlr⟩ := hP2 _ _ _ _ _ hq
  simp only [Option.toList_some, List.cons_append, List.nil_append]
  simp only [Nat.sub_zero]
  refine jk_icmp_eq (q := 3459) (q2 := 2132) dL_law_2129 rfl rfl (by first | decide | assumption | omega) (by first | decide | assumption | omega) (fun z1 => ?_) (fun z1 => ?_)
  · refine jk_convw (jk_rm (hc _ _ _ _ hlr) (by omega) (by omega)) (jk_wkS rfl (jk_wkS rfl (jk_wkS rfl (jk_wkS rfl (jk_wkS rfl (jk_wkS rfl (jk_wkN (jk_wkN (jk_wkN jk_wk0)))))))))
  · exact absurd rfl (by assumption)
theorem lw_36 {G : jk_G} {n : Nat} {t : jk_T} {σ : jk_I} {ρ : jk_P} {L : Nat} {f : Nat → Int} {x m o d k rc rs mc ms : Nat} (hL : L ≤ 2560) (hsc : ∀ s, jk_Z G s → va_T .int (jk_ad G 63) L (fun j => jI (f j)) (jk_A G) s s.heap) (hk : 5 * k + 4 < L) (hmc : mc ≤ 14) (hms : ms ≤ 420) (hrc : 14 ≤ rc) (hrs : 420 ≤ rs) (hF : lc_F G yL_loopAt mL_loopAt [(0, 9, 12, 43)] mc ms [.ref x, jI (f (5 * (k : Int) + 1).toNat), .ref o] yX13_loopAt mX13_loopAt [.ref m, jI (f (5 * (k : Int) + 1).toNat)] false x m o d k n t σ ρ) (hc : ∀ n' t' σ' ρ', lr x m o d (k + 1) n' t' σ' ρ' → jk_J G mL_law 3459 [some (.ref 63), some (.ref x), some (.ref m), some (.ref o), some (.ref d), some (jI (5 * (k : Int))), none, none, none] [] n' t' σ' ρ' (rc - 14) (rs - 420) lq_Q jk_no) : jk_J G mL_law 2134 [some (.ref 63), some (.ref x), some (.ref m), some (.ref o), some (.ref d), some (jI (5 * (k : Int))), none, none, none] [] n t σ ρ rc rs lq_Q jk_no := by
  obtain ⟨P1, K1, hP1⟩ := hF
  refine jk_aload_n (q := 2135) dL_law_2134 rfl rfl ?_
  refine jk_aload_n (q := 2136) dL_law_2135 rfl rfl ?_
  refine jk_iload (q := 2138) dL_law_2136 rfl rfl ?_
  refine jk_iconst (q := 2139) dL_law_2138 rfl ?_
  refine jk_iadd (q := 2140) dL_law_2139 rfl ?_
  refine jk_tabs (q := 2141) (hsc) (by first | decide | omega) (by first | decide | assumption | omega) dL_law_2140 rfl ?_
  refine jk_aload_n (q := 2142) dL_law_2141 rfl rfl ?_
  refine jk_callSH (q := 2145) (As := [.ref x, jI (f (5 * (k : Int) + 1).toNat), .ref o]) K1 jm_L_loopAt jw_1257 rfl rfl rfl (by omega) (by omega) rfl dL_law_2142 rfl (fun v' n' t' σ' ρ' hq => ?_) (fun _ _ _ _ _ h => h.elim)
  obtain ⟨c1, rfl, hc1, hm1, P2, K2, hP2⟩ := hP1 _ _ _ _ _ hq
  simp only [Option.toList_some, List.cons_append, List.nil_append]
  refine jk_istore6 (q := 2147) dL_law_2145 rfl rfl rfl ?_
  refine jk_aload_n (q := 2148) dL_law_2147 rfl rfl ?_
  refine jk_aload_n (q := 2149) dL_law_2148 rfl rfl ?_
  refine jk_iload (q := 2151) dL_law_2149 rfl rfl ?_
  refine jk_iconst (q := 2152) dL_law_2151 rfl ?_
  refine jk_iadd (q := 2153) dL_law_2152 rfl ?_
  refine jk_tabs (q := 2154) (hsc) (by first | decide | omega) (by first | decide | assumption | omega) dL_law_2153 rfl ?_
  refine jk_cV1g (q := 2157) (K2) jm_X13_loopAt jw_2257 rfl (by first | assumption) rfl rfl (Nat.zero_le _) (Nat.zero_le _) rfl dL_law_2154 rfl (fun v' n' t' σ' ρ' hq => ?_) (fun _ _ _ _ _ h => h.elim)
  obtain ⟨v2, rfl, hbo, ⟨O, hat, hO, hO12⟩, hto, hcm, hlr⟩ := hP2 _ _ _ _ _ hq
  have hm2 := hat.1
  simp only [Option.toList_some, List.cons_append, List.nil_append]
  simp only [Nat.sub_zero]
  refine jk_istore7 (q := 2159) dL_law_2157 rfl rfl rfl ?_
  refine jk_aload_n (q := 2160) dL_law_2159 rfl rfl ?_
  refine jk_cV0p (q := 2163) (c_X13_thrown hat hO) jm_X13_thrown jw_1918 rfl (by first | assumption) rfl rfl rfl dL_law_2160 rfl ?_
  rw [hO12]
  refine jk_iload (q := 2165) dL_law_2163 rfl rfl ?_
  refine jk_icmp_eq (q := 2170) (q2 := 2168) dL_law_2165 rfl rfl (by first | decide | assumption | omega) (by first | decide | assumption | omega) (fun z1 => ?_) (fun z1 => ?_)
  · refine jk_iload (q := 2172) dL_law_2170 rfl rfl ?_
    refine jk_if_ne (q := 2187) (q2 := 2175) dL_law_2172 rfl rfl (by first | decide | assumption | omega) (fun z2 => ?_) (fun z2 => ?_)
    · refine jk_goto (q := 3459) dL_law_2187 rfl ?_
      refine jk_convw (jk_rm (hc _ _ _ _ hlr) (by omega) (by omega)) (jk_wkS rfl (jk_wkS rfl (jk_wkS rfl (jk_wkS rfl (jk_wkS rfl (jk_wkS rfl (jk_wkN (jk_wkN (jk_wkN jk_wk0)))))))))
    · refine jk_aload_n (q := 2176) dL_law_2175 rfl rfl ?_
      refine jk_iconst (q := 2177) dL_law_2176 rfl ?_
      refine jk_laldR (q := 2178) (by first | assumption) (by rfl) (by first | decide | assumption | omega) dL_law_2177 rfl ?_
      refine jk_iload (q := 2180) dL_law_2178 rfl rfl ?_
      refine jk_i2lw (q := 2181) dL_law_2180 rfl ?_
      refine jk_lcmp0 (q := 2182) (by exact hcm (by assumption)) dL_law_2181 rfl ?_
      refine jk_ifT_eq (q := 2187) (by decide) (by decide) dL_law_2182 rfl ?_
      refine jk_goto (q := 3459) dL_law_2187 rfl ?_
      refine jk_convw (jk_rm (hc _ _ _ _ hlr) (by omega) (by omega)) (jk_wkS rfl (jk_wkS rfl (jk_wkS rfl (jk_wkS rfl (jk_wkS rfl (jk_wkS rfl (jk_wkN (jk_wkN (jk_wkN jk_wk0)))))))))
  · exact absurd rfl (by assumption)
theorem lw_37 {G : jk_G} {n : Nat} {t : jk_T} {σ : jk_I} {ρ : jk_P} {L : Nat} {f : Nat → Int} {x m o d k rc rs mc ms : Nat} (hL : L ≤ 2560) (hsc : ∀ s, jk_Z G s → va_T .int (jk_ad G 63) L (fun j => jI (f j)) (jk_A G) s s.heap) (hk : 5 * k + 4 < L) (hmc : mc ≤ 14) (hms : ms ≤ 420) (hrc : 14 ≤ rc) (hrs : 420 ≤ rs) (hF : lc_F G yL_loopSize mL_loopSize [(0, 9, 12, 19), (0, 9, 15, 43)] mc ms [.ref x, jI (f (5 * (k : Int) + 1).toNat), .ref o] yX13_loopSize mX13_loopSize [.ref m, jI (f (5 * (k : Int) + 1).toNat)] false x m o d k n t σ ρ) (hc : ∀ n' t' σ' ρ', lr x m o d (k + 1) n' t' σ' ρ' → jk_J G mL_law 3459 [some (.ref 63), some (.ref x), some (.ref m), some (.ref o), some (.ref d), some (jI (5 * (k : Int))), none, none, none] [] n' t' σ' ρ' (rc - 14) (rs - 420) lq_Q jk_no) : jk_J G mL_law 2190 [some (.ref 63), some (.ref x), some (.ref m), some (.ref o), some (.ref d), some (jI (5 * (k : Int))), none, none, none] [] n t σ ρ rc rs lq_Q jk_no := by
  obtain ⟨P1, K1, hP1⟩ := hF
  refine jk_aload_n (q := 2191) dL_law_2190 rfl rfl ?_
  refine jk_aload_n (q := 2192) dL_law_2191 rfl rfl ?_
  refine jk_iload (q := 2194) dL_law_2192 rfl rfl ?_
  refine jk_iconst (q := 2195) dL_law_2194 rfl ?_
  refine jk_iadd (q := 2196) dL_law_2195 rfl ?_
  refine jk_tabs (q := 2197) (hsc) (by first | decide | omega) (by first | decide | assumption | omega) dL_law_2196 rfl ?_
  refine jk_aload_n (q := 2198) dL_law_2197 rfl rfl ?_
  refine jk_callSH (q := 2201) (As := [.ref x, jI (f (5 * (k : Int) + 1).toNat), .ref o]) K1 jm_L_loopSize jw_1269 rfl rfl rfl (by omega) (by omega) rfl dL_law_2198 rfl (fun v' n' t' σ' ρ' hq => ?_) (fun _ _ _ _ _ h => h.elim)
  obtain ⟨c1, rfl, hc1, hm1, P2, K2, hP2⟩ := hP1 _ _ _ _ _ hq
  simp only [Option.toList_some, List.cons_append, List.nil_append]
  refine jk_istore6 (q := 2203) dL_law_2201 rfl rfl rfl ?_
  refine jk_aload_n (q := 2204) dL_law_2203 rfl rfl ?_
  refine jk_aload_n (q := 2205) dL_law_2204 rfl rfl ?_
  refine jk_iload (q := 2207) dL_law_2205 rfl rfl ?_
  refine jk_iconst (q := 2208) dL_law_2207 rfl ?_
  refine jk_iadd (q := 2209) dL_law_2208 rfl ?_
  refine jk_tabs (q := 2210) (hsc) (by first | decide | omega) (by first | decide | assumption | omega) dL_law_2209 rfl ?_
  refine jk_cV1g (q := 2213) (K2) jm_X13_loopSize jw_2261 rfl (by first | assumption) rfl rfl (Nat.zero_le _) (Nat.zero_le _) rfl dL_law_2210 rfl (fun v' n' t' σ' ρ' hq => ?_) (fun _ _ _ _ _ h => h.elim)
  obtain ⟨v2, rfl, hbo, ⟨O, hat, hO, hO12⟩, hto, hcm, hlr⟩ := hP2 _ _ _ _ _ hq
  have hm2 := hat.1
  simp only [Option.toList_some, List.cons_append, List.nil_append]
  simp only [Nat.sub_zero]
  refine jk_istore7 (q := 2215) dL_law_2213 rfl rfl rfl ?_
  refine jk_aload_n (q := 2216) dL_law_2215 rfl rfl ?_
  refine jk_cV0p (q := 2219) (c_X13_thrown hat hO) jm_X13_thrown jw_1918 rfl (by first | assumption) rfl rfl rfl dL_law_2216 rfl ?_
  rw [hO12]
  refine jk_iload (q := 2221) dL_law_2219 rfl rfl ?_
  refine jk_icmp_eq (q := 2226) (q2 := 2224) dL_law_2221 rfl rfl (by first | decide | assumption | omega) (by first | decide | assumption | omega) (fun z1 => ?_) (fun z1 => ?_)
  · refine jk_iload (q := 2228) dL_law_2226 rfl rfl ?_
    refine jk_if_ne (q := 2243) (q2 := 2231) dL_law_2228 rfl rfl (by first | decide | assumption | omega) (fun z2 => ?_) (fun z2 => ?_)
    · refine jk_goto (q := 3459) dL_law_2243 rfl ?_
      refine jk_convw (jk_rm (hc _ _ _ _ hlr) (by omega) (by omega)) (jk_wkS rfl (jk_wkS rfl (jk_wkS rfl (jk_wkS rfl (jk_wkS rfl (jk_wkS rfl (jk_wkN (jk_wkN (jk_wkN jk_wk0)))))))))
    · refine jk_aload_n (q := 2232) dL_law_2231 rfl rfl ?_
      refine jk_iconst (q := 2233) dL_law_2232 rfl ?_
      refine jk_laldR (q := 2234) (by first | assumption) (by rfl) (by first | decide | assumption | omega) dL_law_2233 rfl ?_
      refine jk_iload (q := 2236) dL_law_2234 rfl rfl ?_
      refine jk_i2lw (q := 2237) dL_law_2236 rfl ?_
      refine jk_lcmp0 (q := 2238) (by exact hcm (by assumption)) dL_law_2237 rfl ?_
      refine jk_ifT_eq (q := 2243) (by decide) (by decide) dL_law_2238 rfl ?_
      refine jk_goto (q := 3459) dL_law_2243 rfl ?_
      refine jk_convw (jk_rm (hc _ _ _ _ hlr) (by omega) (by omega)) (jk_wkS rfl (jk_wkS rfl (jk_wkS rfl (jk_wkS rfl (jk_wkS rfl (jk_wkS rfl (jk_wkN (jk_wkN (jk_wkN jk_wk0)))))))))
  · exact absurd rfl (by assumption)
theorem lw_38 {G : jk_G} {n : Nat} {t : jk_T} {σ : jk_I} {ρ : jk_P} {L : Nat} {f : Nat → Int} {x m o d k rc rs mc ms : Nat} (hL : L ≤ 2560) (hsc : ∀ s, jk_Z G s → va_T .int (jk_ad G 63) L (fun j => jI (f j)) (jk_A G) s s.heap) (hk : 5 * k + 4 < L) (hmc : mc ≤ 14) (hms : ms ≤ 420) (hrc : 14 ≤ rc) (hrs : 420 ≤ rs) (hF : lc_F G yL_loopLength mL_loopLength [(0, 9, 12, 19), (0, 9, 15, 43)] mc ms [.ref x, jI (f (5 * (k : Int) + 1).toNat), .ref o] yX13_loopLength mX13_loopLength [.ref m, jI (f (5 * (k : Int) + 1).toNat)] false x m o d k n t σ ρ) (hc : ∀ n' t' σ' ρ', lr x m o d (k + 1) n' t' σ' ρ' → jk_J G mL_law 3459 [some (.ref 63), some (.ref x), some (.ref m), some (.ref o), some (.ref d), some (jI (5 * (k : Int))), none, none, none] [] n' t' σ' ρ' (rc - 14) (rs - 420) lq_Q jk_no) : jk_J G mL_law 2246 [some (.ref 63), some (.ref x), some (.ref m), some (.ref o), some (.ref d), some (jI (5 * (k : Int))), none, none, none] [] n t σ ρ rc rs lq_Q jk_no := by
  obtain ⟨P1, K1, hP1⟩ := hF
  refine jk_aload_n (q := 2247) dL_law_2246 rfl rfl ?_
  refine jk_aload_n (q := 2248) dL_law_2247 rfl rfl ?_
  refine jk_iload (q := 2250) dL_law_2248 rfl rfl ?_
  refine jk_iconst (q := 2251) dL_law_2250 rfl ?_
  refine jk_iadd (q := 2252) dL_law_2251 rfl ?_
  refine jk_tabs (q := 2253) (hsc) (by first | decide | omega) (by first | decide | assumption | omega) dL_law_2252 rfl ?_
  refine jk_aload_n (q := 2254) dL_law_2253 rfl rfl ?_
  refine jk_callSH (q := 2257) (As := [.ref x, jI (f (5 * (k : Int) + 1).toNat), .ref o]) K1 jm_L_loopLength jw_1280 rfl rfl rfl (by omega) (by omega) rfl dL_law_2254 rfl (fun v' n' t' σ' ρ' hq => ?_) (fun _ _ _ _ _ h => h.elim)
  obtain ⟨c1, rfl, hc1, hm1, P2, K2, hP2⟩ := hP1 _ _ _ _ _ hq
  simp only [Option.toList_some, List.cons_append, List.nil_append]
  refine jk_istore6 (q := 2259) dL_law_2257 rfl rfl rfl ?_
  refine jk_aload_n (q := 2260) dL_law_2259 rfl rfl ?_
  refine jk_aload_n (q := 2261) dL_law_2260 rfl rfl ?_
  refine jk_iload (q := 2263) dL_law_2261 rfl rfl ?_
  refine jk_iconst (q := 2264) dL_law_2263 rfl ?_
  refine jk_iadd (q := 2265) dL_law_2264 rfl ?_
  refine jk_tabs (q := 2266) (hsc) (by first | decide | omega) (by first | decide | assumption | omega) dL_law_2265 rfl ?_
  refine jk_cV1g (q := 2269) (K2) jm_X13_loopLength jw_2265 rfl (by first | assumption) rfl rfl (Nat.zero_le _) (Nat.zero_le _) rfl dL_law_2266 rfl (fun v' n' t' σ' ρ' hq => ?_) (fun _ _ _ _ _ h => h.elim)
  obtain ⟨v2, rfl, hbo, ⟨O, hat, hO, hO12⟩, hto, hcm, hlr⟩ := hP2 _ _ _ _ _ hq
  have hm2 := hat.1
  simp only [Option.toList_some, List.cons_append, List.nil_append]
  simp only [Nat.sub_zero]
  refine jk_istore7 (q := 2271) dL_law_2269 rfl rfl rfl ?_
  refine jk_aload_n (q := 2272) dL_law_2271 rfl rfl ?_
  refine jk_cV0p (q := 2275) (c_X13_thrown hat hO) jm_X13_thrown jw_1918 rfl (by first | assumption) rfl rfl rfl dL_law_2272 rfl ?_
  rw [hO12]
  refine jk_iload (q := 2277) dL_law_2275 rfl rfl ?_
  refine jk_icmp_eq (q := 2282) (q2 := 2280) dL_law_2277 rfl rfl (by first | decide | assumption | omega) (by first | decide | assumption | omega) (fun z1 => ?_) (fun z1 => ?_)
  · refine jk_iload (q := 2284) dL_law_2282 rfl rfl ?_
    refine jk_if_ne (q := 2299) (q2 := 2287) dL_law_2284 rfl rfl (by first | decide | assumption | omega) (fun z2 => ?_) (fun z2 => ?_)
    · refine jk_goto (q := 3459) dL_law_2299 rfl ?_
      refine jk_convw (jk_rm (hc _ _ _ _ hlr) (by omega) (by omega)) (jk_wkS rfl (jk_wkS rfl (jk_wkS rfl (jk_wkS rfl (jk_wkS rfl (jk_wkS rfl (jk_wkN (jk_wkN (jk_wkN jk_wk0)))))))))
    · refine jk_aload_n (q := 2288) dL_law_2287 rfl rfl ?_
      refine jk_iconst (q := 2289) dL_law_2288 rfl ?_
      refine jk_laldR (q := 2290) (by first | assumption) (by rfl) (by first | decide | assumption | omega) dL_law_2289 rfl ?_
      refine jk_iload (q := 2292) dL_law_2290 rfl rfl ?_
      refine jk_i2lw (q := 2293) dL_law_2292 rfl ?_
      refine jk_lcmp0 (q := 2294) (by exact hcm (by assumption)) dL_law_2293 rfl ?_
      refine jk_ifT_eq (q := 2299) (by decide) (by decide) dL_law_2294 rfl ?_
      refine jk_goto (q := 3459) dL_law_2299 rfl ?_
      refine jk_convw (jk_rm (hc _ _ _ _ hlr) (by omega) (by omega)) (jk_wkS rfl (jk_wkS rfl (jk_wkS rfl (jk_wkS rfl (jk_wkS rfl (jk_wkS rfl (jk_wkN (jk_wkN (jk_wkN jk_wk0)))))))))
  · exact absurd rfl (by assumption)
theorem lw_39 {G : jk_G} {n : Nat} {t : jk_T} {σ : jk_I} {ρ : jk_P} {L : Nat} {f : Nat → Int} {x m o d k rc rs mc ms : Nat} (hL : L ≤ 2560) (hsc : ∀ s, jk_Z G s → va_T .int (jk_ad G 63) L (fun j => jI (f j)) (jk_A G) s s.heap) (hk : 5 * k + 4 < L) (hmc : mc ≤ 14) (hms : ms ≤ 420) (hrc : 14 ≤ rc) (hrs : 420 ≤ rs) (hF : lc_F G yL_misclosure mL_misclosure [(0, 9, 12, 19), (0, 9, 15, 43)] mc ms [.ref x, jI (f (5 * (k : Int) + 1).toNat), .ref o] yX13_misclosure mX13_misclosure [.ref m, jI (f (5 * (k : Int) + 1).toNat)] false x m o d k n t σ ρ) (hc : ∀ n' t' σ' ρ', lr x m o d (k + 1) n' t' σ' ρ' → jk_J G mL_law 3459 [some (.ref 63), some (.ref x), some (.ref m), some (.ref o), some (.ref d), some (jI (5 * (k : Int))), none, none, none] [] n' t' σ' ρ' (rc - 14) (rs - 420) lq_Q jk_no) : jk_J G mL_law 2302 [some (.ref 63), some (.ref x), some (.ref m), some (.ref o), some (.ref d), some (jI (5 * (k : Int))), none, none, none] [] n t σ ρ rc rs lq_Q jk_no := by
  obtain ⟨P1, K1, hP1⟩ := hF
  refine jk_aload_n (q := 2303) dL_law_2302 rfl rfl ?_
  refine jk_aload_n (q := 2304) dL_law_2303 rfl rfl ?_
  refine jk_iload (q := 2306) dL_law_2304 rfl rfl ?_
  refine jk_iconst (q := 2307) dL_law_2306 rfl ?_
  refine jk_iadd (q := 2308) dL_law_2307 rfl ?_
  refine jk_tabs (q := 2309) (hsc) (by first | decide | omega) (by first | decide | assumption | omega) dL_law_2308 rfl ?_
  refine jk_aload_n (q := 2310) dL_law_2309 rfl rfl ?_
  refine jk_callSH (q := 2313) (As := [.ref x, jI (f (5 * (k : Int) + 1).toNat), .ref o]) K1 jm_L_misclosure jw_1288 rfl rfl rfl (by omega) (by omega) rfl dL_law_2310 rfl (fun v' n' t' σ' ρ' hq => ?_) (fun _ _ _ _ _ h => h.elim)
  obtain ⟨c1, rfl, hc1, hm1, P2, K2, hP2⟩ := hP1 _ _ _ _ _ hq
  simp only [Option.toList_some, List.cons_append, List.nil_append]
  refine jk_istore6 (q := 2315) dL_law_2313 rfl rfl rfl ?_
  refine jk_aload_n (q := 2316) dL_law_2315 rfl rfl ?_
  refine jk_aload_n (q := 2317) dL_law_2316 rfl rfl ?_
  refine jk_iload (q := 2319) dL_law_2317 rfl rfl ?_
  refine jk_iconst (q := 2320) dL_law_2319 rfl ?_
  refine jk_iadd (q := 2321) dL_law_2320 rfl ?_
  refine jk_tabs (q := 2322) (hsc) (by first | decide | omega) (by first | decide | assumption | omega) dL_law_2321 rfl ?_
  refine jk_cV1g (q := 2325) (K2) jm_X13_misclosure jw_2269 rfl (by first | assumption) rfl rfl (Nat.zero_le _) (Nat.zero_le _) rfl dL_law_2322 rfl (fun v' n' t' σ' ρ' hq => ?_) (fun _ _ _ _ _ h => h.elim)
  obtain ⟨v2, rfl, hbo, ⟨O, hat, hO, hO12⟩, hto, hcm, hlr⟩ := hP2 _ _ _ _ _ hq
  have hm2 := hat.1
  simp only [Option.toList_some, List.cons_append, List.nil_append]
  simp only [Nat.sub_zero]
  refine jk_istore7 (q := 2327) dL_law_2325 rfl rfl rfl ?_
  refine jk_aload_n (q := 2328) dL_law_2327 rfl rfl ?_
  refine jk_cV0p (q := 2331) (c_X13_thrown hat hO) jm_X13_thrown jw_1918 rfl (by first | assumption) rfl rfl rfl dL_law_2328 rfl ?_
  rw [hO12]
  refine jk_iload (q := 2333) dL_law_2331 rfl rfl ?_
  refine jk_icmp_eq (q := 2338) (q2 := 2336) dL_law_2333 rfl rfl (by first | decide | assumption | omega) (by first | decide | assumption | omega) (fun z1 => ?_) (fun z1 => ?_)
  · refine jk_iload (q := 2340) dL_law_2338 rfl rfl ?_
    refine jk_if_ne (q := 2355) (q2 := 2343) dL_law_2340 rfl rfl (by first | decide | assumption | omega) (fun z2 => ?_) (fun z2 => ?_)
    · refine jk_goto (q := 3459) dL_law_2355 rfl ?_
      refine jk_convw (jk_rm (hc _ _ _ _ hlr) (by omega) (by omega)) (jk_wkS rfl (jk_wkS rfl (jk_wkS rfl (jk_wkS rfl (jk_wkS rfl (jk_wkS rfl (jk_wkN (jk_wkN (jk_wkN jk_wk0)))))))))
    · refine jk_aload_n (q := 2344) dL_law_2343 rfl rfl ?_
      refine jk_iconst (q := 2345) dL_law_2344 rfl ?_
      refine jk_laldR (q := 2346) (by first | assumption) (by rfl) (by first | decide | assumption | omega) dL_law_2345 rfl ?_
      refine jk_iload (q := 2348) dL_law_2346 rfl rfl ?_
      refine jk_i2lw (q := 2349) dL_law_2348 rfl ?_
      refine jk_lcmp0 (q := 2350) (by exact hcm (by assumption)) dL_law_2349 rfl ?_
      refine jk_ifT_eq (q := 2355) (by decide) (by decide) dL_law_2350 rfl ?_
      refine jk_goto (q := 3459) dL_law_2355 rfl ?_
      refine jk_convw (jk_rm (hc _ _ _ _ hlr) (by omega) (by omega)) (jk_wkS rfl (jk_wkS rfl (jk_wkS rfl (jk_wkS rfl (jk_wkS rfl (jk_wkS rfl (jk_wkN (jk_wkN (jk_wkN jk_wk0)))))))))
  · exact absurd rfl (by assumption)
theorem lw_40 {G : jk_G} {n : Nat} {t : jk_T} {σ : jk_I} {ρ : jk_P} {L : Nat} {f : Nat → Int} {x m o d k rc rs mc ms : Nat} (hL : L ≤ 2560) (hsc : ∀ s, jk_Z G s → va_T .int (jk_ad G 63) L (fun j => jI (f j)) (jk_A G) s s.heap) (hk : 5 * k + 4 < L) (hmc : mc ≤ 14) (hms : ms ≤ 420) (hrc : 14 ≤ rc) (hrs : 420 ≤ rs) (hF : lc_F G yL_misclosureByLevels mL_misclosureByLevels [(0, 9, 12, 19), (0, 9, 15, 43)] mc ms [.ref x, jI (f (5 * (k : Int) + 1).toNat), .ref o] yX13_misclosureByLevels mX13_misclosureByLevels [.ref m, jI (f (5 * (k : Int) + 1).toNat)] false x m o d k n t σ ρ) (hc : ∀ n' t' σ' ρ', lr x m o d (k + 1) n' t' σ' ρ' → jk_J G mL_law 3459 [some (.ref 63), some (.ref x), some (.ref m), some (.ref o), some (.ref d), some (jI (5 * (k : Int))), none, none, none] [] n' t' σ' ρ' (rc - 14) (rs - 420) lq_Q jk_no) : jk_J G mL_law 2358 [some (.ref 63), some (.ref x), some (.ref m), some (.ref o), some (.ref d), some (jI (5 * (k : Int))), none, none, none] [] n t σ ρ rc rs lq_Q jk_no := by
  obtain ⟨P1, K1, hP1⟩ := hF
  refine jk_aload_n (q := 2359) dL_law_2358 rfl rfl ?_
  refine jk_aload_n (q := 2360) dL_law_2359 rfl rfl ?_
  refine jk_iload (q := 2362) dL_law_2360 rfl rfl ?_
  refine jk_iconst (q := 2363) dL_law_2362 rfl ?_
  refine jk_iadd (q := 2364) dL_law_2363 rfl ?_
  refine jk_tabs (q := 2365) (hsc) (by first | decide | omega) (by first | decide | assumption | omega) dL_law_2364 rfl ?_
  refine jk_aload_n (q := 2366) dL_law_2365 rfl rfl ?_
  refine jk_callSH (q := 2369) (As := [.ref x, jI (f (5 * (k : Int) + 1).toNat), .ref o]) K1 jm_L_misclosureByLevels jw_1295 rfl rfl rfl (by omega) (by omega) rfl dL_law_2366 rfl (fun v' n' t' σ' ρ' hq => ?_) (fun _ _ _ _ _ h => h.elim)
  obtain ⟨c1, rfl, hc1, hm1, P2, K2, hP2⟩ := hP1 _ _ _ _ _ hq
  simp only [Option.toList_some, List.cons_append, List.nil_append]
  refine jk_istore6 (q := 2371) dL_law_2369 rfl rfl rfl ?_
  refine jk_aload_n (q := 2372) dL_law_2371 rfl rfl ?_
  refine jk_aload_n (q := 2373) dL_law_2372 rfl rfl ?_
  refine jk_iload (q := 2375) dL_law_2373 rfl rfl ?_
  refine jk_iconst (q := 2376) dL_law_2375 rfl ?_
  refine jk_iadd (q := 2377) dL_law_2376 rfl ?_
  refine jk_tabs (q := 2378) (hsc) (by first | decide | omega) (by first | decide | assumption | omega) dL_law_2377 rfl ?_
  refine jk_cV1g (q := 2381) (K2) jm_X13_misclosureByLevels jw_2273 rfl (by first | assumption) rfl rfl (Nat.zero_le _) (Nat.zero_le _) rfl dL_law_2378 rfl (fun v' n' t' σ' ρ' hq => ?_) (fun _ _ _ _ _ h => h.elim)
  obtain ⟨v2, rfl, hbo, ⟨O, hat, hO, hO12⟩, hto, hcm, hlr⟩ := hP2 _ _ _ _ _ hq
  have hm2 := hat.1
  simp only [Option.toList_some, List.cons_append, List.nil_append]
  simp only [Nat.sub_zero]
  refine jk_istore7 (q := 2383) dL_law_2381 rfl rfl rfl ?_
  refine jk_aload_n (q := 2384) dL_law_2383 rfl rfl ?_
  refine jk_cV0p (q := 2387) (c_X13_thrown hat hO) jm_X13_thrown jw_1918 rfl (by first | assumption) rfl rfl rfl dL_law_2384 rfl ?_
  rw [hO12]
  refine jk_iload (q := 2389) dL_law_2387 rfl rfl ?_
  refine jk_icmp_eq (q := 2394) (q2 := 2392) dL_law_2389 rfl rfl (by first | decide | assumption | omega) (by first | decide | assumption | omega) (fun z1 => ?_) (fun z1 => ?_)
  · refine jk_iload (q := 2396) dL_law_2394 rfl rfl ?_
    refine jk_if_ne (q := 2411) (q2 := 2399) dL_law_2396 rfl rfl (by first | decide | assumption | omega) (fun z2 => ?_) (fun z2 => ?_)
    · refine jk_goto (q := 3459) dL_law_2411 rfl ?_
      refine jk_convw (jk_rm (hc _ _ _ _ hlr) (by omega) (by omega)) (jk_wkS rfl (jk_wkS rfl (jk_wkS rfl (jk_wkS rfl (jk_wkS rfl (jk_wkS rfl (jk_wkN (jk_wkN (jk_wkN jk_wk0)))))))))
    · refine jk_aload_n (q := 2400) dL_law_2399 rfl rfl ?_
      refine jk_iconst (q := 2401) dL_law_2400 rfl ?_
      refine jk_laldR (q := 2402) (by first | assumption) (by rfl) (by first | decide | assumption | omega) dL_law_2401 rfl ?_
      refine jk_iload (q := 2404) dL_law_2402 rfl rfl ?_
      refine jk_i2lw (q := 2405) dL_law_2404 rfl ?_
      refine jk_lcmp0 (q := 2406) (by exact hcm (by assumption)) dL_law_2405 rfl ?_
      refine jk_ifT_eq (q := 2411) (by decide) (by decide) dL_law_2406 rfl ?_
      refine jk_goto (q := 3459) dL_law_2411 rfl ?_
      refine jk_convw (jk_rm (hc _ _ _ _ hlr) (by omega) (by omega)) (jk_wkS rfl (jk_wkS rfl (jk_wkS rfl (jk_wkS rfl (jk_wkS rfl (jk_wkS rfl (jk_wkN (jk_wkN (jk_wkN jk_wk0)))))))))
  · exact absurd rfl (by assumption)
theorem lw_41 {G : jk_G} {n : Nat} {t : jk_T} {σ : jk_I} {ρ : jk_P} {L : Nat} {f : Nat → Int} {x m o d k rc rs mc ms : Nat} (hL : L ≤ 2560) (hsc : ∀ s, jk_Z G s → va_T .int (jk_ad G 63) L (fun j => jI (f j)) (jk_A G) s s.heap) (hk : 5 * k + 4 < L) (hmc : mc ≤ 14) (hms : ms ≤ 420) (hrc : 14 ≤ rc) (hrs : 420 ≤ rs) (hF : lc_F G yL_part mL_part [(0, 10, 13, 19), (0, 10, 17, 43)] mc ms [.ref x, jI (f (5 * (k : Int) + 1).toNat), jI (f (5 * (k : Int) + 2).toNat), .ref o] yX13_part mX13_part [.ref m, jI (f (5 * (k : Int) + 1).toNat), jI (f (5 * (k : Int) + 2).toNat)] false x m o d k n t σ ρ) (hc : ∀ n' t' σ' ρ', lr x m o d (k + 1) n' t' σ' ρ' → jk_J G mL_law 3459 [some (.ref 63), some (.ref x), some (.ref m), some (.ref o), some (.ref d), some (jI (5 * (k : Int))), none, none, none] [] n' t' σ' ρ' (rc - 14) (rs - 420) lq_Q jk_no) : jk_J G mL_law 2414 [some (.ref 63), some (.ref x), some (.ref m), some (.ref o), some (.ref d), some (jI (5 * (k : Int))), none, none, none] [] n t σ ρ rc rs lq_Q jk_no := by
  obtain ⟨P1, K1, hP1⟩ := hF
  refine jk_aload_n (q := 2415) dL_law_2414 rfl rfl ?_
  refine jk_aload_n (q := 2416) dL_law_2415 rfl rfl ?_
  refine jk_iload (q := 2418) dL_law_2416 rfl rfl ?_
  refine jk_iconst (q := 2419) dL_law_2418 rfl ?_
  refine jk_iadd (q := 2420) dL_law_2419 rfl ?_
  refine jk_tabs (q := 2421) (hsc) (by first | decide | omega) (by first | decide | assumption | omega) dL_law_2420 rfl ?_
  refine jk_aload_n (q := 2422) dL_law_2421 rfl rfl ?_
  refine jk_iload (q := 2424) dL_law_2422 rfl rfl ?_
  refine jk_iconst (q := 2425) dL_law_2424 rfl ?_
  refine jk_iadd (q := 2426) dL_law_2425 rfl ?_
  refine jk_tabs (q := 2427) (hsc) (by first | decide | omega) (by first | decide | assumption | omega) dL_law_2426 rfl ?_
  refine jk_aload_n (q := 2428) dL_law_2427 rfl rfl ?_
  refine jk_callSH (q := 2431) (As := [.ref x, jI (f (5 * (k : Int) + 1).toNat), jI (f (5 * (k : Int) + 2).toNat), .ref o]) K1 jm_L_part jw_1302 rfl rfl rfl (by omega) (by omega) rfl dL_law_2428 rfl (fun v' n' t' σ' ρ' hq => ?_) (fun _ _ _ _ _ h => h.elim)
  obtain ⟨c1, rfl, hc1, hm1, P2, K2, hP2⟩ := hP1 _ _ _ _ _ hq
  simp only [Option.toList_some, List.cons_append, List.nil_append]
  refine jk_istore6 (q := 2433) dL_law_2431 rfl rfl rfl ?_
  refine jk_aload_n (q := 2434) dL_law_2433 rfl rfl ?_
  refine jk_aload_n (q := 2435) dL_law_2434 rfl rfl ?_
  refine jk_iload (q := 2437) dL_law_2435 rfl rfl ?_
  refine jk_iconst (q := 2438) dL_law_2437 rfl ?_
  refine jk_iadd (q := 2439) dL_law_2438 rfl ?_
  refine jk_tabs (q := 2440) (hsc) (by first | decide | omega) (by first | decide | assumption | omega) dL_law_2439 rfl ?_
  refine jk_aload_n (q := 2441) dL_law_2440 rfl rfl ?_
  refine jk_iload (q := 2443) dL_law_2441 rfl rfl ?_
  refine jk_iconst (q := 2444) dL_law_2443 rfl ?_
  refine jk_iadd (q := 2445) dL_law_2444 rfl ?_
  refine jk_tabs (q := 2446) (hsc) (by first | decide | omega) (by first | decide | assumption | omega) dL_law_2445 rfl ?_
  refine jk_cV2g (q := 2449) (K2) jm_X13_part jw_2278 rfl (by first | assumption) rfl rfl (Nat.zero_le _) (Nat.zero_le _) rfl dL_law_2446 rfl (fun v' n' t' σ' ρ' hq => ?_) (fun _ _ _ _ _ h => h.elim)
  obtain ⟨v2, rfl, hbo, ⟨O, hat, hO, hO12⟩, hto, hcm, hlr⟩ := hP2 _ _ _ _ _ hq
  have hm2 := hat.1
  simp only [Option.toList_some, List.cons_append, List.nil_append]
  simp only [Nat.sub_zero]
  refine jk_istore7 (q := 2451) dL_law_2449 rfl rfl rfl ?_
  refine jk_aload_n (q := 2452) dL_law_2451 rfl rfl ?_
  refine jk_cV0p (q := 2455) (c_X13_thrown hat hO) jm_X13_thrown jw_1918 rfl (by first | assumption) rfl rfl rfl dL_law_2452 rfl ?_
  rw [hO12]
  refine jk_iload (q := 2457) dL_law_2455 rfl rfl ?_
  refine jk_icmp_eq (q := 2462) (q2 := 2460) dL_law_2457 rfl rfl (by first | decide | assumption | omega) (by first | decide | assumption | omega) (fun z1 => ?_) (fun z1 => ?_)
  · refine jk_iload (q := 2464) dL_law_2462 rfl rfl ?_
    refine jk_if_ne (q := 2479) (q2 := 2467) dL_law_2464 rfl rfl (by first | decide | assumption | omega) (fun z2 => ?_) (fun z2 => ?_)
    · refine jk_goto (q := 3459) dL_law_2479 rfl ?_
      refine jk_convw (jk_rm (hc _ _ _ _ hlr) (by omega) (by omega)) (jk_wkS rfl (jk_wkS rfl (jk_wkS rfl (jk_wkS rfl (jk_wkS rfl (jk_wkS rfl (jk_wkN (jk_wkN (jk_wkN jk_wk0)))))))))
    · refine jk_aload_n (q := 2468) dL_law_2467 rfl rfl ?_
      refine jk_iconst (q := 2469) dL_law_2468 rfl ?_
      refine jk_laldR (q := 2470) (by first | assumption) (by rfl) (by first | decide | assumption | omega) dL_law_2469 rfl ?_
      refine jk_iload (q := 2472) dL_law_2470 rfl rfl ?_
      refine jk_i2lw (q := 2473) dL_law_2472 rfl ?_
      refine jk_lcmp0 (q := 2474) (by exact hcm (by assumption)) dL_law_2473 rfl ?_
      refine jk_ifT_eq (q := 2479) (by decide) (by decide) dL_law_2474 rfl ?_
      refine jk_goto (q := 3459) dL_law_2479 rfl ?_
      refine jk_convw (jk_rm (hc _ _ _ _ hlr) (by omega) (by omega)) (jk_wkS rfl (jk_wkS rfl (jk_wkS rfl (jk_wkS rfl (jk_wkS rfl (jk_wkS rfl (jk_wkN (jk_wkN (jk_wkN jk_wk0)))))))))
  · exact absurd rfl (by assumption)
theorem lw_42 {G : jk_G} {n : Nat} {t : jk_T} {σ : jk_I} {ρ : jk_P} {L : Nat} {f : Nat → Int} {x m o d k rc rs mc ms : Nat} (hL : L ≤ 2560) (hsc : ∀ s, jk_Z G s → va_T .int (jk_ad G 63) L (fun j => jI (f j)) (jk_A G) s s.heap) (hk : 5 * k + 4 < L) (hmc : mc ≤ 14) (hms : ms ≤ 420) (hrc : 14 ≤ rc) (hrs : 420 ≤ rs) (hF : lc_V G yX12_profileCount mX12_profileCount mc ms yX13_profileCount mX13_profileCount x m o d k n t σ ρ) (hc : ∀ n' t' σ' ρ', lr x m o d (k + 1) n' t' σ' ρ' → jk_J G mL_law 3459 [some (.ref 63), some (.ref x), some (.ref m), some (.ref o), some (.ref d), some (jI (5 * (k : Int))), none, none, none] [] n' t' σ' ρ' (rc - 14) (rs - 420) lq_Q jk_no) : jk_J G mL_law 2482 [some (.ref 63), some (.ref x), some (.ref m), some (.ref o), some (.ref d), some (jI (5 * (k : Int))), none, none, none] [] n t σ ρ rc rs lq_Q jk_no := by
  obtain ⟨P1, X1, K1, hX1, hx, hP1⟩ := hF
  refine jk_aload_n (q := 2483) dL_law_2482 rfl rfl ?_
  refine jk_cV0g (q := 2486) (K1) jm_X12_profileCount jw_854 rfl (by first | assumption) rfl rfl (by omega) (by omega) rfl dL_law_2483 rfl (fun v' n' t' σ' ρ' hq => ?_) (fun _ _ _ _ _ h => (hX1 _ _ _ _ _ h).elim)
  obtain ⟨v1, rfl, hv1, hm1, P2, K2, hP2⟩ := hP1 _ _ _ _ _ hq
  simp only [Option.toList_some, List.cons_append, List.nil_append]
  refine jk_aload_n (q := 2487) dL_law_2486 rfl rfl ?_
  refine jk_cV0g (q := 2490) (K2) jm_X13_profileCount jw_2282 rfl (by first | assumption) rfl rfl (Nat.zero_le _) (Nat.zero_le _) rfl dL_law_2487 rfl (fun v' n' t' σ' ρ' hq => ?_) (fun _ _ _ _ _ h => h.elim)
  obtain ⟨rfl, hlr⟩ := hP2 _ _ _ _ _ hq
  simp only [Option.toList_some, List.cons_append, List.nil_append]
  simp only [Nat.sub_zero]
  refine jk_icmp_eq (q := 3459) (q2 := 2493) dL_law_2490 rfl rfl (by first | decide | assumption | omega) (by first | decide | assumption | omega) (fun z1 => ?_) (fun z1 => ?_)
  · refine jk_convw (jk_rm (hc _ _ _ _ hlr) (by omega) (by omega)) (jk_wkS rfl (jk_wkS rfl (jk_wkS rfl (jk_wkS rfl (jk_wkS rfl (jk_wkS rfl (jk_wkN (jk_wkN (jk_wkN jk_wk0)))))))))
  · exact absurd rfl (by assumption)
theorem lw_43 {G : jk_G} {n : Nat} {t : jk_T} {σ : jk_I} {ρ : jk_P} {L : Nat} {f : Nat → Int} {x m o d k rc rs mc ms : Nat} (hL : L ≤ 2560) (hsc : ∀ s, jk_Z G s → va_T .int (jk_ad G 63) L (fun j => jI (f j)) (jk_A G) s s.heap) (hk : 5 * k + 4 < L) (hmc : mc ≤ 14) (hms : ms ≤ 420) (hrc : 14 ≤ rc) (hrs : 420 ≤ rs) (hF : lc_F G yL_stationCount mL_stationCount [(0, 9, 12, 19)] mc ms [.ref x, jI (f (5 * (k : Int) + 1).toNat), .ref o] yX13_stationCount mX13_stationCount [.ref m, jI (f (5 * (k : Int) + 1).toNat)] false x m o d k n t σ ρ) (hc : ∀ n' t' σ' ρ', lr x m o d (k + 1) n' t' σ' ρ' → jk_J G mL_law 3459 [some (.ref 63), some (.ref x), some (.ref m), some (.ref o), some (.ref d), some (jI (5 * (k : Int))), none, none, none] [] n' t' σ' ρ' (rc - 14) (rs - 420) lq_Q jk_no) : jk_J G mL_law 2495 [some (.ref 63), some (.ref x), some (.ref m), some (.ref o), some (.ref d), some (jI (5 * (k : Int))), none, none, none] [] n t σ ρ rc rs lq_Q jk_no := by
  obtain ⟨P1, K1, hP1⟩ := hF
  refine jk_aload_n (q := 2496) dL_law_2495 rfl rfl ?_
  refine jk_aload_n (q := 2497) dL_law_2496 rfl rfl ?_
  refine jk_iload (q := 2499) dL_law_2497 rfl rfl ?_
  refine jk_iconst (q := 2500) dL_law_2499 rfl ?_
  refine jk_iadd (q := 2501) dL_law_2500 rfl ?_
  refine jk_tabs (q := 2502) (hsc) (by first | decide | omega) (by first | decide | assumption | omega) dL_law_2501 rfl ?_
  refine jk_aload_n (q := 2503) dL_law_2502 rfl rfl ?_
  refine jk_callSH (q := 2506) (As := [.ref x, jI (f (5 * (k : Int) + 1).toNat), .ref o]) K1 jm_L_stationCount jw_1310 rfl rfl rfl (by omega) (by omega) rfl dL_law_2503 rfl (fun v' n' t' σ' ρ' hq => ?_) (fun _ _ _ _ _ h => h.elim)
  obtain ⟨c1, rfl, hc1, hm1, P2, K2, hP2⟩ := hP1 _ _ _ _ _ hq
  simp only [Option.toList_some, List.cons_append, List.nil_append]
  refine jk_istore6 (q := 2508) dL_law_2506 rfl rfl rfl ?_
  refine jk_aload_n (q := 2509) dL_law_2508 rfl rfl ?_
  refine jk_aload_n (q := 2510) dL_law_2509 rfl rfl ?_
  refine jk_iload (q := 2512) dL_law_2510 rfl rfl ?_
  refine jk_iconst (q := 2513) dL_law_2512 rfl ?_
  refine jk_iadd (q := 2514) dL_law_2513 rfl ?_
  refine jk_tabs (q := 2515) (hsc) (by first | decide | omega) (by first | decide | assumption | omega) dL_law_2514 rfl ?_
  refine jk_cV1g (q := 2518) (K2) jm_X13_stationCount jw_2286 rfl (by first | assumption) rfl rfl (Nat.zero_le _) (Nat.zero_le _) rfl dL_law_2515 rfl (fun v' n' t' σ' ρ' hq => ?_) (fun _ _ _ _ _ h => h.elim)
  obtain ⟨v2, rfl, hbo, ⟨O, hat, hO, hO12⟩, hto, hcm, hlr⟩ := hP2 _ _ _ _ _ hq
  have hm2 := hat.1
  simp only [Option.toList_some, List.cons_append, List.nil_append]
  simp only [Nat.sub_zero]
  refine jk_istore7 (q := 2520) dL_law_2518 rfl rfl rfl ?_
  refine jk_aload_n (q := 2521) dL_law_2520 rfl rfl ?_
  refine jk_cV0p (q := 2524) (c_X13_thrown hat hO) jm_X13_thrown jw_1918 rfl (by first | assumption) rfl rfl rfl dL_law_2521 rfl ?_
  rw [hO12]
  refine jk_iload (q := 2526) dL_law_2524 rfl rfl ?_
  refine jk_icmp_eq (q := 2531) (q2 := 2529) dL_law_2526 rfl rfl (by first | decide | assumption | omega) (by first | decide | assumption | omega) (fun z1 => ?_) (fun z1 => ?_)
  · refine jk_iload (q := 2533) dL_law_2531 rfl rfl ?_
    refine jk_if_ne (q := 2548) (q2 := 2536) dL_law_2533 rfl rfl (by first | decide | assumption | omega) (fun z2 => ?_) (fun z2 => ?_)
    · refine jk_goto (q := 3459) dL_law_2548 rfl ?_
      refine jk_convw (jk_rm (hc _ _ _ _ hlr) (by omega) (by omega)) (jk_wkS rfl (jk_wkS rfl (jk_wkS rfl (jk_wkS rfl (jk_wkS rfl (jk_wkS rfl (jk_wkN (jk_wkN (jk_wkN jk_wk0)))))))))
    · refine jk_aload_n (q := 2537) dL_law_2536 rfl rfl ?_
      refine jk_iconst (q := 2538) dL_law_2537 rfl ?_
      refine jk_laldR (q := 2539) (by first | assumption) (by rfl) (by first | decide | assumption | omega) dL_law_2538 rfl ?_
      refine jk_iload (q := 2541) dL_law_2539 rfl rfl ?_
      refine jk_i2lw (q := 2542) dL_law_2541 rfl ?_
      refine jk_lcmp0 (q := 2543) (by exact hcm (by assumption)) dL_law_2542 rfl ?_
      refine jk_ifT_eq (q := 2548) (by decide) (by decide) dL_law_2543 rfl ?_
      refine jk_goto (q := 3459) dL_law_2548 rfl ?_
      refine jk_convw (jk_rm (hc _ _ _ _ hlr) (by omega) (by omega)) (jk_wkS rfl (jk_wkS rfl (jk_wkS rfl (jk_wkS rfl (jk_wkS rfl (jk_wkS rfl (jk_wkN (jk_wkN (jk_wkN jk_wk0)))))))))
  · exact absurd rfl (by assumption)
theorem lw_44 {G : jk_G} {n : Nat} {t : jk_T} {σ : jk_I} {ρ : jk_P} {L : Nat} {f : Nat → Int} {x m o d k rc rs mc ms : Nat} (hL : L ≤ 2560) (hsc : ∀ s, jk_Z G s → va_T .int (jk_ad G 63) L (fun j => jI (f j)) (jk_A G) s s.heap) (hk : 5 * k + 4 < L) (hmc : mc ≤ 14) (hms : ms ≤ 420) (hrc : 14 ≤ rc) (hrs : 420 ≤ rs) (hF : lc_V G yX12_waterLevel mX12_waterLevel mc ms yX13_waterLevel mX13_waterLevel x m o d k n t σ ρ) (hc : ∀ n' t' σ' ρ', lr x m o d (k + 1) n' t' σ' ρ' → jk_J G mL_law 3459 [some (.ref 63), some (.ref x), some (.ref m), some (.ref o), some (.ref d), some (jI (5 * (k : Int))), none, none, none] [] n' t' σ' ρ' (rc - 14) (rs - 420) lq_Q jk_no) : jk_J G mL_law 2551 [some (.ref 63), some (.ref x), some (.ref m), some (.ref o), some (.ref d), some (jI (5 * (k : Int))), none, none, none] [] n t σ ρ rc rs lq_Q jk_no := by
  obtain ⟨P1, X1, K1, hX1, hx, hP1⟩ := hF
  refine jk_aload_n (q := 2552) dL_law_2551 rfl rfl ?_
  refine jk_cV0g (q := 2555) (K1) jm_X12_waterLevel jw_858 rfl (by first | assumption) rfl rfl (by omega) (by omega) rfl dL_law_2552 rfl (fun v' n' t' σ' ρ' hq => ?_) (fun _ _ _ _ _ h => (hX1 _ _ _ _ _ h).elim)
  obtain ⟨v1, rfl, hv1, hm1, P2, K2, hP2⟩ := hP1 _ _ _ _ _ hq
  simp only [Option.toList_some, List.cons_append, List.nil_append]
  refine jk_aload_n (q := 2556) dL_law_2555 rfl rfl ?_
  refine jk_cV0g (q := 2559) (K2) jm_X13_waterLevel jw_2290 rfl (by first | assumption) rfl rfl (Nat.zero_le _) (Nat.zero_le _) rfl dL_law_2556 rfl (fun v' n' t' σ' ρ' hq => ?_) (fun _ _ _ _ _ h => h.elim)
  obtain ⟨rfl, hlr⟩ := hP2 _ _ _ _ _ hq
  simp only [Option.toList_some, List.cons_append, List.nil_append]
  simp only [Nat.sub_zero]
  refine jk_icmp_eq (q := 3459) (q2 := 2562) dL_law_2559 rfl rfl (by first | decide | assumption | omega) (by first | decide | assumption | omega) (fun z1 => ?_) (fun z1 => ?_)
  · refine jk_convw (jk_rm (hc _ _ _ _ hlr) (by omega) (by omega)) (jk_wkS rfl (jk_wkS rfl (jk_wkS rfl (jk_wkS rfl (jk_wkS rfl (jk_wkS rfl (jk_wkN (jk_wkN (jk_wkN jk_wk0)))))))))
  · exact absurd rfl (by assumption)
theorem lw_45 {G : jk_G} {n : Nat} {t : jk_T} {σ : jk_I} {ρ : jk_P} {L : Nat} {f : Nat → Int} {x m o d k rc rs mc ms : Nat} (hL : L ≤ 2560) (hsc : ∀ s, jk_Z G s → va_T .int (jk_ad G 63) L (fun j => jI (f j)) (jk_A G) s s.heap) (hk : 5 * k + 4 < L) (hmc : mc ≤ 14) (hms : ms ≤ 420) (hrc : 14 ≤ rc) (hrs : 420 ≤ rs) (hF : lc_F G yL_ground mL_ground [(0, 10, 13, 19), (0, 10, 17, 21), (0, 10, 21, 43)] mc ms [.ref x, jI (f (5 * (k : Int) + 1).toNat), jI (f (5 * (k : Int) + 2).toNat), .ref o] yX13_ground mX13_ground [.ref m, jI (f (5 * (k : Int) + 1).toNat), jI (f (5 * (k : Int) + 2).toNat)] false x m o d k n t σ ρ) (hc : ∀ n' t' σ' ρ', lr x m o d (k + 1) n' t' σ' ρ' → jk_J G mL_law 3459 [some (.ref 63), some (.ref x), some (.ref m), some (.ref o), some (.ref d), some (jI (5 * (k : Int))), none, none, none] [] n' t' σ' ρ' (rc - 14) (rs - 420) lq_Q jk_no) : jk_J G mL_law 2564 [some (.ref 63), some (.ref x), some (.ref m), some (.ref o), some (.ref d), some (jI (5 * (k : Int))), none, none, none] [] n t σ ρ rc rs lq_Q jk_no := by
  obtain ⟨P1, K1, hP1⟩ := hF
  refine jk_aload_n (q := 2565) dL_law_2564 rfl rfl ?_
  refine jk_aload_n (q := 2566) dL_law_2565 rfl rfl ?_
  refine jk_iload (q := 2568) dL_law_2566 rfl rfl ?_
  refine jk_iconst (q := 2569) dL_law_2568 rfl ?_
  refine jk_iadd (q := 2570) dL_law_2569 rfl ?_
  refine jk_tabs (q := 2571) (hsc) (by first | decide | omega) (by first | decide | assumption | omega) dL_law_2570 rfl ?_
  refine jk_aload_n (q := 2572) dL_law_2571 rfl rfl ?_
  refine jk_iload (q := 2574) dL_law_2572 rfl rfl ?_
  refine jk_iconst (q := 2575) dL_law_2574 rfl ?_
  refine jk_iadd (q := 2576) dL_law_2575 rfl ?_
  refine jk_tabs (q := 2577) (hsc) (by first | decide | omega) (by first | decide | assumption | omega) dL_law_2576 rfl ?_
  refine jk_aload_n (q := 2578) dL_law_2577 rfl rfl ?_
  refine jk_callSH (q := 2581) (As := [.ref x, jI (f (5 * (k : Int) + 1).toNat), jI (f (5 * (k : Int) + 2).toNat), .ref o]) K1 jm_L_ground jw_1323 rfl rfl rfl (by omega) (by omega) rfl dL_law_2578 rfl (fun v' n' t' σ' ρ' hq => ?_) (fun _ _ _ _ _ h => h.elim)
  obtain ⟨c1, rfl, hc1, hm1, P2, K2, hP2⟩ := hP1 _ _ _ _ _ hq
  simp only [Option.toList_some, List.cons_append, List.nil_append]
  refine jk_istore6 (q := 2583) dL_law_2581 rfl rfl rfl ?_
  refine jk_aload_n (q := 2584) dL_law_2583 rfl rfl ?_
  refine jk_aload_n (q := 2585) dL_law_2584 rfl rfl ?_
  refine jk_iload (q := 2587) dL_law_2585 rfl rfl ?_
  refine jk_iconst (q := 2588) dL_law_2587 rfl ?_
  refine jk_iadd (q := 2589) dL_law_2588 rfl ?_
  refine jk_tabs (q := 2590) (hsc) (by first | decide | omega) (by first | decide | assumption | omega) dL_law_2589 rfl ?_
  refine jk_aload_n (q := 2591) dL_law_2590 rfl rfl ?_
  refine jk_iload (q := 2593) dL_law_2591 rfl rfl ?_
  refine jk_iconst (q := 2594) dL_law_2593 rfl ?_
  refine jk_iadd (q := 2595) dL_law_2594 rfl ?_
  refine jk_tabs (q := 2596) (hsc) (by first | decide | omega) (by first | decide | assumption | omega) dL_law_2595 rfl ?_
  refine jk_cV2g (q := 2599) (K2) jm_X13_ground jw_2294 rfl (by first | assumption) rfl rfl (Nat.zero_le _) (Nat.zero_le _) rfl dL_law_2596 rfl (fun v' n' t' σ' ρ' hq => ?_) (fun _ _ _ _ _ h => h.elim)
  obtain ⟨v2, rfl, hbo, ⟨O, hat, hO, hO12⟩, hto, hcm, hlr⟩ := hP2 _ _ _ _ _ hq
  have hm2 := hat.1
  simp only [Option.toList_some, List.cons_append, List.nil_append]
  simp only [Nat.sub_zero]
  refine jk_istore7 (q := 2601) dL_law_2599 rfl rfl rfl ?_
  refine jk_aload_n (q := 2602) dL_law_2601 rfl rfl ?_
  refine jk_cV0p (q := 2605) (c_X13_thrown hat hO) jm_X13_thrown jw_1918 rfl (by first | assumption) rfl rfl rfl dL_law_2602 rfl ?_
  rw [hO12]
  refine jk_iload (q := 2607) dL_law_2605 rfl rfl ?_
  refine jk_icmp_eq (q := 2612) (q2 := 2610) dL_law_2607 rfl rfl (by first | decide | assumption | omega) (by first | decide | assumption | omega) (fun z1 => ?_) (fun z1 => ?_)
  · refine jk_iload (q := 2614) dL_law_2612 rfl rfl ?_
    refine jk_if_ne (q := 2629) (q2 := 2617) dL_law_2614 rfl rfl (by first | decide | assumption | omega) (fun z2 => ?_) (fun z2 => ?_)
    · refine jk_goto (q := 3459) dL_law_2629 rfl ?_
      refine jk_convw (jk_rm (hc _ _ _ _ hlr) (by omega) (by omega)) (jk_wkS rfl (jk_wkS rfl (jk_wkS rfl (jk_wkS rfl (jk_wkS rfl (jk_wkS rfl (jk_wkN (jk_wkN (jk_wkN jk_wk0)))))))))
    · refine jk_aload_n (q := 2618) dL_law_2617 rfl rfl ?_
      refine jk_iconst (q := 2619) dL_law_2618 rfl ?_
      refine jk_laldR (q := 2620) (by first | assumption) (by rfl) (by first | decide | assumption | omega) dL_law_2619 rfl ?_
      refine jk_iload (q := 2622) dL_law_2620 rfl rfl ?_
      refine jk_i2lw (q := 2623) dL_law_2622 rfl ?_
      refine jk_lcmp0 (q := 2624) (by exact hcm (by assumption)) dL_law_2623 rfl ?_
      refine jk_ifT_eq (q := 2629) (by decide) (by decide) dL_law_2624 rfl ?_
      refine jk_goto (q := 3459) dL_law_2629 rfl ?_
      refine jk_convw (jk_rm (hc _ _ _ _ hlr) (by omega) (by omega)) (jk_wkS rfl (jk_wkS rfl (jk_wkS rfl (jk_wkS rfl (jk_wkS rfl (jk_wkS rfl (jk_wkN (jk_wkN (jk_wkN jk_wk0)))))))))
  · exact absurd rfl (by assumption)
theorem lw_46 {G : jk_G} {n : Nat} {t : jk_T} {σ : jk_I} {ρ : jk_P} {L : Nat} {f : Nat → Int} {x m o d k rc rs mc ms : Nat} (hL : L ≤ 2560) (hsc : ∀ s, jk_Z G s → va_T .int (jk_ad G 63) L (fun j => jI (f j)) (jk_A G) s s.heap) (hk : 5 * k + 4 < L) (hmc : mc ≤ 14) (hms : ms ≤ 420) (hrc : 14 ≤ rc) (hrs : 420 ≤ rs) (hF : lc_F G yL_wetColumns mL_wetColumns [(0, 9, 12, 19), (0, 9, 15, 43)] mc ms [.ref x, jI (f (5 * (k : Int) + 1).toNat), .ref o] yX13_wetColumns mX13_wetColumns [.ref m, jI (f (5 * (k : Int) + 1).toNat)] false x m o d k n t σ ρ) (hc : ∀ n' t' σ' ρ', lr x m o d (k + 1) n' t' σ' ρ' → jk_J G mL_law 3459 [some (.ref 63), some (.ref x), some (.ref m), some (.ref o), some (.ref d), some (jI (5 * (k : Int))), none, none, none] [] n' t' σ' ρ' (rc - 14) (rs - 420) lq_Q jk_no) : jk_J G mL_law 2632 [some (.ref 63), some (.ref x), some (.ref m), some (.ref o), some (.ref d), some (jI (5 * (k : Int))), none, none, none] [] n t σ ρ rc rs lq_Q jk_no := by
  obtain ⟨P1, K1, hP1⟩ := hF
  refine jk_aload_n (q := 2633) dL_law_2632 rfl rfl ?_
  refine jk_aload_n (q := 2634) dL_law_2633 rfl rfl ?_
  refine jk_iload (q := 2636) dL_law_2634 rfl rfl ?_
  refine jk_iconst (q := 2637) dL_law_2636 rfl ?_
  refine jk_iadd (q := 2638) dL_law_2637 rfl ?_
  refine jk_tabs (q := 2639) (hsc) (by first | decide | omega) (by first | decide | assumption | omega) dL_law_2638 rfl ?_
  refine jk_aload_n (q := 2640) dL_law_2639 rfl rfl ?_
  refine jk_callSH (q := 2643) (As := [.ref x, jI (f (5 * (k : Int) + 1).toNat), .ref o]) K1 jm_L_wetColumns jw_1337 rfl rfl rfl (by omega) (by omega) rfl dL_law_2640 rfl (fun v' n' t' σ' ρ' hq => ?_) (fun _ _ _ _ _ h => h.elim)
  obtain ⟨c1, rfl, hc1, hm1, P2, K2, hP2⟩ := hP1 _ _ _ _ _ hq
  simp only [Option.toList_some, List.cons_append, List.nil_append]
  refine jk_istore6 (q := 2645) dL_law_2643 rfl rfl rfl ?_
  refine jk_aload_n (q := 2646) dL_law_2645 rfl rfl ?_
  refine jk_aload_n (q := 2647) dL_law_2646 rfl rfl ?_
  refine jk_iload (q := 2649) dL_law_2647 rfl rfl ?_
  refine jk_iconst (q := 2650) dL_law_2649 rfl ?_
  refine jk_iadd (q := 2651) dL_law_2650 rfl ?_
  refine jk_tabs (q := 2652) (hsc) (by first | decide | omega) (by first | decide | assumption | omega) dL_law_2651 rfl ?_
  refine jk_cV1g (q := 2655) (K2) jm_X13_wetColumns jw_2314 rfl (by first | assumption) rfl rfl (Nat.zero_le _) (Nat.zero_le _) rfl dL_law_2652 rfl (fun v' n' t' σ' ρ' hq => ?_) (fun _ _ _ _ _ h => h.elim)
  obtain ⟨v2, rfl, hbo, ⟨O, hat, hO, hO12⟩, hto, hcm, hlr⟩ := hP2 _ _ _ _ _ hq
  have hm2 := hat.1
  simp only [Option.toList_some, List.cons_append, List.nil_append]
  simp only [Nat.sub_zero]
  refine jk_istore7 (q := 2657) dL_law_2655 rfl rfl rfl ?_
  refine jk_aload_n (q := 2658) dL_law_2657 rfl rfl ?_
  refine jk_cV0p (q := 2661) (c_X13_thrown hat hO) jm_X13_thrown jw_1918 rfl (by first | assumption) rfl rfl rfl dL_law_2658 rfl ?_
  rw [hO12]
  refine jk_iload (q := 2663) dL_law_2661 rfl rfl ?_
  refine jk_icmp_eq (q := 2668) (q2 := 2666) dL_law_2663 rfl rfl (by first | decide | assumption | omega) (by first | decide | assumption | omega) (fun z1 => ?_) (fun z1 => ?_)
  · refine jk_iload (q := 2670) dL_law_2668 rfl rfl ?_
    refine jk_if_ne (q := 2685) (q2 := 2673) dL_law_2670 rfl rfl (by first | decide | assumption | omega) (fun z2 => ?_) (fun z2 => ?_)
    · refine jk_goto (q := 3459) dL_law_2685 rfl ?_
      refine jk_convw (jk_rm (hc _ _ _ _ hlr) (by omega) (by omega)) (jk_wkS rfl (jk_wkS rfl (jk_wkS rfl (jk_wkS rfl (jk_wkS rfl (jk_wkS rfl (jk_wkN (jk_wkN (jk_wkN jk_wk0)))))))))
    · refine jk_aload_n (q := 2674) dL_law_2673 rfl rfl ?_
      refine jk_iconst (q := 2675) dL_law_2674 rfl ?_
      refine jk_laldR (q := 2676) (by first | assumption) (by rfl) (by first | decide | assumption | omega) dL_law_2675 rfl ?_
      refine jk_iload (q := 2678) dL_law_2676 rfl rfl ?_
      refine jk_i2lw (q := 2679) dL_law_2678 rfl ?_
      refine jk_lcmp0 (q := 2680) (by exact hcm (by assumption)) dL_law_2679 rfl ?_
      refine jk_ifT_eq (q := 2685) (by decide) (by decide) dL_law_2680 rfl ?_
      refine jk_goto (q := 3459) dL_law_2685 rfl ?_
      refine jk_convw (jk_rm (hc _ _ _ _ hlr) (by omega) (by omega)) (jk_wkS rfl (jk_wkS rfl (jk_wkS rfl (jk_wkS rfl (jk_wkS rfl (jk_wkS rfl (jk_wkN (jk_wkN (jk_wkN jk_wk0)))))))))
  · exact absurd rfl (by assumption)
theorem lw_47 {G : jk_G} {n : Nat} {t : jk_T} {σ : jk_I} {ρ : jk_P} {L : Nat} {f : Nat → Int} {x m o d k rc rs mc ms : Nat} (hL : L ≤ 2560) (hsc : ∀ s, jk_Z G s → va_T .int (jk_ad G 63) L (fun j => jI (f j)) (jk_A G) s s.heap) (hk : 5 * k + 4 < L) (hmc : mc ≤ 14) (hms : ms ≤ 420) (hrc : 14 ≤ rc) (hrs : 420 ≤ rs) (hF : lc_F G yL_wetColumnsBySegments mL_wetColumnsBySegments [(0, 9, 12, 19), (0, 9, 15, 43)] mc ms [.ref x, jI (f (5 * (k : Int) + 1).toNat), .ref o] yX13_wetColumnsBySegments mX13_wetColumnsBySegments [.ref m, jI (f (5 * (k : Int) + 1).toNat)] false x m o d k n t σ ρ) (hc : ∀ n' t' σ' ρ', lr x m o d (k + 1) n' t' σ' ρ' → jk_J G mL_law 3459 [some (.ref 63), some (.ref x), some (.ref m), some (.ref o), some (.ref d), some (jI (5 * (k : Int))), none, none, none] [] n' t' σ' ρ' (rc - 14) (rs - 420) lq_Q jk_no) : jk_J G mL_law 2688 [some (.ref 63), some (.ref x), some (.ref m), some (.ref o), some (.ref d), some (jI (5 * (k : Int))), none, none, none] [] n t σ ρ rc rs lq_Q jk_no := by
  obtain ⟨P1, K1, hP1⟩ := hF
  refine jk_aload_n (q := 2689) dL_law_2688 rfl rfl ?_
  refine jk_aload_n (q := 2690) dL_law_2689 rfl rfl ?_
  refine jk_iload (q := 2692) dL_law_2690 rfl rfl ?_
  refine jk_iconst (q := 2693) dL_law_2692 rfl ?_
  refine jk_iadd (q := 2694) dL_law_2693 rfl ?_
  refine jk_tabs (q := 2695) (hsc) (by first | decide | omega) (by first | decide | assumption | omega) dL_law_2694 rfl ?_
  refine jk_aload_n (q := 2696) dL_law_2695 rfl rfl ?_
  refine jk_callSH (q := 2699) (As := [.ref x, jI (f (5 * (k : Int) + 1).toNat), .ref o]) K1 jm_L_wetColumnsBySegments jw_1344 rfl rfl rfl (by omega) (by omega) rfl dL_law_2696 rfl (fun v' n' t' σ' ρ' hq => ?_) (fun _ _ _ _ _ h => h.elim)
  obtain ⟨c1, rfl, hc1, hm1, P2, K2, hP2⟩ := hP1 _ _ _ _ _ hq
  simp only [Option.toList_some, List.cons_append, List.nil_append]
  refine jk_istore6 (q := 2701) dL_law_2699 rfl rfl rfl ?_
  refine jk_aload_n (q := 2702) dL_law_2701 rfl rfl ?_
  refine jk_aload_n (q := 2703) dL_law_2702 rfl rfl ?_
  refine jk_iload (q := 2705) dL_law_2703 rfl rfl ?_
  refine jk_iconst (q := 2706) dL_law_2705 rfl ?_
  refine jk_iadd (q := 2707) dL_law_2706 rfl ?_
  refine jk_tabs (q := 2708) (hsc) (by first | decide | omega) (by first | decide | assumption | omega) dL_law_2707 rfl ?_
  refine jk_cV1g (q := 2711) (K2) jm_X13_wetColumnsBySegments jw_2326 rfl (by first | assumption) rfl rfl (Nat.zero_le _) (Nat.zero_le _) rfl dL_law_2708 rfl (fun v' n' t' σ' ρ' hq => ?_) (fun _ _ _ _ _ h => h.elim)
  obtain ⟨v2, rfl, hbo, ⟨O, hat, hO, hO12⟩, hto, hcm, hlr⟩ := hP2 _ _ _ _ _ hq
  have hm2 := hat.1
  simp only [Option.toList_some, List.cons_append, List.nil_append]
  simp only [Nat.sub_zero]
  refine jk_istore7 (q := 2713) dL_law_2711 rfl rfl rfl ?_
  refine jk_aload_n (q := 2714) dL_law_2713 rfl rfl ?_
  refine jk_cV0p (q := 2717) (c_X13_thrown hat hO) jm_X13_thrown jw_1918 rfl (by first | assumption) rfl rfl rfl dL_law_2714 rfl ?_
  rw [hO12]
  refine jk_iload (q := 2719) dL_law_2717 rfl rfl ?_
  refine jk_icmp_eq (q := 2724) (q2 := 2722) dL_law_2719 rfl rfl (by first | decide | assumption | omega) (by first | decide | assumption | omega) (fun z1 => ?_) (fun z1 => ?_)
  · refine jk_iload (q := 2726) dL_law_2724 rfl rfl ?_
    refine jk_if_ne (q := 2741) (q2 := 2729) dL_law_2726 rfl rfl (by first | decide | assumption | omega) (fun z2 => ?_) (fun z2 => ?_)
    · refine jk_goto (q := 3459) dL_law_2741 rfl ?_
      refine jk_convw (jk_rm (hc _ _ _ _ hlr) (by omega) (by omega)) (jk_wkS rfl (jk_wkS rfl (jk_wkS rfl (jk_wkS rfl (jk_wkS rfl (jk_wkS rfl (jk_wkN (jk_wkN (jk_wkN jk_wk0)))))))))
    · refine jk_aload_n (q := 2730) dL_law_2729 rfl rfl ?_
      refine jk_iconst (q := 2731) dL_law_2730 rfl ?_
      refine jk_laldR (q := 2732) (by first | assumption) (by rfl) (by first | decide | assumption | omega) dL_law_2731 rfl ?_
      refine jk_iload (q := 2734) dL_law_2732 rfl rfl ?_
      refine jk_i2lw (q := 2735) dL_law_2734 rfl ?_
      refine jk_lcmp0 (q := 2736) (by exact hcm (by assumption)) dL_law_2735 rfl ?_
      refine jk_ifT_eq (q := 2741) (by decide) (by decide) dL_law_2736 rfl ?_
      refine jk_goto (q := 3459) dL_law_2741 rfl ?_
      refine jk_convw (jk_rm (hc _ _ _ _ hlr) (by omega) (by omega)) (jk_wkS rfl (jk_wkS rfl (jk_wkS rfl (jk_wkS rfl (jk_wkS rfl (jk_wkS rfl (jk_wkN (jk_wkN (jk_wkN jk_wk0)))))))))
  · exact absurd rfl (by assumption)
theorem lw_48 {G : jk_G} {n : Nat} {t : jk_T} {σ : jk_I} {ρ : jk_P} {L : Nat} {f : Nat → Int} {x m o d k rc rs mc ms : Nat} (hL : L ≤ 2560) (hsc : ∀ s, jk_Z G s → va_T .int (jk_ad G 63) L (fun j => jI (f j)) (jk_A G) s s.heap) (hk : 5 * k + 4 < L) (hmc : mc ≤ 14) (hms : ms ≤ 420) (hrc : 14 ≤ rc) (hrs : 420 ≤ rs) (hF : lc_F G yL_shores mL_shores [(0, 9, 12, 19), (0, 9, 15, 43)] mc ms [.ref x, jI (f (5 * (k : Int) + 1).toNat), .ref o] yX13_shores mX13_shores [.ref m, jI (f (5 * (k : Int) + 1).toNat)] false x m o d k n t σ ρ) (hc : ∀ n' t' σ' ρ', lr x m o d (k + 1) n' t' σ' ρ' → jk_J G mL_law 3459 [some (.ref 63), some (.ref x), some (.ref m), some (.ref o), some (.ref d), some (jI (5 * (k : Int))), none, none, none] [] n' t' σ' ρ' (rc - 14) (rs - 420) lq_Q jk_no) : jk_J G mL_law 2744 [some (.ref 63), some (.ref x), some (.ref m), some (.ref o), some (.ref d), some (jI (5 * (k : Int))), none, none, none] [] n t σ ρ rc rs lq_Q jk_no := by
  obtain ⟨P1, K1, hP1⟩ := hF
  refine jk_aload_n (q := 2745) dL_law_2744 rfl rfl ?_
  refine jk_aload_n (q := 2746) dL_law_2745 rfl rfl ?_
  refine jk_iload (q := 2748) dL_law_2746 rfl rfl ?_
  refine jk_iconst (q := 2749) dL_law_2748 rfl ?_
  refine jk_iadd (q := 2750) dL_law_2749 rfl ?_
  refine jk_tabs (q := 2751) (hsc) (by first | decide | omega) (by first | decide | assumption | omega) dL_law_2750 rfl ?_
  refine jk_aload_n (q := 2752) dL_law_2751 rfl rfl ?_
  refine jk_callSH (q := 2755) (As := [.ref x, jI (f (5 * (k : Int) + 1).toNat), .ref o]) K1 jm_L_shores jw_1351 rfl rfl rfl (by omega) (by omega) rfl dL_law_2752 rfl (fun v' n' t' σ' ρ' hq => ?_) (fun _ _ _ _ _ h => h.elim)
  obtain ⟨c1, rfl, hc1, hm1, P2, K2, hP2⟩ := hP1 _ _ _ _ _ hq
  simp only [Option.toList_some, List.cons_append, List.nil_append]
  refine jk_istore6 (q := 2757) dL_law_2755 rfl rfl rfl ?_
  refine jk_aload_n (q := 2758) dL_law_2757 rfl rfl ?_
  refine jk_aload_n (q := 2759) dL_law_2758 rfl rfl ?_
  refine jk_iload (q := 2761) dL_law_2759 rfl rfl ?_
  refine jk_iconst (q := 2762) dL_law_2761 rfl ?_
  refine jk_iadd (q := 2763) dL_law_2762 rfl ?_
  refine jk_tabs (q := 2764) (hsc) (by first | decide | omega) (by first | decide | assumption | omega) dL_law_2763 rfl ?_
  refine jk_cV1g (q := 2767) (K2) jm_X13_shores jw_2331 rfl (by first | assumption) rfl rfl (Nat.zero_le _) (Nat.zero_le _) rfl dL_law_2764 rfl (fun v' n' t' σ' ρ' hq => ?_) (fun _ _ _ _ _ h => h.elim)
  obtain ⟨v2, rfl, hbo, ⟨O, hat, hO, hO12⟩, hto, hcm, hlr⟩ := hP2 _ _ _ _ _ hq
  have hm2 := hat.1
  simp only [Option.toList_some, List.cons_append, List.nil_append]
  simp only [Nat.sub_zero]
  refine jk_istore7 (q := 2769) dL_law_2767 rfl rfl rfl ?_
  refine jk_aload_n (q := 2770) dL_law_2769 rfl rfl ?_
  refine jk_cV0p (q := 2773) (c_X13_thrown hat hO) jm_X13_thrown jw_1918 rfl (by first | assumption) rfl rfl rfl dL_law_2770 rfl ?_
  rw [hO12]
  refine jk_iload (q := 2775) dL_law_2773 rfl rfl ?_
  refine jk_icmp_eq (q := 2780) (q2 := 2778) dL_law_2775 rfl rfl (by first | decide | assumption | omega) (by first | decide | assumption | omega) (fun z1 => ?_) (fun z1 => ?_)
  · refine jk_iload (q := 2782) dL_law_2780 rfl rfl ?_
    refine jk_if_ne (q := 2797) (q2 := 2785) dL_law_2782 rfl rfl (by first | decide | assumption | omega) (fun z2 => ?_) (fun z2 => ?_)
    · refine jk_goto (q := 3459) dL_law_2797 rfl ?_
      refine jk_convw (jk_rm (hc _ _ _ _ hlr) (by omega) (by omega)) (jk_wkS rfl (jk_wkS rfl (jk_wkS rfl (jk_wkS rfl (jk_wkS rfl (jk_wkS rfl (jk_wkN (jk_wkN (jk_wkN jk_wk0)))))))))
    · refine jk_aload_n (q := 2786) dL_law_2785 rfl rfl ?_
      refine jk_iconst (q := 2787) dL_law_2786 rfl ?_
      refine jk_laldR (q := 2788) (by first | assumption) (by rfl) (by first | decide | assumption | omega) dL_law_2787 rfl ?_
      refine jk_iload (q := 2790) dL_law_2788 rfl rfl ?_
      refine jk_i2lw (q := 2791) dL_law_2790 rfl ?_
      refine jk_lcmp0 (q := 2792) (by exact hcm (by assumption)) dL_law_2791 rfl ?_
      refine jk_ifT_eq (q := 2797) (by decide) (by decide) dL_law_2792 rfl ?_
      refine jk_goto (q := 3459) dL_law_2797 rfl ?_
      refine jk_convw (jk_rm (hc _ _ _ _ hlr) (by omega) (by omega)) (jk_wkS rfl (jk_wkS rfl (jk_wkS rfl (jk_wkS rfl (jk_wkS rfl (jk_wkS rfl (jk_wkN (jk_wkN (jk_wkN jk_wk0)))))))))
  · exact absurd rfl (by assumption)
theorem lw_49 {G : jk_G} {n : Nat} {t : jk_T} {σ : jk_I} {ρ : jk_P} {L : Nat} {f : Nat → Int} {x m o d k rc rs mc ms : Nat} (hL : L ≤ 2560) (hsc : ∀ s, jk_Z G s → va_T .int (jk_ad G 63) L (fun j => jI (f j)) (jk_A G) s s.heap) (hk : 5 * k + 4 < L) (hmc : mc ≤ 14) (hms : ms ≤ 420) (hrc : 14 ≤ rc) (hrs : 420 ≤ rs) (hF : lc_F G yL_lowestColumn mL_lowestColumn [(0, 9, 12, 19), (0, 9, 15, 43)] mc ms [.ref x, jI (f (5 * (k : Int) + 1).toNat), .ref o] yX13_lowestColumn mX13_lowestColumn [.ref m, jI (f (5 * (k : Int) + 1).toNat)] false x m o d k n t σ ρ) (hc : ∀ n' t' σ' ρ', lr x m o d (k + 1) n' t' σ' ρ' → jk_J G mL_law 3459 [some (.ref 63), some (.ref x), some (.ref m), some (.ref o), some (.ref d), some (jI (5 * (k : Int))), none, none, none] [] n' t' σ' ρ' (rc - 14) (rs - 420) lq_Q jk_no) : jk_J G mL_law 2800 [some (.ref 63), some (.ref x), some (.ref m), some (.ref o), some (.ref d), some (jI (5 * (k : Int))), none, none, none] [] n t σ ρ rc rs lq_Q jk_no := by
  obtain ⟨P1, K1, hP1⟩ := hF
  refine jk_aload_n (q := 2801) dL_law_2800 rfl rfl ?_
  refine jk_aload_n (q := 2802) dL_law_2801 rfl rfl ?_
  refine jk_iload (q := 2804) dL_law_2802 rfl rfl ?_
  refine jk_iconst (q := 2805) dL_law_2804 rfl ?_
  refine jk_iadd (q := 2806) dL_law_2805 rfl ?_
  refine jk_tabs (q := 2807) (hsc) (by first | decide | omega) (by first | decide | assumption | omega) dL_law_2806 rfl ?_
  refine jk_aload_n (q := 2808) dL_law_2807 rfl rfl ?_
  refine jk_callSH (q := 2811) (As := [.ref x, jI (f (5 * (k : Int) + 1).toNat), .ref o]) K1 jm_L_lowestColumn jw_1362 rfl rfl rfl (by omega) (by omega) rfl dL_law_2808 rfl (fun v' n' t' σ' ρ' hq => ?_) (fun _ _ _ _ _ h => h.elim)
  obtain ⟨c1, rfl, hc1, hm1, P2, K2, hP2⟩ := hP1 _ _ _ _ _ hq
  simp only [Option.toList_some, List.cons_append, List.nil_append]
  refine jk_istore6 (q := 2813) dL_law_2811 rfl rfl rfl ?_
  refine jk_aload_n (q := 2814) dL_law_2813 rfl rfl ?_
  refine jk_aload_n (q := 2815) dL_law_2814 rfl rfl ?_
  refine jk_iload (q := 2817) dL_law_2815 rfl rfl ?_
  refine jk_iconst (q := 2818) dL_law_2817 rfl ?_
  refine jk_iadd (q := 2819) dL_law_2818 rfl ?_
  refine jk_tabs (q := 2820) (hsc) (by first | decide | omega) (by first | decide | assumption | omega) dL_law_2819 rfl ?_
  refine jk_cV1g (q := 2823) (K2) jm_X13_lowestColumn jw_2335 rfl (by first | assumption) rfl rfl (Nat.zero_le _) (Nat.zero_le _) rfl dL_law_2820 rfl (fun v' n' t' σ' ρ' hq => ?_) (fun _ _ _ _ _ h => h.elim)
  obtain ⟨v2, rfl, hbo, ⟨O, hat, hO, hO12⟩, hto, hcm, hlr⟩ := hP2 _ _ _ _ _ hq
  have hm2 := hat.1
  simp only [Option.toList_some, List.cons_append, List.nil_append]
  simp only [Nat.sub_zero]
  refine jk_istore7 (q := 2825) dL_law_2823 rfl rfl rfl ?_
  refine jk_aload_n (q := 2826) dL_law_2825 rfl rfl ?_
  refine jk_cV0p (q := 2829) (c_X13_thrown hat hO) jm_X13_thrown jw_1918 rfl (by first | assumption) rfl rfl rfl dL_law_2826 rfl ?_
  rw [hO12]
  refine jk_iload (q := 2831) dL_law_2829 rfl rfl ?_
  refine jk_icmp_eq (q := 2836) (q2 := 2834) dL_law_2831 rfl rfl (by first | decide | assumption | omega) (by first | decide | assumption | omega) (fun z1 => ?_) (fun z1 => ?_)
  · refine jk_iload (q := 2838) dL_law_2836 rfl rfl ?_
    refine jk_if_ne (q := 2853) (q2 := 2841) dL_law_2838 rfl rfl (by first | decide | assumption | omega) (fun z2 => ?_) (fun z2 => ?_)
    · refine jk_goto (q := 3459) dL_law_2853 rfl ?_
      refine jk_convw (jk_rm (hc _ _ _ _ hlr) (by omega) (by omega)) (jk_wkS rfl (jk_wkS rfl (jk_wkS rfl (jk_wkS rfl (jk_wkS rfl (jk_wkS rfl (jk_wkN (jk_wkN (jk_wkN jk_wk0)))))))))
    · refine jk_aload_n (q := 2842) dL_law_2841 rfl rfl ?_
      refine jk_iconst (q := 2843) dL_law_2842 rfl ?_
      refine jk_laldR (q := 2844) (by first | assumption) (by rfl) (by first | decide | assumption | omega) dL_law_2843 rfl ?_
      refine jk_iload (q := 2846) dL_law_2844 rfl rfl ?_
      refine jk_i2lw (q := 2847) dL_law_2846 rfl ?_
      refine jk_lcmp0 (q := 2848) (by exact hcm (by assumption)) dL_law_2847 rfl ?_
      refine jk_ifT_eq (q := 2853) (by decide) (by decide) dL_law_2848 rfl ?_
      refine jk_goto (q := 3459) dL_law_2853 rfl ?_
      refine jk_convw (jk_rm (hc _ _ _ _ hlr) (by omega) (by omega)) (jk_wkS rfl (jk_wkS rfl (jk_wkS rfl (jk_wkS rfl (jk_wkS rfl (jk_wkS rfl (jk_wkN (jk_wkN (jk_wkN jk_wk0)))))))))
  · exact absurd rfl (by assumption)
theorem lw_52 {G : jk_G} {n : Nat} {t : jk_T} {σ : jk_I} {ρ : jk_P} {L : Nat} {f : Nat → Int} {x m o d k rc rs mc ms : Nat} (hL : L ≤ 2560) (hsc : ∀ s, jk_Z G s → va_T .int (jk_ad G 63) L (fun j => jI (f j)) (jk_A G) s s.heap) (hk : 5 * k + 4 < L) (hmc : mc ≤ 14) (hms : ms ≤ 420) (hrc : 14 ≤ rc) (hrs : 420 ≤ rs) (hF : lc_V G yX12_isConsistent mX12_isConsistent mc ms yX13_isConsistent mX13_isConsistent x m o d k n t σ ρ) (hc : ∀ n' t' σ' ρ', lr x m o d (k + 1) n' t' σ' ρ' → jk_J G mL_law 3459 [some (.ref 63), some (.ref x), some (.ref m), some (.ref o), some (.ref d), some (jI (5 * (k : Int))), none, none, none] [] n' t' σ' ρ' (rc - 14) (rs - 420) lq_Q jk_no) : jk_J G mL_law 2987 [some (.ref 63), some (.ref x), some (.ref m), some (.ref o), some (.ref d), some (jI (5 * (k : Int))), none, none, none] [] n t σ ρ rc rs lq_Q jk_no := by
  obtain ⟨P1, X1, K1, hX1, hx, hP1⟩ := hF
  refine jk_aload_n (q := 2988) dL_law_2987 rfl rfl ?_
  refine jk_cV0g (q := 2991) (K1) jm_X12_isConsistent jw_862 rfl (by first | assumption) rfl rfl (by omega) (by omega) rfl dL_law_2988 rfl (fun v' n' t' σ' ρ' hq => ?_) (fun _ _ _ _ _ h => (hX1 _ _ _ _ _ h).elim)
  obtain ⟨v1, rfl, hv1, hm1, P2, K2, hP2⟩ := hP1 _ _ _ _ _ hq
  simp only [Option.toList_some, List.cons_append, List.nil_append]
  refine jk_aload_n (q := 2992) dL_law_2991 rfl rfl ?_
  refine jk_cV0g (q := 2995) (K2) jm_X13_isConsistent jw_2347 rfl (by first | assumption) rfl rfl (Nat.zero_le _) (Nat.zero_le _) rfl dL_law_2992 rfl (fun v' n' t' σ' ρ' hq => ?_) (fun _ _ _ _ _ h => h.elim)
  obtain ⟨rfl, hlr⟩ := hP2 _ _ _ _ _ hq
  simp only [Option.toList_some, List.cons_append, List.nil_append]
  simp only [Nat.sub_zero]
  refine jk_icmp_eq (q := 3459) (q2 := 2998) dL_law_2995 rfl rfl (by first | decide | assumption | omega) (by first | decide | assumption | omega) (fun z1 => ?_) (fun z1 => ?_)
  · refine jk_convw (jk_rm (hc _ _ _ _ hlr) (by omega) (by omega)) (jk_wkS rfl (jk_wkS rfl (jk_wkS rfl (jk_wkS rfl (jk_wkS rfl (jk_wkS rfl (jk_wkN (jk_wkN (jk_wkN jk_wk0)))))))))
  · exact absurd rfl (by assumption)
theorem lw_53 {G : jk_G} {n : Nat} {t : jk_T} {σ : jk_I} {ρ : jk_P} {L : Nat} {f : Nat → Int} {x m o d k rc rs mc ms : Nat} (hL : L ≤ 2560) (hsc : ∀ s, jk_Z G s → va_T .int (jk_ad G 63) L (fun j => jI (f j)) (jk_A G) s s.heap) (hk : 5 * k + 4 < L) (hmc : mc ≤ 14) (hms : ms ≤ 420) (hrc : 14 ≤ rc) (hrs : 420 ≤ rs) (hF : lc_F G yL_renderLine mL_renderLine [(0, 9, 12, 19)] mc ms [.ref x, jI (f (5 * (k : Int) + 1).toNat), .ref o] yX13_renderLine mX13_renderLine [.ref m, jI (f (5 * (k : Int) + 1).toNat)] false x m o d k n t σ ρ) (hc : ∀ n' t' σ' ρ', lr x m o d (k + 1) n' t' σ' ρ' → jk_J G mL_law 3459 [some (.ref 63), some (.ref x), some (.ref m), some (.ref o), some (.ref d), some (jI (5 * (k : Int))), none, none, none] [] n' t' σ' ρ' (rc - 14) (rs - 420) lq_Q jk_no) : jk_J G mL_law 3000 [some (.ref 63), some (.ref x), some (.ref m), some (.ref o), some (.ref d), some (jI (5 * (k : Int))), none, none, none] [] n t σ ρ rc rs lq_Q jk_no := by
  obtain ⟨P1, K1, hP1⟩ := hF
  refine jk_aload_n (q := 3001) dL_law_3000 rfl rfl ?_
  refine jk_aload_n (q := 3002) dL_law_3001 rfl rfl ?_
  refine jk_iload (q := 3004) dL_law_3002 rfl rfl ?_
  refine jk_iconst (q := 3005) dL_law_3004 rfl ?_
  refine jk_iadd (q := 3006) dL_law_3005 rfl ?_
  refine jk_tabs (q := 3007) (hsc) (by first | decide | omega) (by first | decide | assumption | omega) dL_law_3006 rfl ?_
  refine jk_aload_n (q := 3008) dL_law_3007 rfl rfl ?_
  refine jk_callSH (q := 3011) (As := [.ref x, jI (f (5 * (k : Int) + 1).toNat), .ref o]) K1 jm_L_renderLine jw_1410 rfl rfl rfl (by omega) (by omega) rfl dL_law_3008 rfl (fun v' n' t' σ' ρ' hq => ?_) (fun _ _ _ _ _ h => h.elim)
  obtain ⟨c1, rfl, hc1, hm1, P2, K2, hP2⟩ := hP1 _ _ _ _ _ hq
  simp only [Option.toList_some, List.cons_append, List.nil_append]
  refine jk_istore6 (q := 3013) dL_law_3011 rfl rfl rfl ?_
  refine jk_aload_n (q := 3014) dL_law_3013 rfl rfl ?_
  refine jk_aload_n (q := 3015) dL_law_3014 rfl rfl ?_
  refine jk_iload (q := 3017) dL_law_3015 rfl rfl ?_
  refine jk_iconst (q := 3018) dL_law_3017 rfl ?_
  refine jk_iadd (q := 3019) dL_law_3018 rfl ?_
  refine jk_tabs (q := 3020) (hsc) (by first | decide | omega) (by first | decide | assumption | omega) dL_law_3019 rfl ?_
  refine jk_cV1g (q := 3023) (K2) jm_X13_renderLine jw_2351 rfl (by first | assumption) rfl rfl (Nat.zero_le _) (Nat.zero_le _) rfl dL_law_3020 rfl (fun v' n' t' σ' ρ' hq => ?_) (fun _ _ _ _ _ h => h.elim)
  obtain ⟨v2, rfl, hbo, ⟨O, hat, hO, hO12⟩, hto, hcm, hlr⟩ := hP2 _ _ _ _ _ hq
  have hm2 := hat.1
  simp only [Option.toList_some, List.cons_append, List.nil_append]
  simp only [Nat.sub_zero]
  refine jk_istore7 (q := 3025) dL_law_3023 rfl rfl rfl ?_
  refine jk_aload_n (q := 3026) dL_law_3025 rfl rfl ?_
  refine jk_cV0p (q := 3029) (c_X13_thrown hat hO) jm_X13_thrown jw_1918 rfl (by first | assumption) rfl rfl rfl dL_law_3026 rfl ?_
  rw [hO12]
  refine jk_iload (q := 3031) dL_law_3029 rfl rfl ?_
  refine jk_icmp_eq (q := 3036) (q2 := 3034) dL_law_3031 rfl rfl (by first | decide | assumption | omega) (by first | decide | assumption | omega) (fun z1 => ?_) (fun z1 => ?_)
  · refine jk_iload (q := 3038) dL_law_3036 rfl rfl ?_
    refine jk_if_ne (q := 3053) (q2 := 3041) dL_law_3038 rfl rfl (by first | decide | assumption | omega) (fun z2 => ?_) (fun z2 => ?_)
    · refine jk_goto (q := 3459) dL_law_3053 rfl ?_
      refine jk_convw (jk_rm (hc _ _ _ _ hlr) (by omega) (by omega)) (jk_wkS rfl (jk_wkS rfl (jk_wkS rfl (jk_wkS rfl (jk_wkS rfl (jk_wkS rfl (jk_wkN (jk_wkN (jk_wkN jk_wk0)))))))))
    · refine jk_aload_n (q := 3042) dL_law_3041 rfl rfl ?_
      refine jk_iconst (q := 3043) dL_law_3042 rfl ?_
      refine jk_laldR (q := 3044) (by first | assumption) (by rfl) (by first | decide | assumption | omega) dL_law_3043 rfl ?_
      refine jk_iload (q := 3046) dL_law_3044 rfl rfl ?_
      refine jk_i2lw (q := 3047) dL_law_3046 rfl ?_
      refine jk_lcmp0 (q := 3048) (by exact hcm (by assumption)) dL_law_3047 rfl ?_
      refine jk_ifT_eq (q := 3053) (by decide) (by decide) dL_law_3048 rfl ?_
      refine jk_goto (q := 3459) dL_law_3053 rfl ?_
      refine jk_convw (jk_rm (hc _ _ _ _ hlr) (by omega) (by omega)) (jk_wkS rfl (jk_wkS rfl (jk_wkS rfl (jk_wkS rfl (jk_wkS rfl (jk_wkS rfl (jk_wkN (jk_wkN (jk_wkN jk_wk0)))))))))
  · exact absurd rfl (by assumption)
theorem lw_54 {G : jk_G} {n : Nat} {t : jk_T} {σ : jk_I} {ρ : jk_P} {L : Nat} {f : Nat → Int} {x m o d k rc rs mc ms : Nat} (hL : L ≤ 2560) (hsc : ∀ s, jk_Z G s → va_T .int (jk_ad G 63) L (fun j => jI (f j)) (jk_A G) s s.heap) (hk : 5 * k + 4 < L) (hmc : mc ≤ 14) (hms : ms ≤ 420) (hrc : 14 ≤ rc) (hrs : 420 ≤ rs) (hF : lc_F G yL_renderBenchmark mL_renderBenchmark [(0, 9, 12, 19)] mc ms [.ref x, jI (f (5 * (k : Int) + 1).toNat), .ref o] yX13_renderBenchmark mX13_renderBenchmark [.ref m, jI (f (5 * (k : Int) + 1).toNat)] false x m o d k n t σ ρ) (hc : ∀ n' t' σ' ρ', lr x m o d (k + 1) n' t' σ' ρ' → jk_J G mL_law 3459 [some (.ref 63), some (.ref x), some (.ref m), some (.ref o), some (.ref d), some (jI (5 * (k : Int))), none, none, none] [] n' t' σ' ρ' (rc - 14) (rs - 420) lq_Q jk_no) : jk_J G mL_law 3056 [some (.ref 63), some (.ref x), some (.ref m), some (.ref o), some (.ref d), some (jI (5 * (k : Int))), none, none, none] [] n t σ ρ rc rs lq_Q jk_no := by
  obtain ⟨P1, K1, hP1⟩ := hF
  refine jk_aload_n (q := 3057) dL_law_3056 rfl rfl ?_
  refine jk_aload_n (q := 3058) dL_law_3057 rfl rfl ?_
  refine jk_iload (q := 3060) dL_law_3058 rfl rfl ?_
  refine jk_iconst (q := 3061) dL_law_3060 rfl ?_
  refine jk_iadd (q := 3062) dL_law_3061 rfl ?_
  refine jk_tabs (q := 3063) (hsc) (by first | decide | omega) (by first | decide | assumption | omega) dL_law_3062 rfl ?_
  refine jk_aload_n (q := 3064) dL_law_3063 rfl rfl ?_
  refine jk_callSH (q := 3067) (As := [.ref x, jI (f (5 * (k : Int) + 1).toNat), .ref o]) K1 jm_L_renderBenchmark jw_1699 rfl rfl rfl (by omega) (by omega) rfl dL_law_3064 rfl (fun v' n' t' σ' ρ' hq => ?_) (fun _ _ _ _ _ h => h.elim)
  obtain ⟨c1, rfl, hc1, hm1, P2, K2, hP2⟩ := hP1 _ _ _ _ _ hq
  simp only [Option.toList_some, List.cons_append, List.nil_append]
  refine jk_istore6 (q := 3069) dL_law_3067 rfl rfl rfl ?_
  refine jk_aload_n (q := 3070) dL_law_3069 rfl rfl ?_
  refine jk_aload_n (q := 3071) dL_law_3070 rfl rfl ?_
  refine jk_iload (q := 3073) dL_law_3071 rfl rfl ?_
  refine jk_iconst (q := 3074) dL_law_3073 rfl ?_
  refine jk_iadd (q := 3075) dL_law_3074 rfl ?_
  refine jk_tabs (q := 3076) (hsc) (by first | decide | omega) (by first | decide | assumption | omega) dL_law_3075 rfl ?_
  refine jk_cV1g (q := 3079) (K2) jm_X13_renderBenchmark jw_2364 rfl (by first | assumption) rfl rfl (Nat.zero_le _) (Nat.zero_le _) rfl dL_law_3076 rfl (fun v' n' t' σ' ρ' hq => ?_) (fun _ _ _ _ _ h => h.elim)
  obtain ⟨v2, rfl, hbo, ⟨O, hat, hO, hO12⟩, hto, hcm, hlr⟩ := hP2 _ _ _ _ _ hq
  have hm2 := hat.1
  simp only [Option.toList_some, List.cons_append, List.nil_append]
  simp only [Nat.sub_zero]
  refine jk_istore7 (q := 3081) dL_law_3079 rfl rfl rfl ?_
  refine jk_aload_n (q := 3082) dL_law_3081 rfl rfl ?_
  refine jk_cV0p (q := 3085) (c_X13_thrown hat hO) jm_X13_thrown jw_1918 rfl (by first | assumption) rfl rfl rfl dL_law_3082 rfl ?_
  rw [hO12]
  refine jk_iload (q := 3087) dL_law_3085 rfl rfl ?_
  refine jk_icmp_eq (q := 3092) (q2 := 3090) dL_law_3087 rfl rfl (by first | decide | assumption | omega) (by first | decide | assumption | omega) (fun z1 => ?_) (fun z1 => ?_)
  · refine jk_iload (q := 3094) dL_law_3092 rfl rfl ?_
    refine jk_if_ne (q := 3109) (q2 := 3097) dL_law_3094 rfl rfl (by first | decide | assumption | omega) (fun z2 => ?_) (fun z2 => ?_)
    · refine jk_goto (q := 3459) dL_law_3109 rfl ?_
      refine jk_convw (jk_rm (hc _ _ _ _ hlr) (by omega) (by omega)) (jk_wkS rfl (jk_wkS rfl (jk_wkS rfl (jk_wkS rfl (jk_wkS rfl (jk_wkS rfl (jk_wkN (jk_wkN (jk_wkN jk_wk0)))))))))
    · refine jk_aload_n (q := 3098) dL_law_3097 rfl rfl ?_
      refine jk_iconst (q := 3099) dL_law_3098 rfl ?_
      refine jk_laldR (q := 3100) (by first | assumption) (by rfl) (by first | decide | assumption | omega) dL_law_3099 rfl ?_
      refine jk_iload (q := 3102) dL_law_3100 rfl rfl ?_
      refine jk_i2lw (q := 3103) dL_law_3102 rfl ?_
      refine jk_lcmp0 (q := 3104) (by exact hcm (by assumption)) dL_law_3103 rfl ?_
      refine jk_ifT_eq (q := 3109) (by decide) (by decide) dL_law_3104 rfl ?_
      refine jk_goto (q := 3459) dL_law_3109 rfl ?_
      refine jk_convw (jk_rm (hc _ _ _ _ hlr) (by omega) (by omega)) (jk_wkS rfl (jk_wkS rfl (jk_wkS rfl (jk_wkS rfl (jk_wkS rfl (jk_wkS rfl (jk_wkN (jk_wkN (jk_wkN jk_wk0)))))))))
  · exact absurd rfl (by assumption)
theorem lw_55 {G : jk_G} {n : Nat} {t : jk_T} {σ : jk_I} {ρ : jk_P} {L : Nat} {f : Nat → Int} {x m o d k rc rs mc ms : Nat} (hL : L ≤ 2560) (hsc : ∀ s, jk_Z G s → va_T .int (jk_ad G 63) L (fun j => jI (f j)) (jk_A G) s s.heap) (hk : 5 * k + 4 < L) (hmc : mc ≤ 14) (hms : ms ≤ 420) (hrc : 14 ≤ rc) (hrs : 420 ≤ rs) (hF : lc_F G yL_outputAt mL_outputAt [(0, 9, 12, 19)] mc ms [.ref x, jI (f (5 * (k : Int) + 1).toNat), .ref o] yX13_outputAt mX13_outputAt [.ref m, jI (f (5 * (k : Int) + 1).toNat)] false x m o d k n t σ ρ) (hc : ∀ n' t' σ' ρ', lr x m o d (k + 1) n' t' σ' ρ' → jk_J G mL_law 3459 [some (.ref 63), some (.ref x), some (.ref m), some (.ref o), some (.ref d), some (jI (5 * (k : Int))), none, none, none] [] n' t' σ' ρ' (rc - 14) (rs - 420) lq_Q jk_no) : jk_J G mL_law 3112 [some (.ref 63), some (.ref x), some (.ref m), some (.ref o), some (.ref d), some (jI (5 * (k : Int))), none, none, none] [] n t σ ρ rc rs lq_Q jk_no := by
  obtain ⟨P1, K1, hP1⟩ := hF
  refine jk_aload_n (q := 3113) dL_law_3112 rfl rfl ?_
  refine jk_aload_n (q := 3114) dL_law_3113 rfl rfl ?_
  refine jk_iload (q := 3116) dL_law_3114 rfl rfl ?_
  refine jk_iconst (q := 3117) dL_law_3116 rfl ?_
  refine jk_iadd (q := 3118) dL_law_3117 rfl ?_
  refine jk_tabs (q := 3119) (hsc) (by first | decide | omega) (by first | decide | assumption | omega) dL_law_3118 rfl ?_
  refine jk_aload_n (q := 3120) dL_law_3119 rfl rfl ?_
  refine jk_callSH (q := 3123) (As := [.ref x, jI (f (5 * (k : Int) + 1).toNat), .ref o]) K1 jm_L_outputAt jw_1706 rfl rfl rfl (by omega) (by omega) rfl dL_law_3120 rfl (fun v' n' t' σ' ρ' hq => ?_) (fun _ _ _ _ _ h => h.elim)
  obtain ⟨c1, rfl, hc1, hm1, P2, K2, hP2⟩ := hP1 _ _ _ _ _ hq
  simp only [Option.toList_some, List.cons_append, List.nil_append]
  refine jk_istore6 (q := 3125) dL_law_3123 rfl rfl rfl ?_
  refine jk_aload_n (q := 3126) dL_law_3125 rfl rfl ?_
  refine jk_aload_n (q := 3127) dL_law_3126 rfl rfl ?_
  refine jk_iload (q := 3129) dL_law_3127 rfl rfl ?_
  refine jk_iconst (q := 3130) dL_law_3129 rfl ?_
  refine jk_iadd (q := 3131) dL_law_3130 rfl ?_
  refine jk_tabs (q := 3132) (hsc) (by first | decide | omega) (by first | decide | assumption | omega) dL_law_3131 rfl ?_
  refine jk_cV1g (q := 3135) (K2) jm_X13_outputAt jw_2368 rfl (by first | assumption) rfl rfl (Nat.zero_le _) (Nat.zero_le _) rfl dL_law_3132 rfl (fun v' n' t' σ' ρ' hq => ?_) (fun _ _ _ _ _ h => h.elim)
  obtain ⟨v2, rfl, hbo, ⟨O, hat, hO, hO12⟩, hto, hcm, hlr⟩ := hP2 _ _ _ _ _ hq
  have hm2 := hat.1
  simp only [Option.toList_some, List.cons_append, List.nil_append]
  simp only [Nat.sub_zero]
  refine jk_istore7 (q := 3137) dL_law_3135 rfl rfl rfl ?_
  refine jk_aload_n (q := 3138) dL_law_3137 rfl rfl ?_
  refine jk_cV0p (q := 3141) (c_X13_thrown hat hO) jm_X13_thrown jw_1918 rfl (by first | assumption) rfl rfl rfl dL_law_3138 rfl ?_
  rw [hO12]
  refine jk_iload (q := 3143) dL_law_3141 rfl rfl ?_
  refine jk_icmp_eq (q := 3148) (q2 := 3146) dL_law_3143 rfl rfl (by first | decide | assumption | omega) (by first | decide | assumption | omega) (fun z1 => ?_) (fun z1 => ?_)
  · refine jk_iload (q := 3150) dL_law_3148 rfl rfl ?_
    refine jk_if_ne (q := 3165) (q2 := 3153) dL_law_3150 rfl rfl (by first | decide | assumption | omega) (fun z2 => ?_) (fun z2 => ?_)
    · refine jk_goto (q := 3459) dL_law_3165 rfl ?_
      refine jk_convw (jk_rm (hc _ _ _ _ hlr) (by omega) (by omega)) (jk_wkS rfl (jk_wkS rfl (jk_wkS rfl (jk_wkS rfl (jk_wkS rfl (jk_wkS rfl (jk_wkN (jk_wkN (jk_wkN jk_wk0)))))))))
    · refine jk_aload_n (q := 3154) dL_law_3153 rfl rfl ?_
      refine jk_iconst (q := 3155) dL_law_3154 rfl ?_
      refine jk_laldR (q := 3156) (by first | assumption) (by rfl) (by first | decide | assumption | omega) dL_law_3155 rfl ?_
      refine jk_iload (q := 3158) dL_law_3156 rfl rfl ?_
      refine jk_i2lw (q := 3159) dL_law_3158 rfl ?_
      refine jk_lcmp0 (q := 3160) (by exact hcm (by assumption)) dL_law_3159 rfl ?_
      refine jk_ifT_eq (q := 3165) (by decide) (by decide) dL_law_3160 rfl ?_
      refine jk_goto (q := 3459) dL_law_3165 rfl ?_
      refine jk_convw (jk_rm (hc _ _ _ _ hlr) (by omega) (by omega)) (jk_wkS rfl (jk_wkS rfl (jk_wkS rfl (jk_wkS rfl (jk_wkS rfl (jk_wkS rfl (jk_wkN (jk_wkN (jk_wkN jk_wk0)))))))))
  · exact absurd rfl (by assumption)
theorem lw_56 {G : jk_G} {n : Nat} {t : jk_T} {σ : jk_I} {ρ : jk_P} {L : Nat} {f : Nat → Int} {x m o d k rc rs mc ms : Nat} (hL : L ≤ 2560) (hsc : ∀ s, jk_Z G s → va_T .int (jk_ad G 63) L (fun j => jI (f j)) (jk_A G) s s.heap) (hk : 5 * k + 4 < L) (hmc : mc ≤ 14) (hms : ms ≤ 420) (hrc : 14 ≤ rc) (hrs : 420 ≤ rs) (hF : lc_F G yL_type mL_type [(0, 9, 12, 21), (0, 9, 15, 13)] mc ms [.ref x, jI (jk_ch (f (5 * (k : Int) + 1).toNat)), .ref o] yX13_type mX13_type [.ref m, jI (jk_ch (f (5 * (k : Int) + 1).toNat))] false x m o d k n t σ ρ) (hc : ∀ n' t' σ' ρ', lr x m o d (k + 1) n' t' σ' ρ' → jk_J G mL_law 3459 [some (.ref 63), some (.ref x), some (.ref m), some (.ref o), some (.ref d), some (jI (5 * (k : Int))), none, none, none] [] n' t' σ' ρ' (rc - 14) (rs - 420) lq_Q jk_no) : jk_J G mL_law 3168 [some (.ref 63), some (.ref x), some (.ref m), some (.ref o), some (.ref d), some (jI (5 * (k : Int))), none, none, none] [] n t σ ρ rc rs lq_Q jk_no := by
  obtain ⟨P1, K1, hP1⟩ := hF
  refine jk_aload_n (q := 3169) dL_law_3168 rfl rfl ?_
  refine jk_aload_n (q := 3170) dL_law_3169 rfl rfl ?_
  refine jk_iload (q := 3172) dL_law_3170 rfl rfl ?_
  refine jk_iconst (q := 3173) dL_law_3172 rfl ?_
  refine jk_iadd (q := 3174) dL_law_3173 rfl ?_
  refine jk_tabs (q := 3175) (hsc) (by first | decide | omega) (by first | decide | assumption | omega) dL_law_3174 rfl ?_
  refine jk_i2cw (q := 3176) dL_law_3175 rfl ?_
  refine jk_aload_n (q := 3177) dL_law_3176 rfl rfl ?_
  refine jk_callSH (q := 3180) (As := [.ref x, jI (jk_ch (f (5 * (k : Int) + 1).toNat)), .ref o]) K1 jm_L_type jw_1724 rfl rfl rfl (by omega) (by omega) rfl dL_law_3177 rfl (fun v' n' t' σ' ρ' hq => ?_) (fun _ _ _ _ _ h => h.elim)
  obtain ⟨c1, rfl, hc1, hm1, P2, K2, hP2⟩ := hP1 _ _ _ _ _ hq
  simp only [Option.toList_some, List.cons_append, List.nil_append]
  refine jk_istore6 (q := 3182) dL_law_3180 rfl rfl rfl ?_
  refine jk_aload_n (q := 3183) dL_law_3182 rfl rfl ?_
  refine jk_aload_n (q := 3184) dL_law_3183 rfl rfl ?_
  refine jk_iload (q := 3186) dL_law_3184 rfl rfl ?_
  refine jk_iconst (q := 3187) dL_law_3186 rfl ?_
  refine jk_iadd (q := 3188) dL_law_3187 rfl ?_
  refine jk_tabs (q := 3189) (hsc) (by first | decide | omega) (by first | decide | assumption | omega) dL_law_3188 rfl ?_
  refine jk_i2cw (q := 3190) dL_law_3189 rfl ?_
  refine jk_cV1g (q := 3193) (K2) jm_X13_type jw_2372 rfl (by first | assumption) rfl rfl (Nat.zero_le _) (Nat.zero_le _) rfl dL_law_3190 rfl (fun v' n' t' σ' ρ' hq => ?_) (fun _ _ _ _ _ h => h.elim)
  obtain ⟨v2, rfl, hbo, ⟨O, hat, hO, hO12⟩, hto, hcm, hlr⟩ := hP2 _ _ _ _ _ hq
  have hm2 := hat.1
  simp only [Option.toList_some, List.cons_append, List.nil_append]
  simp only [Nat.sub_zero]
  refine jk_istore7 (q := 3195) dL_law_3193 rfl rfl rfl ?_
  refine jk_aload_n (q := 3196) dL_law_3195 rfl rfl ?_
  refine jk_cV0p (q := 3199) (c_X13_thrown hat hO) jm_X13_thrown jw_1918 rfl (by first | assumption) rfl rfl rfl dL_law_3196 rfl ?_
  rw [hO12]
  refine jk_iload (q := 3201) dL_law_3199 rfl rfl ?_
  refine jk_icmp_eq (q := 3206) (q2 := 3204) dL_law_3201 rfl rfl (by first | decide | assumption | omega) (by first | decide | assumption | omega) (fun z1 => ?_) (fun z1 => ?_)
  · refine jk_iload (q := 3208) dL_law_3206 rfl rfl ?_
    refine jk_if_ne (q := 3223) (q2 := 3211) dL_law_3208 rfl rfl (by first | decide | assumption | omega) (fun z2 => ?_) (fun z2 => ?_)
    · refine jk_goto (q := 3459) dL_law_3223 rfl ?_
      refine jk_convw (jk_rm (hc _ _ _ _ hlr) (by omega) (by omega)) (jk_wkS rfl (jk_wkS rfl (jk_wkS rfl (jk_wkS rfl (jk_wkS rfl (jk_wkS rfl (jk_wkN (jk_wkN (jk_wkN jk_wk0)))))))))
    · refine jk_aload_n (q := 3212) dL_law_3211 rfl rfl ?_
      refine jk_iconst (q := 3213) dL_law_3212 rfl ?_
      refine jk_laldR (q := 3214) (by first | assumption) (by rfl) (by first | decide | assumption | omega) dL_law_3213 rfl ?_
      refine jk_iload (q := 3216) dL_law_3214 rfl rfl ?_
      refine jk_i2lw (q := 3217) dL_law_3216 rfl ?_
      refine jk_lcmp0 (q := 3218) (by exact hcm (by assumption)) dL_law_3217 rfl ?_
      refine jk_ifT_eq (q := 3223) (by decide) (by decide) dL_law_3218 rfl ?_
      refine jk_goto (q := 3459) dL_law_3223 rfl ?_
      refine jk_convw (jk_rm (hc _ _ _ _ hlr) (by omega) (by omega)) (jk_wkS rfl (jk_wkS rfl (jk_wkS rfl (jk_wkS rfl (jk_wkS rfl (jk_wkS rfl (jk_wkN (jk_wkN (jk_wkN jk_wk0)))))))))
  · exact absurd rfl (by assumption)
theorem lw_57 {G : jk_G} {n : Nat} {t : jk_T} {σ : jk_I} {ρ : jk_P} {L : Nat} {f : Nat → Int} {x m o d k rc rs mc ms : Nat} (hL : L ≤ 2560) (hsc : ∀ s, jk_Z G s → va_T .int (jk_ad G 63) L (fun j => jI (f j)) (jk_A G) s s.heap) (hk : 5 * k + 4 < L) (hmc : mc ≤ 14) (hms : ms ≤ 420) (hrc : 14 ≤ rc) (hrs : 420 ≤ rs) (hF : lc_F G yL_runScript mL_runScript [(0, 8, 11, 21), (0, 8, 14, 13)] mc ms [.ref x, .ref o] yX13_runScript mX13_runScript [.ref m] false x m o d k n t σ ρ) (hc : ∀ n' t' σ' ρ', lr x m o d (k + 1) n' t' σ' ρ' → jk_J G mL_law 3459 [some (.ref 63), some (.ref x), some (.ref m), some (.ref o), some (.ref d), some (jI (5 * (k : Int))), none, none, none] [] n' t' σ' ρ' (rc - 14) (rs - 420) lq_Q jk_no) : jk_J G mL_law 3226 [some (.ref 63), some (.ref x), some (.ref m), some (.ref o), some (.ref d), some (jI (5 * (k : Int))), none, none, none] [] n t σ ρ rc rs lq_Q jk_no := by
  obtain ⟨P1, K1, hP1⟩ := hF
  refine jk_aload_n (q := 3227) dL_law_3226 rfl rfl ?_
  refine jk_aload_n (q := 3228) dL_law_3227 rfl rfl ?_
  refine jk_callSH (q := 3231) (As := [.ref x, .ref o]) K1 jm_L_runScript jw_1737 rfl rfl rfl (by omega) (by omega) rfl dL_law_3228 rfl (fun v' n' t' σ' ρ' hq => ?_) (fun _ _ _ _ _ h => h.elim)
  obtain ⟨c1, rfl, hc1, hm1, P2, K2, hP2⟩ := hP1 _ _ _ _ _ hq
  simp only [Option.toList_some, List.cons_append, List.nil_append]
  refine jk_istore6 (q := 3233) dL_law_3231 rfl rfl rfl ?_
  refine jk_aload_n (q := 3234) dL_law_3233 rfl rfl ?_
  refine jk_cV0g (q := 3237) (K2) jm_X13_runScript jw_2376 rfl (by first | assumption) rfl rfl (Nat.zero_le _) (Nat.zero_le _) rfl dL_law_3234 rfl (fun v' n' t' σ' ρ' hq => ?_) (fun _ _ _ _ _ h => h.elim)
  obtain ⟨v2, rfl, hbo, ⟨O, hat, hO, hO12⟩, hto, hcm, hlr⟩ := hP2 _ _ _ _ _ hq
  have hm2 := hat.1
  simp only [Option.toList_some, List.cons_append, List.nil_append]
  simp only [Nat.sub_zero]
  refine jk_istore7 (q := 3239) dL_law_3237 rfl rfl rfl ?_
  refine jk_aload_n (q := 3240) dL_law_3239 rfl rfl ?_
  refine jk_cV0p (q := 3243) (c_X13_thrown hat hO) jm_X13_thrown jw_1918 rfl (by first | assumption) rfl rfl rfl dL_law_3240 rfl ?_
  rw [hO12]
  refine jk_iload (q := 3245) dL_law_3243 rfl rfl ?_
  refine jk_icmp_eq (q := 3250) (q2 := 3248) dL_law_3245 rfl rfl (by first | decide | assumption | omega) (by first | decide | assumption | omega) (fun z1 => ?_) (fun z1 => ?_)
  · refine jk_iload (q := 3252) dL_law_3250 rfl rfl ?_
    refine jk_if_ne (q := 3267) (q2 := 3255) dL_law_3252 rfl rfl (by first | decide | assumption | omega) (fun z2 => ?_) (fun z2 => ?_)
    · refine jk_goto (q := 3459) dL_law_3267 rfl ?_
      refine jk_convw (jk_rm (hc _ _ _ _ hlr) (by omega) (by omega)) (jk_wkS rfl (jk_wkS rfl (jk_wkS rfl (jk_wkS rfl (jk_wkS rfl (jk_wkS rfl (jk_wkN (jk_wkN (jk_wkN jk_wk0)))))))))
    · refine jk_aload_n (q := 3256) dL_law_3255 rfl rfl ?_
      refine jk_iconst (q := 3257) dL_law_3256 rfl ?_
      refine jk_laldR (q := 3258) (by first | assumption) (by rfl) (by first | decide | assumption | omega) dL_law_3257 rfl ?_
      refine jk_iload (q := 3260) dL_law_3258 rfl rfl ?_
      refine jk_i2lw (q := 3261) dL_law_3260 rfl ?_
      refine jk_lcmp0 (q := 3262) (by exact hcm (by assumption)) dL_law_3261 rfl ?_
      refine jk_ifT_eq (q := 3267) (by decide) (by decide) dL_law_3262 rfl ?_
      refine jk_goto (q := 3459) dL_law_3267 rfl ?_
      refine jk_convw (jk_rm (hc _ _ _ _ hlr) (by omega) (by omega)) (jk_wkS rfl (jk_wkS rfl (jk_wkS rfl (jk_wkS rfl (jk_wkS rfl (jk_wkS rfl (jk_wkN (jk_wkN (jk_wkN jk_wk0)))))))))
  · exact absurd rfl (by assumption)
theorem lw_58 {G : jk_G} {n : Nat} {t : jk_T} {σ : jk_I} {ρ : jk_P} {L : Nat} {f : Nat → Int} {x m o d k rc rs mc ms : Nat} (hL : L ≤ 2560) (hsc : ∀ s, jk_Z G s → va_T .int (jk_ad G 63) L (fun j => jI (f j)) (jk_A G) s s.heap) (hk : 5 * k + 4 < L) (hmc : mc ≤ 14) (hms : ms ≤ 420) (hrc : 14 ≤ rc) (hrs : 420 ≤ rs) (hF : lc_F G yL_errorPosition mL_errorPosition [(0, 8, 11, 43)] mc ms [.ref x, .ref o] yX13_errorPosition mX13_errorPosition [.ref m] false x m o d k n t σ ρ) (hc : ∀ n' t' σ' ρ', lr x m o d (k + 1) n' t' σ' ρ' → jk_J G mL_law 3459 [some (.ref 63), some (.ref x), some (.ref m), some (.ref o), some (.ref d), some (jI (5 * (k : Int))), none, none, none] [] n' t' σ' ρ' (rc - 14) (rs - 420) lq_Q jk_no) : jk_J G mL_law 3270 [some (.ref 63), some (.ref x), some (.ref m), some (.ref o), some (.ref d), some (jI (5 * (k : Int))), none, none, none] [] n t σ ρ rc rs lq_Q jk_no := by
  obtain ⟨P1, K1, hP1⟩ := hF
  refine jk_aload_n (q := 3271) dL_law_3270 rfl rfl ?_
  refine jk_aload_n (q := 3272) dL_law_3271 rfl rfl ?_
  refine jk_callSH (q := 3275) (As := [.ref x, .ref o]) K1 jm_L_errorPosition jw_1806 rfl rfl rfl (by omega) (by omega) rfl dL_law_3272 rfl (fun v' n' t' σ' ρ' hq => ?_) (fun _ _ _ _ _ h => h.elim)
  obtain ⟨c1, rfl, hc1, hm1, P2, K2, hP2⟩ := hP1 _ _ _ _ _ hq
  simp only [Option.toList_some, List.cons_append, List.nil_append]
  refine jk_istore6 (q := 3277) dL_law_3275 rfl rfl rfl ?_
  refine jk_aload_n (q := 3278) dL_law_3277 rfl rfl ?_
  refine jk_cV0g (q := 3281) (K2) jm_X13_errorPosition jw_2432 rfl (by first | assumption) rfl rfl (Nat.zero_le _) (Nat.zero_le _) rfl dL_law_3278 rfl (fun v' n' t' σ' ρ' hq => ?_) (fun _ _ _ _ _ h => h.elim)
  obtain ⟨v2, rfl, hbo, ⟨O, hat, hO, hO12⟩, hto, hcm, hlr⟩ := hP2 _ _ _ _ _ hq
  have hm2 := hat.1
  simp only [Option.toList_some, List.cons_append, List.nil_append]
  simp only [Nat.sub_zero]
  refine jk_istore7 (q := 3283) dL_law_3281 rfl rfl rfl ?_
  refine jk_aload_n (q := 3284) dL_law_3283 rfl rfl ?_
  refine jk_cV0p (q := 3287) (c_X13_thrown hat hO) jm_X13_thrown jw_1918 rfl (by first | assumption) rfl rfl rfl dL_law_3284 rfl ?_
  rw [hO12]
  refine jk_iload (q := 3289) dL_law_3287 rfl rfl ?_
  refine jk_icmp_eq (q := 3294) (q2 := 3292) dL_law_3289 rfl rfl (by first | decide | assumption | omega) (by first | decide | assumption | omega) (fun z1 => ?_) (fun z1 => ?_)
  · refine jk_iload (q := 3296) dL_law_3294 rfl rfl ?_
    refine jk_if_ne (q := 3311) (q2 := 3299) dL_law_3296 rfl rfl (by first | decide | assumption | omega) (fun z2 => ?_) (fun z2 => ?_)
    · refine jk_goto (q := 3459) dL_law_3311 rfl ?_
      refine jk_convw (jk_rm (hc _ _ _ _ hlr) (by omega) (by omega)) (jk_wkS rfl (jk_wkS rfl (jk_wkS rfl (jk_wkS rfl (jk_wkS rfl (jk_wkS rfl (jk_wkN (jk_wkN (jk_wkN jk_wk0)))))))))
    · refine jk_aload_n (q := 3300) dL_law_3299 rfl rfl ?_
      refine jk_iconst (q := 3301) dL_law_3300 rfl ?_
      refine jk_laldR (q := 3302) (by first | assumption) (by rfl) (by first | decide | assumption | omega) dL_law_3301 rfl ?_
      refine jk_iload (q := 3304) dL_law_3302 rfl rfl ?_
      refine jk_i2lw (q := 3305) dL_law_3304 rfl ?_
      refine jk_lcmp0 (q := 3306) (by exact hcm (by assumption)) dL_law_3305 rfl ?_
      refine jk_ifT_eq (q := 3311) (by decide) (by decide) dL_law_3306 rfl ?_
      refine jk_goto (q := 3459) dL_law_3311 rfl ?_
      refine jk_convw (jk_rm (hc _ _ _ _ hlr) (by omega) (by omega)) (jk_wkS rfl (jk_wkS rfl (jk_wkS rfl (jk_wkS rfl (jk_wkS rfl (jk_wkS rfl (jk_wkN (jk_wkN (jk_wkN jk_wk0)))))))))
  · exact absurd rfl (by assumption)
theorem lw_59 {G : jk_G} {n : Nat} {t : jk_T} {σ : jk_I} {ρ : jk_P} {L : Nat} {f : Nat → Int} {x m o d k rc rs mc ms : Nat} (hL : L ≤ 2560) (hsc : ∀ s, jk_Z G s → va_T .int (jk_ad G 63) L (fun j => jI (f j)) (jk_A G) s s.heap) (hk : 5 * k + 4 < L) (hmc : mc ≤ 14) (hms : ms ≤ 420) (hrc : 14 ≤ rc) (hrs : 420 ≤ rs) (hF : lc_F G yL_failedCommand mL_failedCommand [(0, 8, 11, 43)] mc ms [.ref x, .ref o] yX13_failedCommand mX13_failedCommand [.ref m] false x m o d k n t σ ρ) (hc : ∀ n' t' σ' ρ', lr x m o d (k + 1) n' t' σ' ρ' → jk_J G mL_law 3459 [some (.ref 63), some (.ref x), some (.ref m), some (.ref o), some (.ref d), some (jI (5 * (k : Int))), none, none, none] [] n' t' σ' ρ' (rc - 14) (rs - 420) lq_Q jk_no) : jk_J G mL_law 3314 [some (.ref 63), some (.ref x), some (.ref m), some (.ref o), some (.ref d), some (jI (5 * (k : Int))), none, none, none] [] n t σ ρ rc rs lq_Q jk_no := by
  obtain ⟨P1, K1, hP1⟩ := hF
  refine jk_aload_n (q := 3315) dL_law_3314 rfl rfl ?_
  refine jk_aload_n (q := 3316) dL_law_3315 rfl rfl ?_
  refine jk_callSH (q := 3319) (As := [.ref x, .ref o]) K1 jm_L_failedCommand jw_1814 rfl rfl rfl (by omega) (by omega) rfl dL_law_3316 rfl (fun v' n' t' σ' ρ' hq => ?_) (fun _ _ _ _ _ h => h.elim)
  obtain ⟨c1, rfl, hc1, hm1, P2, K2, hP2⟩ := hP1 _ _ _ _ _ hq
  simp only [Option.toList_some, List.cons_append, List.nil_append]
  refine jk_istore6 (q := 3321) dL_law_3319 rfl rfl rfl ?_
  refine jk_aload_n (q := 3322) dL_law_3321 rfl rfl ?_
  refine jk_cV0g (q := 3325) (K2) jm_X13_failedCommand jw_2436 rfl (by first | assumption) rfl rfl (Nat.zero_le _) (Nat.zero_le _) rfl dL_law_3322 rfl (fun v' n' t' σ' ρ' hq => ?_) (fun _ _ _ _ _ h => h.elim)
  obtain ⟨v2, rfl, hbo, ⟨O, hat, hO, hO12⟩, hto, hcm, hlr⟩ := hP2 _ _ _ _ _ hq
  have hm2 := hat.1
  simp only [Option.toList_some, List.cons_append, List.nil_append]
  simp only [Nat.sub_zero]
  refine jk_istore7 (q := 3327) dL_law_3325 rfl rfl rfl ?_
  refine jk_aload_n (q := 3328) dL_law_3327 rfl rfl ?_
  refine jk_cV0p (q := 3331) (c_X13_thrown hat hO) jm_X13_thrown jw_1918 rfl (by first | assumption) rfl rfl rfl dL_law_3328 rfl ?_
  rw [hO12]
  refine jk_iload (q := 3333) dL_law_3331 rfl rfl ?_
  refine jk_icmp_eq (q := 3338) (q2 := 3336) dL_law_3333 rfl rfl (by first | decide | assumption | omega) (by first | decide | assumption | omega) (fun z1 => ?_) (fun z1 => ?_)
  · refine jk_iload (q := 3340) dL_law_3338 rfl rfl ?_
    refine jk_if_ne (q := 3355) (q2 := 3343) dL_law_3340 rfl rfl (by first | decide | assumption | omega) (fun z2 => ?_) (fun z2 => ?_)
    · refine jk_goto (q := 3459) dL_law_3355 rfl ?_
      refine jk_convw (jk_rm (hc _ _ _ _ hlr) (by omega) (by omega)) (jk_wkS rfl (jk_wkS rfl (jk_wkS rfl (jk_wkS rfl (jk_wkS rfl (jk_wkS rfl (jk_wkN (jk_wkN (jk_wkN jk_wk0)))))))))
    · refine jk_aload_n (q := 3344) dL_law_3343 rfl rfl ?_
      refine jk_iconst (q := 3345) dL_law_3344 rfl ?_
      refine jk_laldR (q := 3346) (by first | assumption) (by rfl) (by first | decide | assumption | omega) dL_law_3345 rfl ?_
      refine jk_iload (q := 3348) dL_law_3346 rfl rfl ?_
      refine jk_i2lw (q := 3349) dL_law_3348 rfl ?_
      refine jk_lcmp0 (q := 3350) (by exact hcm (by assumption)) dL_law_3349 rfl ?_
      refine jk_ifT_eq (q := 3355) (by decide) (by decide) dL_law_3350 rfl ?_
      refine jk_goto (q := 3459) dL_law_3355 rfl ?_
      refine jk_convw (jk_rm (hc _ _ _ _ hlr) (by omega) (by omega)) (jk_wkS rfl (jk_wkS rfl (jk_wkS rfl (jk_wkS rfl (jk_wkS rfl (jk_wkS rfl (jk_wkN (jk_wkN (jk_wkN jk_wk0)))))))))
  · exact absurd rfl (by assumption)
theorem lw_60 {G : jk_G} {n : Nat} {t : jk_T} {σ : jk_I} {ρ : jk_P} {L : Nat} {f : Nat → Int} {x m o d k rc rs mc ms : Nat} (hL : L ≤ 2560) (hsc : ∀ s, jk_Z G s → va_T .int (jk_ad G 63) L (fun j => jI (f j)) (jk_A G) s s.heap) (hk : 5 * k + 4 < L) (hmc : mc ≤ 14) (hms : ms ≤ 420) (hrc : 14 ≤ rc) (hrs : 420 ≤ rs) (hF : lc_F G yL_undo mL_undo [(0, 8, 11, 43)] mc ms [.ref x, .ref o] yX13_undo mX13_undo [.ref m] false x m o d k n t σ ρ) (hc : ∀ n' t' σ' ρ', lr x m o d (k + 1) n' t' σ' ρ' → jk_J G mL_law 3459 [some (.ref 63), some (.ref x), some (.ref m), some (.ref o), some (.ref d), some (jI (5 * (k : Int))), none, none, none] [] n' t' σ' ρ' (rc - 14) (rs - 420) lq_Q jk_no) : jk_J G mL_law 3358 [some (.ref 63), some (.ref x), some (.ref m), some (.ref o), some (.ref d), some (jI (5 * (k : Int))), none, none, none] [] n t σ ρ rc rs lq_Q jk_no := by
  obtain ⟨P1, K1, hP1⟩ := hF
  refine jk_aload_n (q := 3359) dL_law_3358 rfl rfl ?_
  refine jk_aload_n (q := 3360) dL_law_3359 rfl rfl ?_
  refine jk_callSH (q := 3363) (As := [.ref x, .ref o]) K1 jm_L_undo jw_1822 rfl rfl rfl (by omega) (by omega) rfl dL_law_3360 rfl (fun v' n' t' σ' ρ' hq => ?_) (fun _ _ _ _ _ h => h.elim)
  obtain ⟨c1, rfl, hc1, hm1, P2, K2, hP2⟩ := hP1 _ _ _ _ _ hq
  simp only [Option.toList_some, List.cons_append, List.nil_append]
  refine jk_istore6 (q := 3365) dL_law_3363 rfl rfl rfl ?_
  refine jk_aload_n (q := 3366) dL_law_3365 rfl rfl ?_
  refine jk_cV0g (q := 3369) (K2) jm_X13_undo jw_2440 rfl (by first | assumption) rfl rfl (Nat.zero_le _) (Nat.zero_le _) rfl dL_law_3366 rfl (fun v' n' t' σ' ρ' hq => ?_) (fun _ _ _ _ _ h => h.elim)
  obtain ⟨v2, rfl, hbo, ⟨O, hat, hO, hO12⟩, hto, hcm, hlr⟩ := hP2 _ _ _ _ _ hq
  have hm2 := hat.1
  simp only [Option.toList_some, List.cons_append, List.nil_append]
  simp only [Nat.sub_zero]
  refine jk_istore7 (q := 3371) dL_law_3369 rfl rfl rfl ?_
  refine jk_aload_n (q := 3372) dL_law_3371 rfl rfl ?_
  refine jk_cV0p (q := 3375) (c_X13_thrown hat hO) jm_X13_thrown jw_1918 rfl (by first | assumption) rfl rfl rfl dL_law_3372 rfl ?_
  rw [hO12]
  refine jk_iload (q := 3377) dL_law_3375 rfl rfl ?_
  refine jk_icmp_eq (q := 3382) (q2 := 3380) dL_law_3377 rfl rfl (by first | decide | assumption | omega) (by first | decide | assumption | omega) (fun z1 => ?_) (fun z1 => ?_)
  · refine jk_iload (q := 3384) dL_law_3382 rfl rfl ?_
    refine jk_if_ne (q := 3399) (q2 := 3387) dL_law_3384 rfl rfl (by first | decide | assumption | omega) (fun z2 => ?_) (fun z2 => ?_)
    · refine jk_goto (q := 3459) dL_law_3399 rfl ?_
      refine jk_convw (jk_rm (hc _ _ _ _ hlr) (by omega) (by omega)) (jk_wkS rfl (jk_wkS rfl (jk_wkS rfl (jk_wkS rfl (jk_wkS rfl (jk_wkS rfl (jk_wkN (jk_wkN (jk_wkN jk_wk0)))))))))
    · refine jk_aload_n (q := 3388) dL_law_3387 rfl rfl ?_
      refine jk_iconst (q := 3389) dL_law_3388 rfl ?_
      refine jk_laldR (q := 3390) (by first | assumption) (by rfl) (by first | decide | assumption | omega) dL_law_3389 rfl ?_
      refine jk_iload (q := 3392) dL_law_3390 rfl rfl ?_
      refine jk_i2lw (q := 3393) dL_law_3392 rfl ?_
      refine jk_lcmp0 (q := 3394) (by exact hcm (by assumption)) dL_law_3393 rfl ?_
      refine jk_ifT_eq (q := 3399) (by decide) (by decide) dL_law_3394 rfl ?_
      refine jk_goto (q := 3459) dL_law_3399 rfl ?_
      refine jk_convw (jk_rm (hc _ _ _ _ hlr) (by omega) (by omega)) (jk_wkS rfl (jk_wkS rfl (jk_wkS rfl (jk_wkS rfl (jk_wkS rfl (jk_wkS rfl (jk_wkN (jk_wkN (jk_wkN jk_wk0)))))))))
  · exact absurd rfl (by assumption)
theorem lw_61 {G : jk_G} {n : Nat} {t : jk_T} {σ : jk_I} {ρ : jk_P} {L : Nat} {f : Nat → Int} {x m o d k rc rs mc ms : Nat} (hL : L ≤ 2560) (hsc : ∀ s, jk_Z G s → va_T .int (jk_ad G 63) L (fun j => jI (f j)) (jk_A G) s s.heap) (hk : 5 * k + 4 < L) (hmc : mc ≤ 14) (hms : ms ≤ 420) (hrc : 14 ≤ rc) (hrs : 420 ≤ rs) (hF : lc_V G yX12_save mX12_save mc ms yX13_save mX13_save x m o d k n t σ ρ) (hc : ∀ n' t' σ' ρ', lr x m o d (k + 1) n' t' σ' ρ' → jk_J G mL_law 3459 [some (.ref 63), some (.ref x), some (.ref m), some (.ref o), some (.ref d), some (jI (5 * (k : Int))), none, none, none] [] n' t' σ' ρ' (rc - 14) (rs - 420) lq_Q jk_no) : jk_J G mL_law 3402 [some (.ref 63), some (.ref x), some (.ref m), some (.ref o), some (.ref d), some (jI (5 * (k : Int))), none, none, none] [] n t σ ρ rc rs lq_Q jk_no := by
  obtain ⟨P1, X1, K1, hX1, hx, hP1⟩ := hF
  refine jk_aload_n (q := 3403) dL_law_3402 rfl rfl ?_
  refine jk_cV0g (q := 3406) (K1) jm_X12_save jw_955 rfl (by first | assumption) rfl rfl (by omega) (by omega) rfl dL_law_3403 rfl (fun v' n' t' σ' ρ' hq => ?_) (fun _ _ _ _ _ h => (hX1 _ _ _ _ _ h).elim)
  obtain ⟨v1, rfl, hv1, hm1, P2, K2, hP2⟩ := hP1 _ _ _ _ _ hq
  simp only [Option.toList_some, List.cons_append, List.nil_append]
  refine jk_aload_n (q := 3407) dL_law_3406 rfl rfl ?_
  refine jk_cV0g (q := 3410) (K2) jm_X13_save jw_2444 rfl (by first | assumption) rfl rfl (Nat.zero_le _) (Nat.zero_le _) rfl dL_law_3407 rfl (fun v' n' t' σ' ρ' hq => ?_) (fun _ _ _ _ _ h => h.elim)
  obtain ⟨rfl, hlr⟩ := hP2 _ _ _ _ _ hq
  simp only [Option.toList_some, List.cons_append, List.nil_append]
  simp only [Nat.sub_zero]
  refine jk_icmp_eq (q := 3459) (q2 := 3413) dL_law_3410 rfl rfl (by first | decide | assumption | omega) (by first | decide | assumption | omega) (fun z1 => ?_) (fun z1 => ?_)
  · refine jk_convw (jk_rm (hc _ _ _ _ hlr) (by omega) (by omega)) (jk_wkS rfl (jk_wkS rfl (jk_wkS rfl (jk_wkS rfl (jk_wkS rfl (jk_wkS rfl (jk_wkN (jk_wkN (jk_wkN jk_wk0)))))))))
  · exact absurd rfl (by assumption)
theorem lw_62 {G : jk_G} {n : Nat} {t : jk_T} {σ : jk_I} {ρ : jk_P} {L : Nat} {f : Nat → Int} {x m o d k rc rs mc ms : Nat} (hL : L ≤ 2560) (hsc : ∀ s, jk_Z G s → va_T .int (jk_ad G 63) L (fun j => jI (f j)) (jk_A G) s s.heap) (hk : 5 * k + 4 < L) (hmc : mc ≤ 14) (hms : ms ≤ 420) (hrc : 14 ≤ rc) (hrs : 420 ≤ rs) (hF : lc_F G yL_restore mL_restore [(0, 8, 11, 13)] mc ms [.ref x, .ref o] yX13_restore mX13_restore [.ref m] false x m o d k n t σ ρ) (hc : ∀ n' t' σ' ρ', lr x m o d (k + 1) n' t' σ' ρ' → jk_J G mL_law 3459 [some (.ref 63), some (.ref x), some (.ref m), some (.ref o), some (.ref d), some (jI (5 * (k : Int))), none, none, none] [] n' t' σ' ρ' (rc - 14) (rs - 420) lq_Q jk_no) : jk_J G mL_law 3415 [some (.ref 63), some (.ref x), some (.ref m), some (.ref o), some (.ref d), some (jI (5 * (k : Int))), none, none, none] [] n t σ ρ rc rs lq_Q jk_no := by
  obtain ⟨P1, K1, hP1⟩ := hF
  refine jk_aload_n (q := 3416) dL_law_3415 rfl rfl ?_
  refine jk_aload_n (q := 3417) dL_law_3416 rfl rfl ?_
  refine jk_callSH (q := 3420) (As := [.ref x, .ref o]) K1 jm_L_restore jw_1834 rfl rfl rfl (by omega) (by omega) rfl dL_law_3417 rfl (fun v' n' t' σ' ρ' hq => ?_) (fun _ _ _ _ _ h => h.elim)
  obtain ⟨c1, rfl, hc1, hm1, P2, K2, hP2⟩ := hP1 _ _ _ _ _ hq
  simp only [Option.toList_some, List.cons_append, List.nil_append]
  refine jk_istore6 (q := 3422) dL_law_3420 rfl rfl rfl ?_
  refine jk_aload_n (q := 3423) dL_law_3422 rfl rfl ?_
  refine jk_cV0g (q := 3426) (K2) jm_X13_restore jw_2448 rfl (by first | assumption) rfl rfl (Nat.zero_le _) (Nat.zero_le _) rfl dL_law_3423 rfl (fun v' n' t' σ' ρ' hq => ?_) (fun _ _ _ _ _ h => h.elim)
  obtain ⟨v2, rfl, hbo, ⟨O, hat, hO, hO12⟩, hto, hcm, hlr⟩ := hP2 _ _ _ _ _ hq
  have hm2 := hat.1
  simp only [Option.toList_some, List.cons_append, List.nil_append]
  simp only [Nat.sub_zero]
  refine jk_istore7 (q := 3428) dL_law_3426 rfl rfl rfl ?_
  refine jk_aload_n (q := 3429) dL_law_3428 rfl rfl ?_
  refine jk_cV0p (q := 3432) (c_X13_thrown hat hO) jm_X13_thrown jw_1918 rfl (by first | assumption) rfl rfl rfl dL_law_3429 rfl ?_
  rw [hO12]
  refine jk_iload (q := 3434) dL_law_3432 rfl rfl ?_
  refine jk_icmp_eq (q := 3439) (q2 := 3437) dL_law_3434 rfl rfl (by first | decide | assumption | omega) (by first | decide | assumption | omega) (fun z1 => ?_) (fun z1 => ?_)
  · refine jk_iload (q := 3441) dL_law_3439 rfl rfl ?_
    refine jk_if_ne (q := 3456) (q2 := 3444) dL_law_3441 rfl rfl (by first | decide | assumption | omega) (fun z2 => ?_) (fun z2 => ?_)
    · refine jk_goto (q := 3459) dL_law_3456 rfl ?_
      refine jk_convw (jk_rm (hc _ _ _ _ hlr) (by omega) (by omega)) (jk_wkS rfl (jk_wkS rfl (jk_wkS rfl (jk_wkS rfl (jk_wkS rfl (jk_wkS rfl (jk_wkN (jk_wkN (jk_wkN jk_wk0)))))))))
    · refine jk_aload_n (q := 3445) dL_law_3444 rfl rfl ?_
      refine jk_iconst (q := 3446) dL_law_3445 rfl ?_
      refine jk_laldR (q := 3447) (by first | assumption) (by rfl) (by first | decide | assumption | omega) dL_law_3446 rfl ?_
      refine jk_iload (q := 3449) dL_law_3447 rfl rfl ?_
      refine jk_i2lw (q := 3450) dL_law_3449 rfl ?_
      refine jk_lcmp0 (q := 3451) (by exact hcm (by assumption)) dL_law_3450 rfl ?_
      refine jk_ifT_eq (q := 3456) (by decide) (by decide) dL_law_3451 rfl ?_
      refine jk_goto (q := 3459) dL_law_3456 rfl ?_
      refine jk_convw (jk_rm (hc _ _ _ _ hlr) (by omega) (by omega)) (jk_wkS rfl (jk_wkS rfl (jk_wkS rfl (jk_wkS rfl (jk_wkS rfl (jk_wkS rfl (jk_wkN (jk_wkN (jk_wkN jk_wk0)))))))))
  · exact absurd rfl (by assumption)
end L3
