theorem mz_gh_wi {M : mm_M} {x y : Int32} : ∀ k j : Nat, k < 50 ∨ 65 ≤ k → M.1 k j = (mm_sI (mm_sI M 50 20 x) 50 15 y).1 k j := fun k j hk => by rw [mm_sI_k (by omega), mm_sI_k (by omega)]
set_option maxHeartbeats 1000000 in
set_option maxRecDepth 100000 in
theorem lw_si {pp : Program} {l : Launch} {ee : Env} {ss : State} {mm : MethodId} {bl : List Frame} {mth : Method} {cd : Code} {D : va_G} {ad : Nat → Nat} {q : Nat → ClassId} {A : Nat → Prop} {b : Nat} {Q : State → Prop} (hl0 : l.stackTraces = false) (C : mm_C pp ss mm #[.ref b] cd cL_law 13 wsL_law RL D ad q A) (hAD : mm_AD ad A) (hX9 : mm_XP A ss) {M : mm_M} {N S T X Y : Nat} {tv hv : Int32} {c0 s0 : Nat} (hI : mz_I M N S T) (hT : T ≤ 58000) (hX : X < 2147483648) (hY : Y < 2147483648) (hc0 : c0 + 60 ≤ 600130) (hs0 : s0 + 360 ≤ 7301080) (K : ∀ (M2 : mm_M) (N2 S2 T2 : Nat), T2 ≤ T + 100 → mz_I M2 N2 S2 T2 → mm_G pp l ee room_1 ss mm #[.ref b] bl mth cd (c0 + 60) (s0 + 360) Q 13 D ad q A (M2) 950 [(8, .int (nI Y)), (6, .int (nI X)), (5, .int tv), (4, .int 1), (3, .ref (ad 51)), (2, .ref (ad 50)), (1, .ref (ad 0)), (0, .ref b)] []) : mm_G pp l ee room_1 ss mm #[.ref b] bl mth cd (c0) (s0) Q 13 D ad q A (M) 361 [(8, .int (nI Y)), (7, .int hv), (6, .int (nI X)), (5, .int tv), (4, .int 1), (3, .ref (ad 51)), (2, .ref (ad 50)), (1, .ref (ad 0)), (0, .ref b)] [] := by
  have hN8 := hI.R.N8
  have hS4 := hI.R.S4
  refine r_aload_n C dL_law_361 rfl 7 rfl ?_
  refine r_callV0I C 4 (by decide) rfl (mm_ct4 ad q _) (kX4_silence hAD) (cwV 0 C.1.2.2.2.2 gL_law_X4_silence rfl rfl rfl (by decide +kernel) ⟨Nat.le_of_ble_eq_true rfl, Nat.le_of_ble_eq_true rfl⟩) (Nat.le_of_ble_eq_true rfl) dL_law_362 ⟨rfl, rfl⟩ (by show _ ≤ 600130 ∧ _ ≤ 7301080; omega) ?_
  refine r_topc (y := nI S) (hI.R.cS) ?_
  refine r_gh (M' := mm_sI (mm_sI (mm_sI M 0 6 0) 50 20 0) 50 9 0) mz_gh_si rfl ?_
  refine r_mem (fun M2 eM2 => ?_)
  obtain ⟨hR2, hF, hf⟩ := mz_si hI eM2
  refine r_aload_n C dL_law_365 rfl 6 rfl ?_
  refine r_iconst (v := 2) C dL_law_366 rfl ?_
  refine r_ialdL C mm_aL_50 2 rfl (by decide) dL_law_367 ?_
  refine r_topc (y := nI S) ((hF.hi 65 2 (by omega)).trans hI.m2) ?_
  refine r_icmp_neF (tgt := 382) C dL_law_368 (by decide) (rfl) ?_
  refine r_aload_n C dL_law_371 rfl 7 rfl ?_
  refine r_callV0I C 4 (by decide) rfl (mm_ct4 ad q _) (kX4_silence hAD) (cwV 0 C.1.2.2.2.2 gL_law_X4_silence rfl rfl rfl (by decide +kernel) ⟨Nat.le_of_ble_eq_true rfl, Nat.le_of_ble_eq_true rfl⟩) (Nat.le_of_ble_eq_true rfl) dL_law_372 ⟨rfl, rfl⟩ (by show _ ≤ 600130 ∧ _ ≤ 7301080; omega) ?_
  refine r_topc (y := 0) (hR2.cS) ?_
  refine r_if_neF (tgt := 382) C dL_law_375 (by decide) (by decide) ?_
  refine r_iconst (v := 1) C dL_law_378 rfl ?_
  refine r_goto (tgt := 383) C dL_law_379 (by decide) ?_
  refine r_istore (lv' := [(4, .int 1), (8, .int (nI Y)), (7, .int hv), (6, .int (nI X)), (5, .int tv), (3, .ref (ad 51)), (2, .ref (ad 50)), (1, .ref (ad 0)), (0, .ref b)]) C dL_law_383 (by decide) rfl ?_
  refine r_aload_n C dL_law_385 rfl 6 rfl ?_
  refine r_iconst (v := 2) C dL_law_386 rfl ?_
  refine r_iconst (v := 0) C dL_law_387 rfl ?_
  refine r_iastL C mm_aL_50 (2) (rfl) (by decide) dL_law_388 ?_
  refine r_goto (tgt := 950) C dL_law_389 (by decide) ?_
  refine r_sub (lv' := [(8, .int (nI Y)), (6, .int (nI X)), (5, .int tv), (4, .int 1), (3, .ref (ad 51)), (2, .ref (ad 50)), (1, .ref (ad 0)), (0, .ref b)]) [1, 3, 4, 0, 5, 6, 7, 8] rfl ?_
  exact r_wid (by omega) (by omega) (K _ N 0 T (by omega) hf)

set_option maxHeartbeats 1000000 in
set_option maxRecDepth 100000 in
theorem lw_no {pp : Program} {l : Launch} {ee : Env} {ss : State} {mm : MethodId} {bl : List Frame} {mth : Method} {cd : Code} {D : va_G} {ad : Nat → Nat} {q : Nat → ClassId} {A : Nat → Prop} {b : Nat} {Q : State → Prop} (hl0 : l.stackTraces = false) (C : mm_C pp ss mm #[.ref b] cd cL_law 13 wsL_law RL D ad q A) (hAD : mm_AD ad A) (hX9 : mm_XP A ss) {M : mm_M} {N S T X Y : Nat} {tv hv : Int32} {c0 s0 : Nat} (hI : mz_I M N S T) (hT : T ≤ 58000) (hX : X < 2147483648) (hY : Y < 2147483648) (hc0 : c0 + 60 ≤ 600130) (hs0 : s0 + 360 ≤ 7301080) (K : ∀ (M2 : mm_M) (N2 S2 T2 : Nat), T2 ≤ T + 100 → mz_I M2 N2 S2 T2 → mm_G pp l ee room_1 ss mm #[.ref b] bl mth cd (c0 + 60) (s0 + 360) Q 13 D ad q A (M2) 950 [(8, .int (nI Y)), (6, .int (nI X)), (5, .int tv), (4, .int 1), (3, .ref (ad 51)), (2, .ref (ad 50)), (1, .ref (ad 0)), (0, .ref b)] []) : mm_G pp l ee room_1 ss mm #[.ref b] bl mth cd (c0) (s0) Q 13 D ad q A (M) 405 [(8, .int (nI Y)), (7, .int hv), (6, .int (nI X)), (5, .int tv), (4, .int 1), (3, .ref (ad 51)), (2, .ref (ad 50)), (1, .ref (ad 0)), (0, .ref b)] [] := by
  have n112 : Cond.constant RL 112 (65536) ∈ wsL_law := by decide +kernel
  have hN8 := hI.R.N8
  have hS4 := hI.R.S4
  refine r_iload C dL_law_405 0 rfl ?_
  refine r_iconst (v := 2) C dL_law_407 rfl ?_
  refine r_irem C dL_law_408 (by decide) ?_
  refine r_topc (y := nI (Y % 2)) (mz_rem 2 (X := Y) (by omega) (by omega)) ?_
  refine r_if_ne (tgt := 416) C dL_law_409 (by decide) (fun z409 => ?_) (fun z409 => ?_)
  · refine r_iload C dL_law_416 0 rfl ?_
    refine r_iconst (v := 2) C dL_law_418 rfl ?_
    refine r_idiv C dL_law_419 (by decide) ?_
    refine r_topc (y := nI (Y / 2)) (mz_div 2 (X := Y) (by omega) (by omega)) ?_
    refine r_bipush (v := (51)) C dL_law_420 rfl ?_
    refine r_irem C dL_law_422 (by decide) ?_
    refine r_topc (y := nI ((Y / 2) % 51)) (mz_rem 51 (X := Y / 2) (by omega) (by omega)) ?_
    refine r_istore (lv' := [(9, .int (nI ((Y / 2) % 51))), (8, .int (nI Y)), (7, .int hv), (6, .int (nI X)), (5, .int tv), (4, .int 1), (3, .ref (ad 51)), (2, .ref (ad 50)), (1, .ref (ad 0)), (0, .ref b)]) C dL_law_423 (by decide) rfl ?_
    refine r_aload_n C dL_law_425 rfl 8 rfl ?_
    refine r_iconst (v := 3) C dL_law_426 rfl ?_
    refine r_iload C dL_law_427 0 rfl ?_
    refine r_iconst (v := 1) C dL_law_429 rfl ?_
    refine r_iload C dL_law_430 1 rfl ?_
    refine r_bipush (v := (102)) C dL_law_432 rfl ?_
    refine r_idiv C dL_law_434 (by decide) ?_
    refine r_topc (y := nI (Y / 102)) (mz_div 102 (X := Y) (by omega) (by omega)) ?_
    refine r_ldc C n112 dL_law_435 ?_
    refine r_irem C dL_law_437 (by decide) ?_
    refine r_topc (y := nI ((Y / 102) % 65536)) (mz_rem 65536 (X := Y / 102) (by omega) (by omega)) ?_
    refine r_iadd C dL_law_438 ?_
    refine r_topc (y := nI (1 + ((Y / 102) % 65536))) (mz_add 1 ((Y / 102) % 65536)) ?_
    refine r_iconst (v := 0) C dL_law_439 rfl ?_
    refine r_callW5I C hX9 (mz_act0 (kL_act_3 hAD hl0) (mz_nok0 (mz_l51 Y) (mz_n65 Y)) rfl) (vx_cwSW 5 C.1.2.2.2.2 gL_law_L_act rfl rfl rfl (by decide +kernel) ⟨Nat.le_of_ble_eq_true rfl, Nat.le_of_ble_eq_true rfl⟩) (Nat.le_of_ble_eq_true rfl) dL_law_440 (kc := 1) (ks := 6) ⟨rfl, rfl⟩ (by show _ ≤ 600130 ∧ _ ≤ 7301080; omega) ?_
    refine r_gh (M' := mm_sI (mm_sI (mm_sI (mm_sI (mm_sI M 3 0 (nI ((Y / 2) % 51))) 3 1 (nI (1 + ((Y / 102) % 65536)))) 50 20 0) 50 13 (nI ((Y / 2) % 51))) 50 14 (nI (1 + ((Y / 102) % 65536)))) mz_gh_no rfl ?_
    refine r_mem (fun M2 eM2 => ?_)
    obtain ⟨hF, hf⟩ := mz_no hI (mz_nok0 (mz_l51 Y) (mz_n65 Y)) eM2
    refine r_aload_n C dL_law_443 rfl 7 rfl ?_
    refine r_iconst (v := 3) C dL_law_444 rfl ?_
    refine r_ialdL C mm_aL_50 3 rfl (by decide) dL_law_445 ?_
    refine r_topc (y := M.1 3 0) ((hF.hi 65 3 (by omega)).trans hI.m3) ?_
    refine r_icmp_neF (tgt := 453) C dL_law_446 (by decide) (rfl) ?_
    refine r_iconst (v := 1) C dL_law_449 rfl ?_
    refine r_goto (tgt := 454) C dL_law_450 (by decide) ?_
    refine r_istore (lv' := [(4, .int 1), (9, .int (nI ((Y / 2) % 51))), (8, .int (nI Y)), (7, .int hv), (6, .int (nI X)), (5, .int tv), (3, .ref (ad 51)), (2, .ref (ad 50)), (1, .ref (ad 0)), (0, .ref b)]) C dL_law_454 (by decide) rfl ?_
    refine r_aload_n C dL_law_456 rfl 7 rfl ?_
    refine r_iconst (v := 3) C dL_law_457 rfl ?_
    refine r_iload C dL_law_458 1 rfl ?_
    refine r_iastL C mm_aL_50 (3) (rfl) (by decide) dL_law_460 ?_
    refine r_goto (tgt := 950) C dL_law_461 (by decide) ?_
    refine r_sub (lv' := [(8, .int (nI Y)), (6, .int (nI X)), (5, .int tv), (4, .int 1), (3, .ref (ad 51)), (2, .ref (ad 50)), (1, .ref (ad 0)), (0, .ref b)]) [2, 4, 5, 0, 6, 7, 8, 9] rfl ?_
    exact r_wid (by omega) (by omega) (K _ N S T (by omega) hf)
  · refine r_iconst (v := 0) C dL_law_412 rfl ?_
    refine r_goto (tgt := 423) C dL_law_413 (by decide) ?_
    refine r_istore (lv' := [(9, .int 0), (8, .int (nI Y)), (7, .int hv), (6, .int (nI X)), (5, .int tv), (4, .int 1), (3, .ref (ad 51)), (2, .ref (ad 50)), (1, .ref (ad 0)), (0, .ref b)]) C dL_law_423 (by decide) rfl ?_
    refine r_aload_n C dL_law_425 rfl 8 rfl ?_
    refine r_iconst (v := 3) C dL_law_426 rfl ?_
    refine r_iload C dL_law_427 0 rfl ?_
    refine r_iconst (v := 1) C dL_law_429 rfl ?_
    refine r_iload C dL_law_430 1 rfl ?_
    refine r_bipush (v := (102)) C dL_law_432 rfl ?_
    refine r_idiv C dL_law_434 (by decide) ?_
    refine r_topc (y := nI (Y / 102)) (mz_div 102 (X := Y) (by omega) (by omega)) ?_
    refine r_ldc C n112 dL_law_435 ?_
    refine r_irem C dL_law_437 (by decide) ?_
    refine r_topc (y := nI ((Y / 102) % 65536)) (mz_rem 65536 (X := Y / 102) (by omega) (by omega)) ?_
    refine r_iadd C dL_law_438 ?_
    refine r_topc (y := nI (1 + ((Y / 102) % 65536))) (mz_add 1 ((Y / 102) % 65536)) ?_
    refine r_iconst (v := 0) C dL_law_439 rfl ?_
    refine r_callW5I C hX9 (mz_act0 (kL_act_3 hAD hl0) (mz_nok0 (by decide) (mz_n65 Y)) rfl) (vx_cwSW 5 C.1.2.2.2.2 gL_law_L_act rfl rfl rfl (by decide +kernel) ⟨Nat.le_of_ble_eq_true rfl, Nat.le_of_ble_eq_true rfl⟩) (Nat.le_of_ble_eq_true rfl) dL_law_440 (kc := 1) (ks := 6) ⟨rfl, rfl⟩ (by show _ ≤ 600130 ∧ _ ≤ 7301080; omega) ?_
    refine r_gh (M' := mm_sI (mm_sI (mm_sI (mm_sI (mm_sI M 3 0 0) 3 1 (nI (1 + ((Y / 102) % 65536)))) 50 20 0) 50 13 0) 50 14 (nI (1 + ((Y / 102) % 65536)))) mz_gh_no rfl ?_
    refine r_mem (fun M2 eM2 => ?_)
    obtain ⟨hF, hf⟩ := mz_no hI (mz_nok0 (by decide) (mz_n65 Y)) eM2
    refine r_aload_n C dL_law_443 rfl 7 rfl ?_
    refine r_iconst (v := 3) C dL_law_444 rfl ?_
    refine r_ialdL C mm_aL_50 3 rfl (by decide) dL_law_445 ?_
    refine r_topc (y := M.1 3 0) ((hF.hi 65 3 (by omega)).trans hI.m3) ?_
    refine r_icmp_neF (tgt := 453) C dL_law_446 (by decide) (rfl) ?_
    refine r_iconst (v := 1) C dL_law_449 rfl ?_
    refine r_goto (tgt := 454) C dL_law_450 (by decide) ?_
    refine r_istore (lv' := [(4, .int 1), (9, .int 0), (8, .int (nI Y)), (7, .int hv), (6, .int (nI X)), (5, .int tv), (3, .ref (ad 51)), (2, .ref (ad 50)), (1, .ref (ad 0)), (0, .ref b)]) C dL_law_454 (by decide) rfl ?_
    refine r_aload_n C dL_law_456 rfl 7 rfl ?_
    refine r_iconst (v := 3) C dL_law_457 rfl ?_
    refine r_iload C dL_law_458 1 rfl ?_
    refine r_iastL C mm_aL_50 (3) (rfl) (by decide) dL_law_460 ?_
    refine r_goto (tgt := 950) C dL_law_461 (by decide) ?_
    refine r_sub (lv' := [(8, .int (nI Y)), (6, .int (nI X)), (5, .int tv), (4, .int 1), (3, .ref (ad 51)), (2, .ref (ad 50)), (1, .ref (ad 0)), (0, .ref b)]) [2, 4, 5, 0, 6, 7, 8, 9] rfl ?_
    exact r_wid (by omega) (by omega) (K _ N S T (by omega) hf)

set_option maxHeartbeats 1000000 in
set_option maxRecDepth 100000 in
theorem lw_wi {pp : Program} {l : Launch} {ee : Env} {ss : State} {mm : MethodId} {bl : List Frame} {mth : Method} {cd : Code} {D : va_G} {ad : Nat → Nat} {q : Nat → ClassId} {A : Nat → Prop} {b : Nat} {Q : State → Prop} (hl0 : l.stackTraces = false) (C : mm_C pp ss mm #[.ref b] cd cL_law 13 wsL_law RL D ad q A) (hAD : mm_AD ad A) (hX9 : mm_XP A ss) {M : mm_M} {N S T X Y : Nat} {tv hv : Int32} {c0 s0 : Nat} (hI : mz_I M N S T) (hT : T ≤ 58000) (hX : X < 2147483648) (hY : Y < 2147483648) (hc0 : c0 + 60 ≤ 600130) (hs0 : s0 + 360 ≤ 7301080) (K : ∀ (M2 : mm_M) (N2 S2 T2 : Nat), T2 ≤ T + 100 → mz_I M2 N2 S2 T2 → mm_G pp l ee room_1 ss mm #[.ref b] bl mth cd (c0 + 60) (s0 + 360) Q 13 D ad q A (M2) 950 [(8, .int (nI Y)), (6, .int (nI X)), (5, .int tv), (4, .int 1), (3, .ref (ad 51)), (2, .ref (ad 50)), (1, .ref (ad 0)), (0, .ref b)] []) : mm_G pp l ee room_1 ss mm #[.ref b] bl mth cd (c0) (s0) Q 13 D ad q A (M) 471 [(8, .int (nI Y)), (7, .int hv), (6, .int (nI X)), (5, .int tv), (4, .int 1), (3, .ref (ad 51)), (2, .ref (ad 50)), (1, .ref (ad 0)), (0, .ref b)] [] := by
  have hN8 := hI.R.N8
  have hS4 := hI.R.S4
  refine r_aload_n C dL_law_471 rfl 7 rfl ?_
  refine r_iconst (v := 5) C dL_law_472 rfl ?_
  refine r_iload C dL_law_473 0 rfl ?_
  refine r_iconst (v := 3) C dL_law_475 rfl ?_
  refine r_irem C dL_law_476 (by decide) ?_
  refine r_topc (y := nI (Y % 3)) (mz_rem 3 (X := Y) (by omega) (by omega)) ?_
  refine r_iconst (v := 0) C dL_law_477 rfl ?_
  refine r_iconst (v := 0) C dL_law_478 rfl ?_
  refine r_callW5I C hX9 (mz_act0 (kL_act_5 hAD hl0) (if_neg (mz_w3 Y)) rfl) (vx_cwSW 5 C.1.2.2.2.2 gL_law_L_act rfl rfl rfl (by decide +kernel) ⟨Nat.le_of_ble_eq_true rfl, Nat.le_of_ble_eq_true rfl⟩) (Nat.le_of_ble_eq_true rfl) dL_law_479 (kc := 1) (ks := 6) ⟨rfl, rfl⟩ (by show _ ≤ 600130 ∧ _ ≤ 7301080; omega) ?_
  refine r_gh (M' := mm_sI (mm_sI (mm_sI M 0 7 (nI (Y % 3))) 50 20 0) 50 15 (nI (Y % 3))) mz_gh_wi rfl ?_
  refine r_mem (fun M2 eM2 => ?_)
  obtain ⟨hF, h07, hf⟩ := mz_wi hI (mz_w3 Y) eM2
  refine r_aload_n C dL_law_482 rfl 6 rfl ?_
  refine r_iconst (v := 4) C dL_law_483 rfl ?_
  refine r_ialdL C mm_aL_50 4 rfl (by decide) dL_law_484 ?_
  refine r_topc (y := M.1 0 7) ((hF.hi 65 4 (by omega)).trans hI.m4) ?_
  refine r_icmp_neF (tgt := 510) C dL_law_485 (by decide) (rfl) ?_
  refine r_aload_n C dL_law_488 rfl 7 rfl ?_
  refine r_iconst (v := 5) C dL_law_489 rfl ?_
  refine r_iload C dL_law_490 0 rfl ?_
  refine r_iconst (v := 3) C dL_law_492 rfl ?_
  refine r_irem C dL_law_493 (by decide) ?_
  refine r_topc (y := nI (Y % 3)) (mz_rem 3 (X := Y) (by omega) (by omega)) ?_
  refine r_iconst (v := 0) C dL_law_494 rfl ?_
  refine r_iconst (v := 0) C dL_law_495 rfl ?_
  refine r_callW5I C hX9 (mz_act0 (kL_act_5 hAD hl0) (if_neg (mz_w3 Y)) h07) (vx_cwSW 5 C.1.2.2.2.2 gL_law_L_act rfl rfl rfl (by decide +kernel) ⟨Nat.le_of_ble_eq_true rfl, Nat.le_of_ble_eq_true rfl⟩) (Nat.le_of_ble_eq_true rfl) dL_law_496 (kc := 1) (ks := 6) ⟨rfl, rfl⟩ (by show _ ≤ 600130 ∧ _ ≤ 7301080; omega) ?_
  refine r_iload C dL_law_499 0 rfl ?_
  refine r_iconst (v := 3) C dL_law_501 rfl ?_
  refine r_irem C dL_law_502 (by decide) ?_
  refine r_topc (y := nI (Y % 3)) (mz_rem 3 (X := Y) (by omega) (by omega)) ?_
  refine r_icmp_neF (tgt := 510) C dL_law_503 (by decide) (rfl) ?_
  refine r_iconst (v := 1) C dL_law_506 rfl ?_
  refine r_goto (tgt := 511) C dL_law_507 (by decide) ?_
  refine r_istore (lv' := [(4, .int 1), (8, .int (nI Y)), (7, .int hv), (6, .int (nI X)), (5, .int tv), (3, .ref (ad 51)), (2, .ref (ad 50)), (1, .ref (ad 0)), (0, .ref b)]) C dL_law_511 (by decide) rfl ?_
  refine r_aload_n C dL_law_513 rfl 6 rfl ?_
  refine r_iconst (v := 4) C dL_law_514 rfl ?_
  refine r_iload C dL_law_515 1 rfl ?_
  refine r_iconst (v := 3) C dL_law_517 rfl ?_
  refine r_irem C dL_law_518 (by decide) ?_
  refine r_topc (y := nI (Y % 3)) (mz_rem 3 (X := Y) (by omega) (by omega)) ?_
  refine r_iastL C mm_aL_50 (4) (rfl) (by decide) dL_law_519 ?_
  refine r_goto (tgt := 950) C dL_law_520 (by decide) ?_
  refine r_sub (lv' := [(8, .int (nI Y)), (6, .int (nI X)), (5, .int tv), (4, .int 1), (3, .ref (ad 51)), (2, .ref (ad 50)), (1, .ref (ad 0)), (0, .ref b)]) [1, 3, 4, 0, 5, 6, 7, 8] rfl ?_
  exact r_wid (by omega) (by omega) (K _ N S T (by omega) hf)

set_option maxHeartbeats 1000000 in
set_option maxRecDepth 100000 in
theorem lw_al {pp : Program} {l : Launch} {ee : Env} {ss : State} {mm : MethodId} {bl : List Frame} {mth : Method} {cd : Code} {D : va_G} {ad : Nat → Nat} {q : Nat → ClassId} {A : Nat → Prop} {b : Nat} {Q : State → Prop} (hl0 : l.stackTraces = false) (C : mm_C pp ss mm #[.ref b] cd cL_law 13 wsL_law RL D ad q A) (hAD : mm_AD ad A) (hX9 : mm_XP A ss) {M : mm_M} {N S T X Y : Nat} {tv hv : Int32} {c0 s0 : Nat} (hI : mz_I M N S T) (hT : T ≤ 58000) (hX : X < 2147483648) (hY : Y < 2147483648) (hc0 : c0 + 60 ≤ 600130) (hs0 : s0 + 360 ≤ 7301080) (K : ∀ (M2 : mm_M) (N2 S2 T2 : Nat), T2 ≤ T + 100 → mz_I M2 N2 S2 T2 → mm_G pp l ee room_1 ss mm #[.ref b] bl mth cd (c0 + 60) (s0 + 360) Q 13 D ad q A (M2) 950 [(8, .int (nI Y)), (6, .int (nI X)), (5, .int tv), (4, .int 1), (3, .ref (ad 51)), (2, .ref (ad 50)), (1, .ref (ad 0)), (0, .ref b)] [])(hN : 0 < N) : mm_G pp l ee room_1 ss mm #[.ref b] bl mth cd (c0) (s0) Q 13 D ad q A (M) 543 [(8, .int (nI Y)), (7, .int hv), (6, .int (nI X)), (5, .int tv), (4, .int 1), (3, .ref (ad 51)), (2, .ref (ad 50)), (1, .ref (ad 0)), (0, .ref b)] [] := by
  have hN8 := hI.R.N8
  have hk : Y % N < N := Nat.mod_lt _ hN
  refine r_iload C dL_law_543 0 rfl ?_
  refine r_aload_n C dL_law_545 rfl 6 rfl ?_
  refine r_iconst (v := 1) C dL_law_546 rfl ?_
  refine r_ialdL C mm_aL_50 1 rfl (by decide) dL_law_547 ?_
  refine r_topc (y := nI N) (hI.m1) ?_
  refine r_irem C dL_law_548 (mz_nz hN (by omega)) ?_
  refine r_topc (y := nI (Y % N)) (mz_rem N (X := Y) (by omega) (⟨hN, by omega⟩)) ?_
  refine r_istore (lv' := [(9, .int (nI (Y % N))), (8, .int (nI Y)), (7, .int hv), (6, .int (nI X)), (5, .int tv), (4, .int 1), (3, .ref (ad 51)), (2, .ref (ad 50)), (1, .ref (ad 0)), (0, .ref b)]) C dL_law_549 (by decide) rfl ?_
  refine r_iload C dL_law_551 1 rfl ?_
  refine r_bipush (v := (8)) C dL_law_553 rfl ?_
  refine r_idiv C dL_law_555 (by decide) ?_
  refine r_topc (y := nI (Y / 8)) (mz_div 8 (X := Y) (by omega) (by omega)) ?_
  refine r_iconst (v := 3) C dL_law_556 rfl ?_
  refine r_irem C dL_law_557 (by decide) ?_
  refine r_topc (y := nI ((Y / 8) % 3)) (mz_rem 3 (X := Y / 8) (by omega) (by omega)) ?_
  refine r_if_le (tgt := 565) C dL_law_558 (by decide) (fun z558 => ?_) (fun z558 => ?_)
  · refine r_iconst (v := 0) C dL_law_565 rfl ?_
    refine r_istore (lv' := [(10, .int 0), (9, .int (nI (Y % N))), (8, .int (nI Y)), (7, .int hv), (6, .int (nI X)), (5, .int tv), (4, .int 1), (3, .ref (ad 51)), (2, .ref (ad 50)), (1, .ref (ad 0)), (0, .ref b)]) C dL_law_566 (by decide) rfl ?_
    refine r_aload_n C dL_law_568 rfl 9 rfl ?_
    refine r_iconst (v := 1) C dL_law_569 rfl ?_
    refine r_iload C dL_law_570 1 rfl ?_
    refine r_iload C dL_law_572 0 rfl ?_
    refine r_iconst (v := 0) C dL_law_574 rfl ?_
    refine r_callW5I C hX9 (mz_act0 (kL_act_1_0 hAD hl0 hI.R.lb) (mz_alk0 hI.R hk) (mz_al1 hI.R hk)) (vx_cwSW 5 C.1.2.2.2.2 gL_law_L_act rfl rfl rfl (by decide +kernel) ⟨Nat.le_of_ble_eq_true rfl, Nat.le_of_ble_eq_true rfl⟩) (Nat.le_of_ble_eq_true rfl) dL_law_575 (kc := 1) (ks := 6) ⟨rfl, rfl⟩ (by show _ ≤ 600130 ∧ _ ≤ 7301080; omega) ?_
    refine r_gh (M' := mm_sI (mm_sI (mm_sI M (10 + (nI (Y % N)).toInt.toNat) 4 0) 50 20 0) 55 (nI (Y % N)).toInt.toNat 0) mz_gh_al rfl ?_
    refine r_mem (fun M2 eM2 => ?_)
    obtain ⟨hR2, hF, h55, hf⟩ := mz_alv hI hk (y := 0) (by decide) eM2
    refine r_aload_n C dL_law_578 rfl 7 rfl ?_
    refine r_iconst (v := 2) C dL_law_579 rfl ?_
    refine r_iload C dL_law_580 1 rfl ?_
    refine r_imul C dL_law_582 ?_
    refine r_topc (y := nI (2 * (Y % N))) (mz_mul 2 (Y % N)) ?_
    refine r_ialdL C mm_aL_51 (2 * (Y % N)) (mz_nn (by omega)) (by omega) dL_law_583 ?_
    refine r_topc (y := M.1 55 (Y % N)) ((hF.hi 66 _ (by omega)).trans (hI.e _ hk).1) ?_
    refine r_icmp_neF (tgt := 606) C dL_law_584 (by decide) (rfl) ?_
    refine r_aload_n C dL_law_587 rfl 9 rfl ?_
    refine r_iconst (v := 1) C dL_law_588 rfl ?_
    refine r_iload C dL_law_589 1 rfl ?_
    refine r_iload C dL_law_591 0 rfl ?_
    refine r_iconst (v := 0) C dL_law_593 rfl ?_
    refine r_callW5I C hX9 (mz_act0 (kL_act_1_0 hAD hl0 hR2.lb) (mz_alk0 hR2 hk) (mz_als hR2 hk h55)) (vx_cwSW 5 C.1.2.2.2.2 gL_law_L_act rfl rfl rfl (by decide +kernel) ⟨Nat.le_of_ble_eq_true rfl, Nat.le_of_ble_eq_true rfl⟩) (Nat.le_of_ble_eq_true rfl) dL_law_594 (kc := 1) (ks := 6) ⟨rfl, rfl⟩ (by show _ ≤ 600130 ∧ _ ≤ 7301080; omega) ?_
    refine r_iload C dL_law_597 0 rfl ?_
    refine r_icmp_neF (tgt := 606) C dL_law_599 (by decide) (by decide) ?_
    refine r_iconst (v := 1) C dL_law_602 rfl ?_
    refine r_goto (tgt := 607) C dL_law_603 (by decide) ?_
    refine r_istore (lv' := [(4, .int 1), (10, .int 0), (9, .int (nI (Y % N))), (8, .int (nI Y)), (7, .int hv), (6, .int (nI X)), (5, .int tv), (3, .ref (ad 51)), (2, .ref (ad 50)), (1, .ref (ad 0)), (0, .ref b)]) C dL_law_607 (by decide) rfl ?_
    refine r_aload_n C dL_law_609 rfl 7 rfl ?_
    refine r_iconst (v := 2) C dL_law_610 rfl ?_
    refine r_iload C dL_law_611 2 rfl ?_
    refine r_imul C dL_law_613 ?_
    refine r_topc (y := nI (2 * (Y % N))) (mz_mul 2 (Y % N)) ?_
    refine r_iload C dL_law_614 1 rfl ?_
    refine r_iastL C mm_aL_51 (2 * (Y % N)) (mz_nn (by omega)) (by omega) dL_law_616 ?_
    refine r_goto (tgt := 950) C dL_law_617 (by decide) ?_
    refine r_sub (lv' := [(8, .int (nI Y)), (6, .int (nI X)), (5, .int tv), (4, .int 1), (3, .ref (ad 51)), (2, .ref (ad 50)), (1, .ref (ad 0)), (0, .ref b)]) [3, 5, 6, 0, 7, 8, 9, 10] rfl ?_
    exact r_wid (by omega) (by omega) (K _ N S T (by omega) hf)
  · refine r_iconst (v := 1) C dL_law_561 rfl ?_
    refine r_goto (tgt := 566) C dL_law_562 (by decide) ?_
    refine r_istore (lv' := [(10, .int 1), (9, .int (nI (Y % N))), (8, .int (nI Y)), (7, .int hv), (6, .int (nI X)), (5, .int tv), (4, .int 1), (3, .ref (ad 51)), (2, .ref (ad 50)), (1, .ref (ad 0)), (0, .ref b)]) C dL_law_566 (by decide) rfl ?_
    refine r_aload_n C dL_law_568 rfl 9 rfl ?_
    refine r_iconst (v := 1) C dL_law_569 rfl ?_
    refine r_iload C dL_law_570 1 rfl ?_
    refine r_iload C dL_law_572 0 rfl ?_
    refine r_iconst (v := 0) C dL_law_574 rfl ?_
    refine r_callW5I C hX9 (mz_act0 (kL_act_1_1 hAD hl0 hI.R.lb) (mz_alk0 hI.R hk) (mz_al1 hI.R hk)) (vx_cwSW 5 C.1.2.2.2.2 gL_law_L_act rfl rfl rfl (by decide +kernel) ⟨Nat.le_of_ble_eq_true rfl, Nat.le_of_ble_eq_true rfl⟩) (Nat.le_of_ble_eq_true rfl) dL_law_575 (kc := 1) (ks := 6) ⟨rfl, rfl⟩ (by show _ ≤ 600130 ∧ _ ≤ 7301080; omega) ?_
    refine r_gh (M' := mm_sI (mm_sI (mm_sI M (10 + (nI (Y % N)).toInt.toNat) 4 1) 50 20 0) 55 (nI (Y % N)).toInt.toNat 1) mz_gh_al rfl ?_
    refine r_mem (fun M2 eM2 => ?_)
    obtain ⟨hR2, hF, h55, hf⟩ := mz_alv hI hk (y := 1) (by decide) eM2
    refine r_aload_n C dL_law_578 rfl 7 rfl ?_
    refine r_iconst (v := 2) C dL_law_579 rfl ?_
    refine r_iload C dL_law_580 1 rfl ?_
    refine r_imul C dL_law_582 ?_
    refine r_topc (y := nI (2 * (Y % N))) (mz_mul 2 (Y % N)) ?_
    refine r_ialdL C mm_aL_51 (2 * (Y % N)) (mz_nn (by omega)) (by omega) dL_law_583 ?_
    refine r_topc (y := M.1 55 (Y % N)) ((hF.hi 66 _ (by omega)).trans (hI.e _ hk).1) ?_
    refine r_icmp_neF (tgt := 606) C dL_law_584 (by decide) (rfl) ?_
    refine r_aload_n C dL_law_587 rfl 9 rfl ?_
    refine r_iconst (v := 1) C dL_law_588 rfl ?_
    refine r_iload C dL_law_589 1 rfl ?_
    refine r_iload C dL_law_591 0 rfl ?_
    refine r_iconst (v := 0) C dL_law_593 rfl ?_
    refine r_callW5I C hX9 (mz_act0 (kL_act_1_1 hAD hl0 hR2.lb) (mz_alk0 hR2 hk) (mz_als hR2 hk h55)) (vx_cwSW 5 C.1.2.2.2.2 gL_law_L_act rfl rfl rfl (by decide +kernel) ⟨Nat.le_of_ble_eq_true rfl, Nat.le_of_ble_eq_true rfl⟩) (Nat.le_of_ble_eq_true rfl) dL_law_594 (kc := 1) (ks := 6) ⟨rfl, rfl⟩ (by show _ ≤ 600130 ∧ _ ≤ 7301080; omega) ?_
    refine r_iload C dL_law_597 0 rfl ?_
    refine r_icmp_neF (tgt := 606) C dL_law_599 (by decide) (by decide) ?_
    refine r_iconst (v := 1) C dL_law_602 rfl ?_
    refine r_goto (tgt := 607) C dL_law_603 (by decide) ?_
    refine r_istore (lv' := [(4, .int 1), (10, .int 1), (9, .int (nI (Y % N))), (8, .int (nI Y)), (7, .int hv), (6, .int (nI X)), (5, .int tv), (3, .ref (ad 51)), (2, .ref (ad 50)), (1, .ref (ad 0)), (0, .ref b)]) C dL_law_607 (by decide) rfl ?_
    refine r_aload_n C dL_law_609 rfl 7 rfl ?_
    refine r_iconst (v := 2) C dL_law_610 rfl ?_
    refine r_iload C dL_law_611 2 rfl ?_
    refine r_imul C dL_law_613 ?_
    refine r_topc (y := nI (2 * (Y % N))) (mz_mul 2 (Y % N)) ?_
    refine r_iload C dL_law_614 1 rfl ?_
    refine r_iastL C mm_aL_51 (2 * (Y % N)) (mz_nn (by omega)) (by omega) dL_law_616 ?_
    refine r_goto (tgt := 950) C dL_law_617 (by decide) ?_
    refine r_sub (lv' := [(8, .int (nI Y)), (6, .int (nI X)), (5, .int tv), (4, .int 1), (3, .ref (ad 51)), (2, .ref (ad 50)), (1, .ref (ad 0)), (0, .ref b)]) [3, 5, 6, 0, 7, 8, 9, 10] rfl ?_
    exact r_wid (by omega) (by omega) (K _ N S T (by omega) hf)
