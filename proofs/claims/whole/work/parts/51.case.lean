set_option maxHeartbeats 400000 in
set_option maxRecDepth 100000 in
theorem lw_c4 {p : Program} {l : Launch} {e : Env} {s : State} {m : MethodId} {below : List Frame} {meth : Method} {c : Code} {D : va_G} {ad : Nat → Nat} {q : Nat → ClassId} {A : Nat → Prop} {b L : Nat} {xs : Nat → Int32} {Q : State → Prop} {cells slots : Nat} (hl0 : l.stackTraces = false) (C : mm_C p s m #[.ref b] c cL_law 8 wsL_law RL D ad q A) (hAD : mm_AD ad A) (hX9 : mm_XP A s) (hXs : va_X b L xs s s.heap) (hbl : b < s.heap.size) (hbA : ¬ A b) {M : mm_M} {N S T : Nat} (h : mk_R M N S T) (hT : T ≤ 59000) {i : Nat} (hi : i + 4 ≤ L) (hL : L ≤ 2048) (hc : cells + 1 ≤ 601024) (hs : slots + 6 ≤ 7293034) (K : ∀ (M2 : mm_M) (N2 S2 T2 : Nat), T2 ≤ T + 100 → mk_R M2 N2 S2 T2 → mm_G p l e room_1 s m #[.ref b] below meth c (cells + 1) (slots + 6) Q 8 D ad q A M2 1070 [(4, .int (nI i)), (3, .ref (ad 65)), (2, .ref (ad 50)), (1, .ref (ad 0)), (0, .ref b)] []) : mm_G p l e room_1 s m #[.ref b] below meth c cells slots Q 8 D ad q A M 380 [(4, .int (nI i)), (3, .ref (ad 65)), (2, .ref (ad 50)), (1, .ref (ad 0)), (0, .ref b)] [] := by
  refine r_aload_n C dL_law_380 rfl 3 rfl ?_
  refine r_aload_n C dL_law_381 rfl 4 rfl ?_
  refine r_iload C dL_law_382 0 rfl ?_
  refine r_iconst (v := 1) C dL_law_384 rfl ?_
  refine r_iadd C dL_law_385 ?_
  refine r_sld C hXs hbl hbA (i + 1) (nm_ik (k := 1) (by omega) rfl (by omega)) (by omega) dL_law_386 ?_
  refine r_aload_n C dL_law_387 rfl 4 rfl ?_
  refine r_iload C dL_law_388 0 rfl ?_
  refine r_iconst (v := 2) C dL_law_390 rfl ?_
  refine r_iadd C dL_law_391 ?_
  refine r_sld C hXs hbl hbA (i + 2) (nm_ik (k := 2) (by omega) rfl (by omega)) (by omega) dL_law_392 ?_
  refine r_aload_n C dL_law_393 rfl 1 rfl ?_
  refine r_callW4 C hX9 (kL_noise hAD hl0) (vx_cwSW 4 C.1.2.2.2.2 gL_law_L_noise rfl rfl rfl (by decide +kernel) ⟨Nat.le_of_ble_eq_true rfl, Nat.le_of_ble_eq_true rfl⟩) (Nat.le_of_ble_eq_true rfl) dL_law_394 ⟨hc, hs⟩ ?_
  refine r_mem (fun M1 eM1 => ?_)
  have hq := mq_noise h eM1
  refine r_topi (fun cd ecd => ?_)
  refine r_istore (lv' := [(5, .int cd), (4, .int (nI i)), (3, .ref (ad 65)), (2, .ref (ad 50)), (1, .ref (ad 0)), (0, .ref b)]) C dL_law_397 (by decide) rfl ?_
  refine r_aload_n C dL_law_399 rfl 3 rfl ?_
  refine r_aload_n C dL_law_400 rfl 5 rfl ?_
  refine r_iload C dL_law_401 1 rfl ?_
  refine r_iconst (v := 1) C dL_law_403 rfl ?_
  refine r_iadd C dL_law_404 ?_
  refine r_sld C hXs hbl hbA (i + 1) (nm_ik (k := 1) (by omega) rfl (by omega)) (by omega) dL_law_405 ?_
  refine r_aload_n C dL_law_406 rfl 5 rfl ?_
  refine r_iload C dL_law_407 1 rfl ?_
  refine r_iconst (v := 2) C dL_law_409 rfl ?_
  refine r_iadd C dL_law_410 ?_
  refine r_sld C hXs hbl hbA (i + 2) (nm_ik (k := 2) (by omega) rfl (by omega)) (by omega) dL_law_411 ?_
  refine r_callV2I C 5 (by decide) rfl (mm_ct5 ad q _) (kX5_noise hAD) (cwV 2 C.1.2.2.2.2 gL_law_X5_noise rfl rfl rfl (by decide +kernel) ⟨Nat.le_of_ble_eq_true rfl, Nat.le_of_ble_eq_true rfl⟩) (Nat.le_of_ble_eq_true rfl) dL_law_412 ⟨rfl, rfl⟩ ⟨hc, hs⟩ ?_
  refine r_mem (fun M2 eM2 => ?_)
  refine r_topi (fun rr err => ?_)
  rw [← eM2] at hq
  rw [← err, ← ecd] at hq
  refine r_istore (lv' := [(6, .int rr), (5, .int cd), (4, .int (nI i)), (3, .ref (ad 65)), (2, .ref (ad 50)), (1, .ref (ad 0)), (0, .ref b)]) C dL_law_415 (by decide) rfl ?_
  refine r_aload_n C dL_law_417 rfl 4 rfl ?_
  refine r_callV0I C 5 (by decide) rfl (mm_ct5 ad q _) (kX5_thrown hAD) (cwV 0 C.1.2.2.2.2 gL_law_X5_thrown rfl rfl rfl (by decide +kernel) ⟨Nat.le_of_ble_eq_true rfl, Nat.le_of_ble_eq_true rfl⟩) (Nat.le_of_ble_eq_true rfl) dL_law_418 ⟨rfl, rfl⟩ ⟨hc, hs⟩ ?_
  refine r_iload C dL_law_421 1 rfl ?_
  refine r_icmp_eq (tgt := 428) C dL_law_423 (by decide) (fun z1 => ?_) (fun z1 => ?_)
  · refine r_iload C dL_law_428 1 rfl ?_
    refine r_if_ne (tgt := 445) C dL_law_430 (by decide) (fun z2 => ?_) (fun z2 => ?_)
    · refine r_goto (tgt := 1070) C dL_law_445 (by decide) ?_
      refine r_sub (lv' := [(4, .int (nI i)), (3, .ref (ad 65)), (2, .ref (ad 50)), (1, .ref (ad 0)), (0, .ref b)]) [2, 3, 4, 5, 6] rfl ?_
      obtain ⟨N2, S2, T2, g1, g2⟩ := hq.2.2
      exact K M2 N2 S2 T2 g1 g2
    · refine r_aload_n C dL_law_433 rfl 3 rfl ?_
      refine r_iconst (v := 0) C dL_law_434 rfl ?_
      refine r_lald C mm_aJ_65 0 rfl (by decide) dL_law_435 ?_
      refine r_iload C dL_law_436 0 rfl ?_
      refine r_i2l C dL_law_438 ?_
      refine r_lcmp C dL_law_439 ?_
      refine r_if_eq (tgt := 445) C dL_law_440 (by decide) (fun z3 => ?_) (fun z3 => ?_)
      · refine r_goto (tgt := 1070) C dL_law_445 (by decide) ?_
        refine r_sub (lv' := [(4, .int (nI i)), (3, .ref (ad 65)), (2, .ref (ad 50)), (1, .ref (ad 0)), (0, .ref b)]) [2, 3, 4, 5, 6] rfl ?_
        obtain ⟨N2, S2, T2, g1, g2⟩ := hq.2.2
        exact K M2 N2 S2 T2 g1 g2
      · exact absurd (lg_eq0.mpr (hq.2.1 z2)) z3
  · exact absurd (hq.1) z1

set_option maxHeartbeats 400000 in
set_option maxRecDepth 100000 in
theorem lw_c5 {p : Program} {l : Launch} {e : Env} {s : State} {m : MethodId} {below : List Frame} {meth : Method} {c : Code} {D : va_G} {ad : Nat → Nat} {q : Nat → ClassId} {A : Nat → Prop} {b L : Nat} {xs : Nat → Int32} {Q : State → Prop} {cells slots : Nat} (hl0 : l.stackTraces = false) (C : mm_C p s m #[.ref b] c cL_law 8 wsL_law RL D ad q A) (hAD : mm_AD ad A) (hX9 : mm_XP A s) (hXs : va_X b L xs s s.heap) (hbl : b < s.heap.size) (hbA : ¬ A b) {M : mm_M} {N S T : Nat} (h : mk_R M N S T) (hT : T ≤ 59000) {i : Nat} (hi : i + 4 ≤ L) (hL : L ≤ 2048) (hc : cells + 1 ≤ 601024) (hs : slots + 6 ≤ 7293034) (K : ∀ (M2 : mm_M) (N2 S2 T2 : Nat), T2 ≤ T + 100 → mk_R M2 N2 S2 T2 → mm_G p l e room_1 s m #[.ref b] below meth c (cells + 1) (slots + 6) Q 8 D ad q A M2 1070 [(4, .int (nI i)), (3, .ref (ad 65)), (2, .ref (ad 50)), (1, .ref (ad 0)), (0, .ref b)] []) : mm_G p l e room_1 s m #[.ref b] below meth c cells slots Q 8 D ad q A M 448 [(4, .int (nI i)), (3, .ref (ad 65)), (2, .ref (ad 50)), (1, .ref (ad 0)), (0, .ref b)] [] := by
  refine r_aload_n C dL_law_448 rfl 3 rfl ?_
  refine r_aload_n C dL_law_449 rfl 4 rfl ?_
  refine r_iload C dL_law_450 0 rfl ?_
  refine r_iconst (v := 1) C dL_law_452 rfl ?_
  refine r_iadd C dL_law_453 ?_
  refine r_sld C hXs hbl hbA (i + 1) (nm_ik (k := 1) (by omega) rfl (by omega)) (by omega) dL_law_454 ?_
  refine r_aload_n C dL_law_455 rfl 1 rfl ?_
  refine r_callW3 C hX9 (kL_hear hAD hl0 h.lb h.ub h.cS h.S4) (vx_cwSW 3 C.1.2.2.2.2 gL_law_L_hear rfl rfl rfl (by decide +kernel) ⟨Nat.le_of_ble_eq_true rfl, Nat.le_of_ble_eq_true rfl⟩) (Nat.le_of_ble_eq_true rfl) dL_law_456 ⟨hc, hs⟩ ?_
  refine r_mem (fun M1 eM1 => ?_)
  have hq := mq_hear h hT eM1
  refine r_topi (fun cd ecd => ?_)
  refine r_istore (lv' := [(5, .int cd), (4, .int (nI i)), (3, .ref (ad 65)), (2, .ref (ad 50)), (1, .ref (ad 0)), (0, .ref b)]) C dL_law_459 (by decide) rfl ?_
  refine r_aload_n C dL_law_461 rfl 3 rfl ?_
  refine r_aload_n C dL_law_462 rfl 5 rfl ?_
  refine r_iload C dL_law_463 1 rfl ?_
  refine r_iconst (v := 1) C dL_law_465 rfl ?_
  refine r_iadd C dL_law_466 ?_
  refine r_sld C hXs hbl hbA (i + 1) (nm_ik (k := 1) (by omega) rfl (by omega)) (by omega) dL_law_467 ?_
  refine r_callV1I C 5 (by decide) rfl (mm_ct5 ad q _) (kX5_hear hAD hq.1.1 h.N8 hq.1.2.1 h.S4 hq.1.2.2.1 hq.1.2.2.2.1 hq.1.2.2.2.2) (cwV 1 C.1.2.2.2.2 gL_law_X5_hear rfl rfl rfl (by decide +kernel) ⟨Nat.le_of_ble_eq_true rfl, Nat.le_of_ble_eq_true rfl⟩) (Nat.le_of_ble_eq_true rfl) dL_law_468 ⟨rfl, rfl⟩ ⟨hc, hs⟩ ?_
  refine r_mem (fun M2 eM2 => ?_)
  refine r_topi (fun rr err => ?_)
  rw [← eM2] at hq
  rw [← err, ← ecd] at hq
  refine r_istore (lv' := [(6, .int rr), (5, .int cd), (4, .int (nI i)), (3, .ref (ad 65)), (2, .ref (ad 50)), (1, .ref (ad 0)), (0, .ref b)]) C dL_law_471 (by decide) rfl ?_
  refine r_aload_n C dL_law_473 rfl 4 rfl ?_
  refine r_callV0I C 5 (by decide) rfl (mm_ct5 ad q _) (kX5_thrown hAD) (cwV 0 C.1.2.2.2.2 gL_law_X5_thrown rfl rfl rfl (by decide +kernel) ⟨Nat.le_of_ble_eq_true rfl, Nat.le_of_ble_eq_true rfl⟩) (Nat.le_of_ble_eq_true rfl) dL_law_474 ⟨rfl, rfl⟩ ⟨hc, hs⟩ ?_
  refine r_iload C dL_law_477 1 rfl ?_
  refine r_icmp_eq (tgt := 484) C dL_law_479 (by decide) (fun z1 => ?_) (fun z1 => ?_)
  · refine r_iload C dL_law_484 1 rfl ?_
    refine r_if_ne (tgt := 501) C dL_law_486 (by decide) (fun z2 => ?_) (fun z2 => ?_)
    · refine r_goto (tgt := 1070) C dL_law_501 (by decide) ?_
      refine r_sub (lv' := [(4, .int (nI i)), (3, .ref (ad 65)), (2, .ref (ad 50)), (1, .ref (ad 0)), (0, .ref b)]) [2, 3, 4, 5, 6] rfl ?_
      obtain ⟨N2, S2, T2, g1, g2⟩ := hq.2.2.2
      exact K M2 N2 S2 T2 g1 g2
    · refine r_aload_n C dL_law_489 rfl 3 rfl ?_
      refine r_iconst (v := 0) C dL_law_490 rfl ?_
      refine r_lald C mm_aJ_65 0 rfl (by decide) dL_law_491 ?_
      refine r_iload C dL_law_492 0 rfl ?_
      refine r_i2l C dL_law_494 ?_
      refine r_lcmp C dL_law_495 ?_
      refine r_if_eq (tgt := 501) C dL_law_496 (by decide) (fun z3 => ?_) (fun z3 => ?_)
      · refine r_goto (tgt := 1070) C dL_law_501 (by decide) ?_
        refine r_sub (lv' := [(4, .int (nI i)), (3, .ref (ad 65)), (2, .ref (ad 50)), (1, .ref (ad 0)), (0, .ref b)]) [2, 3, 4, 5, 6] rfl ?_
        obtain ⟨N2, S2, T2, g1, g2⟩ := hq.2.2.2
        exact K M2 N2 S2 T2 g1 g2
      · exact absurd (lg_eq0.mpr (hq.2.2.1 z2)) z3
  · exact absurd (hq.2.1) z1

set_option maxHeartbeats 400000 in
set_option maxRecDepth 100000 in
theorem lw_c6 {p : Program} {l : Launch} {e : Env} {s : State} {m : MethodId} {below : List Frame} {meth : Method} {c : Code} {D : va_G} {ad : Nat → Nat} {q : Nat → ClassId} {A : Nat → Prop} {b L : Nat} {xs : Nat → Int32} {Q : State → Prop} {cells slots : Nat} (hl0 : l.stackTraces = false) (C : mm_C p s m #[.ref b] c cL_law 8 wsL_law RL D ad q A) (hAD : mm_AD ad A) (hX9 : mm_XP A s) (hXs : va_X b L xs s s.heap) (hbl : b < s.heap.size) (hbA : ¬ A b) {M : mm_M} {N S T : Nat} (h : mk_R M N S T) (hT : T ≤ 59000) {i : Nat} (hi : i + 4 ≤ L) (hL : L ≤ 2048) (hc : cells + 1 ≤ 601024) (hs : slots + 6 ≤ 7293034) (K : ∀ (M2 : mm_M) (N2 S2 T2 : Nat), T2 ≤ T + 100 → mk_R M2 N2 S2 T2 → mm_G p l e room_1 s m #[.ref b] below meth c (cells + 1) (slots + 6) Q 8 D ad q A M2 1070 [(4, .int (nI i)), (3, .ref (ad 65)), (2, .ref (ad 50)), (1, .ref (ad 0)), (0, .ref b)] []) : mm_G p l e room_1 s m #[.ref b] below meth c cells slots Q 8 D ad q A M 504 [(4, .int (nI i)), (3, .ref (ad 65)), (2, .ref (ad 50)), (1, .ref (ad 0)), (0, .ref b)] [] := by
  refine r_aload_n C dL_law_504 rfl 3 rfl ?_
  refine r_aload_n C dL_law_505 rfl 4 rfl ?_
  refine r_iload C dL_law_506 0 rfl ?_
  refine r_iconst (v := 1) C dL_law_508 rfl ?_
  refine r_iadd C dL_law_509 ?_
  refine r_sld C hXs hbl hbA (i + 1) (nm_ik (k := 1) (by omega) rfl (by omega)) (by omega) dL_law_510 ?_
  refine r_aload_n C dL_law_511 rfl 1 rfl ?_
  refine r_callW3 C hX9 (kL_window hAD hl0) (vx_cwSW 3 C.1.2.2.2.2 gL_law_L_window rfl rfl rfl (by decide +kernel) ⟨Nat.le_of_ble_eq_true rfl, Nat.le_of_ble_eq_true rfl⟩) (Nat.le_of_ble_eq_true rfl) dL_law_512 ⟨hc, hs⟩ ?_
  refine r_mem (fun M1 eM1 => ?_)
  have hq := mq_window h eM1
  refine r_topi (fun cd ecd => ?_)
  refine r_istore (lv' := [(5, .int cd), (4, .int (nI i)), (3, .ref (ad 65)), (2, .ref (ad 50)), (1, .ref (ad 0)), (0, .ref b)]) C dL_law_515 (by decide) rfl ?_
  refine r_aload_n C dL_law_517 rfl 3 rfl ?_
  refine r_aload_n C dL_law_518 rfl 5 rfl ?_
  refine r_iload C dL_law_519 1 rfl ?_
  refine r_iconst (v := 1) C dL_law_521 rfl ?_
  refine r_iadd C dL_law_522 ?_
  refine r_sld C hXs hbl hbA (i + 1) (nm_ik (k := 1) (by omega) rfl (by omega)) (by omega) dL_law_523 ?_
  refine r_callV1I C 5 (by decide) rfl (mm_ct5 ad q _) (kX5_window hAD) (cwV 1 C.1.2.2.2.2 gL_law_X5_window rfl rfl rfl (by decide +kernel) ⟨Nat.le_of_ble_eq_true rfl, Nat.le_of_ble_eq_true rfl⟩) (Nat.le_of_ble_eq_true rfl) dL_law_524 ⟨rfl, rfl⟩ ⟨hc, hs⟩ ?_
  refine r_mem (fun M2 eM2 => ?_)
  refine r_topi (fun rr err => ?_)
  rw [← eM2] at hq
  rw [← err, ← ecd] at hq
  refine r_istore (lv' := [(6, .int rr), (5, .int cd), (4, .int (nI i)), (3, .ref (ad 65)), (2, .ref (ad 50)), (1, .ref (ad 0)), (0, .ref b)]) C dL_law_527 (by decide) rfl ?_
  refine r_aload_n C dL_law_529 rfl 4 rfl ?_
  refine r_callV0I C 5 (by decide) rfl (mm_ct5 ad q _) (kX5_thrown hAD) (cwV 0 C.1.2.2.2.2 gL_law_X5_thrown rfl rfl rfl (by decide +kernel) ⟨Nat.le_of_ble_eq_true rfl, Nat.le_of_ble_eq_true rfl⟩) (Nat.le_of_ble_eq_true rfl) dL_law_530 ⟨rfl, rfl⟩ ⟨hc, hs⟩ ?_
  refine r_iload C dL_law_533 1 rfl ?_
  refine r_icmp_eq (tgt := 540) C dL_law_535 (by decide) (fun z1 => ?_) (fun z1 => ?_)
  · refine r_iload C dL_law_540 1 rfl ?_
    refine r_if_ne (tgt := 557) C dL_law_542 (by decide) (fun z2 => ?_) (fun z2 => ?_)
    · refine r_goto (tgt := 1070) C dL_law_557 (by decide) ?_
      refine r_sub (lv' := [(4, .int (nI i)), (3, .ref (ad 65)), (2, .ref (ad 50)), (1, .ref (ad 0)), (0, .ref b)]) [2, 3, 4, 5, 6] rfl ?_
      obtain ⟨N2, S2, T2, g1, g2⟩ := hq.2.2
      exact K M2 N2 S2 T2 g1 g2
    · refine r_aload_n C dL_law_545 rfl 3 rfl ?_
      refine r_iconst (v := 0) C dL_law_546 rfl ?_
      refine r_lald C mm_aJ_65 0 rfl (by decide) dL_law_547 ?_
      refine r_iload C dL_law_548 0 rfl ?_
      refine r_i2l C dL_law_550 ?_
      refine r_lcmp C dL_law_551 ?_
      refine r_if_eq (tgt := 557) C dL_law_552 (by decide) (fun z3 => ?_) (fun z3 => ?_)
      · refine r_goto (tgt := 1070) C dL_law_557 (by decide) ?_
        refine r_sub (lv' := [(4, .int (nI i)), (3, .ref (ad 65)), (2, .ref (ad 50)), (1, .ref (ad 0)), (0, .ref b)]) [2, 3, 4, 5, 6] rfl ?_
        obtain ⟨N2, S2, T2, g1, g2⟩ := hq.2.2
        exact K M2 N2 S2 T2 g1 g2
      · exact absurd (lg_eq0.mpr (hq.2.1 z2)) z3
  · exact absurd (hq.1) z1

set_option maxHeartbeats 400000 in
set_option maxRecDepth 100000 in
theorem lw_c7 {p : Program} {l : Launch} {e : Env} {s : State} {m : MethodId} {below : List Frame} {meth : Method} {c : Code} {D : va_G} {ad : Nat → Nat} {q : Nat → ClassId} {A : Nat → Prop} {b L : Nat} {xs : Nat → Int32} {Q : State → Prop} {cells slots : Nat} (hl0 : l.stackTraces = false) (C : mm_C p s m #[.ref b] c cL_law 8 wsL_law RL D ad q A) (hAD : mm_AD ad A) (hX9 : mm_XP A s) (hXs : va_X b L xs s s.heap) (hbl : b < s.heap.size) (hbA : ¬ A b) {M : mm_M} {N S T : Nat} (h : mk_R M N S T) (hT : T ≤ 59000) {i : Nat} (hi : i + 4 ≤ L) (hL : L ≤ 2048) (hc : cells + 1 ≤ 601024) (hs : slots + 6 ≤ 7293034) (K : ∀ (M2 : mm_M) (N2 S2 T2 : Nat), T2 ≤ T + 100 → mk_R M2 N2 S2 T2 → mm_G p l e room_1 s m #[.ref b] below meth c (cells + 1) (slots + 6) Q 8 D ad q A M2 1070 [(4, .int (nI i)), (3, .ref (ad 65)), (2, .ref (ad 50)), (1, .ref (ad 0)), (0, .ref b)] []) : mm_G p l e room_1 s m #[.ref b] below meth c cells slots Q 8 D ad q A M 560 [(4, .int (nI i)), (3, .ref (ad 65)), (2, .ref (ad 50)), (1, .ref (ad 0)), (0, .ref b)] [] := by
  refine r_aload_n C dL_law_560 rfl 3 rfl ?_
  refine r_aload_n C dL_law_561 rfl 4 rfl ?_
  refine r_iload C dL_law_562 0 rfl ?_
  refine r_iconst (v := 1) C dL_law_564 rfl ?_
  refine r_iadd C dL_law_565 ?_
  refine r_sld C hXs hbl hbA (i + 1) (nm_ik (k := 1) (by omega) rfl (by omega)) (by omega) dL_law_566 ?_
  refine r_aload_n C dL_law_567 rfl 1 rfl ?_
  refine r_callW3 C hX9 (kL_calibrate hAD hl0 h.lb) (vx_cwSW 3 C.1.2.2.2.2 gL_law_L_calibrate rfl rfl rfl (by decide +kernel) ⟨Nat.le_of_ble_eq_true rfl, Nat.le_of_ble_eq_true rfl⟩) (Nat.le_of_ble_eq_true rfl) dL_law_568 ⟨hc, hs⟩ ?_
  refine r_mem (fun M1 eM1 => ?_)
  have hq := mq_calibrate h hT eM1
  refine r_topi (fun cd ecd => ?_)
  refine r_istore (lv' := [(5, .int cd), (4, .int (nI i)), (3, .ref (ad 65)), (2, .ref (ad 50)), (1, .ref (ad 0)), (0, .ref b)]) C dL_law_571 (by decide) rfl ?_
  refine r_aload_n C dL_law_573 rfl 3 rfl ?_
  refine r_aload_n C dL_law_574 rfl 5 rfl ?_
  refine r_iload C dL_law_575 1 rfl ?_
  refine r_iconst (v := 1) C dL_law_577 rfl ?_
  refine r_iadd C dL_law_578 ?_
  refine r_sld C hXs hbl hbA (i + 1) (nm_ik (k := 1) (by omega) rfl (by omega)) (by omega) dL_law_579 ?_
  refine r_callV1I C 5 (by decide) rfl (mm_ct5 ad q _) (kX5_calibrate hAD hq.1.1 h.N8 hq.1.2) (cwV 1 C.1.2.2.2.2 gL_law_X5_calibrate rfl rfl rfl (by decide +kernel) ⟨Nat.le_of_ble_eq_true rfl, Nat.le_of_ble_eq_true rfl⟩) (Nat.le_of_ble_eq_true rfl) dL_law_580 ⟨rfl, rfl⟩ ⟨hc, hs⟩ ?_
  refine r_mem (fun M2 eM2 => ?_)
  refine r_topi (fun rr err => ?_)
  rw [← eM2] at hq
  rw [← err, ← ecd] at hq
  refine r_istore (lv' := [(6, .int rr), (5, .int cd), (4, .int (nI i)), (3, .ref (ad 65)), (2, .ref (ad 50)), (1, .ref (ad 0)), (0, .ref b)]) C dL_law_583 (by decide) rfl ?_
  refine r_aload_n C dL_law_585 rfl 4 rfl ?_
  refine r_callV0I C 5 (by decide) rfl (mm_ct5 ad q _) (kX5_thrown hAD) (cwV 0 C.1.2.2.2.2 gL_law_X5_thrown rfl rfl rfl (by decide +kernel) ⟨Nat.le_of_ble_eq_true rfl, Nat.le_of_ble_eq_true rfl⟩) (Nat.le_of_ble_eq_true rfl) dL_law_586 ⟨rfl, rfl⟩ ⟨hc, hs⟩ ?_
  refine r_iload C dL_law_589 1 rfl ?_
  refine r_icmp_eq (tgt := 596) C dL_law_591 (by decide) (fun z1 => ?_) (fun z1 => ?_)
  · refine r_iload C dL_law_596 1 rfl ?_
    refine r_if_ne (tgt := 613) C dL_law_598 (by decide) (fun z2 => ?_) (fun z2 => ?_)
    · refine r_goto (tgt := 1070) C dL_law_613 (by decide) ?_
      refine r_sub (lv' := [(4, .int (nI i)), (3, .ref (ad 65)), (2, .ref (ad 50)), (1, .ref (ad 0)), (0, .ref b)]) [2, 3, 4, 5, 6] rfl ?_
      obtain ⟨N2, S2, T2, g1, g2⟩ := hq.2.2.2
      exact K M2 N2 S2 T2 g1 g2
    · refine r_aload_n C dL_law_601 rfl 3 rfl ?_
      refine r_iconst (v := 0) C dL_law_602 rfl ?_
      refine r_lald C mm_aJ_65 0 rfl (by decide) dL_law_603 ?_
      refine r_iload C dL_law_604 0 rfl ?_
      refine r_i2l C dL_law_606 ?_
      refine r_lcmp C dL_law_607 ?_
      refine r_if_eq (tgt := 613) C dL_law_608 (by decide) (fun z3 => ?_) (fun z3 => ?_)
      · refine r_goto (tgt := 1070) C dL_law_613 (by decide) ?_
        refine r_sub (lv' := [(4, .int (nI i)), (3, .ref (ad 65)), (2, .ref (ad 50)), (1, .ref (ad 0)), (0, .ref b)]) [2, 3, 4, 5, 6] rfl ?_
        obtain ⟨N2, S2, T2, g1, g2⟩ := hq.2.2.2
        exact K M2 N2 S2 T2 g1 g2
      · exact absurd (lg_eq0.mpr (hq.2.2.1 z2)) z3
  · exact absurd (hq.2.1) z1

set_option maxHeartbeats 400000 in
set_option maxRecDepth 100000 in
theorem lw_c8 {p : Program} {l : Launch} {e : Env} {s : State} {m : MethodId} {below : List Frame} {meth : Method} {c : Code} {D : va_G} {ad : Nat → Nat} {q : Nat → ClassId} {A : Nat → Prop} {b L : Nat} {xs : Nat → Int32} {Q : State → Prop} {cells slots : Nat} (hl0 : l.stackTraces = false) (C : mm_C p s m #[.ref b] c cL_law 8 wsL_law RL D ad q A) (hAD : mm_AD ad A) (hX9 : mm_XP A s) (hXs : va_X b L xs s s.heap) (hbl : b < s.heap.size) (hbA : ¬ A b) {M : mm_M} {N S T : Nat} (h : mk_R M N S T) (hT : T ≤ 59000) {i : Nat} (hi : i + 4 ≤ L) (hL : L ≤ 2048) (hc : cells + 1 ≤ 601024) (hs : slots + 6 ≤ 7293034) (K : ∀ (M2 : mm_M) (N2 S2 T2 : Nat), T2 ≤ T + 100 → mk_R M2 N2 S2 T2 → mm_G p l e room_1 s m #[.ref b] below meth c (cells + 1) (slots + 6) Q 8 D ad q A M2 1070 [(4, .int (nI i)), (3, .ref (ad 65)), (2, .ref (ad 50)), (1, .ref (ad 0)), (0, .ref b)] []) : mm_G p l e room_1 s m #[.ref b] below meth c cells slots Q 8 D ad q A M 616 [(4, .int (nI i)), (3, .ref (ad 65)), (2, .ref (ad 50)), (1, .ref (ad 0)), (0, .ref b)] [] := by
  refine r_aload_n C dL_law_616 rfl 3 rfl ?_
  refine r_aload_n C dL_law_617 rfl 4 rfl ?_
  refine r_iload C dL_law_618 0 rfl ?_
  refine r_iconst (v := 1) C dL_law_620 rfl ?_
  refine r_iadd C dL_law_621 ?_
  refine r_sld C hXs hbl hbA (i + 1) (nm_ik (k := 1) (by omega) rfl (by omega)) (by omega) dL_law_622 ?_
  refine r_aload_n C dL_law_623 rfl 4 rfl ?_
  refine r_iload C dL_law_624 0 rfl ?_
  refine r_iconst (v := 2) C dL_law_626 rfl ?_
  refine r_iadd C dL_law_627 ?_
  refine r_sld C hXs hbl hbA (i + 2) (nm_ik (k := 2) (by omega) rfl (by omega)) (by omega) dL_law_628 ?_
  refine r_aload_n C dL_law_629 rfl 1 rfl ?_
  refine r_callW4 C hX9 (kL_sample hAD hl0) (vx_cwSW 4 C.1.2.2.2.2 gL_law_L_sample rfl rfl rfl (by decide +kernel) ⟨Nat.le_of_ble_eq_true rfl, Nat.le_of_ble_eq_true rfl⟩) (Nat.le_of_ble_eq_true rfl) dL_law_630 ⟨hc, hs⟩ ?_
  refine r_mem (fun M1 eM1 => ?_)
  have hq := mq_sample h hT eM1
  refine r_topi (fun cd ecd => ?_)
  refine r_istore (lv' := [(5, .int cd), (4, .int (nI i)), (3, .ref (ad 65)), (2, .ref (ad 50)), (1, .ref (ad 0)), (0, .ref b)]) C dL_law_633 (by decide) rfl ?_
  refine r_aload_n C dL_law_635 rfl 3 rfl ?_
  refine r_aload_n C dL_law_636 rfl 5 rfl ?_
  refine r_iload C dL_law_637 1 rfl ?_
  refine r_iconst (v := 1) C dL_law_639 rfl ?_
  refine r_iadd C dL_law_640 ?_
  refine r_sld C hXs hbl hbA (i + 1) (nm_ik (k := 1) (by omega) rfl (by omega)) (by omega) dL_law_641 ?_
  refine r_aload_n C dL_law_642 rfl 5 rfl ?_
  refine r_iload C dL_law_643 1 rfl ?_
  refine r_iconst (v := 2) C dL_law_645 rfl ?_
  refine r_iadd C dL_law_646 ?_
  refine r_sld C hXs hbl hbA (i + 2) (nm_ik (k := 2) (by omega) rfl (by omega)) (by omega) dL_law_647 ?_
  refine r_callV2I C 5 (by decide) rfl (mm_ct5 ad q _) (kX5_sample hAD hq.1 h.N8) (cwV 2 C.1.2.2.2.2 gL_law_X5_sample rfl rfl rfl (by decide +kernel) ⟨Nat.le_of_ble_eq_true rfl, Nat.le_of_ble_eq_true rfl⟩) (Nat.le_of_ble_eq_true rfl) dL_law_648 ⟨rfl, rfl⟩ ⟨hc, hs⟩ ?_
  refine r_mem (fun M2 eM2 => ?_)
  refine r_topi (fun rr err => ?_)
  rw [← eM2] at hq
  rw [← err, ← ecd] at hq
  refine r_istore (lv' := [(6, .int rr), (5, .int cd), (4, .int (nI i)), (3, .ref (ad 65)), (2, .ref (ad 50)), (1, .ref (ad 0)), (0, .ref b)]) C dL_law_651 (by decide) rfl ?_
  refine r_aload_n C dL_law_653 rfl 4 rfl ?_
  refine r_callV0I C 5 (by decide) rfl (mm_ct5 ad q _) (kX5_thrown hAD) (cwV 0 C.1.2.2.2.2 gL_law_X5_thrown rfl rfl rfl (by decide +kernel) ⟨Nat.le_of_ble_eq_true rfl, Nat.le_of_ble_eq_true rfl⟩) (Nat.le_of_ble_eq_true rfl) dL_law_654 ⟨rfl, rfl⟩ ⟨hc, hs⟩ ?_
  refine r_iload C dL_law_657 1 rfl ?_
  refine r_icmp_eq (tgt := 664) C dL_law_659 (by decide) (fun z1 => ?_) (fun z1 => ?_)
  · refine r_iload C dL_law_664 1 rfl ?_
    refine r_if_ne (tgt := 681) C dL_law_666 (by decide) (fun z2 => ?_) (fun z2 => ?_)
    · refine r_goto (tgt := 1070) C dL_law_681 (by decide) ?_
      refine r_sub (lv' := [(4, .int (nI i)), (3, .ref (ad 65)), (2, .ref (ad 50)), (1, .ref (ad 0)), (0, .ref b)]) [2, 3, 4, 5, 6] rfl ?_
      obtain ⟨N2, S2, T2, g1, g2⟩ := hq.2.2.2
      exact K M2 N2 S2 T2 g1 g2
    · refine r_aload_n C dL_law_669 rfl 3 rfl ?_
      refine r_iconst (v := 0) C dL_law_670 rfl ?_
      refine r_lald C mm_aJ_65 0 rfl (by decide) dL_law_671 ?_
      refine r_iload C dL_law_672 0 rfl ?_
      refine r_i2l C dL_law_674 ?_
      refine r_lcmp C dL_law_675 ?_
      refine r_if_eq (tgt := 681) C dL_law_676 (by decide) (fun z3 => ?_) (fun z3 => ?_)
      · refine r_goto (tgt := 1070) C dL_law_681 (by decide) ?_
        refine r_sub (lv' := [(4, .int (nI i)), (3, .ref (ad 65)), (2, .ref (ad 50)), (1, .ref (ad 0)), (0, .ref b)]) [2, 3, 4, 5, 6] rfl ?_
        obtain ⟨N2, S2, T2, g1, g2⟩ := hq.2.2.2
        exact K M2 N2 S2 T2 g1 g2
      · exact absurd (lg_eq0.mpr (hq.2.2.1 z2)) z3
  · exact absurd (hq.2.1) z1

set_option maxHeartbeats 400000 in
set_option maxRecDepth 100000 in
theorem lw_c9 {p : Program} {l : Launch} {e : Env} {s : State} {m : MethodId} {below : List Frame} {meth : Method} {c : Code} {D : va_G} {ad : Nat → Nat} {q : Nat → ClassId} {A : Nat → Prop} {b L : Nat} {xs : Nat → Int32} {Q : State → Prop} {cells slots : Nat} (hl0 : l.stackTraces = false) (C : mm_C p s m #[.ref b] c cL_law 8 wsL_law RL D ad q A) (hAD : mm_AD ad A) (hX9 : mm_XP A s) (hXs : va_X b L xs s s.heap) (hbl : b < s.heap.size) (hbA : ¬ A b) {M : mm_M} {N S T : Nat} (h : mk_R M N S T) (hT : T ≤ 59000) {i : Nat} (hi : i + 4 ≤ L) (hL : L ≤ 2048) (hc : cells + 1 ≤ 601024) (hs : slots + 6 ≤ 7293034) (K : ∀ (M2 : mm_M) (N2 S2 T2 : Nat), T2 ≤ T + 100 → mk_R M2 N2 S2 T2 → mm_G p l e room_1 s m #[.ref b] below meth c (cells + 1) (slots + 6) Q 8 D ad q A M2 1070 [(4, .int (nI i)), (3, .ref (ad 65)), (2, .ref (ad 50)), (1, .ref (ad 0)), (0, .ref b)] []) : mm_G p l e room_1 s m #[.ref b] below meth c cells slots Q 8 D ad q A M 684 [(4, .int (nI i)), (3, .ref (ad 65)), (2, .ref (ad 50)), (1, .ref (ad 0)), (0, .ref b)] [] := by
  refine r_aload_n C dL_law_684 rfl 3 rfl ?_
  refine r_aload_n C dL_law_685 rfl 4 rfl ?_
  refine r_iload C dL_law_686 0 rfl ?_
  refine r_iconst (v := 1) C dL_law_688 rfl ?_
  refine r_iadd C dL_law_689 ?_
  refine r_sld C hXs hbl hbA (i + 1) (nm_ik (k := 1) (by omega) rfl (by omega)) (by omega) dL_law_690 ?_
  refine r_aload_n C dL_law_691 rfl 4 rfl ?_
  refine r_iload C dL_law_692 0 rfl ?_
  refine r_iconst (v := 2) C dL_law_694 rfl ?_
  refine r_iadd C dL_law_695 ?_
  refine r_sld C hXs hbl hbA (i + 2) (nm_ik (k := 2) (by omega) rfl (by omega)) (by omega) dL_law_696 ?_
  refine r_aload_n C dL_law_697 rfl 1 rfl ?_
  refine r_callW4 C hX9 (kL_sum hAD hl0 h.lb) (vx_cwSW 4 C.1.2.2.2.2 gL_law_L_sum rfl rfl rfl (by decide +kernel) ⟨Nat.le_of_ble_eq_true rfl, Nat.le_of_ble_eq_true rfl⟩) (Nat.le_of_ble_eq_true rfl) dL_law_698 ⟨hc, hs⟩ ?_
  refine r_mem (fun M1 eM1 => ?_)
  have hq := mq_sum h hT eM1
  refine r_topi (fun cd ecd => ?_)
  refine r_istore (lv' := [(5, .int cd), (4, .int (nI i)), (3, .ref (ad 65)), (2, .ref (ad 50)), (1, .ref (ad 0)), (0, .ref b)]) C dL_law_701 (by decide) rfl ?_
  refine r_aload_n C dL_law_703 rfl 3 rfl ?_
  refine r_aload_n C dL_law_704 rfl 5 rfl ?_
  refine r_iload C dL_law_705 1 rfl ?_
  refine r_iconst (v := 1) C dL_law_707 rfl ?_
  refine r_iadd C dL_law_708 ?_
  refine r_sld C hXs hbl hbA (i + 1) (nm_ik (k := 1) (by omega) rfl (by omega)) (by omega) dL_law_709 ?_
  refine r_aload_n C dL_law_710 rfl 5 rfl ?_
  refine r_iload C dL_law_711 1 rfl ?_
  refine r_iconst (v := 2) C dL_law_713 rfl ?_
  refine r_iadd C dL_law_714 ?_
  refine r_sld C hXs hbl hbA (i + 2) (nm_ik (k := 2) (by omega) rfl (by omega)) (by omega) dL_law_715 ?_
  refine r_callV2J C 5 (by decide) rfl (mm_ct5 ad q _) (kX5_sum hAD hq.1.1 h.N8 hq.1.2) (cwV 2 C.1.2.2.2.2 gL_law_X5_sum rfl rfl rfl (by decide +kernel) ⟨Nat.le_of_ble_eq_true rfl, Nat.le_of_ble_eq_true rfl⟩) (Nat.le_of_ble_eq_true rfl) dL_law_716 ⟨rfl, rfl⟩ ⟨hc, hs⟩ ?_
  refine r_mem (fun M2 eM2 => ?_)
  refine r_topl (fun rr err => ?_)
  rw [← eM2] at hq
  rw [← err, ← ecd] at hq
  refine r_lstore (lv' := [(6, .long rr), (5, .int cd), (4, .int (nI i)), (3, .ref (ad 65)), (2, .ref (ad 50)), (1, .ref (ad 0)), (0, .ref b)]) C dL_law_719 (by decide) rfl ?_
  refine r_aload_n C dL_law_721 rfl 4 rfl ?_
  refine r_callV0I C 5 (by decide) rfl (mm_ct5 ad q _) (kX5_thrown hAD) (cwV 0 C.1.2.2.2.2 gL_law_X5_thrown rfl rfl rfl (by decide +kernel) ⟨Nat.le_of_ble_eq_true rfl, Nat.le_of_ble_eq_true rfl⟩) (Nat.le_of_ble_eq_true rfl) dL_law_722 ⟨rfl, rfl⟩ ⟨hc, hs⟩ ?_
  refine r_iload C dL_law_725 1 rfl ?_
  refine r_icmp_eq (tgt := 732) C dL_law_727 (by decide) (fun z1 => ?_) (fun z1 => ?_)
  · refine r_iload C dL_law_732 1 rfl ?_
    refine r_if_ne (tgt := 748) C dL_law_734 (by decide) (fun z2 => ?_) (fun z2 => ?_)
    · refine r_goto (tgt := 1070) C dL_law_748 (by decide) ?_
      refine r_sub (lv' := [(4, .int (nI i)), (3, .ref (ad 65)), (2, .ref (ad 50)), (1, .ref (ad 0)), (0, .ref b)]) [2, 3, 4, 5, 6] rfl ?_
      obtain ⟨N2, S2, T2, g1, g2⟩ := hq.2.2.2
      exact K M2 N2 S2 T2 g1 g2
    · refine r_aload_n C dL_law_737 rfl 3 rfl ?_
      refine r_iconst (v := 0) C dL_law_738 rfl ?_
      refine r_lald C mm_aJ_65 0 rfl (by decide) dL_law_739 ?_
      refine r_lload C dL_law_740 0 rfl ?_
      refine r_lcmp C dL_law_742 ?_
      refine r_if_eq (tgt := 748) C dL_law_743 (by decide) (fun z3 => ?_) (fun z3 => ?_)
      · refine r_goto (tgt := 1070) C dL_law_748 (by decide) ?_
        refine r_sub (lv' := [(4, .int (nI i)), (3, .ref (ad 65)), (2, .ref (ad 50)), (1, .ref (ad 0)), (0, .ref b)]) [2, 3, 4, 5, 6] rfl ?_
        obtain ⟨N2, S2, T2, g1, g2⟩ := hq.2.2.2
        exact K M2 N2 S2 T2 g1 g2
      · exact absurd (lg_eq0.mpr (hq.2.2.1 z2)) z3
  · exact absurd (hq.2.1) z1
