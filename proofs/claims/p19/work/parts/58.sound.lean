set_option maxHeartbeats 1000000 in
set_option maxRecDepth 100000 in
theorem kL_areSound_1 {l : Launch} {D : va_G} {ad : Nat → Nat} {q : Nat → ClassId} {A : Nat → Prop} (hAD : mm_AD ad A) (hl0 : l.stackTraces = false) {N S T X : Nat} {M : mm_M} (hR : mk_R M N S T) (hB : mz_B M.1) (hT : T ≤ 59000) (hX : X < 2147483648) (hm0 : M.1 65 0 = nI T) (hm1 : M.1 65 1 = nI N) (he : ∀ k : Nat, k < N → M.1 66 (2 * k) = M.1 55 k ∧ M.1 66 (2 * k + 1) = M.1 54 k) : mm_Ko l D ad q A yL_areSound wsL_areSound rmL_areSound [.ref (ad 0), .ref (ad 50), .ref (ad 51), .int (nI X), .int 1] M (fun v u => v = some (.int 1) ∧ u.1 = M.1) := by
  have hw : M.1 = M.1 := rfl
  have hN8 := hR.N8
  have hL := mz_L0 hR hT
  refine mm_ofO (b := 0) (L := 0) (xs := fun _ => 0) (cc := cL_areSound) (maxL := 16) (ret := some .boolean) (own := RL) rfl hAD (plainFor_of_name (by decide)) rfl (Nat.le_of_ble_eq_true rfl) ?_
  intro pp ee ss mm bl mth cd C hX9 hret hlk9
  show mm_G _ _ _ _ _ _ _ _ _ _ _ _ _ _ _ _ _ _ M 0 [(0, .ref (ad 0)), (1, .ref (ad 50)), (2, .ref (ad 51)), (3, .int (nI X)), (4, .int 1)] []
  refine r_aload_n C dL_areSound_0 rfl 0 rfl ?_
  refine r_callV0I C 4 (by decide) rfl (mm_ct4 ad q _) (kX4_tick hAD) (cwV 0 C.1.2.2.2.2 gL_areSound_X4_tick rfl rfl rfl (by decide +kernel) ⟨Nat.le_of_ble_eq_true rfl, Nat.le_of_ble_eq_true rfl⟩) (Nat.le_of_ble_eq_true rfl) dL_areSound_1 ⟨rfl, rfl⟩ (by show _ ≤ 100 ∧ _ ≤ 600; omega) ?_
  refine r_topc (y := nI T) (by exact hR.cT) ?_
  refine r_aload_n C dL_areSound_4 rfl 1 rfl ?_
  refine r_iconst (v := 0) C dL_areSound_5 rfl ?_
  refine r_ialdL C mm_aL_50 0 rfl (by decide) dL_areSound_6 ?_
  refine r_topc (y := nI T) (by rw [hw]; exact hm0) ?_
  refine r_icmp_neF (tgt := 14) C dL_areSound_7 (by decide) (rfl) ?_
  refine r_iconst (v := 1) C dL_areSound_10 rfl ?_
  refine r_goto (tgt := 15) C dL_areSound_11 (by decide) ?_
  refine r_istore (lv' := [(5, .int 1), (0, .ref (ad 0)), (1, .ref (ad 50)), (2, .ref (ad 51)), (3, .int (nI X)), (4, .int 1)]) C dL_areSound_15 (by decide) rfl ?_
  refine r_iconst (v := 0) C dL_areSound_17 rfl ?_
  refine r_istore (lv' := [(6, .int (mz_al M.1 0)), (5, .int 1), (0, .ref (ad 0)), (1, .ref (ad 50)), (2, .ref (ad 51)), (3, .int (nI X)), (4, .int 1)]) C dL_areSound_18 (by decide) rfl ?_
  refine r_iconst (v := 0) C dL_areSound_20 rfl ?_
  refine r_istore (lv' := [(7, .int (nI 0)), (6, .int (mz_al M.1 0)), (5, .int 1), (0, .ref (ad 0)), (1, .ref (ad 50)), (2, .ref (ad 51)), (3, .int (nI X)), (4, .int 1)]) C dL_areSound_21 (by decide) rfl ?_
  have L23 : ∀ (k9 : Nat) (k : Nat) (Mw : mm_M) (hk9 : k ≤ N) (hw : Mw.1 = M.1), N - k < k9 → mm_G pp l ee rmL_areSound ss mm ([.ref (ad 0), .ref (ad 50), .ref (ad 51), .int (nI X), .int 1] : List Value).toArray bl mth cd (3 * k) (18 * k) (MQ bl (mm_Q D ad q A (fun v u => v = some (.int 1) ∧ u.1 = M.1)) ([.ref (ad 0), .ref (ad 50), .ref (ad 51), .int (nI X), .int 1] : List Value).toArray ss rmL_areSound.cells rmL_areSound.slots A) 16 D ad q A (Mw) 23 [(7, .int (nI k)), (6, .int (mz_al M.1 k)), (5, .int 1), (0, .ref (ad 0)), (1, .ref (ad 50)), (2, .ref (ad 51)), (3, .int (nI X)), (4, .int 1)] [] := by
    intro k9
    induction k9 with
    | zero => intro k Mw hk9 hw h9; exact absurd h9 (Nat.not_lt_zero _)
    | succ k9 ih23 =>
      intro k Mw hk9 hw h9
      have hN8 := hR.N8
      refine r_iload C dL_areSound_23 0 rfl ?_
      refine r_aload_n C dL_areSound_25 rfl 4 rfl ?_
      refine r_iconst (v := 1) C dL_areSound_26 rfl ?_
      refine r_ialdL C mm_aL_50 1 rfl (by decide) dL_areSound_27 ?_
      refine r_topc (y := nI N) (by rw [hw]; exact hm1) ?_
      refine r_icmp_ge (tgt := 162) C dL_areSound_28 (by decide) (fun z28 => ?_) (fun z28 => ?_)
      · obtain rfl : N = k := (nm_ge hk9 (by omega) z28).symm
        refine r_iload C dL_areSound_162 2 rfl ?_
        refine r_if_eqF (tgt := 172) C dL_areSound_164 (by decide) (by decide) ?_
        refine r_iload C dL_areSound_167 7 rfl ?_
        refine r_if_neT (tgt := 175) C dL_areSound_169 (by decide) (by decide) ?_
        refine r_iload_n C dL_areSound_175 rfl 6 rfl ?_
        refine r_bipush (v := (9)) C dL_areSound_176 rfl ?_
        refine r_irem C dL_areSound_178 (by decide) ?_
        refine r_topc (y := nI (X % 9)) (mz_rem 9 (X := X) (by omega) (by omega)) ?_
        refine r_iconst (v := 4) C dL_areSound_179 rfl ?_
        refine r_isub C dL_areSound_180 ?_
        refine r_istore (lv' := [(7, .int ((nI (X % 9)) - 4)), (6, .int (mz_al M.1 N)), (5, .int 1), (0, .ref (ad 0)), (1, .ref (ad 50)), (2, .ref (ad 51)), (3, .int (nI X)), (4, .int 1)]) C dL_areSound_181 (by decide) rfl ?_
        refine r_lconst (v := 0) C dL_areSound_183 rfl ?_
        refine r_lstore (lv' := [(8, .long (mz_ss M.1 N (nI (X % 9) - 4) 0)), (7, .int ((nI (X % 9)) - 4)), (6, .int (mz_al M.1 N)), (5, .int 1), (0, .ref (ad 0)), (1, .ref (ad 50)), (2, .ref (ad 51)), (3, .int (nI X)), (4, .int 1)]) C dL_areSound_184 (by decide) rfl ?_
        refine r_bipush (v := (16)) C dL_areSound_186 rfl ?_
        refine r_istore (lv' := [(10, .int 16), (8, .long (mz_ss M.1 N (nI (X % 9) - 4) 0)), (7, .int ((nI (X % 9)) - 4)), (6, .int (mz_al M.1 N)), (5, .int 1), (0, .ref (ad 0)), (1, .ref (ad 50)), (2, .ref (ad 51)), (3, .int (nI X)), (4, .int 1)]) C dL_areSound_188 (by decide) rfl ?_
        have L190 : ∀ (k9 : Nat) (j : Nat) (Mw : mm_M) (hj9 : j ≤ 32) (hw : Mw.1 = M.1), 32 - j < k9 → mm_G pp l ee rmL_areSound ss mm ([.ref (ad 0), .ref (ad 50), .ref (ad 51), .int (nI X), .int 1] : List Value).toArray bl mth cd (25 + j) (150 + 6 * j) (MQ bl (mm_Q D ad q A (fun v u => v = some (.int 1) ∧ u.1 = M.1)) ([.ref (ad 0), .ref (ad 50), .ref (ad 51), .int (nI X), .int 1] : List Value).toArray ss rmL_areSound.cells rmL_areSound.slots A) 16 D ad q A (Mw) 190 [(10, .int (nI (16 + j))), (8, .long (mz_ss M.1 N (nI (X % 9) - 4) j)), (7, .int (nI (X % 9) - 4)), (6, .int (mz_al M.1 N)), (5, .int 1), (0, .ref (ad 0)), (1, .ref (ad 50)), (2, .ref (ad 51)), (3, .int (nI X)), (4, .int 1)] [] := by
          intro k9
          induction k9 with
          | zero => intro j Mw hj9 hw h9; exact absurd h9 (Nat.not_lt_zero _)
          | succ k9 ih190 =>
            intro j Mw hj9 hw h9
            refine r_iload C dL_areSound_190 0 rfl ?_
            refine r_bipush (v := (48)) C dL_areSound_192 rfl ?_
            refine r_icmp_ge (tgt := 223) C dL_areSound_194 (by decide) (fun z194 => ?_) (fun z194 => ?_)
            · obtain rfl : j = 32 := mz_ge48 hj9 z194
              refine r_lconst (v := 0) C dL_areSound_223 rfl ?_
              refine r_lstore (lv' := [(10, .long (mz_m (mk_L M.1 N 61) 0)), (8, .long (mz_ss M.1 N (nI (X % 9) - 4) 32)), (7, .int (nI (X % 9) - 4)), (6, .int (mz_al M.1 N)), (5, .int 1), (0, .ref (ad 0)), (1, .ref (ad 50)), (2, .ref (ad 51)), (3, .int (nI X)), (4, .int 1)]) C dL_areSound_224 (by decide) rfl ?_
              refine r_bipush (v := (-99)) C dL_areSound_226 rfl ?_
              refine r_istore (lv' := [(12, .int (mz_g (mk_L M.1 N 61) 0)), (10, .long (mz_m (mk_L M.1 N 61) 0)), (8, .long (mz_ss M.1 N (nI (X % 9) - 4) 32)), (7, .int (nI (X % 9) - 4)), (6, .int (mz_al M.1 N)), (5, .int 1), (0, .ref (ad 0)), (1, .ref (ad 50)), (2, .ref (ad 51)), (3, .int (nI X)), (4, .int 1)]) C dL_areSound_228 (by decide) rfl ?_
              refine r_bipush (v := (-4)) C dL_areSound_230 rfl ?_
              refine r_istore (lv' := [(13, .int (nI 0 - 4)), (12, .int (mz_g (mk_L M.1 N 61) 0)), (10, .long (mz_m (mk_L M.1 N 61) 0)), (8, .long (mz_ss M.1 N (nI (X % 9) - 4) 32)), (7, .int (nI (X % 9) - 4)), (6, .int (mz_al M.1 N)), (5, .int 1), (0, .ref (ad 0)), (1, .ref (ad 50)), (2, .ref (ad 51)), (3, .int (nI X)), (4, .int 1)]) C dL_areSound_232 (by decide) rfl ?_
              have L234 : ∀ (k9 : Nat) (i : Nat) (Mw : mm_M) (hi9 : i ≤ 9) (hw : Mw.1 = M.1), 9 - i < k9 → mm_G pp l ee rmL_areSound ss mm ([.ref (ad 0), .ref (ad 50), .ref (ad 51), .int (nI X), .int 1] : List Value).toArray bl mth cd (60 + i) (360 + 6 * i) (MQ bl (mm_Q D ad q A (fun v u => v = some (.int 1) ∧ u.1 = M.1)) ([.ref (ad 0), .ref (ad 50), .ref (ad 51), .int (nI X), .int 1] : List Value).toArray ss rmL_areSound.cells rmL_areSound.slots A) 16 D ad q A (Mw) 234 [(13, .int (nI i - 4)), (12, .int (mz_g (mk_L M.1 N 61) i)), (10, .long (mz_m (mk_L M.1 N 61) i)), (8, .long (mz_ss M.1 N (nI (X % 9) - 4) 32)), (7, .int (nI (X % 9) - 4)), (6, .int (mz_al M.1 N)), (5, .int 1), (0, .ref (ad 0)), (1, .ref (ad 50)), (2, .ref (ad 51)), (3, .int (nI X)), (4, .int 1)] [] := by
                intro k9
                induction k9 with
                | zero => intro i Mw hi9 hw h9; exact absurd h9 (Nat.not_lt_zero _)
                | succ k9 ih234 =>
                  intro i Mw hi9 hw h9
                  refine r_iload C dL_areSound_234 0 rfl ?_
                  refine r_iconst (v := 5) C dL_areSound_236 rfl ?_
                  refine r_icmp_ge (tgt := 319) C dL_areSound_237 (by decide) (fun z237 => ?_) (fun z237 => ?_)
                  · obtain rfl : i = 9 := mz_ge5 hi9 z237
                    refine r_aload_n C dL_areSound_319 rfl 7 rfl ?_
                    refine r_iconst (v := 1) C dL_areSound_320 rfl ?_
                    refine r_q1I C hX9 4 (by decide) rfl (mm_ct4 ad q _) (kX4_peaks hAD hl0 (hR.eq hw).lb) (mz_qpk hR hT hw (by decide)) (cwV 1 C.1.2.2.2.2 gL_areSound_X4_peaks rfl rfl rfl (by decide +kernel) ⟨Nat.le_of_ble_eq_true rfl, Nat.le_of_ble_eq_true rfl⟩) (Nat.le_of_ble_eq_true rfl) dL_areSound_321 (kc := 1) (ks := 6) ⟨rfl, rfl⟩ (by show _ ≤ 100 ∧ _ ≤ 600; omega) (fun Mw hw => ?_)
                    refine r_istore (lv' := [(13, .int (mr_pkv (mk_L M.1 N 61) 1)), (12, .int (mz_g (mk_L M.1 N 61) 9)), (10, .long (mz_m (mk_L M.1 N 61) 9)), (8, .long (mz_ss M.1 N (nI (X % 9) - 4) 32)), (7, .int (nI (X % 9) - 4)), (6, .int (mz_al M.1 N)), (5, .int 1), (0, .ref (ad 0)), (1, .ref (ad 50)), (2, .ref (ad 51)), (3, .int (nI X)), (4, .int 1)]) C dL_areSound_324 (by decide) rfl ?_
                    refine r_aload_n C dL_areSound_326 rfl 7 rfl ?_
                    refine r_iconst (v := 1) C dL_areSound_327 rfl ?_
                    refine r_iload_n C dL_areSound_328 rfl 10 rfl ?_
                    refine r_bipush (v := (100)) C dL_areSound_329 rfl ?_
                    refine r_irem C dL_areSound_331 (by decide) ?_
                    refine r_topc (y := nI (X % 100)) (mz_rem 100 (X := X) (by omega) (by omega)) ?_
                    refine r_iadd C dL_areSound_332 ?_
                    refine r_topc (y := nI (1 + (X % 100))) (mz_add 1 (X % 100)) ?_
                    refine r_q1I C hX9 4 (by decide) rfl (mm_ct4 ad q _) (kX4_peaks hAD hl0 (hR.eq hw).lb) (mz_qpk hR hT hw (mz_h100 X)) (cwV 1 C.1.2.2.2.2 gL_areSound_X4_peaks rfl rfl rfl (by decide +kernel) ⟨Nat.le_of_ble_eq_true rfl, Nat.le_of_ble_eq_true rfl⟩) (Nat.le_of_ble_eq_true rfl) dL_areSound_333 (kc := 1) (ks := 6) ⟨rfl, rfl⟩ (by show _ ≤ 100 ∧ _ ≤ 600; omega) (fun Mw hw => ?_)
                    refine r_istore (lv' := [(14, .int (mr_pkv (mk_L M.1 N 61) (nI (1 + X % 100)))), (13, .int (mr_pkv (mk_L M.1 N 61) 1)), (12, .int (mz_g (mk_L M.1 N 61) 9)), (10, .long (mz_m (mk_L M.1 N 61) 9)), (8, .long (mz_ss M.1 N (nI (X % 9) - 4) 32)), (7, .int (nI (X % 9) - 4)), (6, .int (mz_al M.1 N)), (5, .int 1), (0, .ref (ad 0)), (1, .ref (ad 50)), (2, .ref (ad 51)), (3, .int (nI X)), (4, .int 1)]) C dL_areSound_336 (by decide) rfl ?_
                    refine r_iload C dL_areSound_338 7 rfl ?_
                    refine r_if_eqF (tgt := 444) C dL_areSound_340 (by decide) (by decide) ?_
                    refine r_aload_n C dL_areSound_343 rfl 8 rfl ?_
                    refine r_iload C dL_areSound_344 5 rfl ?_
                    refine r_q1J C hX9 4 (by decide) rfl (mm_ct4 ad q _) (kX4_power hAD hl0 (hR.eq hw).lb) (mz_qpow hR hT hw (mz_b9 X)) (cwV 1 C.1.2.2.2.2 gL_areSound_X4_power rfl rfl rfl (by decide +kernel) ⟨Nat.le_of_ble_eq_true rfl, Nat.le_of_ble_eq_true rfl⟩) (Nat.le_of_ble_eq_true rfl) dL_areSound_346 (kc := 1) (ks := 6) ⟨rfl, rfl⟩ (by show _ ≤ 100 ∧ _ ≤ 600; omega) (fun Mw hw => ?_)
                    refine r_lload C dL_areSound_349 4 rfl ?_
                    refine r_lcmp C dL_areSound_351 ?_
                    refine r_if_neF (tgt := 444) C dL_areSound_352 (by decide) (lg_eq0.mpr (mz_ssP M.1 N (nI (X % 9) - 4))) ?_
                    refine r_aload_n C dL_areSound_355 rfl 8 rfl ?_
                    refine r_iload C dL_areSound_356 5 rfl ?_
                    refine r_q1J C hX9 4 (by decide) rfl (mm_ct4 ad q _) (kX4_powerAnew hAD hl0 (hR.eq hw).lb) (mz_qpan hR hT hw (mz_b9 X)) (cwV 1 C.1.2.2.2.2 gL_areSound_X4_powerAnew rfl rfl rfl (by decide +kernel) ⟨Nat.le_of_ble_eq_true rfl, Nat.le_of_ble_eq_true rfl⟩) (Nat.le_of_ble_eq_true rfl) dL_areSound_358 (kc := 1) (ks := 6) ⟨rfl, rfl⟩ (by show _ ≤ 100 ∧ _ ≤ 600; omega) (fun Mw hw => ?_)
                    refine r_lload C dL_areSound_361 4 rfl ?_
                    refine r_lcmp C dL_areSound_363 ?_
                    refine r_if_neF (tgt := 444) C dL_areSound_364 (by decide) (lg_eq0.mpr (mz_ssP M.1 N (nI (X % 9) - 4))) ?_
                    refine r_aload_n C dL_areSound_367 rfl 8 rfl ?_
                    refine r_iconst (v := 0) C dL_areSound_368 rfl ?_
                    refine r_q1I C hX9 4 (by decide) rfl (mm_ct4 ad q _) (kX4_found hAD hl0 (hR.eq hw).lb) (mz_qfd hR hT hw (r := 0) (by decide)) (cwV 1 C.1.2.2.2.2 gL_areSound_X4_found rfl rfl rfl (by decide +kernel) ⟨Nat.le_of_ble_eq_true rfl, Nat.le_of_ble_eq_true rfl⟩) (Nat.le_of_ble_eq_true rfl) dL_areSound_369 (kc := 1) (ks := 6) ⟨rfl, rfl⟩ (by show _ ≤ 100 ∧ _ ≤ 600; omega) (fun Mw hw => ?_)
                    refine r_iload C dL_areSound_372 2 rfl ?_
                    refine r_icmp_neF (tgt := 444) C dL_areSound_374 (by decide) (mz_fd0 hN8 hL) ?_
                    refine r_iload C dL_areSound_377 0 rfl ?_
                    refine r_if_ltF (tgt := 444) C dL_areSound_379 (by decide) (mz_nlt (mz_pk0 _ _)) ?_
                    refine r_iload C dL_areSound_382 0 rfl ?_
                    refine r_iload C dL_areSound_384 1 rfl ?_
                    refine r_icmp_gtF (tgt := 444) C dL_areSound_386 (by decide) (mz_nlt (mz_pk1 hL X)) ?_
                    refine r_iload C dL_areSound_389 1 rfl ?_
                    refine r_iconst (v := 5) C dL_areSound_391 rfl ?_
                    refine r_icmp_gtF (tgt := 444) C dL_areSound_392 (by decide) (mz_nlt (mz_pk5 _ _)) ?_
                    refine r_aload_n C dL_areSound_395 rfl 8 rfl ?_
                    refine r_bipush (v := (100)) C dL_areSound_396 rfl ?_
                    refine r_q1I C hX9 4 (by decide) rfl (mm_ct4 ad q _) (kX4_peaks hAD hl0 (hR.eq hw).lb) (mz_qpk hR hT hw (by decide)) (cwV 1 C.1.2.2.2.2 gL_areSound_X4_peaks rfl rfl rfl (by decide +kernel) ⟨Nat.le_of_ble_eq_true rfl, Nat.le_of_ble_eq_true rfl⟩) (Nat.le_of_ble_eq_true rfl) dL_areSound_398 (kc := 1) (ks := 6) ⟨rfl, rfl⟩ (by show _ ≤ 100 ∧ _ ≤ 600; omega) (fun Mw hw => ?_)
                    refine r_iload C dL_areSound_401 0 rfl ?_
                    refine r_icmp_gtF (tgt := 444) C dL_areSound_403 (by decide) (mz_nlt (mz_pk100 hL X)) ?_
                    refine r_iload C dL_areSound_406 2 rfl ?_
                    refine r_bipush (v := (-99)) C dL_areSound_408 rfl ?_
                    refine r_icmp_ne (tgt := 427) C dL_areSound_410 (by decide) (fun z410 => ?_) (fun z410 => ?_)
                    · refine r_aload_n C dL_areSound_427 rfl 9 rfl ?_
                      refine r_iconst (v := 0) C dL_areSound_428 rfl ?_
                      refine r_ialdL C mm_aL_50 0 rfl (by decide) dL_areSound_429 ?_
                      refine r_topc (y := nI T) (by rw [hw]; exact hm0) ?_
                      refine r_if_gt (tgt := 440) C dL_areSound_430 (by decide) (fun z430 => ?_) (fun z430 => ?_)
                      · refine r_iconst (v := 1) C dL_areSound_440 rfl ?_
                        refine r_goto (tgt := 445) C dL_areSound_441 (by decide) ?_
                        exact r_wzret C hret (by decide) hlk9 (by show _ ≤ 100; omega) (by show _ ≤ 600; omega) dL_areSound_445 (⟨rfl, hw⟩)
                      · refine r_lload C dL_areSound_433 3 rfl ?_
                        refine r_lconst (v := 0) C dL_areSound_435 rfl ?_
                        refine r_lcmp C dL_areSound_436 ?_
                        refine r_if_neF (tgt := 444) C dL_areSound_437 (by decide) (lg_eq0.mpr (mz_T0 hR hT z430)) ?_
                        refine r_iconst (v := 1) C dL_areSound_440 rfl ?_
                        refine r_goto (tgt := 445) C dL_areSound_441 (by decide) ?_
                        exact r_wzret C hret (by decide) hlk9 (by show _ ≤ 100; omega) (by show _ ≤ 600; omega) dL_areSound_445 (⟨rfl, hw⟩)
                    · refine r_aload_n C dL_areSound_413 rfl 8 rfl ?_
                      refine r_iconst (v := 1) C dL_areSound_414 rfl ?_
                      refine r_iload_n C dL_areSound_415 rfl 11 rfl ?_
                      refine r_iconst (v := 5) C dL_areSound_416 rfl ?_
                      refine r_irem C dL_areSound_417 (by decide) ?_
                      refine r_topc (y := nI (X % 5)) (mz_rem 5 (X := X) (by omega) (by omega)) ?_
                      refine r_iadd C dL_areSound_418 ?_
                      refine r_topc (y := nI (1 + (X % 5))) (mz_add 1 (X % 5)) ?_
                      refine r_q1I C hX9 4 (by decide) rfl (mm_ct4 ad q _) (kX4_found hAD hl0 (hR.eq hw).lb) (mz_qfd hR hT hw (r := 1 + X % 5) (by omega)) (cwV 1 C.1.2.2.2.2 gL_areSound_X4_found rfl rfl rfl (by decide +kernel) ⟨Nat.le_of_ble_eq_true rfl, Nat.le_of_ble_eq_true rfl⟩) (Nat.le_of_ble_eq_true rfl) dL_areSound_419 (kc := 1) (ks := 6) ⟨rfl, rfl⟩ (by show _ ≤ 100 ∧ _ ≤ 600; omega) (fun Mw hw => ?_)
                      refine r_bipush (v := (-99)) C dL_areSound_422 rfl ?_
                      refine r_icmp_neF (tgt := 444) C dL_areSound_424 (by decide) (mz_fdN hN8 hL (r := X % 5) z410) ?_
                      refine r_aload_n C dL_areSound_427 rfl 9 rfl ?_
                      refine r_iconst (v := 0) C dL_areSound_428 rfl ?_
                      refine r_ialdL C mm_aL_50 0 rfl (by decide) dL_areSound_429 ?_
                      refine r_topc (y := nI T) (by rw [hw]; exact hm0) ?_
                      refine r_if_gt (tgt := 440) C dL_areSound_430 (by decide) (fun z430 => ?_) (fun z430 => ?_)
                      · refine r_iconst (v := 1) C dL_areSound_440 rfl ?_
                        refine r_goto (tgt := 445) C dL_areSound_441 (by decide) ?_
                        exact r_wzret C hret (by decide) hlk9 (by show _ ≤ 100; omega) (by show _ ≤ 600; omega) dL_areSound_445 (⟨rfl, hw⟩)
                      · refine r_lload C dL_areSound_433 3 rfl ?_
                        refine r_lconst (v := 0) C dL_areSound_435 rfl ?_
                        refine r_lcmp C dL_areSound_436 ?_
                        refine r_if_neF (tgt := 444) C dL_areSound_437 (by decide) (lg_eq0.mpr (mz_T0 hR hT z430)) ?_
                        refine r_iconst (v := 1) C dL_areSound_440 rfl ?_
                        refine r_goto (tgt := 445) C dL_areSound_441 (by decide) ?_
                        exact r_wzret C hret (by decide) hlk9 (by show _ ≤ 100; omega) (by show _ ≤ 600; omega) dL_areSound_445 (⟨rfl, hw⟩)
                  · have hi : i < 9 := mz_lt5 hi9 z237
                    refine r_iload C dL_areSound_240 6 rfl ?_
                    refine r_if_eqF (tgt := 319) C dL_areSound_242 (by decide) (by decide) ?_
                    refine r_aload_n C dL_areSound_245 rfl 7 rfl ?_
                    refine r_iload C dL_areSound_246 0 rfl ?_
                    refine r_q1J C hX9 4 (by decide) rfl (mm_ct4 ad q _) (kX4_power hAD hl0 (hR.eq hw).lb) (mz_qpow hR hT hw (mz_b9i hi)) (cwV 1 C.1.2.2.2.2 gL_areSound_X4_power rfl rfl rfl (by decide +kernel) ⟨Nat.le_of_ble_eq_true rfl, Nat.le_of_ble_eq_true rfl⟩) (Nat.le_of_ble_eq_true rfl) dL_areSound_248 (kc := 1) (ks := 6) ⟨rfl, rfl⟩ (by show _ ≤ 100 ∧ _ ≤ 600; omega) (fun Mw hw => ?_)
                    refine r_lstore (lv' := [(14, .long ((mk_L M.1 N 61) i)), (13, .int (nI i - 4)), (12, .int (mz_g (mk_L M.1 N 61) i)), (10, .long (mz_m (mk_L M.1 N 61) i)), (8, .long (mz_ss M.1 N (nI (X % 9) - 4) 32)), (7, .int (nI (X % 9) - 4)), (6, .int (mz_al M.1 N)), (5, .int 1), (0, .ref (ad 0)), (1, .ref (ad 50)), (2, .ref (ad 51)), (3, .int (nI X)), (4, .int 1)]) C dL_areSound_251 (by decide) rfl ?_
                    refine r_lload C dL_areSound_253 0 rfl ?_
                    refine r_lconst (v := 0) C dL_areSound_255 rfl ?_
                    refine r_lcmp C dL_areSound_256 ?_
                    refine r_if_ltF (tgt := 276) C dL_areSound_257 (by decide) (mz_cge (hL i hi).1) ?_
                    refine r_iload C dL_areSound_260 6 rfl ?_
                    refine r_if_gt (tgt := 272) C dL_areSound_262 (by decide) (fun z262 => ?_) (fun z262 => ?_)
                    · refine r_iconst (v := 1) C dL_areSound_272 rfl ?_
                      refine r_goto (tgt := 277) C dL_areSound_273 (by decide) ?_
                      refine r_istore (lv' := [(5, .int 1), (14, .long ((mk_L M.1 N 61) i)), (13, .int (nI i - 4)), (12, .int (mz_g (mk_L M.1 N 61) i)), (10, .long (mz_m (mk_L M.1 N 61) i)), (8, .long (mz_ss M.1 N (nI (X % 9) - 4) 32)), (7, .int (nI (X % 9) - 4)), (6, .int (mz_al M.1 N)), (0, .ref (ad 0)), (1, .ref (ad 50)), (2, .ref (ad 51)), (3, .int (nI X)), (4, .int 1)]) C dL_areSound_277 (by decide) rfl ?_
                      refine r_lload C dL_areSound_279 1 rfl ?_
                      refine r_lload C dL_areSound_281 4 rfl ?_
                      refine r_lcmp C dL_areSound_283 ?_
                      refine r_if_le (tgt := 292) C dL_areSound_284 (by decide) (fun z284 => ?_) (fun z284 => ?_)
                      · refine r_iload C dL_areSound_292 3 rfl ?_
                        refine r_istore (lv' := [(12, .int (mz_g (mk_L M.1 N 61) i)), (5, .int 1), (14, .long ((mk_L M.1 N 61) i)), (13, .int (nI i - 4)), (10, .long (mz_m (mk_L M.1 N 61) i)), (8, .long (mz_ss M.1 N (nI (X % 9) - 4) 32)), (7, .int (nI (X % 9) - 4)), (6, .int (mz_al M.1 N)), (0, .ref (ad 0)), (1, .ref (ad 50)), (2, .ref (ad 51)), (3, .int (nI X)), (4, .int 1)]) C dL_areSound_294 (by decide) rfl ?_
                        refine r_lload C dL_areSound_296 2 rfl ?_
                        refine r_lload C dL_areSound_298 4 rfl ?_
                        refine r_lcmp C dL_areSound_300 ?_
                        refine r_if_leT (tgt := 309) C dL_areSound_301 (by decide) (z284) ?_
                        refine r_lload C dL_areSound_309 4 rfl ?_
                        refine r_lstore (lv' := [(10, .long (mz_m (mk_L M.1 N 61) i)), (12, .int (mz_g (mk_L M.1 N 61) i)), (5, .int 1), (14, .long ((mk_L M.1 N 61) i)), (13, .int (nI i - 4)), (8, .long (mz_ss M.1 N (nI (X % 9) - 4) 32)), (7, .int (nI (X % 9) - 4)), (6, .int (mz_al M.1 N)), (0, .ref (ad 0)), (1, .ref (ad 50)), (2, .ref (ad 51)), (3, .int (nI X)), (4, .int 1)]) C dL_areSound_311 (by decide) rfl ?_
                        refine r_iinc (v := nI (i + 1) - 4) (lv' := [(13, .int (nI (i + 1) - 4)), (10, .long (mz_m (mk_L M.1 N 61) i)), (12, .int (mz_g (mk_L M.1 N 61) i)), (5, .int 1), (14, .long ((mk_L M.1 N 61) i)), (8, .long (mz_ss M.1 N (nI (X % 9) - 4) 32)), (7, .int (nI (X % 9) - 4)), (6, .int (mz_al M.1 N)), (0, .ref (ad 0)), (1, .ref (ad 50)), (2, .ref (ad 51)), (3, .int (nI X)), (4, .int 1)]) C dL_areSound_313 4 rfl (mz_i4 i) (by decide) rfl ?_
                        refine r_goto (tgt := 234) C dL_areSound_316 (by decide) ?_
                        refine r_sub (lv' := [(13, .int (nI (i + 1) - 4)), (12, .int (mz_g (mk_L M.1 N 61) i)), (10, .long (mz_m (mk_L M.1 N 61) i)), (8, .long (mz_ss M.1 N (nI (X % 9) - 4) 32)), (7, .int (nI (X % 9) - 4)), (6, .int (mz_al M.1 N)), (5, .int 1), (0, .ref (ad 0)), (1, .ref (ad 50)), (2, .ref (ad 51)), (3, .int (nI X)), (4, .int 1)]) [0, 2, 1, 5, 6, 7, 3, 8, 9, 10, 11, 12] rfl ?_
                        refine r_cast (M' := Mw) (lv' := [(13, .int (nI (i + 1) - 4)), (12, .int (mz_g (mk_L M.1 N 61) (i + 1))), (10, .long (mz_m (mk_L M.1 N 61) (i + 1))), (8, .long (mz_ss M.1 N (nI (X % 9) - 4) 32)), (7, .int (nI (X % 9) - 4)), (6, .int (mz_al M.1 N)), (5, .int 1), (0, .ref (ad 0)), (1, .ref (ad 50)), (2, .ref (ad 51)), (3, .int (nI X)), (4, .int 1)]) (st' := []) rfl (by rw [mz_gT z284, mz_mT z284]) rfl (r_wid (by omega) (by omega) (ih234 (i + 1) Mw (by omega) (hw) (by omega)))
                      · refine r_iload C dL_areSound_287 2 rfl ?_
                        refine r_goto (tgt := 294) C dL_areSound_289 (by decide) ?_
                        refine r_istore (lv' := [(12, .int (nI i - 4)), (5, .int 1), (14, .long ((mk_L M.1 N 61) i)), (13, .int (nI i - 4)), (10, .long (mz_m (mk_L M.1 N 61) i)), (8, .long (mz_ss M.1 N (nI (X % 9) - 4) 32)), (7, .int (nI (X % 9) - 4)), (6, .int (mz_al M.1 N)), (0, .ref (ad 0)), (1, .ref (ad 50)), (2, .ref (ad 51)), (3, .int (nI X)), (4, .int 1)]) C dL_areSound_294 (by decide) rfl ?_
                        refine r_lload C dL_areSound_296 2 rfl ?_
                        refine r_lload C dL_areSound_298 4 rfl ?_
                        refine r_lcmp C dL_areSound_300 ?_
                        refine r_if_leF (tgt := 309) C dL_areSound_301 (by decide) (z284) ?_
                        refine r_lload C dL_areSound_304 2 rfl ?_
                        refine r_goto (tgt := 311) C dL_areSound_306 (by decide) ?_
                        refine r_lstore (lv' := [(10, .long ((mk_L M.1 N 61) i)), (12, .int (nI i - 4)), (5, .int 1), (14, .long ((mk_L M.1 N 61) i)), (13, .int (nI i - 4)), (8, .long (mz_ss M.1 N (nI (X % 9) - 4) 32)), (7, .int (nI (X % 9) - 4)), (6, .int (mz_al M.1 N)), (0, .ref (ad 0)), (1, .ref (ad 50)), (2, .ref (ad 51)), (3, .int (nI X)), (4, .int 1)]) C dL_areSound_311 (by decide) rfl ?_
                        refine r_iinc (v := nI (i + 1) - 4) (lv' := [(13, .int (nI (i + 1) - 4)), (10, .long ((mk_L M.1 N 61) i)), (12, .int (nI i - 4)), (5, .int 1), (14, .long ((mk_L M.1 N 61) i)), (8, .long (mz_ss M.1 N (nI (X % 9) - 4) 32)), (7, .int (nI (X % 9) - 4)), (6, .int (mz_al M.1 N)), (0, .ref (ad 0)), (1, .ref (ad 50)), (2, .ref (ad 51)), (3, .int (nI X)), (4, .int 1)]) C dL_areSound_313 4 rfl (mz_i4 i) (by decide) rfl ?_
                        refine r_goto (tgt := 234) C dL_areSound_316 (by decide) ?_
                        refine r_sub (lv' := [(13, .int (nI (i + 1) - 4)), (12, .int (nI i - 4)), (10, .long ((mk_L M.1 N 61) i)), (8, .long (mz_ss M.1 N (nI (X % 9) - 4) 32)), (7, .int (nI (X % 9) - 4)), (6, .int (mz_al M.1 N)), (5, .int 1), (0, .ref (ad 0)), (1, .ref (ad 50)), (2, .ref (ad 51)), (3, .int (nI X)), (4, .int 1)]) [0, 2, 1, 5, 6, 7, 3, 8, 9, 10, 11, 12] rfl ?_
                        refine r_cast (M' := Mw) (lv' := [(13, .int (nI (i + 1) - 4)), (12, .int (mz_g (mk_L M.1 N 61) (i + 1))), (10, .long (mz_m (mk_L M.1 N 61) (i + 1))), (8, .long (mz_ss M.1 N (nI (X % 9) - 4) 32)), (7, .int (nI (X % 9) - 4)), (6, .int (mz_al M.1 N)), (5, .int 1), (0, .ref (ad 0)), (1, .ref (ad 50)), (2, .ref (ad 51)), (3, .int (nI X)), (4, .int 1)]) (st' := []) rfl (by rw [mz_gF z284, mz_mF z284]) rfl (r_wid (by omega) (by omega) (ih234 (i + 1) Mw (by omega) (hw) (by omega)))
                    · refine r_lload C dL_areSound_265 0 rfl ?_
                      refine r_lconst (v := 0) C dL_areSound_267 rfl ?_
                      refine r_lcmp C dL_areSound_268 ?_
                      refine r_if_neF (tgt := 276) C dL_areSound_269 (by decide) (lg_eq0.mpr (mz_dead (mz_al0 hR z262) i)) ?_
                      refine r_iconst (v := 1) C dL_areSound_272 rfl ?_
                      refine r_goto (tgt := 277) C dL_areSound_273 (by decide) ?_
                      refine r_istore (lv' := [(5, .int 1), (14, .long ((mk_L M.1 N 61) i)), (13, .int (nI i - 4)), (12, .int (mz_g (mk_L M.1 N 61) i)), (10, .long (mz_m (mk_L M.1 N 61) i)), (8, .long (mz_ss M.1 N (nI (X % 9) - 4) 32)), (7, .int (nI (X % 9) - 4)), (6, .int (mz_al M.1 N)), (0, .ref (ad 0)), (1, .ref (ad 50)), (2, .ref (ad 51)), (3, .int (nI X)), (4, .int 1)]) C dL_areSound_277 (by decide) rfl ?_
                      refine r_lload C dL_areSound_279 1 rfl ?_
                      refine r_lload C dL_areSound_281 4 rfl ?_
                      refine r_lcmp C dL_areSound_283 ?_
                      refine r_if_le (tgt := 292) C dL_areSound_284 (by decide) (fun z284 => ?_) (fun z284 => ?_)
                      · refine r_iload C dL_areSound_292 3 rfl ?_
                        refine r_istore (lv' := [(12, .int (mz_g (mk_L M.1 N 61) i)), (5, .int 1), (14, .long ((mk_L M.1 N 61) i)), (13, .int (nI i - 4)), (10, .long (mz_m (mk_L M.1 N 61) i)), (8, .long (mz_ss M.1 N (nI (X % 9) - 4) 32)), (7, .int (nI (X % 9) - 4)), (6, .int (mz_al M.1 N)), (0, .ref (ad 0)), (1, .ref (ad 50)), (2, .ref (ad 51)), (3, .int (nI X)), (4, .int 1)]) C dL_areSound_294 (by decide) rfl ?_
                        refine r_lload C dL_areSound_296 2 rfl ?_
                        refine r_lload C dL_areSound_298 4 rfl ?_
                        refine r_lcmp C dL_areSound_300 ?_
                        refine r_if_leT (tgt := 309) C dL_areSound_301 (by decide) (z284) ?_
                        refine r_lload C dL_areSound_309 4 rfl ?_
                        refine r_lstore (lv' := [(10, .long (mz_m (mk_L M.1 N 61) i)), (12, .int (mz_g (mk_L M.1 N 61) i)), (5, .int 1), (14, .long ((mk_L M.1 N 61) i)), (13, .int (nI i - 4)), (8, .long (mz_ss M.1 N (nI (X % 9) - 4) 32)), (7, .int (nI (X % 9) - 4)), (6, .int (mz_al M.1 N)), (0, .ref (ad 0)), (1, .ref (ad 50)), (2, .ref (ad 51)), (3, .int (nI X)), (4, .int 1)]) C dL_areSound_311 (by decide) rfl ?_
                        refine r_iinc (v := nI (i + 1) - 4) (lv' := [(13, .int (nI (i + 1) - 4)), (10, .long (mz_m (mk_L M.1 N 61) i)), (12, .int (mz_g (mk_L M.1 N 61) i)), (5, .int 1), (14, .long ((mk_L M.1 N 61) i)), (8, .long (mz_ss M.1 N (nI (X % 9) - 4) 32)), (7, .int (nI (X % 9) - 4)), (6, .int (mz_al M.1 N)), (0, .ref (ad 0)), (1, .ref (ad 50)), (2, .ref (ad 51)), (3, .int (nI X)), (4, .int 1)]) C dL_areSound_313 4 rfl (mz_i4 i) (by decide) rfl ?_
                        refine r_goto (tgt := 234) C dL_areSound_316 (by decide) ?_
                        refine r_sub (lv' := [(13, .int (nI (i + 1) - 4)), (12, .int (mz_g (mk_L M.1 N 61) i)), (10, .long (mz_m (mk_L M.1 N 61) i)), (8, .long (mz_ss M.1 N (nI (X % 9) - 4) 32)), (7, .int (nI (X % 9) - 4)), (6, .int (mz_al M.1 N)), (5, .int 1), (0, .ref (ad 0)), (1, .ref (ad 50)), (2, .ref (ad 51)), (3, .int (nI X)), (4, .int 1)]) [0, 2, 1, 5, 6, 7, 3, 8, 9, 10, 11, 12] rfl ?_
                        refine r_cast (M' := Mw) (lv' := [(13, .int (nI (i + 1) - 4)), (12, .int (mz_g (mk_L M.1 N 61) (i + 1))), (10, .long (mz_m (mk_L M.1 N 61) (i + 1))), (8, .long (mz_ss M.1 N (nI (X % 9) - 4) 32)), (7, .int (nI (X % 9) - 4)), (6, .int (mz_al M.1 N)), (5, .int 1), (0, .ref (ad 0)), (1, .ref (ad 50)), (2, .ref (ad 51)), (3, .int (nI X)), (4, .int 1)]) (st' := []) rfl (by rw [mz_gT z284, mz_mT z284]) rfl (r_wid (by omega) (by omega) (ih234 (i + 1) Mw (by omega) (hw) (by omega)))
                      · refine r_iload C dL_areSound_287 2 rfl ?_
                        refine r_goto (tgt := 294) C dL_areSound_289 (by decide) ?_
                        refine r_istore (lv' := [(12, .int (nI i - 4)), (5, .int 1), (14, .long ((mk_L M.1 N 61) i)), (13, .int (nI i - 4)), (10, .long (mz_m (mk_L M.1 N 61) i)), (8, .long (mz_ss M.1 N (nI (X % 9) - 4) 32)), (7, .int (nI (X % 9) - 4)), (6, .int (mz_al M.1 N)), (0, .ref (ad 0)), (1, .ref (ad 50)), (2, .ref (ad 51)), (3, .int (nI X)), (4, .int 1)]) C dL_areSound_294 (by decide) rfl ?_
                        refine r_lload C dL_areSound_296 2 rfl ?_
                        refine r_lload C dL_areSound_298 4 rfl ?_
                        refine r_lcmp C dL_areSound_300 ?_
                        refine r_if_leF (tgt := 309) C dL_areSound_301 (by decide) (z284) ?_
                        refine r_lload C dL_areSound_304 2 rfl ?_
                        refine r_goto (tgt := 311) C dL_areSound_306 (by decide) ?_
                        refine r_lstore (lv' := [(10, .long ((mk_L M.1 N 61) i)), (12, .int (nI i - 4)), (5, .int 1), (14, .long ((mk_L M.1 N 61) i)), (13, .int (nI i - 4)), (8, .long (mz_ss M.1 N (nI (X % 9) - 4) 32)), (7, .int (nI (X % 9) - 4)), (6, .int (mz_al M.1 N)), (0, .ref (ad 0)), (1, .ref (ad 50)), (2, .ref (ad 51)), (3, .int (nI X)), (4, .int 1)]) C dL_areSound_311 (by decide) rfl ?_
                        refine r_iinc (v := nI (i + 1) - 4) (lv' := [(13, .int (nI (i + 1) - 4)), (10, .long ((mk_L M.1 N 61) i)), (12, .int (nI i - 4)), (5, .int 1), (14, .long ((mk_L M.1 N 61) i)), (8, .long (mz_ss M.1 N (nI (X % 9) - 4) 32)), (7, .int (nI (X % 9) - 4)), (6, .int (mz_al M.1 N)), (0, .ref (ad 0)), (1, .ref (ad 50)), (2, .ref (ad 51)), (3, .int (nI X)), (4, .int 1)]) C dL_areSound_313 4 rfl (mz_i4 i) (by decide) rfl ?_
                        refine r_goto (tgt := 234) C dL_areSound_316 (by decide) ?_
                        refine r_sub (lv' := [(13, .int (nI (i + 1) - 4)), (12, .int (nI i - 4)), (10, .long ((mk_L M.1 N 61) i)), (8, .long (mz_ss M.1 N (nI (X % 9) - 4) 32)), (7, .int (nI (X % 9) - 4)), (6, .int (mz_al M.1 N)), (5, .int 1), (0, .ref (ad 0)), (1, .ref (ad 50)), (2, .ref (ad 51)), (3, .int (nI X)), (4, .int 1)]) [0, 2, 1, 5, 6, 7, 3, 8, 9, 10, 11, 12] rfl ?_
                        refine r_cast (M' := Mw) (lv' := [(13, .int (nI (i + 1) - 4)), (12, .int (mz_g (mk_L M.1 N 61) (i + 1))), (10, .long (mz_m (mk_L M.1 N 61) (i + 1))), (8, .long (mz_ss M.1 N (nI (X % 9) - 4) 32)), (7, .int (nI (X % 9) - 4)), (6, .int (mz_al M.1 N)), (5, .int 1), (0, .ref (ad 0)), (1, .ref (ad 50)), (2, .ref (ad 51)), (3, .int (nI X)), (4, .int 1)]) (st' := []) rfl (by rw [mz_gF z284, mz_mF z284]) rfl (r_wid (by omega) (by omega) (ih234 (i + 1) Mw (by omega) (hw) (by omega)))
              refine r_cast (M' := Mw) (lv' := [(13, .int (nI 0 - 4)), (12, .int (mz_g (mk_L M.1 N 61) 0)), (10, .long (mz_m (mk_L M.1 N 61) 0)), (8, .long (mz_ss M.1 N (nI (X % 9) - 4) 32)), (7, .int (nI (X % 9) - 4)), (6, .int (mz_al M.1 N)), (5, .int 1), (0, .ref (ad 0)), (1, .ref (ad 50)), (2, .ref (ad 51)), (3, .int (nI X)), (4, .int 1)]) (st' := []) rfl rfl rfl (r_wid (by omega) (by omega) (L234 (9 - 0 + 1) 0 Mw (by omega) (hw) (by omega)))
            · have hj : j < 32 := mz_lt48 hj9 z194
              refine r_aload_n C dL_areSound_197 rfl 5 rfl ?_
              refine r_iload C dL_areSound_198 2 rfl ?_
              refine r_iload C dL_areSound_200 0 rfl ?_
              refine r_q2J C hX9 4 (by decide) rfl (mm_ct4 ad q _) (kX4_sum hAD hl0 (hR.eq hw).lb) (mz_qsum hR hT hw (mz_b9 X) (mz_in47 hj)) (cwV 2 C.1.2.2.2.2 gL_areSound_X4_sum rfl rfl rfl (by decide +kernel) ⟨Nat.le_of_ble_eq_true rfl, Nat.le_of_ble_eq_true rfl⟩) (Nat.le_of_ble_eq_true rfl) dL_areSound_202 (kc := 1) (ks := 6) ⟨rfl, rfl⟩ (by show _ ≤ 100 ∧ _ ≤ 600; omega) (fun Mw hw => ?_)
              refine r_lstore (lv' := [(11, .long (mr_sumN M.1 N 61 (nI (X % 9) - 4) (M.1 50 0 - 1 - nI (16 + j)) N)), (10, .int (nI (16 + j))), (8, .long (mz_ss M.1 N (nI (X % 9) - 4) j)), (7, .int (nI (X % 9) - 4)), (6, .int (mz_al M.1 N)), (5, .int 1), (0, .ref (ad 0)), (1, .ref (ad 50)), (2, .ref (ad 51)), (3, .int (nI X)), (4, .int 1)]) C dL_areSound_205 (by decide) rfl ?_
              refine r_lload C dL_areSound_207 2 rfl ?_
              refine r_lload C dL_areSound_209 0 rfl ?_
              refine r_lload C dL_areSound_211 0 rfl ?_
              refine r_lmul C dL_areSound_213 ?_
              refine r_ladd C dL_areSound_214 ?_
              refine r_lstore (lv' := [(8, .long (mz_ss M.1 N (nI (X % 9) - 4) (j + 1))), (11, .long (mr_sumN M.1 N 61 (nI (X % 9) - 4) (M.1 50 0 - 1 - nI (16 + j)) N)), (10, .int (nI (16 + j))), (7, .int (nI (X % 9) - 4)), (6, .int (mz_al M.1 N)), (5, .int 1), (0, .ref (ad 0)), (1, .ref (ad 50)), (2, .ref (ad 51)), (3, .int (nI X)), (4, .int 1)]) C dL_areSound_215 (by decide) rfl ?_
              refine r_iinc (v := nI (16 + j + 1)) (lv' := [(10, .int (nI (16 + j + 1))), (8, .long (mz_ss M.1 N (nI (X % 9) - 4) (j + 1))), (11, .long (mr_sumN M.1 N 61 (nI (X % 9) - 4) (M.1 50 0 - 1 - nI (16 + j)) N)), (7, .int (nI (X % 9) - 4)), (6, .int (mz_al M.1 N)), (5, .int 1), (0, .ref (ad 0)), (1, .ref (ad 50)), (2, .ref (ad 51)), (3, .int (nI X)), (4, .int 1)]) C dL_areSound_217 2 rfl (mz_inc (16 + j)) (by decide) rfl ?_
              refine r_goto (tgt := 190) C dL_areSound_220 (by decide) ?_
              refine r_sub (lv' := [(10, .int (nI (16 + j + 1))), (8, .long (mz_ss M.1 N (nI (X % 9) - 4) (j + 1))), (7, .int (nI (X % 9) - 4)), (6, .int (mz_al M.1 N)), (5, .int 1), (0, .ref (ad 0)), (1, .ref (ad 50)), (2, .ref (ad 51)), (3, .int (nI X)), (4, .int 1)]) [0, 1, 3, 4, 5, 6, 7, 8, 9, 10] rfl ?_
              exact r_wid (by omega) (by omega) (ih190 (j + 1) Mw (by omega) (hw) (by omega))
        refine r_cast (M' := Mw) (lv' := [(10, .int (nI (16 + 0))), (8, .long (mz_ss M.1 N (nI (X % 9) - 4) 0)), (7, .int (nI (X % 9) - 4)), (6, .int (mz_al M.1 N)), (5, .int 1), (0, .ref (ad 0)), (1, .ref (ad 50)), (2, .ref (ad 51)), (3, .int (nI X)), (4, .int 1)]) (st' := []) rfl rfl rfl (r_wid (by omega) (by omega) (L190 (32 - 0 + 1) 0 Mw (by omega) (hw) (by omega)))
      · have hk : k < N := nm_lt (by omega) (by omega) z28
        refine r_iload C dL_areSound_31 2 rfl ?_
        refine r_if_eqF (tgt := 162) C dL_areSound_33 (by decide) (by decide) ?_
        refine r_aload_n C dL_areSound_36 rfl 3 rfl ?_
        refine r_iload C dL_areSound_37 0 rfl ?_
        refine r_iconst (v := 0) C dL_areSound_39 rfl ?_
        refine r_q2I C hX9 4 (by decide) rfl (mm_ct4 ad q _) (kX4_calibrated hAD hl0) (mz_qcal0 hR hw (hk)) (cwV 2 C.1.2.2.2.2 gL_areSound_X4_calibrated rfl rfl rfl (by decide +kernel) ⟨Nat.le_of_ble_eq_true rfl, Nat.le_of_ble_eq_true rfl⟩) (Nat.le_of_ble_eq_true rfl) dL_areSound_40 (kc := 1) (ks := 6) ⟨rfl, rfl⟩ (by show _ ≤ 100 ∧ _ ≤ 600; omega) (fun Mw hw => ?_)
        refine r_istore (lv' := [(8, .int (M.1 (10 + k) 8)), (7, .int (nI k)), (6, .int (mz_al M.1 k)), (5, .int 1), (0, .ref (ad 0)), (1, .ref (ad 50)), (2, .ref (ad 51)), (3, .int (nI X)), (4, .int 1)]) C dL_areSound_43 (by decide) rfl ?_
        refine r_aload_n C dL_areSound_45 rfl 4 rfl ?_
        refine r_iload C dL_areSound_46 1 rfl ?_
        refine r_iconst (v := 1) C dL_areSound_48 rfl ?_
        refine r_q2I C hX9 4 (by decide) rfl (mm_ct4 ad q _) (kX4_calibrated hAD hl0) (mz_qcal1 hR hw (hk)) (cwV 2 C.1.2.2.2.2 gL_areSound_X4_calibrated rfl rfl rfl (by decide +kernel) ⟨Nat.le_of_ble_eq_true rfl, Nat.le_of_ble_eq_true rfl⟩) (Nat.le_of_ble_eq_true rfl) dL_areSound_49 (kc := 1) (ks := 6) ⟨rfl, rfl⟩ (by show _ ≤ 100 ∧ _ ≤ 600; omega) (fun Mw hw => ?_)
        refine r_istore (lv' := [(9, .int (M.1 (10 + k) 9)), (8, .int (M.1 (10 + k) 8)), (7, .int (nI k)), (6, .int (mz_al M.1 k)), (5, .int 1), (0, .ref (ad 0)), (1, .ref (ad 50)), (2, .ref (ad 51)), (3, .int (nI X)), (4, .int 1)]) C dL_areSound_52 (by decide) rfl ?_
        refine r_iload_n C dL_areSound_54 rfl 8 rfl ?_
        refine r_bipush (v := (64)) C dL_areSound_55 rfl ?_
        refine r_irem C dL_areSound_57 (by decide) ?_
        refine r_topc (y := nI (X % 64)) (mz_rem 64 (X := X) (by omega) (by omega)) ?_
        refine r_istore (lv' := [(10, .int (nI (X % 64))), (9, .int (M.1 (10 + k) 9)), (8, .int (M.1 (10 + k) 8)), (7, .int (nI k)), (6, .int (mz_al M.1 k)), (5, .int 1), (0, .ref (ad 0)), (1, .ref (ad 50)), (2, .ref (ad 51)), (3, .int (nI X)), (4, .int 1)]) C dL_areSound_58 (by decide) rfl ?_
        refine r_aload_n C dL_areSound_60 rfl 6 rfl ?_
        refine r_iload C dL_areSound_61 3 rfl ?_
        refine r_iload C dL_areSound_63 0 rfl ?_
        refine r_q2I C hX9 4 (by decide) rfl (mm_ct4 ad q _) (kX4_sample hAD hl0) (mz_qsam hR hT hw (hk) (mz_in63 X)) (cwV 2 C.1.2.2.2.2 gL_areSound_X4_sample rfl rfl rfl (by decide +kernel) ⟨Nat.le_of_ble_eq_true rfl, Nat.le_of_ble_eq_true rfl⟩) (Nat.le_of_ble_eq_true rfl) dL_areSound_65 (kc := 1) (ks := 6) ⟨rfl, rfl⟩ (by show _ ≤ 100 ∧ _ ≤ 600; omega) (fun Mw hw => ?_)
        have hk1 := mz_k1 hR hB hT hk X
        refine r_istore (lv' := [(11, .int (mr_kept M.1 61 k (M.1 50 0 - 1 - nI (X % 64)))), (10, .int (nI (X % 64))), (9, .int (M.1 (10 + k) 9)), (8, .int (M.1 (10 + k) 8)), (7, .int (nI k)), (6, .int (mz_al M.1 k)), (5, .int 1), (0, .ref (ad 0)), (1, .ref (ad 50)), (2, .ref (ad 51)), (3, .int (nI X)), (4, .int 1)]) C dL_areSound_68 (by decide) rfl ?_
        refine r_iload C dL_areSound_70 5 rfl ?_
        refine r_aload_n C dL_areSound_72 rfl 9 rfl ?_
        refine r_iconst (v := 2) C dL_areSound_73 rfl ?_
        refine r_iload C dL_areSound_74 4 rfl ?_
        refine r_imul C dL_areSound_76 ?_
        refine r_topc (y := nI (2 * k)) (mz_mul 2 k) ?_
        refine r_ialdL C mm_aL_51 (2 * k) (mz_nn (by omega)) (by omega) dL_areSound_77 ?_
        refine r_topc (y := M.1 55 k) (by rw [hw]; exact (he k hk).1) ?_
        refine r_iadd C dL_areSound_78 ?_
        refine r_istore (lv' := [(6, .int (mz_al M.1 (k + 1))), (11, .int (mr_kept M.1 61 k (M.1 50 0 - 1 - nI (X % 64)))), (10, .int (nI (X % 64))), (9, .int (M.1 (10 + k) 9)), (8, .int (M.1 (10 + k) 8)), (7, .int (nI k)), (5, .int 1), (0, .ref (ad 0)), (1, .ref (ad 50)), (2, .ref (ad 51)), (3, .int (nI X)), (4, .int 1)]) C dL_areSound_79 (by decide) rfl ?_
        refine r_iload C dL_areSound_81 4 rfl ?_
        refine r_bipush (v := (15)) C dL_areSound_83 rfl ?_
        refine r_icmp_leF (tgt := 153) C dL_areSound_85 (by decide) (mz_nle hk1.1.1) ?_
        refine r_iload C dL_areSound_88 4 rfl ?_
        refine r_sipush (v := (256)) C dL_areSound_90 rfl ?_
        refine r_icmp_geF (tgt := 153) C dL_areSound_93 (by decide) (mz_nle hk1.1.2) ?_
        refine r_iload C dL_areSound_96 3 rfl ?_
        refine r_bipush (v := (-4)) C dL_areSound_98 rfl ?_
        refine r_icmp_leF (tgt := 153) C dL_areSound_100 (by decide) (mz_nle hk1.2.1.1) ?_
        refine r_iload C dL_areSound_103 3 rfl ?_
        refine r_iconst (v := 4) C dL_areSound_105 rfl ?_
        refine r_icmp_geF (tgt := 153) C dL_areSound_106 (by decide) (mz_nle hk1.2.1.2) ?_
        refine r_iload C dL_areSound_109 1 rfl ?_
        refine r_sipush (v := (-651)) C dL_areSound_111 rfl ?_
        refine r_icmp_ltF (tgt := 153) C dL_areSound_114 (by decide) (mz_nlt hk1.2.2.1.1) ?_
        refine r_iload C dL_areSound_117 1 rfl ?_
        refine r_sipush (v := (650)) C dL_areSound_119 rfl ?_
        refine r_icmp_gtF (tgt := 153) C dL_areSound_122 (by decide) (mz_nlt hk1.2.2.1.2) ?_
        refine r_aload_n C dL_areSound_125 rfl 8 rfl ?_
        refine r_iconst (v := 0) C dL_areSound_126 rfl ?_
        refine r_ialdL C mm_aL_50 0 rfl (by decide) dL_areSound_127 ?_
        refine r_topc (y := nI T) (by rw [hw]; exact hm0) ?_
        refine r_iconst (v := 1) C dL_areSound_128 rfl ?_
        refine r_isub C dL_areSound_129 ?_
        refine r_iload C dL_areSound_130 2 rfl ?_
        refine r_isub C dL_areSound_132 ?_
        refine r_aload_n C dL_areSound_133 rfl 9 rfl ?_
        refine r_iconst (v := 2) C dL_areSound_134 rfl ?_
        refine r_iload C dL_areSound_135 5 rfl ?_
        refine r_imul C dL_areSound_137 ?_
        refine r_topc (y := nI (2 * k)) (mz_mul 2 k) ?_
        refine r_iconst (v := 1) C dL_areSound_138 rfl ?_
        refine r_iadd C dL_areSound_139 ?_
        refine r_topc (y := nI ((2 * k) + 1)) (mz_add (2 * k) 1) ?_
        refine r_ialdL C mm_aL_51 ((2 * k) + 1) (mz_nn (by omega)) (by omega) dL_areSound_140 ?_
        refine r_topc (y := M.1 54 k) (by rw [hw]; exact (he k hk).2) ?_
        refine r_icmp_ge (tgt := 149) C dL_areSound_141 (by decide) (fun z141 => ?_) (fun z141 => ?_)
        · refine r_iconst (v := 1) C dL_areSound_149 rfl ?_
          refine r_goto (tgt := 154) C dL_areSound_150 (by decide) ?_
          refine r_istore (lv' := [(5, .int 1), (6, .int (mz_al M.1 (k + 1))), (11, .int (mr_kept M.1 61 k (M.1 50 0 - 1 - nI (X % 64)))), (10, .int (nI (X % 64))), (9, .int (M.1 (10 + k) 9)), (8, .int (M.1 (10 + k) 8)), (7, .int (nI k)), (0, .ref (ad 0)), (1, .ref (ad 50)), (2, .ref (ad 51)), (3, .int (nI X)), (4, .int 1)]) C dL_areSound_154 (by decide) rfl ?_
          refine r_iinc (v := nI (k + 1)) (lv' := [(7, .int (nI (k + 1))), (5, .int 1), (6, .int (mz_al M.1 (k + 1))), (11, .int (mr_kept M.1 61 k (M.1 50 0 - 1 - nI (X % 64)))), (10, .int (nI (X % 64))), (9, .int (M.1 (10 + k) 9)), (8, .int (M.1 (10 + k) 8)), (0, .ref (ad 0)), (1, .ref (ad 50)), (2, .ref (ad 51)), (3, .int (nI X)), (4, .int 1)]) C dL_areSound_156 6 rfl (mz_inc k) (by decide) rfl ?_
          refine r_goto (tgt := 23) C dL_areSound_159 (by decide) ?_
          refine r_sub (lv' := [(7, .int (nI (k + 1))), (6, .int (mz_al M.1 (k + 1))), (5, .int 1), (0, .ref (ad 0)), (1, .ref (ad 50)), (2, .ref (ad 51)), (3, .int (nI X)), (4, .int 1)]) [0, 2, 1, 7, 8, 9, 10, 11] rfl ?_
          exact r_wid (by omega) (by omega) (ih23 (k + 1) Mw (by omega) (hw) (by omega))
        · refine r_iload C dL_areSound_144 1 rfl ?_
          refine r_if_neF (tgt := 153) C dL_areSound_146 (by decide) (hk1.2.2.2 z141) ?_
          refine r_iconst (v := 1) C dL_areSound_149 rfl ?_
          refine r_goto (tgt := 154) C dL_areSound_150 (by decide) ?_
          refine r_istore (lv' := [(5, .int 1), (6, .int (mz_al M.1 (k + 1))), (11, .int (mr_kept M.1 61 k (M.1 50 0 - 1 - nI (X % 64)))), (10, .int (nI (X % 64))), (9, .int (M.1 (10 + k) 9)), (8, .int (M.1 (10 + k) 8)), (7, .int (nI k)), (0, .ref (ad 0)), (1, .ref (ad 50)), (2, .ref (ad 51)), (3, .int (nI X)), (4, .int 1)]) C dL_areSound_154 (by decide) rfl ?_
          refine r_iinc (v := nI (k + 1)) (lv' := [(7, .int (nI (k + 1))), (5, .int 1), (6, .int (mz_al M.1 (k + 1))), (11, .int (mr_kept M.1 61 k (M.1 50 0 - 1 - nI (X % 64)))), (10, .int (nI (X % 64))), (9, .int (M.1 (10 + k) 9)), (8, .int (M.1 (10 + k) 8)), (0, .ref (ad 0)), (1, .ref (ad 50)), (2, .ref (ad 51)), (3, .int (nI X)), (4, .int 1)]) C dL_areSound_156 6 rfl (mz_inc k) (by decide) rfl ?_
          refine r_goto (tgt := 23) C dL_areSound_159 (by decide) ?_
          refine r_sub (lv' := [(7, .int (nI (k + 1))), (6, .int (mz_al M.1 (k + 1))), (5, .int 1), (0, .ref (ad 0)), (1, .ref (ad 50)), (2, .ref (ad 51)), (3, .int (nI X)), (4, .int 1)]) [0, 2, 1, 7, 8, 9, 10, 11] rfl ?_
          exact r_wid (by omega) (by omega) (ih23 (k + 1) Mw (by omega) (hw) (by omega))
  have hN8 := hR.N8
  refine r_cast (M' := M) (lv' := [(7, .int (nI 0)), (6, .int (mz_al M.1 0)), (5, .int 1), (0, .ref (ad 0)), (1, .ref (ad 50)), (2, .ref (ad 51)), (3, .int (nI X)), (4, .int 1)]) (st' := []) rfl rfl rfl (r_wid (by omega) (by omega) (L23 (N - 0 + 1) 0 M (Nat.zero_le _) (rfl) (by omega)))
