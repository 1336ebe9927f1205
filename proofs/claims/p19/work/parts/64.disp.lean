theorem mz_pos2 {N : Nat} (h : N ≤ 8) (z : ¬ nI N ≤ 0) : 0 < N := by
  rw [Int32.le_iff_toInt_le, nI_toInt (by omega), show (0 : Int32).toInt = 0 from rfl] at z; omega
set_option maxHeartbeats 1000000 in
set_option maxRecDepth 100000 in
theorem lw_disp {pp : Program} {l : Launch} {ee : Env} {ss : State} {mm : MethodId} {bl : List Frame} {mth : Method} {cd : Code} {D : va_G} {ad : Nat → Nat} {q : Nat → ClassId} {A : Nat → Prop} {b : Nat} {Q : State → Prop} (hl0 : l.stackTraces = false) (C : mm_C pp ss mm #[.ref b] cd cL_law 13 wsL_law RL D ad q A) (hAD : mm_AD ad A) (hX9 : mm_XP A ss) {M : mm_M} {N S T X Y : Nat} {tv hv : Int32} {c0 s0 : Nat} (hI : mz_I M N S T) (hT : T ≤ 58000) (hX : X < 2147483648) (hY : Y < 2147483648) (hc0 : c0 + 60 ≤ 600130) (hs0 : s0 + 360 ≤ 7301080) (K : ∀ (M2 : mm_M) (N2 S2 T2 : Nat), T2 ≤ T + 100 → mz_I M2 N2 S2 T2 → mm_G pp l ee room_1 ss mm #[.ref b] bl mth cd (c0 + 60) (s0 + 360) Q 13 D ad q A (M2) 950 [(8, .int (nI Y)), (6, .int (nI X)), (5, .int tv), (4, .int 1), (3, .ref (ad 51)), (2, .ref (ad 50)), (1, .ref (ad 0)), (0, .ref b)] []) : mm_G pp l ee room_1 ss mm #[.ref b] bl mth cd (c0) (s0) Q 13 D ad q A (M) 121 [(8, .int (nI Y)), (7, .int hv), (6, .int (nI X)), (5, .int tv), (4, .int 1), (3, .ref (ad 51)), (2, .ref (ad 50)), (1, .ref (ad 0)), (0, .ref b)] [] := by
  have hN8 := hI.R.N8
  have hS4 := hI.R.S4
  refine r_iload C dL_law_121 1 rfl ?_
  refine r_iconst (v := 2) C dL_law_123 rfl ?_
  refine r_icmp_ge (tgt := 262) C dL_law_124 (by decide) (fun z124 => ?_) (fun z124 => ?_)
  · refine r_iload C dL_law_262 1 rfl ?_
    refine r_iconst (v := 5) C dL_law_264 rfl ?_
    refine r_icmp_ge (tgt := 348) C dL_law_265 (by decide) (fun z265 => ?_) (fun z265 => ?_)
    · refine r_iload C dL_law_348 1 rfl ?_
      refine r_iconst (v := 5) C dL_law_350 rfl ?_
      refine r_icmp_ne (tgt := 392) C dL_law_351 (by decide) (fun z351 => ?_) (fun z351 => ?_)
      · refine r_iload C dL_law_392 1 rfl ?_
        refine r_bipush (v := (8)) C dL_law_394 rfl ?_
        refine r_icmp_ge (tgt := 464) C dL_law_396 (by decide) (fun z396 => ?_) (fun z396 => ?_)
        · refine r_iload C dL_law_464 1 rfl ?_
          refine r_bipush (v := (8)) C dL_law_466 rfl ?_
          refine r_icmp_ne (tgt := 523) C dL_law_468 (by decide) (fun z468 => ?_) (fun z468 => ?_)
          · refine r_iload C dL_law_523 1 rfl ?_
            refine r_bipush (v := (12)) C dL_law_525 rfl ?_
            refine r_icmp_ge (tgt := 620) C dL_law_527 (by decide) (fun z527 => ?_) (fun z527 => ?_)
            · refine r_iload C dL_law_620 1 rfl ?_
              refine r_bipush (v := (15)) C dL_law_622 rfl ?_
              refine r_icmp_ge (tgt := 768) C dL_law_624 (by decide) (fun z624 => ?_) (fun z624 => ?_)
              · refine r_iload C dL_law_768 1 rfl ?_
                refine r_bipush (v := (14)) C dL_law_770 rfl ?_
                refine r_icmp_le (tgt := 950) C dL_law_772 (by decide) (fun z772 => ?_) (fun z772 => ?_)
                · refine r_sub (lv' := [(8, .int (nI Y)), (6, .int (nI X)), (5, .int tv), (4, .int 1), (3, .ref (ad 51)), (2, .ref (ad 50)), (1, .ref (ad 0)), (0, .ref b)]) [0, 2, 3, 4, 5, 6, 7, 8] rfl ?_
                  exact r_wid (by omega) (by omega) (K M N S T (by omega) hI)
                · exact lw_he hl0 C hAD hX9 hI hT hX hY hc0 hs0 K
              · refine r_iload C dL_law_627 1 rfl ?_
                refine r_bipush (v := (11)) C dL_law_629 rfl ?_
                refine r_icmp_le (tgt := 768) C dL_law_631 (by decide) (fun z631 => ?_) (fun z631 => ?_)
                · refine r_iload C dL_law_768 1 rfl ?_
                  refine r_bipush (v := (14)) C dL_law_770 rfl ?_
                  refine r_icmp_le (tgt := 950) C dL_law_772 (by decide) (fun z772 => ?_) (fun z772 => ?_)
                  · refine r_sub (lv' := [(8, .int (nI Y)), (6, .int (nI X)), (5, .int tv), (4, .int 1), (3, .ref (ad 51)), (2, .ref (ad 50)), (1, .ref (ad 0)), (0, .ref b)]) [0, 2, 3, 4, 5, 6, 7, 8] rfl ?_
                    exact r_wid (by omega) (by omega) (K M N S T (by omega) hI)
                  · exact lw_he hl0 C hAD hX9 hI hT hX hY hc0 hs0 K
                · rcases mz_cak02 (M := M) (mz_b9 Y) with hh | hh
                  · exact lw_ca0 hl0 C hAD hX9 hI hT hX hY hc0 hs0 K hh
                  · exact lw_ca2 hl0 C hAD hX9 hI hT hX hY hc0 hs0 K hh
            · refine r_iload C dL_law_530 1 rfl ?_
              refine r_bipush (v := (8)) C dL_law_532 rfl ?_
              refine r_icmp_le (tgt := 620) C dL_law_534 (by decide) (fun z534 => ?_) (fun z534 => ?_)
              · refine r_iload C dL_law_620 1 rfl ?_
                refine r_bipush (v := (15)) C dL_law_622 rfl ?_
                refine r_icmp_ge (tgt := 768) C dL_law_624 (by decide) (fun z624 => ?_) (fun z624 => ?_)
                · refine r_iload C dL_law_768 1 rfl ?_
                  refine r_bipush (v := (14)) C dL_law_770 rfl ?_
                  refine r_icmp_le (tgt := 950) C dL_law_772 (by decide) (fun z772 => ?_) (fun z772 => ?_)
                  · refine r_sub (lv' := [(8, .int (nI Y)), (6, .int (nI X)), (5, .int tv), (4, .int 1), (3, .ref (ad 51)), (2, .ref (ad 50)), (1, .ref (ad 0)), (0, .ref b)]) [0, 2, 3, 4, 5, 6, 7, 8] rfl ?_
                    exact r_wid (by omega) (by omega) (K M N S T (by omega) hI)
                  · exact lw_he hl0 C hAD hX9 hI hT hX hY hc0 hs0 K
                · refine r_iload C dL_law_627 1 rfl ?_
                  refine r_bipush (v := (11)) C dL_law_629 rfl ?_
                  refine r_icmp_le (tgt := 768) C dL_law_631 (by decide) (fun z631 => ?_) (fun z631 => ?_)
                  · refine r_iload C dL_law_768 1 rfl ?_
                    refine r_bipush (v := (14)) C dL_law_770 rfl ?_
                    refine r_icmp_le (tgt := 950) C dL_law_772 (by decide) (fun z772 => ?_) (fun z772 => ?_)
                    · refine r_sub (lv' := [(8, .int (nI Y)), (6, .int (nI X)), (5, .int tv), (4, .int 1), (3, .ref (ad 51)), (2, .ref (ad 50)), (1, .ref (ad 0)), (0, .ref b)]) [0, 2, 3, 4, 5, 6, 7, 8] rfl ?_
                      exact r_wid (by omega) (by omega) (K M N S T (by omega) hI)
                    · exact lw_he hl0 C hAD hX9 hI hT hX hY hc0 hs0 K
                  · rcases mz_cak02 (M := M) (mz_b9 Y) with hh | hh
                    · exact lw_ca0 hl0 C hAD hX9 hI hT hX hY hc0 hs0 K hh
                    · exact lw_ca2 hl0 C hAD hX9 hI hT hX hY hc0 hs0 K hh
              · refine r_aload_n C dL_law_537 rfl 6 rfl ?_
                refine r_iconst (v := 1) C dL_law_538 rfl ?_
                refine r_ialdL C mm_aL_50 1 rfl (by decide) dL_law_539 ?_
                refine r_topc (y := nI N) (hI.m1) ?_
                refine r_if_le (tgt := 620) C dL_law_540 (by decide) (fun z540 => ?_) (fun z540 => ?_)
                · refine r_iload C dL_law_620 1 rfl ?_
                  refine r_bipush (v := (15)) C dL_law_622 rfl ?_
                  refine r_icmp_ge (tgt := 768) C dL_law_624 (by decide) (fun z624 => ?_) (fun z624 => ?_)
                  · refine r_iload C dL_law_768 1 rfl ?_
                    refine r_bipush (v := (14)) C dL_law_770 rfl ?_
                    refine r_icmp_le (tgt := 950) C dL_law_772 (by decide) (fun z772 => ?_) (fun z772 => ?_)
                    · refine r_sub (lv' := [(8, .int (nI Y)), (6, .int (nI X)), (5, .int tv), (4, .int 1), (3, .ref (ad 51)), (2, .ref (ad 50)), (1, .ref (ad 0)), (0, .ref b)]) [0, 2, 3, 4, 5, 6, 7, 8] rfl ?_
                      exact r_wid (by omega) (by omega) (K M N S T (by omega) hI)
                    · exact lw_he hl0 C hAD hX9 hI hT hX hY hc0 hs0 K
                  · refine r_iload C dL_law_627 1 rfl ?_
                    refine r_bipush (v := (11)) C dL_law_629 rfl ?_
                    refine r_icmp_le (tgt := 768) C dL_law_631 (by decide) (fun z631 => ?_) (fun z631 => ?_)
                    · refine r_iload C dL_law_768 1 rfl ?_
                      refine r_bipush (v := (14)) C dL_law_770 rfl ?_
                      refine r_icmp_le (tgt := 950) C dL_law_772 (by decide) (fun z772 => ?_) (fun z772 => ?_)
                      · refine r_sub (lv' := [(8, .int (nI Y)), (6, .int (nI X)), (5, .int tv), (4, .int 1), (3, .ref (ad 51)), (2, .ref (ad 50)), (1, .ref (ad 0)), (0, .ref b)]) [0, 2, 3, 4, 5, 6, 7, 8] rfl ?_
                        exact r_wid (by omega) (by omega) (K M N S T (by omega) hI)
                      · exact lw_he hl0 C hAD hX9 hI hT hX hY hc0 hs0 K
                    · rcases mz_cak02 (M := M) (mz_b9 Y) with hh | hh
                      · exact lw_ca0 hl0 C hAD hX9 hI hT hX hY hc0 hs0 K hh
                      · exact lw_ca2 hl0 C hAD hX9 hI hT hX hY hc0 hs0 K hh
                · exact lw_al hl0 C hAD hX9 hI hT hX hY hc0 hs0 K (mz_pos2 (by omega) z540)
          · exact lw_wi hl0 C hAD hX9 hI hT hX hY hc0 hs0 K
        · refine r_iload C dL_law_399 1 rfl ?_
          refine r_iconst (v := 5) C dL_law_401 rfl ?_
          refine r_icmp_le (tgt := 464) C dL_law_402 (by decide) (fun z402 => ?_) (fun z402 => ?_)
          · refine r_iload C dL_law_464 1 rfl ?_
            refine r_bipush (v := (8)) C dL_law_466 rfl ?_
            refine r_icmp_ne (tgt := 523) C dL_law_468 (by decide) (fun z468 => ?_) (fun z468 => ?_)
            · refine r_iload C dL_law_523 1 rfl ?_
              refine r_bipush (v := (12)) C dL_law_525 rfl ?_
              refine r_icmp_ge (tgt := 620) C dL_law_527 (by decide) (fun z527 => ?_) (fun z527 => ?_)
              · refine r_iload C dL_law_620 1 rfl ?_
                refine r_bipush (v := (15)) C dL_law_622 rfl ?_
                refine r_icmp_ge (tgt := 768) C dL_law_624 (by decide) (fun z624 => ?_) (fun z624 => ?_)
                · refine r_iload C dL_law_768 1 rfl ?_
                  refine r_bipush (v := (14)) C dL_law_770 rfl ?_
                  refine r_icmp_le (tgt := 950) C dL_law_772 (by decide) (fun z772 => ?_) (fun z772 => ?_)
                  · refine r_sub (lv' := [(8, .int (nI Y)), (6, .int (nI X)), (5, .int tv), (4, .int 1), (3, .ref (ad 51)), (2, .ref (ad 50)), (1, .ref (ad 0)), (0, .ref b)]) [0, 2, 3, 4, 5, 6, 7, 8] rfl ?_
                    exact r_wid (by omega) (by omega) (K M N S T (by omega) hI)
                  · exact lw_he hl0 C hAD hX9 hI hT hX hY hc0 hs0 K
                · refine r_iload C dL_law_627 1 rfl ?_
                  refine r_bipush (v := (11)) C dL_law_629 rfl ?_
                  refine r_icmp_le (tgt := 768) C dL_law_631 (by decide) (fun z631 => ?_) (fun z631 => ?_)
                  · refine r_iload C dL_law_768 1 rfl ?_
                    refine r_bipush (v := (14)) C dL_law_770 rfl ?_
                    refine r_icmp_le (tgt := 950) C dL_law_772 (by decide) (fun z772 => ?_) (fun z772 => ?_)
                    · refine r_sub (lv' := [(8, .int (nI Y)), (6, .int (nI X)), (5, .int tv), (4, .int 1), (3, .ref (ad 51)), (2, .ref (ad 50)), (1, .ref (ad 0)), (0, .ref b)]) [0, 2, 3, 4, 5, 6, 7, 8] rfl ?_
                      exact r_wid (by omega) (by omega) (K M N S T (by omega) hI)
                    · exact lw_he hl0 C hAD hX9 hI hT hX hY hc0 hs0 K
                  · rcases mz_cak02 (M := M) (mz_b9 Y) with hh | hh
                    · exact lw_ca0 hl0 C hAD hX9 hI hT hX hY hc0 hs0 K hh
                    · exact lw_ca2 hl0 C hAD hX9 hI hT hX hY hc0 hs0 K hh
              · refine r_iload C dL_law_530 1 rfl ?_
                refine r_bipush (v := (8)) C dL_law_532 rfl ?_
                refine r_icmp_le (tgt := 620) C dL_law_534 (by decide) (fun z534 => ?_) (fun z534 => ?_)
                · refine r_iload C dL_law_620 1 rfl ?_
                  refine r_bipush (v := (15)) C dL_law_622 rfl ?_
                  refine r_icmp_ge (tgt := 768) C dL_law_624 (by decide) (fun z624 => ?_) (fun z624 => ?_)
                  · refine r_iload C dL_law_768 1 rfl ?_
                    refine r_bipush (v := (14)) C dL_law_770 rfl ?_
                    refine r_icmp_le (tgt := 950) C dL_law_772 (by decide) (fun z772 => ?_) (fun z772 => ?_)
                    · refine r_sub (lv' := [(8, .int (nI Y)), (6, .int (nI X)), (5, .int tv), (4, .int 1), (3, .ref (ad 51)), (2, .ref (ad 50)), (1, .ref (ad 0)), (0, .ref b)]) [0, 2, 3, 4, 5, 6, 7, 8] rfl ?_
                      exact r_wid (by omega) (by omega) (K M N S T (by omega) hI)
                    · exact lw_he hl0 C hAD hX9 hI hT hX hY hc0 hs0 K
                  · refine r_iload C dL_law_627 1 rfl ?_
                    refine r_bipush (v := (11)) C dL_law_629 rfl ?_
                    refine r_icmp_le (tgt := 768) C dL_law_631 (by decide) (fun z631 => ?_) (fun z631 => ?_)
                    · refine r_iload C dL_law_768 1 rfl ?_
                      refine r_bipush (v := (14)) C dL_law_770 rfl ?_
                      refine r_icmp_le (tgt := 950) C dL_law_772 (by decide) (fun z772 => ?_) (fun z772 => ?_)
                      · refine r_sub (lv' := [(8, .int (nI Y)), (6, .int (nI X)), (5, .int tv), (4, .int 1), (3, .ref (ad 51)), (2, .ref (ad 50)), (1, .ref (ad 0)), (0, .ref b)]) [0, 2, 3, 4, 5, 6, 7, 8] rfl ?_
                        exact r_wid (by omega) (by omega) (K M N S T (by omega) hI)
                      · exact lw_he hl0 C hAD hX9 hI hT hX hY hc0 hs0 K
                    · rcases mz_cak02 (M := M) (mz_b9 Y) with hh | hh
                      · exact lw_ca0 hl0 C hAD hX9 hI hT hX hY hc0 hs0 K hh
                      · exact lw_ca2 hl0 C hAD hX9 hI hT hX hY hc0 hs0 K hh
                · refine r_aload_n C dL_law_537 rfl 6 rfl ?_
                  refine r_iconst (v := 1) C dL_law_538 rfl ?_
                  refine r_ialdL C mm_aL_50 1 rfl (by decide) dL_law_539 ?_
                  refine r_topc (y := nI N) (hI.m1) ?_
                  refine r_if_le (tgt := 620) C dL_law_540 (by decide) (fun z540 => ?_) (fun z540 => ?_)
                  · refine r_iload C dL_law_620 1 rfl ?_
                    refine r_bipush (v := (15)) C dL_law_622 rfl ?_
                    refine r_icmp_ge (tgt := 768) C dL_law_624 (by decide) (fun z624 => ?_) (fun z624 => ?_)
                    · refine r_iload C dL_law_768 1 rfl ?_
                      refine r_bipush (v := (14)) C dL_law_770 rfl ?_
                      refine r_icmp_le (tgt := 950) C dL_law_772 (by decide) (fun z772 => ?_) (fun z772 => ?_)
                      · refine r_sub (lv' := [(8, .int (nI Y)), (6, .int (nI X)), (5, .int tv), (4, .int 1), (3, .ref (ad 51)), (2, .ref (ad 50)), (1, .ref (ad 0)), (0, .ref b)]) [0, 2, 3, 4, 5, 6, 7, 8] rfl ?_
                        exact r_wid (by omega) (by omega) (K M N S T (by omega) hI)
                      · exact lw_he hl0 C hAD hX9 hI hT hX hY hc0 hs0 K
                    · refine r_iload C dL_law_627 1 rfl ?_
                      refine r_bipush (v := (11)) C dL_law_629 rfl ?_
                      refine r_icmp_le (tgt := 768) C dL_law_631 (by decide) (fun z631 => ?_) (fun z631 => ?_)
                      · refine r_iload C dL_law_768 1 rfl ?_
                        refine r_bipush (v := (14)) C dL_law_770 rfl ?_
                        refine r_icmp_le (tgt := 950) C dL_law_772 (by decide) (fun z772 => ?_) (fun z772 => ?_)
                        · refine r_sub (lv' := [(8, .int (nI Y)), (6, .int (nI X)), (5, .int tv), (4, .int 1), (3, .ref (ad 51)), (2, .ref (ad 50)), (1, .ref (ad 0)), (0, .ref b)]) [0, 2, 3, 4, 5, 6, 7, 8] rfl ?_
                          exact r_wid (by omega) (by omega) (K M N S T (by omega) hI)
                        · exact lw_he hl0 C hAD hX9 hI hT hX hY hc0 hs0 K
                      · rcases mz_cak02 (M := M) (mz_b9 Y) with hh | hh
                        · exact lw_ca0 hl0 C hAD hX9 hI hT hX hY hc0 hs0 K hh
                        · exact lw_ca2 hl0 C hAD hX9 hI hT hX hY hc0 hs0 K hh
                  · exact lw_al hl0 C hAD hX9 hI hT hX hY hc0 hs0 K (mz_pos2 (by omega) z540)
            · exact lw_wi hl0 C hAD hX9 hI hT hX hY hc0 hs0 K
          · exact lw_no hl0 C hAD hX9 hI hT hX hY hc0 hs0 K
      · refine r_iload C dL_law_354 0 rfl ?_
        refine r_iconst (v := 3) C dL_law_356 rfl ?_
        refine r_irem C dL_law_357 (by decide) ?_
        refine r_topc (y := nI (Y % 3)) (mz_rem 3 (X := Y) (by omega) (by omega)) ?_
        refine r_if_ne (tgt := 392) C dL_law_358 (by decide) (fun z358 => ?_) (fun z358 => ?_)
        · refine r_iload C dL_law_392 1 rfl ?_
          refine r_bipush (v := (8)) C dL_law_394 rfl ?_
          refine r_icmp_ge (tgt := 464) C dL_law_396 (by decide) (fun z396 => ?_) (fun z396 => ?_)
          · refine r_iload C dL_law_464 1 rfl ?_
            refine r_bipush (v := (8)) C dL_law_466 rfl ?_
            refine r_icmp_ne (tgt := 523) C dL_law_468 (by decide) (fun z468 => ?_) (fun z468 => ?_)
            · refine r_iload C dL_law_523 1 rfl ?_
              refine r_bipush (v := (12)) C dL_law_525 rfl ?_
              refine r_icmp_ge (tgt := 620) C dL_law_527 (by decide) (fun z527 => ?_) (fun z527 => ?_)
              · refine r_iload C dL_law_620 1 rfl ?_
                refine r_bipush (v := (15)) C dL_law_622 rfl ?_
                refine r_icmp_ge (tgt := 768) C dL_law_624 (by decide) (fun z624 => ?_) (fun z624 => ?_)
                · refine r_iload C dL_law_768 1 rfl ?_
                  refine r_bipush (v := (14)) C dL_law_770 rfl ?_
                  refine r_icmp_le (tgt := 950) C dL_law_772 (by decide) (fun z772 => ?_) (fun z772 => ?_)
                  · refine r_sub (lv' := [(8, .int (nI Y)), (6, .int (nI X)), (5, .int tv), (4, .int 1), (3, .ref (ad 51)), (2, .ref (ad 50)), (1, .ref (ad 0)), (0, .ref b)]) [0, 2, 3, 4, 5, 6, 7, 8] rfl ?_
                    exact r_wid (by omega) (by omega) (K M N S T (by omega) hI)
                  · exact lw_he hl0 C hAD hX9 hI hT hX hY hc0 hs0 K
                · refine r_iload C dL_law_627 1 rfl ?_
                  refine r_bipush (v := (11)) C dL_law_629 rfl ?_
                  refine r_icmp_le (tgt := 768) C dL_law_631 (by decide) (fun z631 => ?_) (fun z631 => ?_)
                  · refine r_iload C dL_law_768 1 rfl ?_
                    refine r_bipush (v := (14)) C dL_law_770 rfl ?_
                    refine r_icmp_le (tgt := 950) C dL_law_772 (by decide) (fun z772 => ?_) (fun z772 => ?_)
                    · refine r_sub (lv' := [(8, .int (nI Y)), (6, .int (nI X)), (5, .int tv), (4, .int 1), (3, .ref (ad 51)), (2, .ref (ad 50)), (1, .ref (ad 0)), (0, .ref b)]) [0, 2, 3, 4, 5, 6, 7, 8] rfl ?_
                      exact r_wid (by omega) (by omega) (K M N S T (by omega) hI)
                    · exact lw_he hl0 C hAD hX9 hI hT hX hY hc0 hs0 K
                  · rcases mz_cak02 (M := M) (mz_b9 Y) with hh | hh
                    · exact lw_ca0 hl0 C hAD hX9 hI hT hX hY hc0 hs0 K hh
                    · exact lw_ca2 hl0 C hAD hX9 hI hT hX hY hc0 hs0 K hh
              · refine r_iload C dL_law_530 1 rfl ?_
                refine r_bipush (v := (8)) C dL_law_532 rfl ?_
                refine r_icmp_le (tgt := 620) C dL_law_534 (by decide) (fun z534 => ?_) (fun z534 => ?_)
                · refine r_iload C dL_law_620 1 rfl ?_
                  refine r_bipush (v := (15)) C dL_law_622 rfl ?_
                  refine r_icmp_ge (tgt := 768) C dL_law_624 (by decide) (fun z624 => ?_) (fun z624 => ?_)
                  · refine r_iload C dL_law_768 1 rfl ?_
                    refine r_bipush (v := (14)) C dL_law_770 rfl ?_
                    refine r_icmp_le (tgt := 950) C dL_law_772 (by decide) (fun z772 => ?_) (fun z772 => ?_)
                    · refine r_sub (lv' := [(8, .int (nI Y)), (6, .int (nI X)), (5, .int tv), (4, .int 1), (3, .ref (ad 51)), (2, .ref (ad 50)), (1, .ref (ad 0)), (0, .ref b)]) [0, 2, 3, 4, 5, 6, 7, 8] rfl ?_
                      exact r_wid (by omega) (by omega) (K M N S T (by omega) hI)
                    · exact lw_he hl0 C hAD hX9 hI hT hX hY hc0 hs0 K
                  · refine r_iload C dL_law_627 1 rfl ?_
                    refine r_bipush (v := (11)) C dL_law_629 rfl ?_
                    refine r_icmp_le (tgt := 768) C dL_law_631 (by decide) (fun z631 => ?_) (fun z631 => ?_)
                    · refine r_iload C dL_law_768 1 rfl ?_
                      refine r_bipush (v := (14)) C dL_law_770 rfl ?_
                      refine r_icmp_le (tgt := 950) C dL_law_772 (by decide) (fun z772 => ?_) (fun z772 => ?_)
                      · refine r_sub (lv' := [(8, .int (nI Y)), (6, .int (nI X)), (5, .int tv), (4, .int 1), (3, .ref (ad 51)), (2, .ref (ad 50)), (1, .ref (ad 0)), (0, .ref b)]) [0, 2, 3, 4, 5, 6, 7, 8] rfl ?_
                        exact r_wid (by omega) (by omega) (K M N S T (by omega) hI)
                      · exact lw_he hl0 C hAD hX9 hI hT hX hY hc0 hs0 K
                    · rcases mz_cak02 (M := M) (mz_b9 Y) with hh | hh
                      · exact lw_ca0 hl0 C hAD hX9 hI hT hX hY hc0 hs0 K hh
                      · exact lw_ca2 hl0 C hAD hX9 hI hT hX hY hc0 hs0 K hh
                · refine r_aload_n C dL_law_537 rfl 6 rfl ?_
                  refine r_iconst (v := 1) C dL_law_538 rfl ?_
                  refine r_ialdL C mm_aL_50 1 rfl (by decide) dL_law_539 ?_
                  refine r_topc (y := nI N) (hI.m1) ?_
                  refine r_if_le (tgt := 620) C dL_law_540 (by decide) (fun z540 => ?_) (fun z540 => ?_)
                  · refine r_iload C dL_law_620 1 rfl ?_
                    refine r_bipush (v := (15)) C dL_law_622 rfl ?_
                    refine r_icmp_ge (tgt := 768) C dL_law_624 (by decide) (fun z624 => ?_) (fun z624 => ?_)
                    · refine r_iload C dL_law_768 1 rfl ?_
                      refine r_bipush (v := (14)) C dL_law_770 rfl ?_
                      refine r_icmp_le (tgt := 950) C dL_law_772 (by decide) (fun z772 => ?_) (fun z772 => ?_)
                      · refine r_sub (lv' := [(8, .int (nI Y)), (6, .int (nI X)), (5, .int tv), (4, .int 1), (3, .ref (ad 51)), (2, .ref (ad 50)), (1, .ref (ad 0)), (0, .ref b)]) [0, 2, 3, 4, 5, 6, 7, 8] rfl ?_
                        exact r_wid (by omega) (by omega) (K M N S T (by omega) hI)
                      · exact lw_he hl0 C hAD hX9 hI hT hX hY hc0 hs0 K
                    · refine r_iload C dL_law_627 1 rfl ?_
                      refine r_bipush (v := (11)) C dL_law_629 rfl ?_
                      refine r_icmp_le (tgt := 768) C dL_law_631 (by decide) (fun z631 => ?_) (fun z631 => ?_)
                      · refine r_iload C dL_law_768 1 rfl ?_
                        refine r_bipush (v := (14)) C dL_law_770 rfl ?_
                        refine r_icmp_le (tgt := 950) C dL_law_772 (by decide) (fun z772 => ?_) (fun z772 => ?_)
                        · refine r_sub (lv' := [(8, .int (nI Y)), (6, .int (nI X)), (5, .int tv), (4, .int 1), (3, .ref (ad 51)), (2, .ref (ad 50)), (1, .ref (ad 0)), (0, .ref b)]) [0, 2, 3, 4, 5, 6, 7, 8] rfl ?_
                          exact r_wid (by omega) (by omega) (K M N S T (by omega) hI)
                        · exact lw_he hl0 C hAD hX9 hI hT hX hY hc0 hs0 K
                      · rcases mz_cak02 (M := M) (mz_b9 Y) with hh | hh
                        · exact lw_ca0 hl0 C hAD hX9 hI hT hX hY hc0 hs0 K hh
                        · exact lw_ca2 hl0 C hAD hX9 hI hT hX hY hc0 hs0 K hh
                  · exact lw_al hl0 C hAD hX9 hI hT hX hY hc0 hs0 K (mz_pos2 (by omega) z540)
            · exact lw_wi hl0 C hAD hX9 hI hT hX hY hc0 hs0 K
          · refine r_iload C dL_law_399 1 rfl ?_
            refine r_iconst (v := 5) C dL_law_401 rfl ?_
            refine r_icmp_le (tgt := 464) C dL_law_402 (by decide) (fun z402 => ?_) (fun z402 => ?_)
            · refine r_iload C dL_law_464 1 rfl ?_
              refine r_bipush (v := (8)) C dL_law_466 rfl ?_
              refine r_icmp_ne (tgt := 523) C dL_law_468 (by decide) (fun z468 => ?_) (fun z468 => ?_)
              · refine r_iload C dL_law_523 1 rfl ?_
                refine r_bipush (v := (12)) C dL_law_525 rfl ?_
                refine r_icmp_ge (tgt := 620) C dL_law_527 (by decide) (fun z527 => ?_) (fun z527 => ?_)
                · refine r_iload C dL_law_620 1 rfl ?_
                  refine r_bipush (v := (15)) C dL_law_622 rfl ?_
                  refine r_icmp_ge (tgt := 768) C dL_law_624 (by decide) (fun z624 => ?_) (fun z624 => ?_)
                  · refine r_iload C dL_law_768 1 rfl ?_
                    refine r_bipush (v := (14)) C dL_law_770 rfl ?_
                    refine r_icmp_le (tgt := 950) C dL_law_772 (by decide) (fun z772 => ?_) (fun z772 => ?_)
                    · refine r_sub (lv' := [(8, .int (nI Y)), (6, .int (nI X)), (5, .int tv), (4, .int 1), (3, .ref (ad 51)), (2, .ref (ad 50)), (1, .ref (ad 0)), (0, .ref b)]) [0, 2, 3, 4, 5, 6, 7, 8] rfl ?_
                      exact r_wid (by omega) (by omega) (K M N S T (by omega) hI)
                    · exact lw_he hl0 C hAD hX9 hI hT hX hY hc0 hs0 K
                  · refine r_iload C dL_law_627 1 rfl ?_
                    refine r_bipush (v := (11)) C dL_law_629 rfl ?_
                    refine r_icmp_le (tgt := 768) C dL_law_631 (by decide) (fun z631 => ?_) (fun z631 => ?_)
                    · refine r_iload C dL_law_768 1 rfl ?_
                      refine r_bipush (v := (14)) C dL_law_770 rfl ?_
                      refine r_icmp_le (tgt := 950) C dL_law_772 (by decide) (fun z772 => ?_) (fun z772 => ?_)
                      · refine r_sub (lv' := [(8, .int (nI Y)), (6, .int (nI X)), (5, .int tv), (4, .int 1), (3, .ref (ad 51)), (2, .ref (ad 50)), (1, .ref (ad 0)), (0, .ref b)]) [0, 2, 3, 4, 5, 6, 7, 8] rfl ?_
                        exact r_wid (by omega) (by omega) (K M N S T (by omega) hI)
                      · exact lw_he hl0 C hAD hX9 hI hT hX hY hc0 hs0 K
                    · rcases mz_cak02 (M := M) (mz_b9 Y) with hh | hh
                      · exact lw_ca0 hl0 C hAD hX9 hI hT hX hY hc0 hs0 K hh
                      · exact lw_ca2 hl0 C hAD hX9 hI hT hX hY hc0 hs0 K hh
                · refine r_iload C dL_law_530 1 rfl ?_
                  refine r_bipush (v := (8)) C dL_law_532 rfl ?_
                  refine r_icmp_le (tgt := 620) C dL_law_534 (by decide) (fun z534 => ?_) (fun z534 => ?_)
                  · refine r_iload C dL_law_620 1 rfl ?_
                    refine r_bipush (v := (15)) C dL_law_622 rfl ?_
                    refine r_icmp_ge (tgt := 768) C dL_law_624 (by decide) (fun z624 => ?_) (fun z624 => ?_)
                    · refine r_iload C dL_law_768 1 rfl ?_
                      refine r_bipush (v := (14)) C dL_law_770 rfl ?_
                      refine r_icmp_le (tgt := 950) C dL_law_772 (by decide) (fun z772 => ?_) (fun z772 => ?_)
                      · refine r_sub (lv' := [(8, .int (nI Y)), (6, .int (nI X)), (5, .int tv), (4, .int 1), (3, .ref (ad 51)), (2, .ref (ad 50)), (1, .ref (ad 0)), (0, .ref b)]) [0, 2, 3, 4, 5, 6, 7, 8] rfl ?_
                        exact r_wid (by omega) (by omega) (K M N S T (by omega) hI)
                      · exact lw_he hl0 C hAD hX9 hI hT hX hY hc0 hs0 K
                    · refine r_iload C dL_law_627 1 rfl ?_
                      refine r_bipush (v := (11)) C dL_law_629 rfl ?_
                      refine r_icmp_le (tgt := 768) C dL_law_631 (by decide) (fun z631 => ?_) (fun z631 => ?_)
                      · refine r_iload C dL_law_768 1 rfl ?_
                        refine r_bipush (v := (14)) C dL_law_770 rfl ?_
                        refine r_icmp_le (tgt := 950) C dL_law_772 (by decide) (fun z772 => ?_) (fun z772 => ?_)
                        · refine r_sub (lv' := [(8, .int (nI Y)), (6, .int (nI X)), (5, .int tv), (4, .int 1), (3, .ref (ad 51)), (2, .ref (ad 50)), (1, .ref (ad 0)), (0, .ref b)]) [0, 2, 3, 4, 5, 6, 7, 8] rfl ?_
                          exact r_wid (by omega) (by omega) (K M N S T (by omega) hI)
                        · exact lw_he hl0 C hAD hX9 hI hT hX hY hc0 hs0 K
                      · rcases mz_cak02 (M := M) (mz_b9 Y) with hh | hh
                        · exact lw_ca0 hl0 C hAD hX9 hI hT hX hY hc0 hs0 K hh
                        · exact lw_ca2 hl0 C hAD hX9 hI hT hX hY hc0 hs0 K hh
                  · refine r_aload_n C dL_law_537 rfl 6 rfl ?_
                    refine r_iconst (v := 1) C dL_law_538 rfl ?_
                    refine r_ialdL C mm_aL_50 1 rfl (by decide) dL_law_539 ?_
                    refine r_topc (y := nI N) (hI.m1) ?_
                    refine r_if_le (tgt := 620) C dL_law_540 (by decide) (fun z540 => ?_) (fun z540 => ?_)
                    · refine r_iload C dL_law_620 1 rfl ?_
                      refine r_bipush (v := (15)) C dL_law_622 rfl ?_
                      refine r_icmp_ge (tgt := 768) C dL_law_624 (by decide) (fun z624 => ?_) (fun z624 => ?_)
                      · refine r_iload C dL_law_768 1 rfl ?_
                        refine r_bipush (v := (14)) C dL_law_770 rfl ?_
                        refine r_icmp_le (tgt := 950) C dL_law_772 (by decide) (fun z772 => ?_) (fun z772 => ?_)
                        · refine r_sub (lv' := [(8, .int (nI Y)), (6, .int (nI X)), (5, .int tv), (4, .int 1), (3, .ref (ad 51)), (2, .ref (ad 50)), (1, .ref (ad 0)), (0, .ref b)]) [0, 2, 3, 4, 5, 6, 7, 8] rfl ?_
                          exact r_wid (by omega) (by omega) (K M N S T (by omega) hI)
                        · exact lw_he hl0 C hAD hX9 hI hT hX hY hc0 hs0 K
                      · refine r_iload C dL_law_627 1 rfl ?_
                        refine r_bipush (v := (11)) C dL_law_629 rfl ?_
                        refine r_icmp_le (tgt := 768) C dL_law_631 (by decide) (fun z631 => ?_) (fun z631 => ?_)
                        · refine r_iload C dL_law_768 1 rfl ?_
                          refine r_bipush (v := (14)) C dL_law_770 rfl ?_
                          refine r_icmp_le (tgt := 950) C dL_law_772 (by decide) (fun z772 => ?_) (fun z772 => ?_)
                          · refine r_sub (lv' := [(8, .int (nI Y)), (6, .int (nI X)), (5, .int tv), (4, .int 1), (3, .ref (ad 51)), (2, .ref (ad 50)), (1, .ref (ad 0)), (0, .ref b)]) [0, 2, 3, 4, 5, 6, 7, 8] rfl ?_
                            exact r_wid (by omega) (by omega) (K M N S T (by omega) hI)
                          · exact lw_he hl0 C hAD hX9 hI hT hX hY hc0 hs0 K
                        · rcases mz_cak02 (M := M) (mz_b9 Y) with hh | hh
                          · exact lw_ca0 hl0 C hAD hX9 hI hT hX hY hc0 hs0 K hh
                          · exact lw_ca2 hl0 C hAD hX9 hI hT hX hY hc0 hs0 K hh
                    · exact lw_al hl0 C hAD hX9 hI hT hX hY hc0 hs0 K (mz_pos2 (by omega) z540)
              · exact lw_wi hl0 C hAD hX9 hI hT hX hY hc0 hs0 K
            · exact lw_no hl0 C hAD hX9 hI hT hX hY hc0 hs0 K
        · exact lw_si hl0 C hAD hX9 hI hT hX hY hc0 hs0 K
    · rcases (by omega : S = 4 ∨ S < 4) with hh | hh
      · subst hh; exact lw_so4 hl0 C hAD hX9 hI hT hX hY hc0 hs0 K
      · exact lw_so hl0 C hAD hX9 hI hT hX hY hc0 hs0 K hh
  · rcases (by omega : N = 8 ∨ N < 8) with hh | hh
    · subst hh; exact lw_el8 hl0 C hAD hX9 hI hT hX hY hc0 hs0 K
    · exact lw_el hl0 C hAD hX9 hI hT hX hY hc0 hs0 K hh
