set_option maxHeartbeats 400000 in
set_option maxRecDepth 100000 in
theorem lw_loop {p : Program} {l : Launch} {e : Env} {s : State} {m : MethodId} {below : List Frame} {meth : Method} {c : Code} {D : va_G} {ad : Nat → Nat} {q : Nat → ClassId} {A : Nat → Prop} {b L : Nat} {xs : Nat → Int32} {Q : State → Prop} (hl0 : l.stackTraces = false) (C : mm_C p s m #[.ref b] c cL_law 8 wsL_law RL D ad q A) (hAD : mm_AD ad A) (hX9 : mm_XP A s) (hXs : va_X b L xs s s.heap) (hbl : b < s.heap.size) (hbA : ¬ A b) (hL : L ≤ 2048) (K : ∀ (M : mm_M) (cells slots : Nat) (lv : List (Nat × Value)), cells ≤ 601024 → slots ≤ 7293034 → mm_G p l e room_1 s m #[.ref b] below meth c cells slots Q 8 D ad q A M 1076 lv []) : ∀ (n j : Nat) (M : mm_M) (N S T cells slots : Nat), 512 < j + n → 4 * j ≤ L → mk_R M N S T → T ≤ 100 * j → cells ≤ 1000 + j → slots ≤ 100000 + 6 * j → mm_G p l e room_1 s m #[.ref b] below meth c cells slots Q 8 D ad q A M 23 [(4, .int (nI (4 * j))), (3, .ref (ad 65)), (2, .ref (ad 50)), (1, .ref (ad 0)), (0, .ref b)] [] := by
  intro n
  induction n with
  | zero => intro j M N S T cells slots h1 h2; omega
  | succ n ih =>
    intro j M N S T cells slots h1 h2 hR hT hc hs
    refine r_iload C dL_law_23 0 rfl ?_
    refine r_aload_n C dL_law_25 rfl 4 rfl ?_
    refine r_slen C hXs hbl hbA dL_law_26 ?_
    refine r_iconst (v := 4) C dL_law_27 rfl ?_
    refine r_isub C dL_law_28 ?_
    refine r_icmp_gt (tgt := 1076) C dL_law_29 (by decide) (fun z => ?_) (fun z => ?_)
    · exact K M cells slots _ (by omega) (by omega)
    · have e4 : (4 : Int32).toInt = 4 := rfl
      have hLi : (Int32.ofNat L).toInt = (L : Int) := nI_toInt (by omega)
      have hji : (nI (4 * j)).toInt = ((4 * j : Nat) : Int) := nI_toInt (by omega)
      have s1 : (Int32.ofNat L - 4).toInt = (L : Int) - 4 := (mk_is (by rw [hLi, e4]; omega) (by rw [hLi, e4]; omega)).trans (by rw [hLi, e4])
      have hj : 4 * j + 4 ≤ L := by
        refine Nat.not_lt.mp fun k => z (Int32.lt_iff_toInt_lt.mpr ?_)
        rw [s1, hji]; omega
      have hk : ∀ (M2 : mm_M) (N2 S2 T2 : Nat), T2 ≤ T + 100 → mk_R M2 N2 S2 T2 → mm_G p l e room_1 s m #[.ref b] below meth c (cells + 1) (slots + 6) Q 8 D ad q A M2 1070 [(4, .int (nI (4 * j))), (3, .ref (ad 65)), (2, .ref (ad 50)), (1, .ref (ad 0)), (0, .ref b)] [] := by
        intro M2 N2 S2 T2 g1 g2
        have ev : nI (4 * j) + Int32.ofInt 4 = nI (4 * (j + 1)) := by
          apply Int32.toInt_inj.mp
          have e4' : (Int32.ofInt 4).toInt = 4 := rfl
          rw [nI_toInt (by omega)]
          exact (mk_ia (by rw [hji, e4']; omega) (by rw [hji, e4']; omega)).trans (by rw [hji, e4']; omega)
        refine r_iinc (v := nI (4 * (j + 1))) (lv' := [(4, .int (nI (4 * (j + 1)))), (3, .ref (ad 65)), (2, .ref (ad 50)), (1, .ref (ad 0)), (0, .ref b)]) C dL_law_1070 0 rfl ev (by decide) rfl ?_
        refine r_goto (tgt := 23) C dL_law_1073 (by decide) ?_
        exact ih (j + 1) M2 N2 S2 T2 (cells + 1) (slots + 6) (by omega) (by omega) g2 (by omega) (by omega) (by omega)
      refine r_aload_n C dL_law_32 rfl 4 rfl ?_
      refine r_iload C dL_law_33 0 rfl ?_
      refine r_sld C hXs hbl hbA (4 * j) hji (by omega) dL_law_35 ?_
      refine r_bipush (v := 15) C dL_law_36 rfl ?_
      refine r_iand C dL_law_38 ?_
      obtain ⟨v, hv, ev⟩ : ∃ v : Nat, v < 16 ∧ xs (4 * j) &&& 15 = nI v := ⟨_, Nat.mod_lt _ (by decide), pk_and (xs (4 * j)) (m := 15) 4 (by decide)⟩
      refine r_topc (y := nI v) ev ?_
      have hv9 : v = 0 ∨ v = 1 ∨ v = 2 ∨ v = 3 ∨ v = 4 ∨ v = 5 ∨ v = 6 ∨ v = 7 ∨ v = 8 ∨ v = 9 ∨ v = 10 ∨ v = 11 ∨ v = 12 ∨ v = 13 ∨ v = 14 ∨ v = 15 := by omega
      rcases hv9 with rfl | rfl | rfl | rfl | rfl | rfl | rfl | rfl | rfl | rfl | rfl | rfl | rfl | rfl | rfl | rfl
      · refine r_tsI (off := 77) (tgt := 116) C dL_law_39 (by decide) (by decide) (by decide) (by decide) ?_
        exact lw_c0 hl0 C hAD hX9 hXs hbl hbA hR (by omega) hj hL (by omega) (by omega) hk
      · refine r_tsI (off := 157) (tgt := 196) C dL_law_39 (by decide) (by decide) (by decide) (by decide) ?_
        exact lw_c1 hl0 C hAD hX9 hXs hbl hbA hR (by omega) hj hL (by omega) (by omega) hk
      · refine r_tsI (off := 248) (tgt := 287) C dL_law_39 (by decide) (by decide) (by decide) (by decide) ?_
        exact lw_c2 hl0 C hAD hX9 hXs hbl hbA hR (by omega) hj hL (by omega) (by omega) hk
      · refine r_tsI (off := 328) (tgt := 367) C dL_law_39 (by decide) (by decide) (by decide) (by decide) ?_
        exact lw_c3 hl0 C hAD hX9 hXs hbl hbA hR (by omega) hj hL (by omega) (by omega) hk
      · refine r_tsI (off := 341) (tgt := 380) C dL_law_39 (by decide) (by decide) (by decide) (by decide) ?_
        exact lw_c4 hl0 C hAD hX9 hXs hbl hbA hR (by omega) hj hL (by omega) (by omega) hk
      · refine r_tsI (off := 409) (tgt := 448) C dL_law_39 (by decide) (by decide) (by decide) (by decide) ?_
        exact lw_c5 hl0 C hAD hX9 hXs hbl hbA hR (by omega) hj hL (by omega) (by omega) hk
      · refine r_tsI (off := 465) (tgt := 504) C dL_law_39 (by decide) (by decide) (by decide) (by decide) ?_
        exact lw_c6 hl0 C hAD hX9 hXs hbl hbA hR (by omega) hj hL (by omega) (by omega) hk
      · refine r_tsI (off := 521) (tgt := 560) C dL_law_39 (by decide) (by decide) (by decide) (by decide) ?_
        exact lw_c7 hl0 C hAD hX9 hXs hbl hbA hR (by omega) hj hL (by omega) (by omega) hk
      · refine r_tsI (off := 577) (tgt := 616) C dL_law_39 (by decide) (by decide) (by decide) (by decide) ?_
        exact lw_c8 hl0 C hAD hX9 hXs hbl hbA hR (by omega) hj hL (by omega) (by omega) hk
      · refine r_tsI (off := 645) (tgt := 684) C dL_law_39 (by decide) (by decide) (by decide) (by decide) ?_
        exact lw_c9 hl0 C hAD hX9 hXs hbl hbA hR (by omega) hj hL (by omega) (by omega) hk
      · refine r_tsI (off := 712) (tgt := 751) C dL_law_39 (by decide) (by decide) (by decide) (by decide) ?_
        exact lw_c10 hl0 C hAD hX9 hXs hbl hbA hR (by omega) hj hL (by omega) (by omega) hk
      · refine r_tsI (off := 767) (tgt := 806) C dL_law_39 (by decide) (by decide) (by decide) (by decide) ?_
        exact lw_c11 hl0 C hAD hX9 hXs hbl hbA hR (by omega) hj hL (by omega) (by omega) hk
      · refine r_tsI (off := 822) (tgt := 861) C dL_law_39 (by decide) (by decide) (by decide) (by decide) ?_
        exact lw_c12 hl0 C hAD hX9 hXs hbl hbA hR (by omega) hj hL (by omega) (by omega) hk
      · refine r_tsI (off := 878) (tgt := 917) C dL_law_39 (by decide) (by decide) (by decide) (by decide) ?_
        exact lw_c13 hl0 C hAD hX9 hXs hbl hbA hR (by omega) hj hL (by omega) (by omega) hk
      · refine r_tsI (off := 934) (tgt := 973) C dL_law_39 (by decide) (by decide) (by decide) (by decide) ?_
        exact lw_c14 hl0 C hAD hX9 hXs hbl hbA hR (by omega) hj hL (by omega) (by omega) hk
      · refine r_tsI (off := 1018) (tgt := 1057) C dL_law_39 (by decide) (by decide) (by decide) (by decide) ?_
        exact lw_c15 hl0 C hAD hX9 hXs hbl hbA hR (by omega) hj hL (by omega) (by omega) hk
