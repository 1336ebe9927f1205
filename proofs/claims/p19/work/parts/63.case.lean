theorem mz_nm16 {c : Nat} (h : c < 1000) : ¬ nI c = -16230000 := fun z => by
  have := congrArg Int32.toInt z
  rw [nI_toInt (by omega), show (-16230000 : Int32).toInt = -16230000 from rfl] at this; omega
theorem mz_cNo {N o c : Nat} (h : N ≤ 8) (h2 : o < N) (hc : c ≤ N - o) : (nI c).toInt ≤ (nI N - nI o).toInt := by
  rw [nI_toInt (by omega), mz_sub (nI_toInt (by omega)) (nI_toInt (by omega)) (by omega)]; omega
set_option maxHeartbeats 1000000 in
set_option maxRecDepth 100000 in
theorem lw_ca2 {pp : Program} {l : Launch} {ee : Env} {ss : State} {mm : MethodId} {bl : List Frame} {mth : Method} {cd : Code} {D : va_G} {ad : Nat → Nat} {q : Nat → ClassId} {A : Nat → Prop} {b : Nat} {Q : State → Prop} (hl0 : l.stackTraces = false) (C : mm_C pp ss mm #[.ref b] cd cL_law 13 wsL_law RL D ad q A) (hAD : mm_AD ad A) (hX9 : mm_XP A ss) {M : mm_M} {N S T X Y : Nat} {tv hv : Int32} {c0 s0 : Nat} (hI : mz_I M N S T) (hT : T ≤ 58000) (hX : X < 2147483648) (hY : Y < 2147483648) (hc0 : c0 + 60 ≤ 600130) (hs0 : s0 + 360 ≤ 7301080) (K : ∀ (M2 : mm_M) (N2 S2 T2 : Nat), T2 ≤ T + 100 → mz_I M2 N2 S2 T2 → mm_G pp l ee room_1 ss mm #[.ref b] bl mth cd (c0 + 60) (s0 + 360) Q 13 D ad q A (M2) 950 [(8, .int (nI Y)), (6, .int (nI X)), (5, .int tv), (4, .int 1), (3, .ref (ad 51)), (2, .ref (ad 50)), (1, .ref (ad 0)), (0, .ref b)] [])(hc9 : mc_cak M (nI (Y % 9) - 4) = 2) : mm_G pp l ee room_1 ss mm #[.ref b] bl mth cd (c0) (s0) Q 13 D ad q A (M) 634 [(8, .int (nI Y)), (7, .int hv), (6, .int (nI X)), (5, .int tv), (4, .int 1), (3, .ref (ad 51)), (2, .ref (ad 50)), (1, .ref (ad 0)), (0, .ref b)] [] := by
  have n57 : Cond.constant RL 57 (-16230000) ∈ wsL_law := by decide +kernel
  have hN8 := hI.R.N8
  have hS4 := hI.R.S4
  refine r_iload C dL_law_634 0 rfl ?_
  refine r_bipush (v := (9)) C dL_law_636 rfl ?_
  refine r_irem C dL_law_638 (by decide) ?_
  refine r_topc (y := nI (Y % 9)) (mz_rem 9 (X := Y) (by omega) (by omega)) ?_
  refine r_iconst (v := 4) C dL_law_639 rfl ?_
  refine r_isub C dL_law_640 ?_
  refine r_istore (lv' := [(9, .int ((nI (Y % 9)) - 4)), (8, .int (nI Y)), (7, .int hv), (6, .int (nI X)), (5, .int tv), (4, .int 1), (3, .ref (ad 51)), (2, .ref (ad 50)), (1, .ref (ad 0)), (0, .ref b)]) C dL_law_641 (by decide) rfl ?_
  refine r_aload_n C dL_law_643 rfl 8 rfl ?_
  refine r_bipush (v := (6)) C dL_law_644 rfl ?_
  refine r_iload C dL_law_646 0 rfl ?_
  refine r_iconst (v := 0) C dL_law_648 rfl ?_
  refine r_iconst (v := 0) C dL_law_649 rfl ?_
  refine r_callW5I C hX9 (mz_act2m (kL_act_6 hAD hl0 hI.R.lb) hc9) (vx_cwSW 5 C.1.2.2.2.2 gL_law_L_act rfl rfl rfl (by decide +kernel) ⟨Nat.le_of_ble_eq_true rfl, Nat.le_of_ble_eq_true rfl⟩) (Nat.le_of_ble_eq_true rfl) dL_law_650 (kc := 1) (ks := 6) ⟨rfl, rfl⟩ (by show _ ≤ 600130 ∧ _ ≤ 7301080; omega) ?_
  refine r_mem (fun Mw eMw => ?_)
  have hw : Mw.1 = M.1 := by rw [eMw]; exact mz_cx
  refine r_istore (lv' := [(10, .int (-16230000)), (9, .int ((nI (Y % 9)) - 4)), (8, .int (nI Y)), (7, .int hv), (6, .int (nI X)), (5, .int tv), (4, .int 1), (3, .ref (ad 51)), (2, .ref (ad 50)), (1, .ref (ad 0)), (0, .ref b)]) C dL_law_653 (by decide) rfl ?_
  refine r_iconst (v := (-1)) C dL_law_655 rfl ?_
  refine r_istore (lv' := [(11, .int (mz_lo Mw.1 N 0)), (10, .int (-16230000)), (9, .int ((nI (Y % 9)) - 4)), (8, .int (nI Y)), (7, .int hv), (6, .int (nI X)), (5, .int tv), (4, .int 1), (3, .ref (ad 51)), (2, .ref (ad 50)), (1, .ref (ad 0)), (0, .ref b)]) C dL_law_656 (by decide) rfl ?_
  refine r_aload_n C dL_law_658 rfl 9 rfl ?_
  refine r_iconst (v := 1) C dL_law_659 rfl ?_
  refine r_ialdL C mm_aL_50 1 rfl (by decide) dL_law_660 ?_
  refine r_topc (y := nI N) ((congrFun (congrFun hw 65) 1).trans hI.m1) ?_
  refine r_iconst (v := 1) C dL_law_661 rfl ?_
  refine r_isub C dL_law_662 ?_
  refine r_istore (lv' := [(12, .int (nI (N - 0) - 1)), (11, .int (mz_lo Mw.1 N 0)), (10, .int (-16230000)), (9, .int ((nI (Y % 9)) - 4)), (8, .int (nI Y)), (7, .int hv), (6, .int (nI X)), (5, .int tv), (4, .int 1), (3, .ref (ad 51)), (2, .ref (ad 50)), (1, .ref (ad 0)), (0, .ref b)]) C dL_law_663 (by decide) rfl ?_
  have L665 : ∀ (k9 : Nat) (d : Nat) (hd9 : d ≤ N), N - d < k9 → mm_G pp l ee room_1 ss mm #[.ref b] bl mth cd (c0 + 5) (s0 + 30) Q 13 D ad q A (Mw) 665 [(12, .int (nI (N - d) - 1)), (11, .int (mz_lo Mw.1 N d)), (10, .int (-16230000)), (9, .int (nI (Y % 9) - 4)), (8, .int (nI Y)), (7, .int hv), (6, .int (nI X)), (5, .int tv), (4, .int 1), (3, .ref (ad 51)), (2, .ref (ad 50)), (1, .ref (ad 0)), (0, .ref b)] [] := by
    intro k9
    induction k9 with
    | zero => intro d hd9 h9; exact absurd h9 (Nat.not_lt_zero _)
    | succ k9 ih665 =>
      intro d hd9 h9
      refine r_iload C dL_law_665 0 rfl ?_
      refine r_if_lt (tgt := 695) C dL_law_667 (by decide) (fun z667 => ?_) (fun z667 => ?_)
      · have hd : d = N := mz_lT hN8 hd9 z667
        refine r_iload C dL_law_695 2 rfl ?_
        refine r_ldc C n57 dL_law_697 ?_
        refine r_icmp_eqT (tgt := 758) C dL_law_699 (by decide) (by decide) ?_
        refine r_iconst (v := 1) C dL_law_758 rfl ?_
        refine r_goto (tgt := 763) C dL_law_759 (by decide) ?_
        refine r_istore (lv' := [(4, .int 1), (12, .int (nI (N - d) - 1)), (11, .int (mz_lo Mw.1 N d)), (10, .int (-16230000)), (9, .int (nI (Y % 9) - 4)), (8, .int (nI Y)), (7, .int hv), (6, .int (nI X)), (5, .int tv), (3, .ref (ad 51)), (2, .ref (ad 50)), (1, .ref (ad 0)), (0, .ref b)]) C dL_law_763 (by decide) rfl ?_
        refine r_goto (tgt := 950) C dL_law_765 (by decide) ?_
        refine r_sub (lv' := [(8, .int (nI Y)), (6, .int (nI X)), (5, .int tv), (4, .int 1), (3, .ref (ad 51)), (2, .ref (ad 50)), (1, .ref (ad 0)), (0, .ref b)]) [5, 7, 8, 0, 9, 10, 11, 12] rfl ?_
        exact r_wid (by omega) (by omega) (K _ N S T (by omega) (hI.eq hw))
      · have hd : d < N := mz_lF hN8 hd9 z667
        refine r_cast (M' := _) (lv' := [(12, .int (nI (N - 1 - d))), (11, .int (mz_lo Mw.1 N d)), (10, .int (-16230000)), (9, .int (nI (Y % 9) - 4)), (8, .int (nI Y)), (7, .int hv), (6, .int (nI X)), (5, .int tv), (4, .int 1), (3, .ref (ad 51)), (2, .ref (ad 50)), (1, .ref (ad 0)), (0, .ref b)]) (st' := []) rfl (by rw [mz_lk hN8 hd]) rfl ?_
        refine r_aload_n C dL_law_670 rfl 9 rfl ?_
        refine r_iconst (v := 2) C dL_law_671 rfl ?_
        refine r_iload C dL_law_672 0 rfl ?_
        refine r_imul C dL_law_674 ?_
        refine r_topc (y := nI (2 * (N - 1 - d))) (mz_mul 2 (N - 1 - d)) ?_
        refine r_ialdL C mm_aL_51 (2 * (N - 1 - d)) (mz_nn (by omega)) (by omega) dL_law_675 ?_
        refine r_topc (y := Mw.1 55 (N - 1 - d)) ((congrFun (congrFun hw 66) _).trans ((hI.e _ (by omega)).1.trans (congrFun (congrFun hw 55) _).symm)) ?_
        refine r_iconst (v := 1) C dL_law_676 rfl ?_
        refine r_icmp_ne (tgt := 685) C dL_law_677 (by decide) (fun z677 => ?_) (fun z677 => ?_)
        · refine r_iload C dL_law_685 1 rfl ?_
          refine r_istore (lv' := [(11, .int (mz_lo Mw.1 N d)), (12, .int (nI (N - 1 - d))), (10, .int (-16230000)), (9, .int (nI (Y % 9) - 4)), (8, .int (nI Y)), (7, .int hv), (6, .int (nI X)), (5, .int tv), (4, .int 1), (3, .ref (ad 51)), (2, .ref (ad 50)), (1, .ref (ad 0)), (0, .ref b)]) C dL_law_687 (by decide) rfl ?_
          refine r_iinc (v := nI (N - (d + 1)) - 1) (lv' := [(12, .int (nI (N - (d + 1)) - 1)), (11, .int (mz_lo Mw.1 N d)), (10, .int (-16230000)), (9, .int (nI (Y % 9) - 4)), (8, .int (nI Y)), (7, .int hv), (6, .int (nI X)), (5, .int tv), (4, .int 1), (3, .ref (ad 51)), (2, .ref (ad 50)), (1, .ref (ad 0)), (0, .ref b)]) C dL_law_689 1 rfl (mz_dec hN8 hd) (by decide) rfl ?_
          refine r_goto (tgt := 665) C dL_law_692 (by decide) ?_
          refine r_cast (M' := Mw) (lv' := [(12, .int (nI (N - (d + 1)) - 1)), (11, .int (mz_lo Mw.1 N (d + 1))), (10, .int (-16230000)), (9, .int (nI (Y % 9) - 4)), (8, .int (nI Y)), (7, .int hv), (6, .int (nI X)), (5, .int tv), (4, .int 1), (3, .ref (ad 51)), (2, .ref (ad 50)), (1, .ref (ad 0)), (0, .ref b)]) (st' := []) rfl (by rw [mz_loF z677]) rfl (r_wid (by omega) (by omega) (ih665 (d + 1) (by omega) (by omega)))
        · refine r_iload C dL_law_680 0 rfl ?_
          refine r_goto (tgt := 687) C dL_law_682 (by decide) ?_
          refine r_istore (lv' := [(11, .int (nI (N - 1 - d))), (12, .int (nI (N - 1 - d))), (10, .int (-16230000)), (9, .int (nI (Y % 9) - 4)), (8, .int (nI Y)), (7, .int hv), (6, .int (nI X)), (5, .int tv), (4, .int 1), (3, .ref (ad 51)), (2, .ref (ad 50)), (1, .ref (ad 0)), (0, .ref b)]) C dL_law_687 (by decide) rfl ?_
          refine r_iinc (v := nI (N - (d + 1)) - 1) (lv' := [(12, .int (nI (N - (d + 1)) - 1)), (11, .int (nI (N - 1 - d))), (10, .int (-16230000)), (9, .int (nI (Y % 9) - 4)), (8, .int (nI Y)), (7, .int hv), (6, .int (nI X)), (5, .int tv), (4, .int 1), (3, .ref (ad 51)), (2, .ref (ad 50)), (1, .ref (ad 0)), (0, .ref b)]) C dL_law_689 1 rfl (mz_dec hN8 hd) (by decide) rfl ?_
          refine r_goto (tgt := 665) C dL_law_692 (by decide) ?_
          refine r_cast (M' := Mw) (lv' := [(12, .int (nI (N - (d + 1)) - 1)), (11, .int (mz_lo Mw.1 N (d + 1))), (10, .int (-16230000)), (9, .int (nI (Y % 9) - 4)), (8, .int (nI Y)), (7, .int hv), (6, .int (nI X)), (5, .int tv), (4, .int 1), (3, .ref (ad 51)), (2, .ref (ad 50)), (1, .ref (ad 0)), (0, .ref b)]) (st' := []) rfl (by rw [mz_loT z677]) rfl (r_wid (by omega) (by omega) (ih665 (d + 1) (by omega) (by omega)))
  refine r_cast (M' := Mw) (lv' := [(12, .int (nI (N - 0) - 1)), (11, .int (mz_lo Mw.1 N 0)), (10, .int (-16230000)), (9, .int (nI (Y % 9) - 4)), (8, .int (nI Y)), (7, .int hv), (6, .int (nI X)), (5, .int tv), (4, .int 1), (3, .ref (ad 51)), (2, .ref (ad 50)), (1, .ref (ad 0)), (0, .ref b)]) (st' := []) rfl rfl rfl (r_wid (by omega) (by omega) (L665 (N - 0 + 1) 0 (Nat.zero_le _) (by omega)))

set_option maxHeartbeats 1000000 in
set_option maxRecDepth 100000 in
theorem lw_ca0 {pp : Program} {l : Launch} {ee : Env} {ss : State} {mm : MethodId} {bl : List Frame} {mth : Method} {cd : Code} {D : va_G} {ad : Nat → Nat} {q : Nat → ClassId} {A : Nat → Prop} {b : Nat} {Q : State → Prop} (hl0 : l.stackTraces = false) (C : mm_C pp ss mm #[.ref b] cd cL_law 13 wsL_law RL D ad q A) (hAD : mm_AD ad A) (hX9 : mm_XP A ss) {M : mm_M} {N S T X Y : Nat} {tv hv : Int32} {c0 s0 : Nat} (hI : mz_I M N S T) (hT : T ≤ 58000) (hX : X < 2147483648) (hY : Y < 2147483648) (hc0 : c0 + 60 ≤ 600130) (hs0 : s0 + 360 ≤ 7301080) (K : ∀ (M2 : mm_M) (N2 S2 T2 : Nat), T2 ≤ T + 100 → mz_I M2 N2 S2 T2 → mm_G pp l ee room_1 ss mm #[.ref b] bl mth cd (c0 + 60) (s0 + 360) Q 13 D ad q A (M2) 950 [(8, .int (nI Y)), (6, .int (nI X)), (5, .int tv), (4, .int 1), (3, .ref (ad 51)), (2, .ref (ad 50)), (1, .ref (ad 0)), (0, .ref b)] [])(hc9 : mc_cak M (nI (Y % 9) - 4) = 0) : mm_G pp l ee room_1 ss mm #[.ref b] bl mth cd (c0) (s0) Q 13 D ad q A (M) 634 [(8, .int (nI Y)), (7, .int hv), (6, .int (nI X)), (5, .int tv), (4, .int 1), (3, .ref (ad 51)), (2, .ref (ad 50)), (1, .ref (ad 0)), (0, .ref b)] [] := by
  have n57 : Cond.constant RL 57 (-16230000) ∈ wsL_law := by decide +kernel
  have hN8 := hI.R.N8
  have hS4 := hI.R.S4
  refine r_iload C dL_law_634 0 rfl ?_
  refine r_bipush (v := (9)) C dL_law_636 rfl ?_
  refine r_irem C dL_law_638 (by decide) ?_
  refine r_topc (y := nI (Y % 9)) (mz_rem 9 (X := Y) (by omega) (by omega)) ?_
  refine r_iconst (v := 4) C dL_law_639 rfl ?_
  refine r_isub C dL_law_640 ?_
  refine r_istore (lv' := [(9, .int ((nI (Y % 9)) - 4)), (8, .int (nI Y)), (7, .int hv), (6, .int (nI X)), (5, .int tv), (4, .int 1), (3, .ref (ad 51)), (2, .ref (ad 50)), (1, .ref (ad 0)), (0, .ref b)]) C dL_law_641 (by decide) rfl ?_
  refine r_aload_n C dL_law_643 rfl 8 rfl ?_
  refine r_bipush (v := (6)) C dL_law_644 rfl ?_
  refine r_iload C dL_law_646 0 rfl ?_
  refine r_iconst (v := 0) C dL_law_648 rfl ?_
  refine r_iconst (v := 0) C dL_law_649 rfl ?_
  refine r_callW5I C hX9 (mz_act0 (kL_act_6 hAD hl0 hI.R.lb) hc9 rfl) (vx_cwSW 5 C.1.2.2.2.2 gL_law_L_act rfl rfl rfl (by decide +kernel) ⟨Nat.le_of_ble_eq_true rfl, Nat.le_of_ble_eq_true rfl⟩) (Nat.le_of_ble_eq_true rfl) dL_law_650 (kc := 1) (ks := 6) ⟨rfl, rfl⟩ (by show _ ≤ 600130 ∧ _ ≤ 7301080; omega) ?_
  refine r_mem (fun M1 eM1 => ?_)
  refine r_gh (M' := mr_cbM (mm_sI M1 50 20 0) (mr_o M1.1 N) (mr_sq M1.1 N (nI (Y % 9) - 4)) (nI (Y % 9) - 4) N) mz_gh_ca mz_gh_ca2 ?_
  refine r_mem (fun M2 eM2 => ?_)
  obtain ⟨hI2, ⟨o, c, o2, o3, o4, o5, o6, hv9, hcN, h56, h57⟩, hh, ho, hs⟩ := mz_ca hI hT hc9 eM1 eM2
  have e55 : ∀ j, M2.1 55 j = M.1 55 j := fun j => hh 55 j (by decide) (by decide) (by decide) (by omega)
  have hl1 : M2.1 55 o = 1 := (e55 o).trans ((hI.R.elB o o2).1.resolve_left o5)
  have hl0' : ∀ j : Nat, j < o → M2.1 55 j = 0 := fun j hj => (e55 j).trans (o6 j hj)
  have h2c : ∀ {Mw : mm_M}, Mw.1 = M2.1 → mc_cak Mw (nI (Y % 9) - 4) = 0 ∧ mc_hoV (mc_laM Mw 8) (mc_lowI Mw 8 0) (mc_sq Mw (nI (Y % 9) - 4)) (nI (Y % 9) - 4) 8 = 0 := fun hw => mz_ca2 hI hT (mz_b9 Y) hc9 eM2 hI2 ho hs hh hw
  refine r_topc (y := nI c) hv9 ?_
  refine r_istore (lv' := [(10, .int (nI c)), (9, .int ((nI (Y % 9)) - 4)), (8, .int (nI Y)), (7, .int hv), (6, .int (nI X)), (5, .int tv), (4, .int 1), (3, .ref (ad 51)), (2, .ref (ad 50)), (1, .ref (ad 0)), (0, .ref b)]) C dL_law_653 (by decide) rfl ?_
  refine r_iconst (v := (-1)) C dL_law_655 rfl ?_
  refine r_istore (lv' := [(11, .int (mz_lo M2.1 N 0)), (10, .int (nI c)), (9, .int ((nI (Y % 9)) - 4)), (8, .int (nI Y)), (7, .int hv), (6, .int (nI X)), (5, .int tv), (4, .int 1), (3, .ref (ad 51)), (2, .ref (ad 50)), (1, .ref (ad 0)), (0, .ref b)]) C dL_law_656 (by decide) rfl ?_
  refine r_aload_n C dL_law_658 rfl 9 rfl ?_
  refine r_iconst (v := 1) C dL_law_659 rfl ?_
  refine r_ialdL C mm_aL_50 1 rfl (by decide) dL_law_660 ?_
  refine r_topc (y := nI N) (hI2.m1) ?_
  refine r_iconst (v := 1) C dL_law_661 rfl ?_
  refine r_isub C dL_law_662 ?_
  refine r_istore (lv' := [(12, .int (nI (N - 0) - 1)), (11, .int (mz_lo M2.1 N 0)), (10, .int (nI c)), (9, .int ((nI (Y % 9)) - 4)), (8, .int (nI Y)), (7, .int hv), (6, .int (nI X)), (5, .int tv), (4, .int 1), (3, .ref (ad 51)), (2, .ref (ad 50)), (1, .ref (ad 0)), (0, .ref b)]) C dL_law_663 (by decide) rfl ?_
  have L665 : ∀ (k9 : Nat) (d : Nat) (hd9 : d ≤ N), N - d < k9 → mm_G pp l ee room_1 ss mm #[.ref b] bl mth cd (c0 + 5) (s0 + 30) Q 13 D ad q A (M2) 665 [(12, .int (nI (N - d) - 1)), (11, .int (mz_lo M2.1 N d)), (10, .int (nI c)), (9, .int (nI (Y % 9) - 4)), (8, .int (nI Y)), (7, .int hv), (6, .int (nI X)), (5, .int tv), (4, .int 1), (3, .ref (ad 51)), (2, .ref (ad 50)), (1, .ref (ad 0)), (0, .ref b)] [] := by
    intro k9
    induction k9 with
    | zero => intro d hd9 h9; exact absurd h9 (Nat.not_lt_zero _)
    | succ k9 ih665 =>
      intro d hd9 h9
      refine r_iload C dL_law_665 0 rfl ?_
      refine r_if_lt (tgt := 695) C dL_law_667 (by decide) (fun z667 => ?_) (fun z667 => ?_)
      · have hd : d = N := mz_lT hN8 hd9 z667
        have hlo : mz_lo M2.1 N d = nI o := mz_loo o2 hl1 hl0' d hd9 (by omega)
        refine r_cast (M' := _) (lv' := [(12, .int (nI (N - d) - 1)), (11, .int (nI o)), (10, .int (nI c)), (9, .int (nI (Y % 9) - 4)), (8, .int (nI Y)), (7, .int hv), (6, .int (nI X)), (5, .int tv), (4, .int 1), (3, .ref (ad 51)), (2, .ref (ad 50)), (1, .ref (ad 0)), (0, .ref b)]) (st' := []) rfl (by rw [hlo]) rfl ?_
        have hw : M2.1 = M2.1 := rfl
        refine r_iload C dL_law_695 2 rfl ?_
        refine r_ldc C n57 dL_law_697 ?_
        refine r_icmp_eqF (tgt := 758) C dL_law_699 (by decide) (mz_nm16 (by omega)) ?_
        refine r_iload C dL_law_702 1 rfl ?_
        refine r_if_ltF (tgt := 762) C dL_law_704 (by decide) (mz_neg (by omega)) ?_
        refine r_iload C dL_law_707 2 rfl ?_
        refine r_if_ltF (tgt := 762) C dL_law_709 (by decide) (mz_neg (by omega)) ?_
        refine r_iload C dL_law_712 2 rfl ?_
        refine r_aload_n C dL_law_714 rfl 10 rfl ?_
        refine r_iconst (v := 1) C dL_law_715 rfl ?_
        refine r_ialdL C mm_aL_50 1 rfl (by decide) dL_law_716 ?_
        refine r_topc (y := nI N) (hI2.m1) ?_
        refine r_iload C dL_law_717 1 rfl ?_
        refine r_isub C dL_law_719 ?_
        refine r_icmp_gtF (tgt := 762) C dL_law_720 (by decide) (mz_nlt (mz_cNo (by omega) (by omega) hcN)) ?_
        refine r_aload_n C dL_law_723 rfl 11 rfl ?_
        refine r_iload C dL_law_724 1 rfl ?_
        refine r_iconst (v := 0) C dL_law_726 rfl ?_
        refine r_q2I C hX9 4 (by decide) rfl (mm_ct4 ad q _) (kX4_calibrated hAD hl0) (mz_qcal0 hI2.R hw (k := o) o2) (cwV 2 C.1.2.2.2.2 gL_law_X4_calibrated rfl rfl rfl (by decide +kernel) ⟨Nat.le_of_ble_eq_true rfl, Nat.le_of_ble_eq_true rfl⟩) (Nat.le_of_ble_eq_true rfl) dL_law_727 (kc := 1) (ks := 6) ⟨rfl, rfl⟩ (by show _ ≤ 600130 ∧ _ ≤ 7301080; omega) (fun Mw hw => ?_)
        refine r_bipush (v := (64)) C dL_law_730 rfl ?_
        refine r_icmp_neF (tgt := 762) C dL_law_732 (by decide) ((hI2.R.el o o2).2.2.2.2.2.1.trans h56) ?_
        refine r_aload_n C dL_law_735 rfl 11 rfl ?_
        refine r_iload C dL_law_736 1 rfl ?_
        refine r_iconst (v := 1) C dL_law_738 rfl ?_
        refine r_q2I C hX9 4 (by decide) rfl (mm_ct4 ad q _) (kX4_calibrated hAD hl0) (mz_qcal1 hI2.R hw (k := o) o2) (cwV 2 C.1.2.2.2.2 gL_law_X4_calibrated rfl rfl rfl (by decide +kernel) ⟨Nat.le_of_ble_eq_true rfl, Nat.le_of_ble_eq_true rfl⟩) (Nat.le_of_ble_eq_true rfl) dL_law_739 (kc := 1) (ks := 6) ⟨rfl, rfl⟩ (by show _ ≤ 600130 ∧ _ ≤ 7301080; omega) (fun Mw hw => ?_)
        refine r_if_neF (tgt := 762) C dL_law_742 (by decide) ((hI2.R.el o o2).2.2.2.2.2.2.1.trans h57) ?_
        refine r_aload_n C dL_law_745 rfl 11 rfl ?_
        refine r_bipush (v := (6)) C dL_law_746 rfl ?_
        refine r_iload C dL_law_748 3 rfl ?_
        refine r_iconst (v := 0) C dL_law_750 rfl ?_
        refine r_iconst (v := 0) C dL_law_751 rfl ?_
        refine r_callW5I C hX9 (mz_act0 (kL_act_6 hAD hl0 (hI2.R.eq hw).lb) (h2c hw).1 (h2c hw).2) (vx_cwSW 5 C.1.2.2.2.2 gL_law_L_act rfl rfl rfl (by decide +kernel) ⟨Nat.le_of_ble_eq_true rfl, Nat.le_of_ble_eq_true rfl⟩) (Nat.le_of_ble_eq_true rfl) dL_law_752 (kc := 1) (ks := 6) ⟨rfl, rfl⟩ (by show _ ≤ 600130 ∧ _ ≤ 7301080; omega) ?_
        refine r_gh (M' := mr_cbM (mm_sI (mc_hoM (mc_laM Mw 8) (mc_lowI Mw 8 0) (mc_sq Mw (nI (Y % 9) - 4)) (nI (Y % 9) - 4) 8) 50 20 0) (mr_o (mc_hoM (mc_laM Mw 8) (mc_lowI Mw 8 0) (mc_sq Mw (nI (Y % 9) - 4)) (nI (Y % 9) - 4) 8).1 N) (mr_sq (mc_hoM (mc_laM Mw 8) (mc_lowI Mw 8 0) (mc_sq Mw (nI (Y % 9) - 4)) (nI (Y % 9) - 4) 8).1 N (nI (Y % 9) - 4)) (nI (Y % 9) - 4) N) mz_gh_ca mz_gh_ca2 ?_
        refine r_mem (fun M3 eM3 => ?_)
        have hI3 := mz_ca3 hI2 hT hw (h2c hw).1 eM3
        refine r_if_neF (tgt := 762) C dL_law_755 (by decide) (by decide) ?_
        refine r_iconst (v := 1) C dL_law_758 rfl ?_
        refine r_goto (tgt := 763) C dL_law_759 (by decide) ?_
        refine r_istore (lv' := [(4, .int 1), (12, .int (nI (N - d) - 1)), (11, .int (nI o)), (10, .int (nI c)), (9, .int (nI (Y % 9) - 4)), (8, .int (nI Y)), (7, .int hv), (6, .int (nI X)), (5, .int tv), (3, .ref (ad 51)), (2, .ref (ad 50)), (1, .ref (ad 0)), (0, .ref b)]) C dL_law_763 (by decide) rfl ?_
        refine r_goto (tgt := 950) C dL_law_765 (by decide) ?_
        refine r_sub (lv' := [(8, .int (nI Y)), (6, .int (nI X)), (5, .int tv), (4, .int 1), (3, .ref (ad 51)), (2, .ref (ad 50)), (1, .ref (ad 0)), (0, .ref b)]) [5, 7, 8, 0, 9, 10, 11, 12] rfl ?_
        exact r_wid (by omega) (by omega) (K _ N S T (by omega) hI3)
      · have hd : d < N := mz_lF hN8 hd9 z667
        refine r_cast (M' := _) (lv' := [(12, .int (nI (N - 1 - d))), (11, .int (mz_lo M2.1 N d)), (10, .int (nI c)), (9, .int (nI (Y % 9) - 4)), (8, .int (nI Y)), (7, .int hv), (6, .int (nI X)), (5, .int tv), (4, .int 1), (3, .ref (ad 51)), (2, .ref (ad 50)), (1, .ref (ad 0)), (0, .ref b)]) (st' := []) rfl (by rw [mz_lk hN8 hd]) rfl ?_
        refine r_aload_n C dL_law_670 rfl 9 rfl ?_
        refine r_iconst (v := 2) C dL_law_671 rfl ?_
        refine r_iload C dL_law_672 0 rfl ?_
        refine r_imul C dL_law_674 ?_
        refine r_topc (y := nI (2 * (N - 1 - d))) (mz_mul 2 (N - 1 - d)) ?_
        refine r_ialdL C mm_aL_51 (2 * (N - 1 - d)) (mz_nn (by omega)) (by omega) dL_law_675 ?_
        refine r_topc (y := M2.1 55 (N - 1 - d)) ((hI2.e _ (by omega)).1) ?_
        refine r_iconst (v := 1) C dL_law_676 rfl ?_
        refine r_icmp_ne (tgt := 685) C dL_law_677 (by decide) (fun z677 => ?_) (fun z677 => ?_)
        · refine r_iload C dL_law_685 1 rfl ?_
          refine r_istore (lv' := [(11, .int (mz_lo M2.1 N d)), (12, .int (nI (N - 1 - d))), (10, .int (nI c)), (9, .int (nI (Y % 9) - 4)), (8, .int (nI Y)), (7, .int hv), (6, .int (nI X)), (5, .int tv), (4, .int 1), (3, .ref (ad 51)), (2, .ref (ad 50)), (1, .ref (ad 0)), (0, .ref b)]) C dL_law_687 (by decide) rfl ?_
          refine r_iinc (v := nI (N - (d + 1)) - 1) (lv' := [(12, .int (nI (N - (d + 1)) - 1)), (11, .int (mz_lo M2.1 N d)), (10, .int (nI c)), (9, .int (nI (Y % 9) - 4)), (8, .int (nI Y)), (7, .int hv), (6, .int (nI X)), (5, .int tv), (4, .int 1), (3, .ref (ad 51)), (2, .ref (ad 50)), (1, .ref (ad 0)), (0, .ref b)]) C dL_law_689 1 rfl (mz_dec hN8 hd) (by decide) rfl ?_
          refine r_goto (tgt := 665) C dL_law_692 (by decide) ?_
          refine r_cast (M' := M2) (lv' := [(12, .int (nI (N - (d + 1)) - 1)), (11, .int (mz_lo M2.1 N (d + 1))), (10, .int (nI c)), (9, .int (nI (Y % 9) - 4)), (8, .int (nI Y)), (7, .int hv), (6, .int (nI X)), (5, .int tv), (4, .int 1), (3, .ref (ad 51)), (2, .ref (ad 50)), (1, .ref (ad 0)), (0, .ref b)]) (st' := []) rfl (by rw [mz_loF z677]) rfl (r_wid (by omega) (by omega) (ih665 (d + 1) (by omega) (by omega)))
        · refine r_iload C dL_law_680 0 rfl ?_
          refine r_goto (tgt := 687) C dL_law_682 (by decide) ?_
          refine r_istore (lv' := [(11, .int (nI (N - 1 - d))), (12, .int (nI (N - 1 - d))), (10, .int (nI c)), (9, .int (nI (Y % 9) - 4)), (8, .int (nI Y)), (7, .int hv), (6, .int (nI X)), (5, .int tv), (4, .int 1), (3, .ref (ad 51)), (2, .ref (ad 50)), (1, .ref (ad 0)), (0, .ref b)]) C dL_law_687 (by decide) rfl ?_
          refine r_iinc (v := nI (N - (d + 1)) - 1) (lv' := [(12, .int (nI (N - (d + 1)) - 1)), (11, .int (nI (N - 1 - d))), (10, .int (nI c)), (9, .int (nI (Y % 9) - 4)), (8, .int (nI Y)), (7, .int hv), (6, .int (nI X)), (5, .int tv), (4, .int 1), (3, .ref (ad 51)), (2, .ref (ad 50)), (1, .ref (ad 0)), (0, .ref b)]) C dL_law_689 1 rfl (mz_dec hN8 hd) (by decide) rfl ?_
          refine r_goto (tgt := 665) C dL_law_692 (by decide) ?_
          refine r_cast (M' := M2) (lv' := [(12, .int (nI (N - (d + 1)) - 1)), (11, .int (mz_lo M2.1 N (d + 1))), (10, .int (nI c)), (9, .int (nI (Y % 9) - 4)), (8, .int (nI Y)), (7, .int hv), (6, .int (nI X)), (5, .int tv), (4, .int 1), (3, .ref (ad 51)), (2, .ref (ad 50)), (1, .ref (ad 0)), (0, .ref b)]) (st' := []) rfl (by rw [mz_loT z677]) rfl (r_wid (by omega) (by omega) (ih665 (d + 1) (by omega) (by omega)))
  refine r_cast (M' := M2) (lv' := [(12, .int (nI (N - 0) - 1)), (11, .int (mz_lo M2.1 N 0)), (10, .int (nI c)), (9, .int (nI (Y % 9) - 4)), (8, .int (nI Y)), (7, .int hv), (6, .int (nI X)), (5, .int tv), (4, .int 1), (3, .ref (ad 51)), (2, .ref (ad 50)), (1, .ref (ad 0)), (0, .ref b)]) (st' := []) rfl rfl rfl (r_wid (by omega) (by omega) (L665 (N - 0 + 1) 0 (Nat.zero_le _) (by omega)))
