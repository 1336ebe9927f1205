theorem kL_isRefused {l : Launch} {D : va_G} {ad : Nat → Nat} {q : Nat → ClassId} {A : Nat → Prop} (hAD : mm_AD ad A) (hl0 : l.stackTraces = false) {N S T X : Nat} {M : mm_M} (hR : mk_R M N S T) (hT : T ≤ 59000) (hX : X < 2147483648) (hm1 : M.1 65 1 = nI N) (hm2 : M.1 65 2 = nI S) : mm_Ko l D ad q A yL_isRefused wsL_isRefused rmL_isRefused [.ref (ad 0), .ref (ad 50), .int (nI X)] M (fun v u => v = some (.int 1) ∧ u.1 = M.1) := by
  rcases Nat.mod_two_eq_zero_or_one X with h | h
  · exact kL_isRefused_0 hAD hl0 hR hT hX hm1 hm2 h
  · exact kL_isRefused_1 hAD hl0 hR hT hX hm1 hm2 h
theorem mz_nge60 {t : Nat} (h : t < 60) : ¬ (60 : Int32) ≤ nI t := by
  rw [Int32.le_iff_toInt_le, nI_toInt (by omega), show (60 : Int32).toInt = 60 from rfl]; omega
set_option maxHeartbeats 1000000 in
set_option maxRecDepth 100000 in
theorem lw_tail {pp : Program} {l : Launch} {ee : Env} {ss : State} {mm : MethodId} {bl : List Frame} {mth : Method} {cd : Code} {D : va_G} {ad : Nat → Nat} {q : Nat → ClassId} {A : Nat → Prop} {b : Nat} {Q : State → Prop} (hl0 : l.stackTraces = false) (C : mm_C pp ss mm #[.ref b] cd cL_law 13 wsL_law RL D ad q A) (hAD : mm_AD ad A) (hX9 : mm_XP A ss) {M : mm_M} {N S T X Y t : Nat} {c0 s0 : Nat} (hI : mz_I M N S T) (hT : T ≤ 58000) (hX : X < 2147483648) (hY : Y < 2147483648) (ht : t < 60) (hc0 : c0 + 240 ≤ 600130) (hs0 : s0 + 1440 ≤ 7301080) (KT : ∀ (M2 : mm_M), M2.1 = M.1 → mm_G pp l ee room_1 ss mm #[.ref b] bl mth cd (c0 + 240) (s0 + 1440) Q 13 D ad q A (M2) 56 [(5, .int (nI (t + 1))), (4, .int 1), (3, .ref (ad 51)), (2, .ref (ad 50)), (1, .ref (ad 0)), (0, .ref b)] []) : mm_G pp l ee room_1 ss mm #[.ref b] bl mth cd (c0) (s0) Q 13 D ad q A (M) 950 [(8, .int (nI Y)), (6, .int (nI X)), (5, .int (nI t)), (4, .int 1), (3, .ref (ad 51)), (2, .ref (ad 50)), (1, .ref (ad 0)), (0, .ref b)] [] := by
  refine r_iload C dL_law_950 3 rfl ?_
  refine r_if_eqF (tgt := 1002) C dL_law_952 (by decide) (by decide) ?_
  refine r_aload_n C dL_law_955 rfl 6 rfl ?_
  refine r_aload_n C dL_law_956 rfl 5 rfl ?_
  refine r_aload_n C dL_law_957 rfl 4 rfl ?_
  refine r_iload C dL_law_958 0 rfl ?_
  refine r_iload C dL_law_960 2 rfl ?_
  refine r_iconst (v := 4) C dL_law_962 rfl ?_
  refine r_irem C dL_law_963 (by decide) ?_
  refine r_topc (y := nI (t % 4)) (mz_rem 4 (X := t) (by omega) (by omega)) ?_
  refine r_if_ne (tgt := 971) C dL_law_964 (by decide) (fun z964 => ?_) (fun z964 => ?_)
  · refine r_iconst (v := 0) C dL_law_971 rfl ?_
    refine r_callO5I C hX9 (kL_areSound_0 hAD hl0 hI.R hI.B (by omega) hY hI.m0 hI.m1 hI.e) (va_cwS 5 C.1.2.2.2.2 gL_law_L_areSound rfl rfl rfl (by decide +kernel) ⟨Nat.le_of_ble_eq_true rfl, Nat.le_of_ble_eq_true rfl⟩) (Nat.le_of_ble_eq_true rfl) dL_law_972 (kc := 100) (ks := 600) ⟨rfl, rfl⟩ (by show _ ≤ 600130 ∧ _ ≤ 7301080; omega) (fun Mw hw => ?_)
    refine r_if_eqF (tgt := 1002) C dL_law_975 (by decide) (by decide) ?_
    refine r_iload C dL_law_978 2 rfl ?_
    refine r_bipush (v := (30)) C dL_law_980 rfl ?_
    refine r_irem C dL_law_982 (by decide) ?_
    refine r_topc (y := nI (t % 30)) (mz_rem 30 (X := t) (by omega) (by omega)) ?_
    refine r_if_gt (tgt := 998) C dL_law_983 (by decide) (fun z983 => ?_) (fun z983 => ?_)
    · refine r_iconst (v := 1) C dL_law_998 rfl ?_
      refine r_goto (tgt := 1003) C dL_law_999 (by decide) ?_
      refine r_istore (lv' := [(4, .int 1), (8, .int (nI Y)), (6, .int (nI X)), (5, .int (nI t)), (3, .ref (ad 51)), (2, .ref (ad 50)), (1, .ref (ad 0)), (0, .ref b)]) C dL_law_1003 (by decide) rfl ?_
      refine r_iinc (v := nI (t + 1)) (lv' := [(5, .int (nI (t + 1))), (4, .int 1), (8, .int (nI Y)), (6, .int (nI X)), (3, .ref (ad 51)), (2, .ref (ad 50)), (1, .ref (ad 0)), (0, .ref b)]) C dL_law_1005 3 rfl (mz_inc t) (by decide) rfl ?_
      refine r_goto (tgt := 56) C dL_law_1008 (by decide) ?_
      refine r_sub (lv' := [(5, .int (nI (t + 1))), (4, .int 1), (3, .ref (ad 51)), (2, .ref (ad 50)), (1, .ref (ad 0)), (0, .ref b)]) [0, 1, 4, 5, 6, 7] rfl ?_
      exact r_wid (by omega) (by omega) (KT _ (hw))
    · refine r_aload_n C dL_law_986 rfl 6 rfl ?_
      refine r_aload_n C dL_law_987 rfl 5 rfl ?_
      refine r_iload C dL_law_988 1 rfl ?_
      refine r_iconst (v := 3) C dL_law_990 rfl ?_
      refine r_idiv C dL_law_991 (by decide) ?_
      refine r_topc (y := nI (X / 3)) (mz_div 3 (X := X) (by omega) (by omega)) ?_
      refine r_callO3I C hX9 (kL_isRefused hAD hl0 (hI.R.eq hw) (by omega) (by omega) ((congrFun (congrFun hw 65) 1).trans hI.m1) ((congrFun (congrFun hw 65) 2).trans hI.m2)) (va_cwS 3 C.1.2.2.2.2 gL_law_L_isRefused rfl rfl rfl (by decide +kernel) ⟨Nat.le_of_ble_eq_true rfl, Nat.le_of_ble_eq_true rfl⟩) (Nat.le_of_ble_eq_true rfl) dL_law_992 (kc := 140) (ks := 840) ⟨rfl, rfl⟩ (by show _ ≤ 600130 ∧ _ ≤ 7301080; omega) (fun Mv hv => ?_)
      refine r_if_eqF (tgt := 1002) C dL_law_995 (by decide) (by decide) ?_
      refine r_iconst (v := 1) C dL_law_998 rfl ?_
      refine r_goto (tgt := 1003) C dL_law_999 (by decide) ?_
      refine r_istore (lv' := [(4, .int 1), (8, .int (nI Y)), (6, .int (nI X)), (5, .int (nI t)), (3, .ref (ad 51)), (2, .ref (ad 50)), (1, .ref (ad 0)), (0, .ref b)]) C dL_law_1003 (by decide) rfl ?_
      refine r_iinc (v := nI (t + 1)) (lv' := [(5, .int (nI (t + 1))), (4, .int 1), (8, .int (nI Y)), (6, .int (nI X)), (3, .ref (ad 51)), (2, .ref (ad 50)), (1, .ref (ad 0)), (0, .ref b)]) C dL_law_1005 3 rfl (mz_inc t) (by decide) rfl ?_
      refine r_goto (tgt := 56) C dL_law_1008 (by decide) ?_
      refine r_sub (lv' := [(5, .int (nI (t + 1))), (4, .int 1), (3, .ref (ad 51)), (2, .ref (ad 50)), (1, .ref (ad 0)), (0, .ref b)]) [0, 1, 4, 5, 6, 7] rfl ?_
      exact r_wid (by omega) (by omega) (KT _ (hv.trans hw))
  · refine r_iconst (v := 1) C dL_law_967 rfl ?_
    refine r_goto (tgt := 972) C dL_law_968 (by decide) ?_
    refine r_callO5I C hX9 (kL_areSound_1 hAD hl0 hI.R hI.B (by omega) hY hI.m0 hI.m1 hI.e) (va_cwS 5 C.1.2.2.2.2 gL_law_L_areSound rfl rfl rfl (by decide +kernel) ⟨Nat.le_of_ble_eq_true rfl, Nat.le_of_ble_eq_true rfl⟩) (Nat.le_of_ble_eq_true rfl) dL_law_972 (kc := 100) (ks := 600) ⟨rfl, rfl⟩ (by show _ ≤ 600130 ∧ _ ≤ 7301080; omega) (fun Mw hw => ?_)
    refine r_if_eqF (tgt := 1002) C dL_law_975 (by decide) (by decide) ?_
    refine r_iload C dL_law_978 2 rfl ?_
    refine r_bipush (v := (30)) C dL_law_980 rfl ?_
    refine r_irem C dL_law_982 (by decide) ?_
    refine r_topc (y := nI (t % 30)) (mz_rem 30 (X := t) (by omega) (by omega)) ?_
    refine r_if_gt (tgt := 998) C dL_law_983 (by decide) (fun z983 => ?_) (fun z983 => ?_)
    · refine r_iconst (v := 1) C dL_law_998 rfl ?_
      refine r_goto (tgt := 1003) C dL_law_999 (by decide) ?_
      refine r_istore (lv' := [(4, .int 1), (8, .int (nI Y)), (6, .int (nI X)), (5, .int (nI t)), (3, .ref (ad 51)), (2, .ref (ad 50)), (1, .ref (ad 0)), (0, .ref b)]) C dL_law_1003 (by decide) rfl ?_
      refine r_iinc (v := nI (t + 1)) (lv' := [(5, .int (nI (t + 1))), (4, .int 1), (8, .int (nI Y)), (6, .int (nI X)), (3, .ref (ad 51)), (2, .ref (ad 50)), (1, .ref (ad 0)), (0, .ref b)]) C dL_law_1005 3 rfl (mz_inc t) (by decide) rfl ?_
      refine r_goto (tgt := 56) C dL_law_1008 (by decide) ?_
      refine r_sub (lv' := [(5, .int (nI (t + 1))), (4, .int 1), (3, .ref (ad 51)), (2, .ref (ad 50)), (1, .ref (ad 0)), (0, .ref b)]) [0, 1, 4, 5, 6, 7] rfl ?_
      exact r_wid (by omega) (by omega) (KT _ (hw))
    · refine r_aload_n C dL_law_986 rfl 6 rfl ?_
      refine r_aload_n C dL_law_987 rfl 5 rfl ?_
      refine r_iload C dL_law_988 1 rfl ?_
      refine r_iconst (v := 3) C dL_law_990 rfl ?_
      refine r_idiv C dL_law_991 (by decide) ?_
      refine r_topc (y := nI (X / 3)) (mz_div 3 (X := X) (by omega) (by omega)) ?_
      refine r_callO3I C hX9 (kL_isRefused hAD hl0 (hI.R.eq hw) (by omega) (by omega) ((congrFun (congrFun hw 65) 1).trans hI.m1) ((congrFun (congrFun hw 65) 2).trans hI.m2)) (va_cwS 3 C.1.2.2.2.2 gL_law_L_isRefused rfl rfl rfl (by decide +kernel) ⟨Nat.le_of_ble_eq_true rfl, Nat.le_of_ble_eq_true rfl⟩) (Nat.le_of_ble_eq_true rfl) dL_law_992 (kc := 140) (ks := 840) ⟨rfl, rfl⟩ (by show _ ≤ 600130 ∧ _ ≤ 7301080; omega) (fun Mv hv => ?_)
      refine r_if_eqF (tgt := 1002) C dL_law_995 (by decide) (by decide) ?_
      refine r_iconst (v := 1) C dL_law_998 rfl ?_
      refine r_goto (tgt := 1003) C dL_law_999 (by decide) ?_
      refine r_istore (lv' := [(4, .int 1), (8, .int (nI Y)), (6, .int (nI X)), (5, .int (nI t)), (3, .ref (ad 51)), (2, .ref (ad 50)), (1, .ref (ad 0)), (0, .ref b)]) C dL_law_1003 (by decide) rfl ?_
      refine r_iinc (v := nI (t + 1)) (lv' := [(5, .int (nI (t + 1))), (4, .int 1), (8, .int (nI Y)), (6, .int (nI X)), (3, .ref (ad 51)), (2, .ref (ad 50)), (1, .ref (ad 0)), (0, .ref b)]) C dL_law_1005 3 rfl (mz_inc t) (by decide) rfl ?_
      refine r_goto (tgt := 56) C dL_law_1008 (by decide) ?_
      refine r_sub (lv' := [(5, .int (nI (t + 1))), (4, .int 1), (3, .ref (ad 51)), (2, .ref (ad 50)), (1, .ref (ad 0)), (0, .ref b)]) [0, 1, 4, 5, 6, 7] rfl ?_
      exact r_wid (by omega) (by omega) (KT _ (hv.trans hw))

set_option maxHeartbeats 1000000 in
set_option maxRecDepth 100000 in
theorem lw_body {pp : Program} {l : Launch} {ee : Env} {ss : State} {mm : MethodId} {bl : List Frame} {mth : Method} {cd : Code} {D : va_G} {ad : Nat → Nat} {q : Nat → ClassId} {A : Nat → Prop} {b : Nat} {Q : State → Prop} (hl0 : l.stackTraces = false) (C : mm_C pp ss mm #[.ref b] cd cL_law 13 wsL_law RL D ad q A) (hAD : mm_AD ad A) (hX9 : mm_XP A ss) {M : mm_M} {N S T t : Nat} {c0 s0 L : Nat} {xs : Nat → Int32} (hSX : mm_SX A b L xs ss) (hL : L ≤ 260) (hI : mz_I M N S T) (hT : T ≤ 57000) (ht : t < 60) (hc0 : c0 + 300 ≤ 600130) (hs0 : s0 + 1800 ≤ 7301080) (KY : ∀ (M2 : mm_M) (N2 S2 T2 : Nat), T2 ≤ T + 100 → mz_I M2 N2 S2 T2 → mm_G pp l ee room_1 ss mm #[.ref b] bl mth cd (c0 + 300) (s0 + 1800) Q 13 D ad q A (M2) 56 [(5, .int (nI (t + 1))), (4, .int 1), (3, .ref (ad 51)), (2, .ref (ad 50)), (1, .ref (ad 0)), (0, .ref b)] []) : mm_G pp l ee room_1 ss mm #[.ref b] bl mth cd (c0) (s0) Q 13 D ad q A (M) 56 [(5, .int (nI t)), (4, .int 1), (3, .ref (ad 51)), (2, .ref (ad 50)), (1, .ref (ad 0)), (0, .ref b)] [] := by
  refine r_iload C dL_law_56 0 rfl ?_
  refine r_bipush (v := (60)) C dL_law_58 rfl ?_
  refine r_icmp_geF (tgt := 1011) C dL_law_60 (by decide) (mz_nge60 ht) ?_
  refine r_iload C dL_law_63 1 rfl ?_
  refine r_if_eqF (tgt := 1011) C dL_law_65 (by decide) (by decide) ?_
  refine r_aload_n C dL_law_68 rfl 5 rfl ?_
  refine r_iload C dL_law_69 0 rfl ?_
  refine r_callD C hSX (kL_dice hAD hl0 hL (by omega)) (va_cwS 2 C.1.2.2.2.2 gL_law_L_dice rfl rfl rfl (by decide +kernel) ⟨Nat.le_of_ble_eq_true rfl, Nat.le_of_ble_eq_true rfl⟩) (Nat.le_of_ble_eq_true rfl) dL_law_71 ⟨rfl, rfl⟩ (by show _ ≤ 600130 ∧ _ ≤ 7301080; omega) (fun r9 h9 => ?_)
  obtain ⟨X, hX, rfl⟩ := h9
  refine r_istore (lv' := [(6, .int (nI X)), (5, .int (nI t)), (4, .int 1), (3, .ref (ad 51)), (2, .ref (ad 50)), (1, .ref (ad 0)), (0, .ref b)]) C dL_law_74 (by decide) rfl ?_
  refine r_iload C dL_law_76 1 rfl ?_
  refine r_iconst (v := 3) C dL_law_78 rfl ?_
  refine r_icmp_ge (tgt := 86) C dL_law_79 (by decide) (fun z79 => ?_) (fun z79 => ?_)
  · refine r_iload C dL_law_86 1 rfl ?_
    refine r_iconst (v := 5) C dL_law_88 rfl ?_
    refine r_icmp_ge (tgt := 96) C dL_law_89 (by decide) (fun z89 => ?_) (fun z89 => ?_)
    · refine r_iload C dL_law_96 1 rfl ?_
      refine r_iconst (v := 5) C dL_law_98 rfl ?_
      refine r_icmp_ne (tgt := 107) C dL_law_99 (by decide) (fun z99 => ?_) (fun z99 => ?_)
      · refine r_iload C dL_law_107 0 rfl ?_
        refine r_bipush (v := (24)) C dL_law_109 rfl ?_
        refine r_irem C dL_law_111 (by decide) ?_
        refine r_topc (y := nI (X % 24)) (mz_rem 24 (X := X) (by omega) (by omega)) ?_
        refine r_istore (lv' := [(7, .int (nI (X % 24))), (6, .int (nI X)), (5, .int (nI t)), (4, .int 1), (3, .ref (ad 51)), (2, .ref (ad 50)), (1, .ref (ad 0)), (0, .ref b)]) C dL_law_112 (by decide) rfl ?_
        refine r_iload C dL_law_114 1 rfl ?_
        refine r_bipush (v := (24)) C dL_law_116 rfl ?_
        refine r_idiv C dL_law_118 (by decide) ?_
        refine r_topc (y := nI (X / 24)) (mz_div 24 (X := X) (by omega) (by omega)) ?_
        refine r_istore (lv' := [(8, .int (nI (X / 24))), (7, .int (nI (X % 24))), (6, .int (nI X)), (5, .int (nI t)), (4, .int 1), (3, .ref (ad 51)), (2, .ref (ad 50)), (1, .ref (ad 0)), (0, .ref b)]) C dL_law_119 (by decide) rfl ?_
        refine r_sub (lv' := [(8, .int (nI (X / 24))), (7, .int (nI (X % 24))), (6, .int (nI X)), (5, .int (nI t)), (4, .int 1), (3, .ref (ad 51)), (2, .ref (ad 50)), (1, .ref (ad 0)), (0, .ref b)]) [0, 1, 2, 3, 4, 5, 6, 7, 8] rfl ?_
        exact lw_disp hl0 C hAD hX9 hI (by omega) hX (Y := X / 24) (tv := nI t) (hv := (nI (X % 24))) (by omega) (by omega) (by omega) (fun M2 N2 S2 T2 h1 h2 => lw_tail hl0 C hAD hX9 h2 (by omega) hX (by omega) ht (by omega) (by omega) (fun M3 h3 => r_wid (by omega) (by omega) (KY M3 N2 S2 T2 h1 (h2.eq h3))))
      · refine r_bipush (v := (20)) C dL_law_102 rfl ?_
        refine r_goto (tgt := 112) C dL_law_104 (by decide) ?_
        refine r_istore (lv' := [(7, .int 20), (6, .int (nI X)), (5, .int (nI t)), (4, .int 1), (3, .ref (ad 51)), (2, .ref (ad 50)), (1, .ref (ad 0)), (0, .ref b)]) C dL_law_112 (by decide) rfl ?_
        refine r_iload C dL_law_114 1 rfl ?_
        refine r_bipush (v := (24)) C dL_law_116 rfl ?_
        refine r_idiv C dL_law_118 (by decide) ?_
        refine r_topc (y := nI (X / 24)) (mz_div 24 (X := X) (by omega) (by omega)) ?_
        refine r_istore (lv' := [(8, .int (nI (X / 24))), (7, .int 20), (6, .int (nI X)), (5, .int (nI t)), (4, .int 1), (3, .ref (ad 51)), (2, .ref (ad 50)), (1, .ref (ad 0)), (0, .ref b)]) C dL_law_119 (by decide) rfl ?_
        refine r_sub (lv' := [(8, .int (nI (X / 24))), (7, .int 20), (6, .int (nI X)), (5, .int (nI t)), (4, .int 1), (3, .ref (ad 51)), (2, .ref (ad 50)), (1, .ref (ad 0)), (0, .ref b)]) [0, 1, 2, 3, 4, 5, 6, 7, 8] rfl ?_
        exact lw_disp hl0 C hAD hX9 hI (by omega) hX (Y := X / 24) (tv := nI t) (hv := 20) (by omega) (by omega) (by omega) (fun M2 N2 S2 T2 h1 h2 => lw_tail hl0 C hAD hX9 h2 (by omega) hX (by omega) ht (by omega) (by omega) (fun M3 h3 => r_wid (by omega) (by omega) (KY M3 N2 S2 T2 h1 (h2.eq h3))))
    · refine r_iconst (v := 2) C dL_law_92 rfl ?_
      refine r_goto (tgt := 112) C dL_law_93 (by decide) ?_
      refine r_istore (lv' := [(7, .int 2), (6, .int (nI X)), (5, .int (nI t)), (4, .int 1), (3, .ref (ad 51)), (2, .ref (ad 50)), (1, .ref (ad 0)), (0, .ref b)]) C dL_law_112 (by decide) rfl ?_
      refine r_iload C dL_law_114 1 rfl ?_
      refine r_bipush (v := (24)) C dL_law_116 rfl ?_
      refine r_idiv C dL_law_118 (by decide) ?_
      refine r_topc (y := nI (X / 24)) (mz_div 24 (X := X) (by omega) (by omega)) ?_
      refine r_istore (lv' := [(8, .int (nI (X / 24))), (7, .int 2), (6, .int (nI X)), (5, .int (nI t)), (4, .int 1), (3, .ref (ad 51)), (2, .ref (ad 50)), (1, .ref (ad 0)), (0, .ref b)]) C dL_law_119 (by decide) rfl ?_
      refine r_sub (lv' := [(8, .int (nI (X / 24))), (7, .int 2), (6, .int (nI X)), (5, .int (nI t)), (4, .int 1), (3, .ref (ad 51)), (2, .ref (ad 50)), (1, .ref (ad 0)), (0, .ref b)]) [0, 1, 2, 3, 4, 5, 6, 7, 8] rfl ?_
      exact lw_disp hl0 C hAD hX9 hI (by omega) hX (Y := X / 24) (tv := nI t) (hv := 2) (by omega) (by omega) (by omega) (fun M2 N2 S2 T2 h1 h2 => lw_tail hl0 C hAD hX9 h2 (by omega) hX (by omega) ht (by omega) (by omega) (fun M3 h3 => r_wid (by omega) (by omega) (KY M3 N2 S2 T2 h1 (h2.eq h3))))
  · refine r_iconst (v := 0) C dL_law_82 rfl ?_
    refine r_goto (tgt := 112) C dL_law_83 (by decide) ?_
    refine r_istore (lv' := [(7, .int 0), (6, .int (nI X)), (5, .int (nI t)), (4, .int 1), (3, .ref (ad 51)), (2, .ref (ad 50)), (1, .ref (ad 0)), (0, .ref b)]) C dL_law_112 (by decide) rfl ?_
    refine r_iload C dL_law_114 1 rfl ?_
    refine r_bipush (v := (24)) C dL_law_116 rfl ?_
    refine r_idiv C dL_law_118 (by decide) ?_
    refine r_topc (y := nI (X / 24)) (mz_div 24 (X := X) (by omega) (by omega)) ?_
    refine r_istore (lv' := [(8, .int (nI (X / 24))), (7, .int 0), (6, .int (nI X)), (5, .int (nI t)), (4, .int 1), (3, .ref (ad 51)), (2, .ref (ad 50)), (1, .ref (ad 0)), (0, .ref b)]) C dL_law_119 (by decide) rfl ?_
    refine r_sub (lv' := [(8, .int (nI (X / 24))), (7, .int 0), (6, .int (nI X)), (5, .int (nI t)), (4, .int 1), (3, .ref (ad 51)), (2, .ref (ad 50)), (1, .ref (ad 0)), (0, .ref b)]) [0, 1, 2, 3, 4, 5, 6, 7, 8] rfl ?_
    exact lw_disp hl0 C hAD hX9 hI (by omega) hX (Y := X / 24) (tv := nI t) (hv := 0) (by omega) (by omega) (by omega) (fun M2 N2 S2 T2 h1 h2 => lw_tail hl0 C hAD hX9 h2 (by omega) hX (by omega) ht (by omega) (by omega) (fun M3 h3 => r_wid (by omega) (by omega) (KY M3 N2 S2 T2 h1 (h2.eq h3))))
