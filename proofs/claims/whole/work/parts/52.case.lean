set_option maxHeartbeats 400000 in
set_option maxRecDepth 100000 in
theorem lw_c10 {p : Program} {l : Launch} {e : Env} {s : State} {m : MethodId} {below : List Frame} {meth : Method} {c : Code} {D : va_G} {ad : Nat → Nat} {q : Nat → ClassId} {A : Nat → Prop} {b L : Nat} {xs : Nat → Int32} {Q : State → Prop} {cells slots : Nat} (hl0 : l.stackTraces = false) (C : mm_C p s m #[.ref b] c cL_law 8 wsL_law RL D ad q A) (hAD : mm_AD ad A) (hX9 : mm_XP A s) (hXs : va_X b L xs s s.heap) (hbl : b < s.heap.size) (hbA : ¬ A b) {M : mm_M} {N S T : Nat} (h : mk_R M N S T) (hT : T ≤ 59000) {i : Nat} (hi : i + 4 ≤ L) (hL : L ≤ 2048) (hc : cells + 1 ≤ 601024) (hs : slots + 6 ≤ 7293034) (K : ∀ (M2 : mm_M) (N2 S2 T2 : Nat), T2 ≤ T + 100 → mk_R M2 N2 S2 T2 → mm_G p l e room_1 s m #[.ref b] below meth c (cells + 1) (slots + 6) Q 8 D ad q A M2 1070 [(4, .int (nI i)), (3, .ref (ad 65)), (2, .ref (ad 50)), (1, .ref (ad 0)), (0, .ref b)] []) : mm_G p l e room_1 s m #[.ref b] below meth c cells slots Q 8 D ad q A M 751 [(4, .int (nI i)), (3, .ref (ad 65)), (2, .ref (ad 50)), (1, .ref (ad 0)), (0, .ref b)] [] := by
  refine r_aload_n C dL_law_751 rfl 3 rfl ?_
  refine r_aload_n C dL_law_752 rfl 4 rfl ?_
  refine r_iload C dL_law_753 0 rfl ?_
  refine r_iconst (v := 1) C dL_law_755 rfl ?_
  refine r_iadd C dL_law_756 ?_
  refine r_sld C hXs hbl hbA (i + 1) (nm_ik (k := 1) (by omega) rfl (by omega)) (by omega) dL_law_757 ?_
  refine r_aload_n C dL_law_758 rfl 1 rfl ?_
  refine r_callW3 C hX9 (kL_power hAD hl0 h.lb) (vx_cwSW 3 C.1.2.2.2.2 gL_law_L_power rfl rfl rfl (by decide +kernel) ⟨Nat.le_of_ble_eq_true rfl, Nat.le_of_ble_eq_true rfl⟩) (Nat.le_of_ble_eq_true rfl) dL_law_759 ⟨hc, hs⟩ ?_
  refine r_mem (fun M1 eM1 => ?_)
  have hq := mq_power h hT eM1
  refine r_topi (fun cd ecd => ?_)
  refine r_istore (lv' := [(5, .int cd), (4, .int (nI i)), (3, .ref (ad 65)), (2, .ref (ad 50)), (1, .ref (ad 0)), (0, .ref b)]) C dL_law_762 (by decide) rfl ?_
  refine r_aload_n C dL_law_764 rfl 3 rfl ?_
  refine r_aload_n C dL_law_765 rfl 5 rfl ?_
  refine r_iload C dL_law_766 1 rfl ?_
  refine r_iconst (v := 1) C dL_law_768 rfl ?_
  refine r_iadd C dL_law_769 ?_
  refine r_sld C hXs hbl hbA (i + 1) (nm_ik (k := 1) (by omega) rfl (by omega)) (by omega) dL_law_770 ?_
  refine r_callV1J C 5 (by decide) rfl (mm_ct5 ad q _) (kX5_power hAD hq.1.1 h.N8 hq.1.2) (cwV 1 C.1.2.2.2.2 gL_law_X5_power rfl rfl rfl (by decide +kernel) ⟨Nat.le_of_ble_eq_true rfl, Nat.le_of_ble_eq_true rfl⟩) (Nat.le_of_ble_eq_true rfl) dL_law_771 ⟨rfl, rfl⟩ ⟨hc, hs⟩ ?_
  refine r_mem (fun M2 eM2 => ?_)
  refine r_topl (fun rr err => ?_)
  rw [← eM2] at hq
  rw [← err, ← ecd] at hq
  refine r_lstore (lv' := [(6, .long rr), (5, .int cd), (4, .int (nI i)), (3, .ref (ad 65)), (2, .ref (ad 50)), (1, .ref (ad 0)), (0, .ref b)]) C dL_law_774 (by decide) rfl ?_
  refine r_aload_n C dL_law_776 rfl 4 rfl ?_
  refine r_callV0I C 5 (by decide) rfl (mm_ct5 ad q _) (kX5_thrown hAD) (cwV 0 C.1.2.2.2.2 gL_law_X5_thrown rfl rfl rfl (by decide +kernel) ⟨Nat.le_of_ble_eq_true rfl, Nat.le_of_ble_eq_true rfl⟩) (Nat.le_of_ble_eq_true rfl) dL_law_777 ⟨rfl, rfl⟩ ⟨hc, hs⟩ ?_
  refine r_iload C dL_law_780 1 rfl ?_
  refine r_icmp_eq (tgt := 787) C dL_law_782 (by decide) (fun z1 => ?_) (fun z1 => ?_)
  · refine r_iload C dL_law_787 1 rfl ?_
    refine r_if_ne (tgt := 803) C dL_law_789 (by decide) (fun z2 => ?_) (fun z2 => ?_)
    · refine r_goto (tgt := 1070) C dL_law_803 (by decide) ?_
      refine r_sub (lv' := [(4, .int (nI i)), (3, .ref (ad 65)), (2, .ref (ad 50)), (1, .ref (ad 0)), (0, .ref b)]) [2, 3, 4, 5, 6] rfl ?_
      obtain ⟨N2, S2, T2, g1, g2⟩ := hq.2.2.2
      exact K M2 N2 S2 T2 g1 g2
    · refine r_aload_n C dL_law_792 rfl 3 rfl ?_
      refine r_iconst (v := 0) C dL_law_793 rfl ?_
      refine r_lald C mm_aJ_65 0 rfl (by decide) dL_law_794 ?_
      refine r_lload C dL_law_795 0 rfl ?_
      refine r_lcmp C dL_law_797 ?_
      refine r_if_eq (tgt := 803) C dL_law_798 (by decide) (fun z3 => ?_) (fun z3 => ?_)
      · refine r_goto (tgt := 1070) C dL_law_803 (by decide) ?_
        refine r_sub (lv' := [(4, .int (nI i)), (3, .ref (ad 65)), (2, .ref (ad 50)), (1, .ref (ad 0)), (0, .ref b)]) [2, 3, 4, 5, 6] rfl ?_
        obtain ⟨N2, S2, T2, g1, g2⟩ := hq.2.2.2
        exact K M2 N2 S2 T2 g1 g2
      · exact absurd (lg_eq0.mpr (hq.2.2.1 z2)) z3
  · exact absurd (hq.2.1) z1

set_option maxHeartbeats 400000 in
set_option maxRecDepth 100000 in
theorem lw_c11 {p : Program} {l : Launch} {e : Env} {s : State} {m : MethodId} {below : List Frame} {meth : Method} {c : Code} {D : va_G} {ad : Nat → Nat} {q : Nat → ClassId} {A : Nat → Prop} {b L : Nat} {xs : Nat → Int32} {Q : State → Prop} {cells slots : Nat} (hl0 : l.stackTraces = false) (C : mm_C p s m #[.ref b] c cL_law 8 wsL_law RL D ad q A) (hAD : mm_AD ad A) (hX9 : mm_XP A s) (hXs : va_X b L xs s s.heap) (hbl : b < s.heap.size) (hbA : ¬ A b) {M : mm_M} {N S T : Nat} (h : mk_R M N S T) (hT : T ≤ 59000) {i : Nat} (hi : i + 4 ≤ L) (hL : L ≤ 2048) (hc : cells + 1 ≤ 601024) (hs : slots + 6 ≤ 7293034) (K : ∀ (M2 : mm_M) (N2 S2 T2 : Nat), T2 ≤ T + 100 → mk_R M2 N2 S2 T2 → mm_G p l e room_1 s m #[.ref b] below meth c (cells + 1) (slots + 6) Q 8 D ad q A M2 1070 [(4, .int (nI i)), (3, .ref (ad 65)), (2, .ref (ad 50)), (1, .ref (ad 0)), (0, .ref b)] []) : mm_G p l e room_1 s m #[.ref b] below meth c cells slots Q 8 D ad q A M 806 [(4, .int (nI i)), (3, .ref (ad 65)), (2, .ref (ad 50)), (1, .ref (ad 0)), (0, .ref b)] [] := by
  refine r_aload_n C dL_law_806 rfl 3 rfl ?_
  refine r_aload_n C dL_law_807 rfl 4 rfl ?_
  refine r_iload C dL_law_808 0 rfl ?_
  refine r_iconst (v := 1) C dL_law_810 rfl ?_
  refine r_iadd C dL_law_811 ?_
  refine r_sld C hXs hbl hbA (i + 1) (nm_ik (k := 1) (by omega) rfl (by omega)) (by omega) dL_law_812 ?_
  refine r_aload_n C dL_law_813 rfl 1 rfl ?_
  refine r_callW3 C hX9 (kL_powerAnew hAD hl0 h.lb) (vx_cwSW 3 C.1.2.2.2.2 gL_law_L_powerAnew rfl rfl rfl (by decide +kernel) ⟨Nat.le_of_ble_eq_true rfl, Nat.le_of_ble_eq_true rfl⟩) (Nat.le_of_ble_eq_true rfl) dL_law_814 ⟨hc, hs⟩ ?_
  refine r_mem (fun M1 eM1 => ?_)
  have hq := mq_powerAnew h hT eM1
  refine r_topi (fun cd ecd => ?_)
  refine r_istore (lv' := [(5, .int cd), (4, .int (nI i)), (3, .ref (ad 65)), (2, .ref (ad 50)), (1, .ref (ad 0)), (0, .ref b)]) C dL_law_817 (by decide) rfl ?_
  refine r_aload_n C dL_law_819 rfl 3 rfl ?_
  refine r_aload_n C dL_law_820 rfl 5 rfl ?_
  refine r_iload C dL_law_821 1 rfl ?_
  refine r_iconst (v := 1) C dL_law_823 rfl ?_
  refine r_iadd C dL_law_824 ?_
  refine r_sld C hXs hbl hbA (i + 1) (nm_ik (k := 1) (by omega) rfl (by omega)) (by omega) dL_law_825 ?_
  refine r_callV1J C 5 (by decide) rfl (mm_ct5 ad q _) (kX5_powerAnew hAD hq.1.1 h.N8 hq.1.2) (cwV 1 C.1.2.2.2.2 gL_law_X5_powerAnew rfl rfl rfl (by decide +kernel) ⟨Nat.le_of_ble_eq_true rfl, Nat.le_of_ble_eq_true rfl⟩) (Nat.le_of_ble_eq_true rfl) dL_law_826 ⟨rfl, rfl⟩ ⟨hc, hs⟩ ?_
  refine r_mem (fun M2 eM2 => ?_)
  refine r_topl (fun rr err => ?_)
  rw [← eM2] at hq
  rw [← err, ← ecd] at hq
  refine r_lstore (lv' := [(6, .long rr), (5, .int cd), (4, .int (nI i)), (3, .ref (ad 65)), (2, .ref (ad 50)), (1, .ref (ad 0)), (0, .ref b)]) C dL_law_829 (by decide) rfl ?_
  refine r_aload_n C dL_law_831 rfl 4 rfl ?_
  refine r_callV0I C 5 (by decide) rfl (mm_ct5 ad q _) (kX5_thrown hAD) (cwV 0 C.1.2.2.2.2 gL_law_X5_thrown rfl rfl rfl (by decide +kernel) ⟨Nat.le_of_ble_eq_true rfl, Nat.le_of_ble_eq_true rfl⟩) (Nat.le_of_ble_eq_true rfl) dL_law_832 ⟨rfl, rfl⟩ ⟨hc, hs⟩ ?_
  refine r_iload C dL_law_835 1 rfl ?_
  refine r_icmp_eq (tgt := 842) C dL_law_837 (by decide) (fun z1 => ?_) (fun z1 => ?_)
  · refine r_iload C dL_law_842 1 rfl ?_
    refine r_if_ne (tgt := 858) C dL_law_844 (by decide) (fun z2 => ?_) (fun z2 => ?_)
    · refine r_goto (tgt := 1070) C dL_law_858 (by decide) ?_
      refine r_sub (lv' := [(4, .int (nI i)), (3, .ref (ad 65)), (2, .ref (ad 50)), (1, .ref (ad 0)), (0, .ref b)]) [2, 3, 4, 5, 6] rfl ?_
      obtain ⟨N2, S2, T2, g1, g2⟩ := hq.2.2.2
      exact K M2 N2 S2 T2 g1 g2
    · refine r_aload_n C dL_law_847 rfl 3 rfl ?_
      refine r_iconst (v := 0) C dL_law_848 rfl ?_
      refine r_lald C mm_aJ_65 0 rfl (by decide) dL_law_849 ?_
      refine r_lload C dL_law_850 0 rfl ?_
      refine r_lcmp C dL_law_852 ?_
      refine r_if_eq (tgt := 858) C dL_law_853 (by decide) (fun z3 => ?_) (fun z3 => ?_)
      · refine r_goto (tgt := 1070) C dL_law_858 (by decide) ?_
        refine r_sub (lv' := [(4, .int (nI i)), (3, .ref (ad 65)), (2, .ref (ad 50)), (1, .ref (ad 0)), (0, .ref b)]) [2, 3, 4, 5, 6] rfl ?_
        obtain ⟨N2, S2, T2, g1, g2⟩ := hq.2.2.2
        exact K M2 N2 S2 T2 g1 g2
      · exact absurd (lg_eq0.mpr (hq.2.2.1 z2)) z3
  · exact absurd (hq.2.1) z1

set_option maxHeartbeats 400000 in
set_option maxRecDepth 100000 in
theorem lw_c12 {p : Program} {l : Launch} {e : Env} {s : State} {m : MethodId} {below : List Frame} {meth : Method} {c : Code} {D : va_G} {ad : Nat → Nat} {q : Nat → ClassId} {A : Nat → Prop} {b L : Nat} {xs : Nat → Int32} {Q : State → Prop} {cells slots : Nat} (hl0 : l.stackTraces = false) (C : mm_C p s m #[.ref b] c cL_law 8 wsL_law RL D ad q A) (hAD : mm_AD ad A) (hX9 : mm_XP A s) (hXs : va_X b L xs s s.heap) (hbl : b < s.heap.size) (hbA : ¬ A b) {M : mm_M} {N S T : Nat} (h : mk_R M N S T) (hT : T ≤ 59000) {i : Nat} (hi : i + 4 ≤ L) (hL : L ≤ 2048) (hc : cells + 1 ≤ 601024) (hs : slots + 6 ≤ 7293034) (K : ∀ (M2 : mm_M) (N2 S2 T2 : Nat), T2 ≤ T + 100 → mk_R M2 N2 S2 T2 → mm_G p l e room_1 s m #[.ref b] below meth c (cells + 1) (slots + 6) Q 8 D ad q A M2 1070 [(4, .int (nI i)), (3, .ref (ad 65)), (2, .ref (ad 50)), (1, .ref (ad 0)), (0, .ref b)] []) : mm_G p l e room_1 s m #[.ref b] below meth c cells slots Q 8 D ad q A M 861 [(4, .int (nI i)), (3, .ref (ad 65)), (2, .ref (ad 50)), (1, .ref (ad 0)), (0, .ref b)] [] := by
  refine r_aload_n C dL_law_861 rfl 3 rfl ?_
  refine r_aload_n C dL_law_862 rfl 4 rfl ?_
  refine r_iload C dL_law_863 0 rfl ?_
  refine r_iconst (v := 1) C dL_law_865 rfl ?_
  refine r_iadd C dL_law_866 ?_
  refine r_sld C hXs hbl hbA (i + 1) (nm_ik (k := 1) (by omega) rfl (by omega)) (by omega) dL_law_867 ?_
  refine r_aload_n C dL_law_868 rfl 1 rfl ?_
  refine r_callW3 C hX9 (kL_peaks hAD hl0 h.lb) (vx_cwSW 3 C.1.2.2.2.2 gL_law_L_peaks rfl rfl rfl (by decide +kernel) ⟨Nat.le_of_ble_eq_true rfl, Nat.le_of_ble_eq_true rfl⟩) (Nat.le_of_ble_eq_true rfl) dL_law_869 ⟨hc, hs⟩ ?_
  refine r_mem (fun M1 eM1 => ?_)
  have hq := mq_peaks h hT eM1
  refine r_topi (fun cd ecd => ?_)
  refine r_istore (lv' := [(5, .int cd), (4, .int (nI i)), (3, .ref (ad 65)), (2, .ref (ad 50)), (1, .ref (ad 0)), (0, .ref b)]) C dL_law_872 (by decide) rfl ?_
  refine r_aload_n C dL_law_874 rfl 3 rfl ?_
  refine r_aload_n C dL_law_875 rfl 5 rfl ?_
  refine r_iload C dL_law_876 1 rfl ?_
  refine r_iconst (v := 1) C dL_law_878 rfl ?_
  refine r_iadd C dL_law_879 ?_
  refine r_sld C hXs hbl hbA (i + 1) (nm_ik (k := 1) (by omega) rfl (by omega)) (by omega) dL_law_880 ?_
  refine r_callV1I C 5 (by decide) rfl (mm_ct5 ad q _) (kX5_peaks hAD hq.1.1 h.N8 hq.1.2) (cwV 1 C.1.2.2.2.2 gL_law_X5_peaks rfl rfl rfl (by decide +kernel) ⟨Nat.le_of_ble_eq_true rfl, Nat.le_of_ble_eq_true rfl⟩) (Nat.le_of_ble_eq_true rfl) dL_law_881 ⟨rfl, rfl⟩ ⟨hc, hs⟩ ?_
  refine r_mem (fun M2 eM2 => ?_)
  refine r_topi (fun rr err => ?_)
  rw [← eM2] at hq
  rw [← err, ← ecd] at hq
  refine r_istore (lv' := [(6, .int rr), (5, .int cd), (4, .int (nI i)), (3, .ref (ad 65)), (2, .ref (ad 50)), (1, .ref (ad 0)), (0, .ref b)]) C dL_law_884 (by decide) rfl ?_
  refine r_aload_n C dL_law_886 rfl 4 rfl ?_
  refine r_callV0I C 5 (by decide) rfl (mm_ct5 ad q _) (kX5_thrown hAD) (cwV 0 C.1.2.2.2.2 gL_law_X5_thrown rfl rfl rfl (by decide +kernel) ⟨Nat.le_of_ble_eq_true rfl, Nat.le_of_ble_eq_true rfl⟩) (Nat.le_of_ble_eq_true rfl) dL_law_887 ⟨rfl, rfl⟩ ⟨hc, hs⟩ ?_
  refine r_iload C dL_law_890 1 rfl ?_
  refine r_icmp_eq (tgt := 897) C dL_law_892 (by decide) (fun z1 => ?_) (fun z1 => ?_)
  · refine r_iload C dL_law_897 1 rfl ?_
    refine r_if_ne (tgt := 914) C dL_law_899 (by decide) (fun z2 => ?_) (fun z2 => ?_)
    · refine r_goto (tgt := 1070) C dL_law_914 (by decide) ?_
      refine r_sub (lv' := [(4, .int (nI i)), (3, .ref (ad 65)), (2, .ref (ad 50)), (1, .ref (ad 0)), (0, .ref b)]) [2, 3, 4, 5, 6] rfl ?_
      obtain ⟨N2, S2, T2, g1, g2⟩ := hq.2.2.2
      exact K M2 N2 S2 T2 g1 g2
    · refine r_aload_n C dL_law_902 rfl 3 rfl ?_
      refine r_iconst (v := 0) C dL_law_903 rfl ?_
      refine r_lald C mm_aJ_65 0 rfl (by decide) dL_law_904 ?_
      refine r_iload C dL_law_905 0 rfl ?_
      refine r_i2l C dL_law_907 ?_
      refine r_lcmp C dL_law_908 ?_
      refine r_if_eq (tgt := 914) C dL_law_909 (by decide) (fun z3 => ?_) (fun z3 => ?_)
      · refine r_goto (tgt := 1070) C dL_law_914 (by decide) ?_
        refine r_sub (lv' := [(4, .int (nI i)), (3, .ref (ad 65)), (2, .ref (ad 50)), (1, .ref (ad 0)), (0, .ref b)]) [2, 3, 4, 5, 6] rfl ?_
        obtain ⟨N2, S2, T2, g1, g2⟩ := hq.2.2.2
        exact K M2 N2 S2 T2 g1 g2
      · exact absurd (lg_eq0.mpr (hq.2.2.1 z2)) z3
  · exact absurd (hq.2.1) z1

set_option maxHeartbeats 400000 in
set_option maxRecDepth 100000 in
theorem lw_c13 {p : Program} {l : Launch} {e : Env} {s : State} {m : MethodId} {below : List Frame} {meth : Method} {c : Code} {D : va_G} {ad : Nat → Nat} {q : Nat → ClassId} {A : Nat → Prop} {b L : Nat} {xs : Nat → Int32} {Q : State → Prop} {cells slots : Nat} (hl0 : l.stackTraces = false) (C : mm_C p s m #[.ref b] c cL_law 8 wsL_law RL D ad q A) (hAD : mm_AD ad A) (hX9 : mm_XP A s) (hXs : va_X b L xs s s.heap) (hbl : b < s.heap.size) (hbA : ¬ A b) {M : mm_M} {N S T : Nat} (h : mk_R M N S T) (hT : T ≤ 59000) {i : Nat} (hi : i + 4 ≤ L) (hL : L ≤ 2048) (hc : cells + 1 ≤ 601024) (hs : slots + 6 ≤ 7293034) (K : ∀ (M2 : mm_M) (N2 S2 T2 : Nat), T2 ≤ T + 100 → mk_R M2 N2 S2 T2 → mm_G p l e room_1 s m #[.ref b] below meth c (cells + 1) (slots + 6) Q 8 D ad q A M2 1070 [(4, .int (nI i)), (3, .ref (ad 65)), (2, .ref (ad 50)), (1, .ref (ad 0)), (0, .ref b)] []) : mm_G p l e room_1 s m #[.ref b] below meth c cells slots Q 8 D ad q A M 917 [(4, .int (nI i)), (3, .ref (ad 65)), (2, .ref (ad 50)), (1, .ref (ad 0)), (0, .ref b)] [] := by
  refine r_aload_n C dL_law_917 rfl 3 rfl ?_
  refine r_aload_n C dL_law_918 rfl 4 rfl ?_
  refine r_iload C dL_law_919 0 rfl ?_
  refine r_iconst (v := 1) C dL_law_921 rfl ?_
  refine r_iadd C dL_law_922 ?_
  refine r_sld C hXs hbl hbA (i + 1) (nm_ik (k := 1) (by omega) rfl (by omega)) (by omega) dL_law_923 ?_
  refine r_aload_n C dL_law_924 rfl 1 rfl ?_
  refine r_callW3 C hX9 (kL_found hAD hl0 h.lb) (vx_cwSW 3 C.1.2.2.2.2 gL_law_L_found rfl rfl rfl (by decide +kernel) ⟨Nat.le_of_ble_eq_true rfl, Nat.le_of_ble_eq_true rfl⟩) (Nat.le_of_ble_eq_true rfl) dL_law_925 ⟨hc, hs⟩ ?_
  refine r_mem (fun M1 eM1 => ?_)
  have hq := mq_found h hT eM1
  refine r_topi (fun cd ecd => ?_)
  refine r_istore (lv' := [(5, .int cd), (4, .int (nI i)), (3, .ref (ad 65)), (2, .ref (ad 50)), (1, .ref (ad 0)), (0, .ref b)]) C dL_law_928 (by decide) rfl ?_
  refine r_aload_n C dL_law_930 rfl 3 rfl ?_
  refine r_aload_n C dL_law_931 rfl 5 rfl ?_
  refine r_iload C dL_law_932 1 rfl ?_
  refine r_iconst (v := 1) C dL_law_934 rfl ?_
  refine r_iadd C dL_law_935 ?_
  refine r_sld C hXs hbl hbA (i + 1) (nm_ik (k := 1) (by omega) rfl (by omega)) (by omega) dL_law_936 ?_
  refine r_callV1I C 5 (by decide) rfl (mm_ct5 ad q _) (kX5_found hAD hq.1.1 h.N8 hq.1.2.1 hq.1.2.2) (cwV 1 C.1.2.2.2.2 gL_law_X5_found rfl rfl rfl (by decide +kernel) ⟨Nat.le_of_ble_eq_true rfl, Nat.le_of_ble_eq_true rfl⟩) (Nat.le_of_ble_eq_true rfl) dL_law_937 ⟨rfl, rfl⟩ ⟨hc, hs⟩ ?_
  refine r_mem (fun M2 eM2 => ?_)
  refine r_topi (fun rr err => ?_)
  rw [← eM2] at hq
  rw [← err, ← ecd] at hq
  refine r_istore (lv' := [(6, .int rr), (5, .int cd), (4, .int (nI i)), (3, .ref (ad 65)), (2, .ref (ad 50)), (1, .ref (ad 0)), (0, .ref b)]) C dL_law_940 (by decide) rfl ?_
  refine r_aload_n C dL_law_942 rfl 4 rfl ?_
  refine r_callV0I C 5 (by decide) rfl (mm_ct5 ad q _) (kX5_thrown hAD) (cwV 0 C.1.2.2.2.2 gL_law_X5_thrown rfl rfl rfl (by decide +kernel) ⟨Nat.le_of_ble_eq_true rfl, Nat.le_of_ble_eq_true rfl⟩) (Nat.le_of_ble_eq_true rfl) dL_law_943 ⟨rfl, rfl⟩ ⟨hc, hs⟩ ?_
  refine r_iload C dL_law_946 1 rfl ?_
  refine r_icmp_eq (tgt := 953) C dL_law_948 (by decide) (fun z1 => ?_) (fun z1 => ?_)
  · refine r_iload C dL_law_953 1 rfl ?_
    refine r_if_ne (tgt := 970) C dL_law_955 (by decide) (fun z2 => ?_) (fun z2 => ?_)
    · refine r_goto (tgt := 1070) C dL_law_970 (by decide) ?_
      refine r_sub (lv' := [(4, .int (nI i)), (3, .ref (ad 65)), (2, .ref (ad 50)), (1, .ref (ad 0)), (0, .ref b)]) [2, 3, 4, 5, 6] rfl ?_
      obtain ⟨N2, S2, T2, g1, g2⟩ := hq.2.2.2
      exact K M2 N2 S2 T2 g1 g2
    · refine r_aload_n C dL_law_958 rfl 3 rfl ?_
      refine r_iconst (v := 0) C dL_law_959 rfl ?_
      refine r_lald C mm_aJ_65 0 rfl (by decide) dL_law_960 ?_
      refine r_iload C dL_law_961 0 rfl ?_
      refine r_i2l C dL_law_963 ?_
      refine r_lcmp C dL_law_964 ?_
      refine r_if_eq (tgt := 970) C dL_law_965 (by decide) (fun z3 => ?_) (fun z3 => ?_)
      · refine r_goto (tgt := 1070) C dL_law_970 (by decide) ?_
        refine r_sub (lv' := [(4, .int (nI i)), (3, .ref (ad 65)), (2, .ref (ad 50)), (1, .ref (ad 0)), (0, .ref b)]) [2, 3, 4, 5, 6] rfl ?_
        obtain ⟨N2, S2, T2, g1, g2⟩ := hq.2.2.2
        exact K M2 N2 S2 T2 g1 g2
      · exact absurd (lg_eq0.mpr (hq.2.2.1 z2)) z3
  · exact absurd (hq.2.1) z1

set_option maxHeartbeats 400000 in
set_option maxRecDepth 100000 in
theorem lw_c14 {p : Program} {l : Launch} {e : Env} {s : State} {m : MethodId} {below : List Frame} {meth : Method} {c : Code} {D : va_G} {ad : Nat → Nat} {q : Nat → ClassId} {A : Nat → Prop} {b L : Nat} {xs : Nat → Int32} {Q : State → Prop} {cells slots : Nat} (hl0 : l.stackTraces = false) (C : mm_C p s m #[.ref b] c cL_law 8 wsL_law RL D ad q A) (hAD : mm_AD ad A) (hX9 : mm_XP A s) (hXs : va_X b L xs s s.heap) (hbl : b < s.heap.size) (hbA : ¬ A b) {M : mm_M} {N S T : Nat} (h : mk_R M N S T) (hT : T ≤ 59000) {i : Nat} (hi : i + 4 ≤ L) (hL : L ≤ 2048) (hc : cells + 1 ≤ 601024) (hs : slots + 6 ≤ 7293034) (K : ∀ (M2 : mm_M) (N2 S2 T2 : Nat), T2 ≤ T + 100 → mk_R M2 N2 S2 T2 → mm_G p l e room_1 s m #[.ref b] below meth c (cells + 1) (slots + 6) Q 8 D ad q A M2 1070 [(4, .int (nI i)), (3, .ref (ad 65)), (2, .ref (ad 50)), (1, .ref (ad 0)), (0, .ref b)] []) : mm_G p l e room_1 s m #[.ref b] below meth c cells slots Q 8 D ad q A M 973 [(4, .int (nI i)), (3, .ref (ad 65)), (2, .ref (ad 50)), (1, .ref (ad 0)), (0, .ref b)] [] := by
  refine r_aload_n C dL_law_973 rfl 3 rfl ?_
  refine r_aload_n C dL_law_974 rfl 4 rfl ?_
  refine r_iload C dL_law_975 0 rfl ?_
  refine r_iconst (v := 1) C dL_law_977 rfl ?_
  refine r_iadd C dL_law_978 ?_
  refine r_sld C hXs hbl hbA (i + 1) (nm_ik (k := 1) (by omega) rfl (by omega)) (by omega) dL_law_979 ?_
  refine r_aload_n C dL_law_980 rfl 4 rfl ?_
  refine r_iload C dL_law_981 0 rfl ?_
  refine r_iconst (v := 2) C dL_law_983 rfl ?_
  refine r_iadd C dL_law_984 ?_
  refine r_sld C hXs hbl hbA (i + 2) (nm_ik (k := 2) (by omega) rfl (by omega)) (by omega) dL_law_985 ?_
  refine r_if_eq (tgt := 993) C dL_law_986 (by decide) (fun z0 => ?_) (fun z0 => ?_)
  · refine r_iconst (v := 0) C dL_law_993 rfl ?_
    refine r_aload_n C dL_law_994 rfl 1 rfl ?_
    refine r_callW4 C hX9 (kL_calibrated hAD hl0) (vx_cwSW 4 C.1.2.2.2.2 gL_law_L_calibrated rfl rfl rfl (by decide +kernel) ⟨Nat.le_of_ble_eq_true rfl, Nat.le_of_ble_eq_true rfl⟩) (Nat.le_of_ble_eq_true rfl) dL_law_995 ⟨hc, hs⟩ ?_
    refine r_mem (fun M1 eM1 => ?_)
    have hq := mq_calibrated h eM1
    refine r_topi (fun cd ecd => ?_)
    refine r_istore (lv' := [(5, .int cd), (4, .int (nI i)), (3, .ref (ad 65)), (2, .ref (ad 50)), (1, .ref (ad 0)), (0, .ref b)]) C dL_law_998 (by decide) rfl ?_
    refine r_aload_n C dL_law_1000 rfl 3 rfl ?_
    refine r_aload_n C dL_law_1001 rfl 5 rfl ?_
    refine r_iload C dL_law_1002 1 rfl ?_
    refine r_iconst (v := 1) C dL_law_1004 rfl ?_
    refine r_iadd C dL_law_1005 ?_
    refine r_sld C hXs hbl hbA (i + 1) (nm_ik (k := 1) (by omega) rfl (by omega)) (by omega) dL_law_1006 ?_
    refine r_aload_n C dL_law_1007 rfl 5 rfl ?_
    refine r_iload C dL_law_1008 1 rfl ?_
    refine r_iconst (v := 2) C dL_law_1010 rfl ?_
    refine r_iadd C dL_law_1011 ?_
    refine r_sld C hXs hbl hbA (i + 2) (nm_ik (k := 2) (by omega) rfl (by omega)) (by omega) dL_law_1012 ?_
    refine r_if_eqT (tgt := 1020) C dL_law_1013 (by decide) (z0) ?_
    refine r_iconst (v := 0) C dL_law_1020 rfl ?_
    refine r_callV2I C 5 (by decide) rfl (mm_ct5 ad q _) (kX5_calibrated hAD hq.1 h.N8) (cwV 2 C.1.2.2.2.2 gL_law_X5_calibrated rfl rfl rfl (by decide +kernel) ⟨Nat.le_of_ble_eq_true rfl, Nat.le_of_ble_eq_true rfl⟩) (Nat.le_of_ble_eq_true rfl) dL_law_1021 ⟨rfl, rfl⟩ ⟨hc, hs⟩ ?_
    refine r_mem (fun M2 eM2 => ?_)
    refine r_topi (fun rr err => ?_)
    rw [← eM2] at hq
    rw [← err, ← ecd] at hq
    refine r_istore (lv' := [(6, .int rr), (5, .int cd), (4, .int (nI i)), (3, .ref (ad 65)), (2, .ref (ad 50)), (1, .ref (ad 0)), (0, .ref b)]) C dL_law_1024 (by decide) rfl ?_
    refine r_aload_n C dL_law_1026 rfl 4 rfl ?_
    refine r_callV0I C 5 (by decide) rfl (mm_ct5 ad q _) (kX5_thrown hAD) (cwV 0 C.1.2.2.2.2 gL_law_X5_thrown rfl rfl rfl (by decide +kernel) ⟨Nat.le_of_ble_eq_true rfl, Nat.le_of_ble_eq_true rfl⟩) (Nat.le_of_ble_eq_true rfl) dL_law_1027 ⟨rfl, rfl⟩ ⟨hc, hs⟩ ?_
    refine r_iload C dL_law_1030 1 rfl ?_
    refine r_icmp_eq (tgt := 1037) C dL_law_1032 (by decide) (fun z1 => ?_) (fun z1 => ?_)
    · refine r_iload C dL_law_1037 1 rfl ?_
      refine r_if_ne (tgt := 1054) C dL_law_1039 (by decide) (fun z2 => ?_) (fun z2 => ?_)
      · refine r_goto (tgt := 1070) C dL_law_1054 (by decide) ?_
        refine r_sub (lv' := [(4, .int (nI i)), (3, .ref (ad 65)), (2, .ref (ad 50)), (1, .ref (ad 0)), (0, .ref b)]) [2, 3, 4, 5, 6] rfl ?_
        obtain ⟨N2, S2, T2, g1, g2⟩ := hq.2.2.2
        exact K M2 N2 S2 T2 g1 g2
      · refine r_aload_n C dL_law_1042 rfl 3 rfl ?_
        refine r_iconst (v := 0) C dL_law_1043 rfl ?_
        refine r_lald C mm_aJ_65 0 rfl (by decide) dL_law_1044 ?_
        refine r_iload C dL_law_1045 0 rfl ?_
        refine r_i2l C dL_law_1047 ?_
        refine r_lcmp C dL_law_1048 ?_
        refine r_if_eq (tgt := 1054) C dL_law_1049 (by decide) (fun z3 => ?_) (fun z3 => ?_)
        · refine r_goto (tgt := 1070) C dL_law_1054 (by decide) ?_
          refine r_sub (lv' := [(4, .int (nI i)), (3, .ref (ad 65)), (2, .ref (ad 50)), (1, .ref (ad 0)), (0, .ref b)]) [2, 3, 4, 5, 6] rfl ?_
          obtain ⟨N2, S2, T2, g1, g2⟩ := hq.2.2.2
          exact K M2 N2 S2 T2 g1 g2
        · exact absurd (lg_eq0.mpr (hq.2.2.1 z2)) z3
    · exact absurd (hq.2.1) z1
  · refine r_iconst (v := 1) C dL_law_989 rfl ?_
    refine r_goto (tgt := 994) C dL_law_990 (by decide) ?_
    refine r_aload_n C dL_law_994 rfl 1 rfl ?_
    refine r_callW4 C hX9 (kL_calibrated hAD hl0) (vx_cwSW 4 C.1.2.2.2.2 gL_law_L_calibrated rfl rfl rfl (by decide +kernel) ⟨Nat.le_of_ble_eq_true rfl, Nat.le_of_ble_eq_true rfl⟩) (Nat.le_of_ble_eq_true rfl) dL_law_995 ⟨hc, hs⟩ ?_
    refine r_mem (fun M1 eM1 => ?_)
    have hq := mq_calibrated h eM1
    refine r_topi (fun cd ecd => ?_)
    refine r_istore (lv' := [(5, .int cd), (4, .int (nI i)), (3, .ref (ad 65)), (2, .ref (ad 50)), (1, .ref (ad 0)), (0, .ref b)]) C dL_law_998 (by decide) rfl ?_
    refine r_aload_n C dL_law_1000 rfl 3 rfl ?_
    refine r_aload_n C dL_law_1001 rfl 5 rfl ?_
    refine r_iload C dL_law_1002 1 rfl ?_
    refine r_iconst (v := 1) C dL_law_1004 rfl ?_
    refine r_iadd C dL_law_1005 ?_
    refine r_sld C hXs hbl hbA (i + 1) (nm_ik (k := 1) (by omega) rfl (by omega)) (by omega) dL_law_1006 ?_
    refine r_aload_n C dL_law_1007 rfl 5 rfl ?_
    refine r_iload C dL_law_1008 1 rfl ?_
    refine r_iconst (v := 2) C dL_law_1010 rfl ?_
    refine r_iadd C dL_law_1011 ?_
    refine r_sld C hXs hbl hbA (i + 2) (nm_ik (k := 2) (by omega) rfl (by omega)) (by omega) dL_law_1012 ?_
    refine r_if_eqF (tgt := 1020) C dL_law_1013 (by decide) (z0) ?_
    refine r_iconst (v := 1) C dL_law_1016 rfl ?_
    refine r_goto (tgt := 1021) C dL_law_1017 (by decide) ?_
    refine r_callV2I C 5 (by decide) rfl (mm_ct5 ad q _) (kX5_calibrated hAD hq.1 h.N8) (cwV 2 C.1.2.2.2.2 gL_law_X5_calibrated rfl rfl rfl (by decide +kernel) ⟨Nat.le_of_ble_eq_true rfl, Nat.le_of_ble_eq_true rfl⟩) (Nat.le_of_ble_eq_true rfl) dL_law_1021 ⟨rfl, rfl⟩ ⟨hc, hs⟩ ?_
    refine r_mem (fun M2 eM2 => ?_)
    refine r_topi (fun rr err => ?_)
    rw [← eM2] at hq
    rw [← err, ← ecd] at hq
    refine r_istore (lv' := [(6, .int rr), (5, .int cd), (4, .int (nI i)), (3, .ref (ad 65)), (2, .ref (ad 50)), (1, .ref (ad 0)), (0, .ref b)]) C dL_law_1024 (by decide) rfl ?_
    refine r_aload_n C dL_law_1026 rfl 4 rfl ?_
    refine r_callV0I C 5 (by decide) rfl (mm_ct5 ad q _) (kX5_thrown hAD) (cwV 0 C.1.2.2.2.2 gL_law_X5_thrown rfl rfl rfl (by decide +kernel) ⟨Nat.le_of_ble_eq_true rfl, Nat.le_of_ble_eq_true rfl⟩) (Nat.le_of_ble_eq_true rfl) dL_law_1027 ⟨rfl, rfl⟩ ⟨hc, hs⟩ ?_
    refine r_iload C dL_law_1030 1 rfl ?_
    refine r_icmp_eq (tgt := 1037) C dL_law_1032 (by decide) (fun z1 => ?_) (fun z1 => ?_)
    · refine r_iload C dL_law_1037 1 rfl ?_
      refine r_if_ne (tgt := 1054) C dL_law_1039 (by decide) (fun z2 => ?_) (fun z2 => ?_)
      · refine r_goto (tgt := 1070) C dL_law_1054 (by decide) ?_
        refine r_sub (lv' := [(4, .int (nI i)), (3, .ref (ad 65)), (2, .ref (ad 50)), (1, .ref (ad 0)), (0, .ref b)]) [2, 3, 4, 5, 6] rfl ?_
        obtain ⟨N2, S2, T2, g1, g2⟩ := hq.2.2.2
        exact K M2 N2 S2 T2 g1 g2
      · refine r_aload_n C dL_law_1042 rfl 3 rfl ?_
        refine r_iconst (v := 0) C dL_law_1043 rfl ?_
        refine r_lald C mm_aJ_65 0 rfl (by decide) dL_law_1044 ?_
        refine r_iload C dL_law_1045 0 rfl ?_
        refine r_i2l C dL_law_1047 ?_
        refine r_lcmp C dL_law_1048 ?_
        refine r_if_eq (tgt := 1054) C dL_law_1049 (by decide) (fun z3 => ?_) (fun z3 => ?_)
        · refine r_goto (tgt := 1070) C dL_law_1054 (by decide) ?_
          refine r_sub (lv' := [(4, .int (nI i)), (3, .ref (ad 65)), (2, .ref (ad 50)), (1, .ref (ad 0)), (0, .ref b)]) [2, 3, 4, 5, 6] rfl ?_
          obtain ⟨N2, S2, T2, g1, g2⟩ := hq.2.2.2
          exact K M2 N2 S2 T2 g1 g2
        · exact absurd (lg_eq0.mpr (hq.2.2.1 z2)) z3
    · exact absurd (hq.2.1) z1

set_option maxHeartbeats 400000 in
set_option maxRecDepth 100000 in
theorem lw_c15 {p : Program} {l : Launch} {e : Env} {s : State} {m : MethodId} {below : List Frame} {meth : Method} {c : Code} {D : va_G} {ad : Nat → Nat} {q : Nat → ClassId} {A : Nat → Prop} {b L : Nat} {xs : Nat → Int32} {Q : State → Prop} {cells slots : Nat} (hl0 : l.stackTraces = false) (C : mm_C p s m #[.ref b] c cL_law 8 wsL_law RL D ad q A) (hAD : mm_AD ad A) (hX9 : mm_XP A s) (hXs : va_X b L xs s s.heap) (hbl : b < s.heap.size) (hbA : ¬ A b) {M : mm_M} {N S T : Nat} (h : mk_R M N S T) (hT : T ≤ 59000) {i : Nat} (hi : i + 4 ≤ L) (hL : L ≤ 2048) (hc : cells + 1 ≤ 601024) (hs : slots + 6 ≤ 7293034) (K : ∀ (M2 : mm_M) (N2 S2 T2 : Nat), T2 ≤ T + 100 → mk_R M2 N2 S2 T2 → mm_G p l e room_1 s m #[.ref b] below meth c (cells + 1) (slots + 6) Q 8 D ad q A M2 1070 [(4, .int (nI i)), (3, .ref (ad 65)), (2, .ref (ad 50)), (1, .ref (ad 0)), (0, .ref b)] []) : mm_G p l e room_1 s m #[.ref b] below meth c cells slots Q 8 D ad q A M 1057 [(4, .int (nI i)), (3, .ref (ad 65)), (2, .ref (ad 50)), (1, .ref (ad 0)), (0, .ref b)] [] := by
  have hc2 : cells ≤ room_1.cells := Nat.le_trans (Nat.le_succ _) hc
  have hs2 : slots ≤ room_1.slots := Nat.le_trans (Nat.le_add_right _ 6) hs
  refine r_aload_n C dL_law_1057 rfl 3 rfl ?_
  refine r_callV0I C 4 (by decide) rfl (mm_ct4 ad q _) (kX4_tick hAD) (cwV 0 C.1.2.2.2.2 gL_law_X4_tick rfl rfl rfl (by decide +kernel) ⟨Nat.le_of_ble_eq_true rfl, Nat.le_of_ble_eq_true rfl⟩) (Nat.le_of_ble_eq_true rfl) dL_law_1058 ⟨rfl, rfl⟩ ⟨hc2, hs2⟩ ?_
  refine r_mem (fun M1 eM1 => ?_)
  refine r_aload_n C dL_law_1061 rfl 2 rfl ?_
  refine r_callV0I C 5 (by decide) rfl (mm_ct5 ad q _) (kX5_tick hAD) (cwV 0 C.1.2.2.2.2 gL_law_X5_tick rfl rfl rfl (by decide +kernel) ⟨Nat.le_of_ble_eq_true rfl, Nat.le_of_ble_eq_true rfl⟩) (Nat.le_of_ble_eq_true rfl) dL_law_1062 ⟨rfl, rfl⟩ ⟨hc2, hs2⟩ ?_
  refine r_mem (fun M2 eM2 => ?_)
  have hq := mq_tick h eM1 eM2
  refine r_icmp_eq (tgt := 1070) C dL_law_1065 (by decide) (fun z1 => ?_) (fun z1 => ?_)
  · obtain ⟨N2, S2, T2, g1, g2⟩ := hq.1
    exact r_wid (Nat.le_succ _) (Nat.le_add_right _ 6) (K M2 N2 S2 T2 g1 g2)
  · exact absurd (hq.2) z1
