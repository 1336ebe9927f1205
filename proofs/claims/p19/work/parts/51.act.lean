set_option maxHeartbeats 400000 in
set_option maxRecDepth 100000 in
theorem kL_act_6 {l : Launch} {D : va_G} {ad : Nat → Nat} {q : Nat → ClassId} {A : Nat → Prop} (hAD : mm_AD ad A) (hl0 : l.stackTraces = false) {M : mm_M} (hb : ∀ i : Nat, i < 8 → M.1 (10 + i) 4 &&& 1 = M.1 (10 + i) 4) {x : Int32} {y z : Int32} : mm_Kw l D ad q A yL_act wsL_act rmL_act [.ref (ad 0), .int 6, .int x, .int y, .int z] M (some (.int (mz_rv (mc_cak M x) (-16210000) (-16230000) (0) ((mc_hoV (mc_laM M 8) (mc_lowI M 8 0) (mc_sq M x) x 8))))) (if mc_cak M x = 0 then (mc_hoM (mc_laM M 8) (mc_lowI M 8 0) (mc_sq M x) x 8) else ((if nm_in x (-4) 4 = 0 then M else if mc_lowI M 8 0 = 8 then M else mc_laM M 8))) := by
  have t49 : Cond.classLink RL 49 "java/lang/IndexOutOfBoundsException" ∈ wsL_act := by decide +kernel
  have t52 : Cond.classLink RL 52 "java/lang/IllegalArgumentException" ∈ wsL_act := by decide +kernel
  have t55 : Cond.classLink RL 55 "java/lang/IllegalStateException" ∈ wsL_act := by decide +kernel
  refine mm_ofL (cc := cL_act) (maxL := 6) (ret := some .int) (own := RL) (hh := [(0, 174, 175, 49), (0, 174, 180, 52), (0, 174, 185, 55)]) rfl hAD (by decide) rfl (Nat.le_of_ble_eq_true rfl) ?_
  intro pp ee ss mm bl mth cd C hX9 hT9 hret hlk9
  show mm_G _ _ _ _ _ _ _ _ _ _ _ _ _ _ _ _ _ _ M 0 [(0, .ref (ad 0)), (1, .int 6), (2, .int x), (3, .int y), (4, .int z)] []
  refine r_iload_n C dL_act_0 rfl 1 rfl ?_
  refine r_if_neT (tgt := 15) C dL_act_1 (by decide) (by decide) ?_
  refine r_iload_n C dL_act_15 rfl 1 rfl ?_
  refine r_iconst (v := 1) C dL_act_16 rfl ?_
  refine r_icmp_neT (tgt := 46) C dL_act_17 (by decide) (by decide) ?_
  refine r_iload_n C dL_act_46 rfl 1 rfl ?_
  refine r_iconst (v := 2) C dL_act_47 rfl ?_
  refine r_icmp_neT (tgt := 62) C dL_act_48 (by decide) (by decide) ?_
  refine r_iload_n C dL_act_62 rfl 1 rfl ?_
  refine r_iconst (v := 3) C dL_act_63 rfl ?_
  refine r_icmp_neT (tgt := 76) C dL_act_64 (by decide) (by decide) ?_
  refine r_iload_n C dL_act_76 rfl 1 rfl ?_
  refine r_iconst (v := 4) C dL_act_77 rfl ?_
  refine r_icmp_neT (tgt := 89) C dL_act_78 (by decide) (by decide) ?_
  refine r_iload_n C dL_act_89 rfl 1 rfl ?_
  refine r_iconst (v := 5) C dL_act_90 rfl ?_
  refine r_icmp_neT (tgt := 102) C dL_act_91 (by decide) (by decide) ?_
  refine r_iload_n C dL_act_102 rfl 1 rfl ?_
  refine r_bipush (v := 6) C dL_act_103 rfl ?_
  refine r_icmp_neF (tgt := 116) C dL_act_105 (by decide) (by decide) ?_
  refine r_aload_n C dL_act_108 rfl 0 rfl ?_
  refine r_iload_n C dL_act_109 rfl 2 rfl ?_
  refine r_callX1 C hX9 4 (by decide) rfl (mm_ct4 ad q _) (kX4_calibrate hAD hl0 hb) (cwV 1 C.1.2.2.2.2 gL_act_X4_calibrate rfl rfl rfl (by decide +kernel) ⟨Nat.le_of_ble_eq_true rfl, Nat.le_of_ble_eq_true rfl⟩) (Nat.le_of_ble_eq_true rfl) dL_act_110 ⟨Nat.le_of_ble_eq_true rfl, Nat.le_of_ble_eq_true rfl⟩ ?_ ?_
  · rintro v u ⟨h1, h2, h3⟩
    rw [h2, h3]
    show mm_G _ _ _ _ _ _ _ _ _ _ _ _ _ _ _ _ _ _ (mc_hoM (mc_laM M 8) (mc_lowI M 8 0) (mc_sq M x) x 8) 113 [(0, .ref (ad 0)), (1, .int 6), (2, .int x), (3, .int y), (4, .int z)] [.int ((mc_hoV (mc_laM M 8) (mc_lowI M 8 0) (mc_sq M x) x 8))]
    refine r_goto (tgt := 174) C dL_act_113 (by decide) ?_
    exact r_wiret C hret hlk9 (Nat.le_of_ble_eq_true rfl) (Nat.le_of_ble_eq_true rfl) dL_act_174 ⟨by rw [mz_rv0 h1], by rw [if_pos h1]⟩
  · rintro E u ⟨h1, rfl⟩
    rcases h1 with ⟨h1, rfl⟩ | ⟨h1, rfl⟩
    · refine ⟨175, ⟨tableOf [], tableOf [(0, 174, 180, 52), (0, 174, 185, 55)], ⟨0, 174, 175, 49⟩, E_idx, hT9, fun z hz => absurd hz List.not_mem_nil, by decide, by decide, C.1.2.2.2.2 _ t49, mm_cast hX9 (by decide), rfl⟩, fun zz => ?_⟩
      refine r_astore (lv' := [(5, .ref zz), (0, .ref (ad 0)), (1, .int 6), (2, .int x), (3, .int y), (4, .int z)]) C dL_act_175 (by decide) rfl ?_
      refine r_ldc C (by decide +kernel : Cond.constant RL 51 (-16210000) ∈ wsL_act) dL_act_177 ?_
      exact r_wiret C hret hlk9 (Nat.le_of_ble_eq_true rfl) (Nat.le_of_ble_eq_true rfl) dL_act_179 ⟨by rw [mz_rv1 h1], (if_neg (by rw [h1]; decide)).symm⟩
    · refine ⟨185, ⟨tableOf [(0, 174, 175, 49), (0, 174, 180, 52)], tableOf [], ⟨0, 174, 185, 55⟩, E_sta, hT9, mm_ps2 (Or.inr ⟨by decide, "java/lang/IndexOutOfBoundsException", C.1.2.2.2.2 _ t49, hX9.2.2.2.2.2.2⟩) (Or.inr ⟨by decide, "java/lang/IllegalArgumentException", C.1.2.2.2.2 _ t52, hX9.2.2.2.2.1⟩), by decide, by decide, C.1.2.2.2.2 _ t55, mm_cast hX9 (by decide), rfl⟩, fun zz => ?_⟩
      refine r_astore (lv' := [(5, .ref zz), (0, .ref (ad 0)), (1, .int 6), (2, .int x), (3, .int y), (4, .int z)]) C dL_act_185 (by decide) rfl ?_
      refine r_ldc C (by decide +kernel : Cond.constant RL 57 (-16230000) ∈ wsL_act) dL_act_187 ?_
      exact r_wiret C hret hlk9 (Nat.le_of_ble_eq_true rfl) (Nat.le_of_ble_eq_true rfl) dL_act_189 ⟨by rw [mz_rv2 h1], (if_neg (by rw [h1]; decide)).symm⟩

set_option maxHeartbeats 400000 in
set_option maxRecDepth 100000 in
theorem kL_act_7 {l : Launch} {D : va_G} {ad : Nat → Nat} {q : Nat → ClassId} {A : Nat → Prop} (hAD : mm_AD ad A) (hl0 : l.stackTraces = false) {M : mm_M} {x y : Int32} {z : Int32} : mm_Kw l D ad q A yL_act wsL_act rmL_act [.ref (ad 0), .int 7, .int x, .int y, .int z] M (some (.int (mz_rv (mc_smk M x y) (-16210000) (0) (0) ((mc_at M x.toInt.toNat (63 - y)))))) (if mc_smk M x y = 0 then (M) else (M)) := by
  have t49 : Cond.classLink RL 49 "java/lang/IndexOutOfBoundsException" ∈ wsL_act := by decide +kernel
  have t52 : Cond.classLink RL 52 "java/lang/IllegalArgumentException" ∈ wsL_act := by decide +kernel
  have t55 : Cond.classLink RL 55 "java/lang/IllegalStateException" ∈ wsL_act := by decide +kernel
  refine mm_ofL (cc := cL_act) (maxL := 6) (ret := some .int) (own := RL) (hh := [(0, 174, 175, 49), (0, 174, 180, 52), (0, 174, 185, 55)]) rfl hAD (by decide) rfl (Nat.le_of_ble_eq_true rfl) ?_
  intro pp ee ss mm bl mth cd C hX9 hT9 hret hlk9
  show mm_G _ _ _ _ _ _ _ _ _ _ _ _ _ _ _ _ _ _ M 0 [(0, .ref (ad 0)), (1, .int 7), (2, .int x), (3, .int y), (4, .int z)] []
  refine r_iload_n C dL_act_0 rfl 1 rfl ?_
  refine r_if_neT (tgt := 15) C dL_act_1 (by decide) (by decide) ?_
  refine r_iload_n C dL_act_15 rfl 1 rfl ?_
  refine r_iconst (v := 1) C dL_act_16 rfl ?_
  refine r_icmp_neT (tgt := 46) C dL_act_17 (by decide) (by decide) ?_
  refine r_iload_n C dL_act_46 rfl 1 rfl ?_
  refine r_iconst (v := 2) C dL_act_47 rfl ?_
  refine r_icmp_neT (tgt := 62) C dL_act_48 (by decide) (by decide) ?_
  refine r_iload_n C dL_act_62 rfl 1 rfl ?_
  refine r_iconst (v := 3) C dL_act_63 rfl ?_
  refine r_icmp_neT (tgt := 76) C dL_act_64 (by decide) (by decide) ?_
  refine r_iload_n C dL_act_76 rfl 1 rfl ?_
  refine r_iconst (v := 4) C dL_act_77 rfl ?_
  refine r_icmp_neT (tgt := 89) C dL_act_78 (by decide) (by decide) ?_
  refine r_iload_n C dL_act_89 rfl 1 rfl ?_
  refine r_iconst (v := 5) C dL_act_90 rfl ?_
  refine r_icmp_neT (tgt := 102) C dL_act_91 (by decide) (by decide) ?_
  refine r_iload_n C dL_act_102 rfl 1 rfl ?_
  refine r_bipush (v := 6) C dL_act_103 rfl ?_
  refine r_icmp_neT (tgt := 116) C dL_act_105 (by decide) (by decide) ?_
  refine r_iload_n C dL_act_116 rfl 1 rfl ?_
  refine r_bipush (v := 7) C dL_act_117 rfl ?_
  refine r_icmp_neF (tgt := 131) C dL_act_119 (by decide) (by decide) ?_
  refine r_aload_n C dL_act_122 rfl 0 rfl ?_
  refine r_iload_n C dL_act_123 rfl 2 rfl ?_
  refine r_iload_n C dL_act_124 rfl 3 rfl ?_
  refine r_callX2 C hX9 4 (by decide) rfl (mm_ct4 ad q _) (kX4_sample hAD hl0) (cwV 2 C.1.2.2.2.2 gL_act_X4_sample rfl rfl rfl (by decide +kernel) ⟨Nat.le_of_ble_eq_true rfl, Nat.le_of_ble_eq_true rfl⟩) (Nat.le_of_ble_eq_true rfl) dL_act_125 ⟨Nat.le_of_ble_eq_true rfl, Nat.le_of_ble_eq_true rfl⟩ ?_ ?_
  · rintro v u ⟨h1, h2, h3⟩
    rw [h2, h3]
    show mm_G _ _ _ _ _ _ _ _ _ _ _ _ _ _ _ _ _ _ (M) 128 [(0, .ref (ad 0)), (1, .int 7), (2, .int x), (3, .int y), (4, .int z)] [.int ((mc_at M x.toInt.toNat (63 - y)))]
    refine r_goto (tgt := 174) C dL_act_128 (by decide) ?_
    exact r_wiret C hret hlk9 (Nat.le_of_ble_eq_true rfl) (Nat.le_of_ble_eq_true rfl) dL_act_174 ⟨by rw [mz_rv0 h1], by rw [if_pos h1]⟩
  · rintro E u ⟨h1, rfl⟩
    rcases h1 with ⟨h1, rfl⟩
    · refine ⟨175, ⟨tableOf [], tableOf [(0, 174, 180, 52), (0, 174, 185, 55)], ⟨0, 174, 175, 49⟩, E_idx, hT9, fun z hz => absurd hz List.not_mem_nil, by decide, by decide, C.1.2.2.2.2 _ t49, mm_cast hX9 (by decide), rfl⟩, fun zz => ?_⟩
      refine r_astore (lv' := [(5, .ref zz), (0, .ref (ad 0)), (1, .int 7), (2, .int x), (3, .int y), (4, .int z)]) C dL_act_175 (by decide) rfl ?_
      refine r_ldc C (by decide +kernel : Cond.constant RL 51 (-16210000) ∈ wsL_act) dL_act_177 ?_
      exact r_wiret C hret hlk9 (Nat.le_of_ble_eq_true rfl) (Nat.le_of_ble_eq_true rfl) dL_act_179 ⟨by rw [mz_rv1 h1], (if_neg (by rw [h1]; decide)).symm⟩

set_option maxHeartbeats 400000 in
set_option maxRecDepth 100000 in
theorem kL_act_8 {l : Launch} {D : va_G} {ad : Nat → Nat} {q : Nat → ClassId} {A : Nat → Prop} (hAD : mm_AD ad A) (hl0 : l.stackTraces = false) {M : mm_M} (hb : ∀ i : Nat, i < 8 → M.1 (10 + i) 4 &&& 1 = M.1 (10 + i) 4) {x : Int32} {y z : Int32} : mm_Kw l D ad q A yL_act wsL_act rmL_act [.ref (ad 0), .int 8, .int x, .int y, .int z] M (some (.int (mz_rv (mc_hek x) (-16220000) (0) (0) ((mc_pkN (mc_fpM (mc_laM M 8) 9) (mc_fpG (mc_laM M 8) 9) x 9))))) (if mc_hek x = 0 then (mc_fpM (mc_laM M 8) 9) else (M)) := by
  have t49 : Cond.classLink RL 49 "java/lang/IndexOutOfBoundsException" ∈ wsL_act := by decide +kernel
  have t52 : Cond.classLink RL 52 "java/lang/IllegalArgumentException" ∈ wsL_act := by decide +kernel
  have t55 : Cond.classLink RL 55 "java/lang/IllegalStateException" ∈ wsL_act := by decide +kernel
  refine mm_ofL (cc := cL_act) (maxL := 6) (ret := some .int) (own := RL) (hh := [(0, 174, 175, 49), (0, 174, 180, 52), (0, 174, 185, 55)]) rfl hAD (by decide) rfl (Nat.le_of_ble_eq_true rfl) ?_
  intro pp ee ss mm bl mth cd C hX9 hT9 hret hlk9
  show mm_G _ _ _ _ _ _ _ _ _ _ _ _ _ _ _ _ _ _ M 0 [(0, .ref (ad 0)), (1, .int 8), (2, .int x), (3, .int y), (4, .int z)] []
  refine r_iload_n C dL_act_0 rfl 1 rfl ?_
  refine r_if_neT (tgt := 15) C dL_act_1 (by decide) (by decide) ?_
  refine r_iload_n C dL_act_15 rfl 1 rfl ?_
  refine r_iconst (v := 1) C dL_act_16 rfl ?_
  refine r_icmp_neT (tgt := 46) C dL_act_17 (by decide) (by decide) ?_
  refine r_iload_n C dL_act_46 rfl 1 rfl ?_
  refine r_iconst (v := 2) C dL_act_47 rfl ?_
  refine r_icmp_neT (tgt := 62) C dL_act_48 (by decide) (by decide) ?_
  refine r_iload_n C dL_act_62 rfl 1 rfl ?_
  refine r_iconst (v := 3) C dL_act_63 rfl ?_
  refine r_icmp_neT (tgt := 76) C dL_act_64 (by decide) (by decide) ?_
  refine r_iload_n C dL_act_76 rfl 1 rfl ?_
  refine r_iconst (v := 4) C dL_act_77 rfl ?_
  refine r_icmp_neT (tgt := 89) C dL_act_78 (by decide) (by decide) ?_
  refine r_iload_n C dL_act_89 rfl 1 rfl ?_
  refine r_iconst (v := 5) C dL_act_90 rfl ?_
  refine r_icmp_neT (tgt := 102) C dL_act_91 (by decide) (by decide) ?_
  refine r_iload_n C dL_act_102 rfl 1 rfl ?_
  refine r_bipush (v := 6) C dL_act_103 rfl ?_
  refine r_icmp_neT (tgt := 116) C dL_act_105 (by decide) (by decide) ?_
  refine r_iload_n C dL_act_116 rfl 1 rfl ?_
  refine r_bipush (v := 7) C dL_act_117 rfl ?_
  refine r_icmp_neT (tgt := 131) C dL_act_119 (by decide) (by decide) ?_
  refine r_iload_n C dL_act_131 rfl 1 rfl ?_
  refine r_bipush (v := 8) C dL_act_132 rfl ?_
  refine r_icmp_neF (tgt := 145) C dL_act_134 (by decide) (by decide) ?_
  refine r_aload_n C dL_act_137 rfl 0 rfl ?_
  refine r_iload_n C dL_act_138 rfl 2 rfl ?_
  refine r_callX1 C hX9 4 (by decide) rfl (mm_ct4 ad q _) (kX4_peaks hAD hl0 hb) (cwV 1 C.1.2.2.2.2 gL_act_X4_peaks rfl rfl rfl (by decide +kernel) ⟨Nat.le_of_ble_eq_true rfl, Nat.le_of_ble_eq_true rfl⟩) (Nat.le_of_ble_eq_true rfl) dL_act_139 ⟨Nat.le_of_ble_eq_true rfl, Nat.le_of_ble_eq_true rfl⟩ ?_ ?_
  · rintro v u ⟨h1, h2, h3⟩
    rw [h2, h3]
    show mm_G _ _ _ _ _ _ _ _ _ _ _ _ _ _ _ _ _ _ (mc_fpM (mc_laM M 8) 9) 142 [(0, .ref (ad 0)), (1, .int 8), (2, .int x), (3, .int y), (4, .int z)] [.int ((mc_pkN (mc_fpM (mc_laM M 8) 9) (mc_fpG (mc_laM M 8) 9) x 9))]
    refine r_goto (tgt := 174) C dL_act_142 (by decide) ?_
    exact r_wiret C hret hlk9 (Nat.le_of_ble_eq_true rfl) (Nat.le_of_ble_eq_true rfl) dL_act_174 ⟨by rw [mz_rv0 h1], by rw [if_pos h1]⟩
  · rintro E u ⟨h1, rfl⟩
    rcases h1 with ⟨h1, rfl⟩
    · refine ⟨180, ⟨tableOf [(0, 174, 175, 49)], tableOf [(0, 174, 185, 55)], ⟨0, 174, 180, 52⟩, E_arg, hT9, mm_ps1 (Or.inr ⟨by decide, "java/lang/IndexOutOfBoundsException", C.1.2.2.2.2 _ t49, hX9.2.2.2.2.2.1⟩), by decide, by decide, C.1.2.2.2.2 _ t52, mm_cast hX9 (by decide), rfl⟩, fun zz => ?_⟩
      refine r_astore (lv' := [(5, .ref zz), (0, .ref (ad 0)), (1, .int 8), (2, .int x), (3, .int y), (4, .int z)]) C dL_act_180 (by decide) rfl ?_
      refine r_ldc C (by decide +kernel : Cond.constant RL 54 (-16220000) ∈ wsL_act) dL_act_182 ?_
      exact r_wiret C hret hlk9 (Nat.le_of_ble_eq_true rfl) (Nat.le_of_ble_eq_true rfl) dL_act_184 ⟨by rw [mz_rv1 h1], (if_neg (by rw [h1]; decide)).symm⟩

set_option maxHeartbeats 400000 in
set_option maxRecDepth 100000 in
theorem kL_act_9 {l : Launch} {D : va_G} {ad : Nat → Nat} {q : Nat → ClassId} {A : Nat → Prop} (hAD : mm_AD ad A) (hl0 : l.stackTraces = false) {M : mm_M} (hb : ∀ i : Nat, i < 8 → M.1 (10 + i) 4 &&& 1 = M.1 (10 + i) 4) {x : Int32} {y z : Int32} : mm_Kw l D ad q A yL_act wsL_act rmL_act [.ref (ad 0), .int 9, .int x, .int y, .int z] M (some (.int (mz_rv (mc_fok x) (-16210000) (0) (0) ((mc_fd (mc_laA M 8) x.toInt.toNat (mc_fpM (mc_laM M 8) 9) (mc_strong (mc_laM M 8))).1)))) (if mc_fok x = 0 then ((mc_fd (mc_laA M 8) x.toInt.toNat (mc_fpM (mc_laM M 8) 9) (mc_strong (mc_laM M 8))).2) else (M)) := by
  have t49 : Cond.classLink RL 49 "java/lang/IndexOutOfBoundsException" ∈ wsL_act := by decide +kernel
  have t52 : Cond.classLink RL 52 "java/lang/IllegalArgumentException" ∈ wsL_act := by decide +kernel
  have t55 : Cond.classLink RL 55 "java/lang/IllegalStateException" ∈ wsL_act := by decide +kernel
  refine mm_ofL (cc := cL_act) (maxL := 6) (ret := some .int) (own := RL) (hh := [(0, 174, 175, 49), (0, 174, 180, 52), (0, 174, 185, 55)]) rfl hAD (by decide) rfl (Nat.le_of_ble_eq_true rfl) ?_
  intro pp ee ss mm bl mth cd C hX9 hT9 hret hlk9
  show mm_G _ _ _ _ _ _ _ _ _ _ _ _ _ _ _ _ _ _ M 0 [(0, .ref (ad 0)), (1, .int 9), (2, .int x), (3, .int y), (4, .int z)] []
  refine r_iload_n C dL_act_0 rfl 1 rfl ?_
  refine r_if_neT (tgt := 15) C dL_act_1 (by decide) (by decide) ?_
  refine r_iload_n C dL_act_15 rfl 1 rfl ?_
  refine r_iconst (v := 1) C dL_act_16 rfl ?_
  refine r_icmp_neT (tgt := 46) C dL_act_17 (by decide) (by decide) ?_
  refine r_iload_n C dL_act_46 rfl 1 rfl ?_
  refine r_iconst (v := 2) C dL_act_47 rfl ?_
  refine r_icmp_neT (tgt := 62) C dL_act_48 (by decide) (by decide) ?_
  refine r_iload_n C dL_act_62 rfl 1 rfl ?_
  refine r_iconst (v := 3) C dL_act_63 rfl ?_
  refine r_icmp_neT (tgt := 76) C dL_act_64 (by decide) (by decide) ?_
  refine r_iload_n C dL_act_76 rfl 1 rfl ?_
  refine r_iconst (v := 4) C dL_act_77 rfl ?_
  refine r_icmp_neT (tgt := 89) C dL_act_78 (by decide) (by decide) ?_
  refine r_iload_n C dL_act_89 rfl 1 rfl ?_
  refine r_iconst (v := 5) C dL_act_90 rfl ?_
  refine r_icmp_neT (tgt := 102) C dL_act_91 (by decide) (by decide) ?_
  refine r_iload_n C dL_act_102 rfl 1 rfl ?_
  refine r_bipush (v := 6) C dL_act_103 rfl ?_
  refine r_icmp_neT (tgt := 116) C dL_act_105 (by decide) (by decide) ?_
  refine r_iload_n C dL_act_116 rfl 1 rfl ?_
  refine r_bipush (v := 7) C dL_act_117 rfl ?_
  refine r_icmp_neT (tgt := 131) C dL_act_119 (by decide) (by decide) ?_
  refine r_iload_n C dL_act_131 rfl 1 rfl ?_
  refine r_bipush (v := 8) C dL_act_132 rfl ?_
  refine r_icmp_neT (tgt := 145) C dL_act_134 (by decide) (by decide) ?_
  refine r_iload_n C dL_act_145 rfl 1 rfl ?_
  refine r_bipush (v := 9) C dL_act_146 rfl ?_
  refine r_icmp_neF (tgt := 159) C dL_act_148 (by decide) (by decide) ?_
  refine r_aload_n C dL_act_151 rfl 0 rfl ?_
  refine r_iload_n C dL_act_152 rfl 2 rfl ?_
  refine r_callX1 C hX9 4 (by decide) rfl (mm_ct4 ad q _) (kX4_found hAD hl0 hb) (cwV 1 C.1.2.2.2.2 gL_act_X4_found rfl rfl rfl (by decide +kernel) ⟨Nat.le_of_ble_eq_true rfl, Nat.le_of_ble_eq_true rfl⟩) (Nat.le_of_ble_eq_true rfl) dL_act_153 ⟨Nat.le_of_ble_eq_true rfl, Nat.le_of_ble_eq_true rfl⟩ ?_ ?_
  · rintro v u ⟨h1, h2, h3⟩
    rw [h2, h3]
    show mm_G _ _ _ _ _ _ _ _ _ _ _ _ _ _ _ _ _ _ ((mc_fd (mc_laA M 8) x.toInt.toNat (mc_fpM (mc_laM M 8) 9) (mc_strong (mc_laM M 8))).2) 156 [(0, .ref (ad 0)), (1, .int 9), (2, .int x), (3, .int y), (4, .int z)] [.int ((mc_fd (mc_laA M 8) x.toInt.toNat (mc_fpM (mc_laM M 8) 9) (mc_strong (mc_laM M 8))).1)]
    refine r_goto (tgt := 174) C dL_act_156 (by decide) ?_
    exact r_wiret C hret hlk9 (Nat.le_of_ble_eq_true rfl) (Nat.le_of_ble_eq_true rfl) dL_act_174 ⟨by rw [mz_rv0 h1], by rw [if_pos h1]⟩
  · rintro E u ⟨h1, rfl⟩
    rcases h1 with ⟨h1, rfl⟩
    · refine ⟨175, ⟨tableOf [], tableOf [(0, 174, 180, 52), (0, 174, 185, 55)], ⟨0, 174, 175, 49⟩, E_idx, hT9, fun z hz => absurd hz List.not_mem_nil, by decide, by decide, C.1.2.2.2.2 _ t49, mm_cast hX9 (by decide), rfl⟩, fun zz => ?_⟩
      refine r_astore (lv' := [(5, .ref zz), (0, .ref (ad 0)), (1, .int 9), (2, .int x), (3, .int y), (4, .int z)]) C dL_act_175 (by decide) rfl ?_
      refine r_ldc C (by decide +kernel : Cond.constant RL 51 (-16210000) ∈ wsL_act) dL_act_177 ?_
      exact r_wiret C hret hlk9 (Nat.le_of_ble_eq_true rfl) (Nat.le_of_ble_eq_true rfl) dL_act_179 ⟨by rw [mz_rv1 h1], (if_neg (by rw [h1]; decide)).symm⟩

set_option maxHeartbeats 400000 in
set_option maxRecDepth 100000 in
theorem kL_act_10_0 {l : Launch} {D : va_G} {ad : Nat → Nat} {q : Nat → ClassId} {A : Nat → Prop} (hAD : mm_AD ad A) (hl0 : l.stackTraces = false) {M : mm_M} {x : Int32} {z : Int32} : mm_Kw l D ad q A yL_act wsL_act rmL_act [.ref (ad 0), .int 10, .int x, .int 0, .int z] M (some (.int (mz_rv (mc_alk M x) (-16210000) (0) (0) ((if (0 : Int32) = 0 then M.1 (10 + x.toInt.toNat) 8 else M.1 (10 + x.toInt.toNat) 9))))) (if mc_alk M x = 0 then (M) else (M)) := by
  have t49 : Cond.classLink RL 49 "java/lang/IndexOutOfBoundsException" ∈ wsL_act := by decide +kernel
  have t52 : Cond.classLink RL 52 "java/lang/IllegalArgumentException" ∈ wsL_act := by decide +kernel
  have t55 : Cond.classLink RL 55 "java/lang/IllegalStateException" ∈ wsL_act := by decide +kernel
  refine mm_ofL (cc := cL_act) (maxL := 6) (ret := some .int) (own := RL) (hh := [(0, 174, 175, 49), (0, 174, 180, 52), (0, 174, 185, 55)]) rfl hAD (by decide) rfl (Nat.le_of_ble_eq_true rfl) ?_
  intro pp ee ss mm bl mth cd C hX9 hT9 hret hlk9
  show mm_G _ _ _ _ _ _ _ _ _ _ _ _ _ _ _ _ _ _ M 0 [(0, .ref (ad 0)), (1, .int 10), (2, .int x), (3, .int 0), (4, .int z)] []
  refine r_iload_n C dL_act_0 rfl 1 rfl ?_
  refine r_if_neT (tgt := 15) C dL_act_1 (by decide) (by decide) ?_
  refine r_iload_n C dL_act_15 rfl 1 rfl ?_
  refine r_iconst (v := 1) C dL_act_16 rfl ?_
  refine r_icmp_neT (tgt := 46) C dL_act_17 (by decide) (by decide) ?_
  refine r_iload_n C dL_act_46 rfl 1 rfl ?_
  refine r_iconst (v := 2) C dL_act_47 rfl ?_
  refine r_icmp_neT (tgt := 62) C dL_act_48 (by decide) (by decide) ?_
  refine r_iload_n C dL_act_62 rfl 1 rfl ?_
  refine r_iconst (v := 3) C dL_act_63 rfl ?_
  refine r_icmp_neT (tgt := 76) C dL_act_64 (by decide) (by decide) ?_
  refine r_iload_n C dL_act_76 rfl 1 rfl ?_
  refine r_iconst (v := 4) C dL_act_77 rfl ?_
  refine r_icmp_neT (tgt := 89) C dL_act_78 (by decide) (by decide) ?_
  refine r_iload_n C dL_act_89 rfl 1 rfl ?_
  refine r_iconst (v := 5) C dL_act_90 rfl ?_
  refine r_icmp_neT (tgt := 102) C dL_act_91 (by decide) (by decide) ?_
  refine r_iload_n C dL_act_102 rfl 1 rfl ?_
  refine r_bipush (v := 6) C dL_act_103 rfl ?_
  refine r_icmp_neT (tgt := 116) C dL_act_105 (by decide) (by decide) ?_
  refine r_iload_n C dL_act_116 rfl 1 rfl ?_
  refine r_bipush (v := 7) C dL_act_117 rfl ?_
  refine r_icmp_neT (tgt := 131) C dL_act_119 (by decide) (by decide) ?_
  refine r_iload_n C dL_act_131 rfl 1 rfl ?_
  refine r_bipush (v := 8) C dL_act_132 rfl ?_
  refine r_icmp_neT (tgt := 145) C dL_act_134 (by decide) (by decide) ?_
  refine r_iload_n C dL_act_145 rfl 1 rfl ?_
  refine r_bipush (v := 9) C dL_act_146 rfl ?_
  refine r_icmp_neT (tgt := 159) C dL_act_148 (by decide) (by decide) ?_
  refine r_aload_n C dL_act_159 rfl 0 rfl ?_
  refine r_iload_n C dL_act_160 rfl 2 rfl ?_
  refine r_iload_n C dL_act_161 rfl 3 rfl ?_
  refine r_iconst (v := 1) C dL_act_162 rfl ?_
  refine r_icmp_neT (tgt := 170) C dL_act_163 (by decide) (by decide) ?_
  refine r_iconst (v := 0) C dL_act_170 rfl ?_
  refine r_callX2 C hX9 4 (by decide) rfl (mm_ct4 ad q _) (kX4_calibrated hAD hl0) (cwV 2 C.1.2.2.2.2 gL_act_X4_calibrated rfl rfl rfl (by decide +kernel) ⟨Nat.le_of_ble_eq_true rfl, Nat.le_of_ble_eq_true rfl⟩) (Nat.le_of_ble_eq_true rfl) dL_act_171 ⟨Nat.le_of_ble_eq_true rfl, Nat.le_of_ble_eq_true rfl⟩ ?_ ?_
  · rintro v u ⟨h1, h2, h3⟩
    rw [h2, h3]
    show mm_G _ _ _ _ _ _ _ _ _ _ _ _ _ _ _ _ _ _ (M) 174 [(0, .ref (ad 0)), (1, .int 10), (2, .int x), (3, .int 0), (4, .int z)] [.int ((if (0 : Int32) = 0 then M.1 (10 + x.toInt.toNat) 8 else M.1 (10 + x.toInt.toNat) 9))]
    exact r_wiret C hret hlk9 (Nat.le_of_ble_eq_true rfl) (Nat.le_of_ble_eq_true rfl) dL_act_174 ⟨by rw [mz_rv0 h1], by rw [if_pos h1]⟩
  · rintro E u ⟨h1, rfl⟩
    rcases h1 with ⟨h1, rfl⟩
    · refine ⟨175, ⟨tableOf [], tableOf [(0, 174, 180, 52), (0, 174, 185, 55)], ⟨0, 174, 175, 49⟩, E_idx, hT9, fun z hz => absurd hz List.not_mem_nil, by decide, by decide, C.1.2.2.2.2 _ t49, mm_cast hX9 (by decide), rfl⟩, fun zz => ?_⟩
      refine r_astore (lv' := [(5, .ref zz), (0, .ref (ad 0)), (1, .int 10), (2, .int x), (3, .int 0), (4, .int z)]) C dL_act_175 (by decide) rfl ?_
      refine r_ldc C (by decide +kernel : Cond.constant RL 51 (-16210000) ∈ wsL_act) dL_act_177 ?_
      exact r_wiret C hret hlk9 (Nat.le_of_ble_eq_true rfl) (Nat.le_of_ble_eq_true rfl) dL_act_179 ⟨by rw [mz_rv1 h1], (if_neg (by rw [h1]; decide)).symm⟩
set_option maxHeartbeats 400000 in
set_option maxRecDepth 100000 in
theorem kL_tells_0 {l : Launch} {D : va_G} {ad : Nat → Nat} {q : Nat → ClassId} {A : Nat → Prop} (hAD : mm_AD ad A) (hl0 : l.stackTraces = false) {M : mm_M} (hb : ∀ i : Nat, i < 8 → M.1 (10 + i) 4 &&& 1 = M.1 (10 + i) 4) {x y : Int32} : mm_Kw l D ad q A yL_tells wsL_tells rmL_tells [.ref (ad 0), .int 0, .int x, .int y] M (some (.long (mz_rvJ (mr_suk x y) (-16210000) (0) (0) (((mc_steer (mc_laM M 8) x).2 4 (47 - y.toInt).toNat))))) (if mr_suk x y = 0 then (mc_steer (mc_laM M 8) x) else (M)) := by
  have t49 : Cond.classLink RL 49 "java/lang/IndexOutOfBoundsException" ∈ wsL_tells := by decide +kernel
  refine mm_ofL (cc := cL_tells) (maxL := 5) (ret := some .long) (own := RL) (hh := [(0, 31, 32, 49)]) rfl hAD (by decide) rfl (Nat.le_of_ble_eq_true rfl) ?_
  intro pp ee ss mm bl mth cd C hX9 hT9 hret hlk9
  show mm_G _ _ _ _ _ _ _ _ _ _ _ _ _ _ _ _ _ _ M 0 [(0, .ref (ad 0)), (1, .int 0), (2, .int x), (3, .int y)] []
  refine r_iload_n C dL_tells_0 rfl 1 rfl ?_
  refine r_if_neF (tgt := 13) C dL_tells_1 (by decide) (by decide) ?_
  refine r_aload_n C dL_tells_4 rfl 0 rfl ?_
  refine r_iload_n C dL_tells_5 rfl 2 rfl ?_
  refine r_iload_n C dL_tells_6 rfl 3 rfl ?_
  refine r_callX2 C hX9 4 (by decide) rfl (mm_ct4 ad q _) (kX4_sum hAD hl0 hb) (cwV 2 C.1.2.2.2.2 gL_tells_X4_sum rfl rfl rfl (by decide +kernel) ⟨Nat.le_of_ble_eq_true rfl, Nat.le_of_ble_eq_true rfl⟩) (Nat.le_of_ble_eq_true rfl) dL_tells_7 ⟨Nat.le_of_ble_eq_true rfl, Nat.le_of_ble_eq_true rfl⟩ ?_ ?_
  · rintro v u ⟨h1, h2, h3⟩
    rw [h2, h3]
    show mm_G _ _ _ _ _ _ _ _ _ _ _ _ _ _ _ _ _ _ (mc_steer (mc_laM M 8) x) 10 [(0, .ref (ad 0)), (1, .int 0), (2, .int x), (3, .int y)] [.long (((mc_steer (mc_laM M 8) x).2 4 (47 - y.toInt).toNat))]
    refine r_goto (tgt := 31) C dL_tells_10 (by decide) ?_
    exact r_wlret C hret hlk9 (Nat.le_of_ble_eq_true rfl) (Nat.le_of_ble_eq_true rfl) dL_tells_31 ⟨by rw [mz_rvJ0 h1], by rw [if_pos h1]⟩
  · rintro E u ⟨h1, rfl⟩
    rcases h1 with ⟨h1, rfl⟩
    · refine ⟨32, ⟨tableOf [], tableOf [], ⟨0, 31, 32, 49⟩, E_idx, hT9, fun z hz => absurd hz List.not_mem_nil, by decide, by decide, C.1.2.2.2.2 _ t49, mm_cast hX9 (by decide), rfl⟩, fun zz => ?_⟩
      refine r_astore (lv' := [(4, .ref zz), (0, .ref (ad 0)), (1, .int 0), (2, .int x), (3, .int y)]) C dL_tells_32 (by decide) rfl ?_
      refine r_ldc2 C (by decide +kernel : Cond.constantLong RL 69 (-16210000) ∈ wsL_tells) dL_tells_34 ?_
      exact r_wlret C hret hlk9 (Nat.le_of_ble_eq_true rfl) (Nat.le_of_ble_eq_true rfl) dL_tells_37 ⟨by rw [mz_rvJ1 h1], (if_neg (by rw [h1]; decide)).symm⟩

set_option maxHeartbeats 400000 in
set_option maxRecDepth 100000 in
theorem kL_tells_1 {l : Launch} {D : va_G} {ad : Nat → Nat} {q : Nat → ClassId} {A : Nat → Prop} (hAD : mm_AD ad A) (hl0 : l.stackTraces = false) {M : mm_M} (hb : ∀ i : Nat, i < 8 → M.1 (10 + i) 4 &&& 1 = M.1 (10 + i) 4) {x : Int32} {y : Int32} : mm_Kw l D ad q A yL_tells wsL_tells rmL_tells [.ref (ad 0), .int 1, .int x, .int y] M (some (.long (mz_rvJ (mc_bek x) (-16210000) (0) (0) ((mc_pwN (mc_steer (mc_laM M 8) x) 32))))) (if mc_bek x = 0 then (mc_steer (mc_laM M 8) x) else (M)) := by
  have t49 : Cond.classLink RL 49 "java/lang/IndexOutOfBoundsException" ∈ wsL_tells := by decide +kernel
  refine mm_ofL (cc := cL_tells) (maxL := 5) (ret := some .long) (own := RL) (hh := [(0, 31, 32, 49)]) rfl hAD (by decide) rfl (Nat.le_of_ble_eq_true rfl) ?_
  intro pp ee ss mm bl mth cd C hX9 hT9 hret hlk9
  show mm_G _ _ _ _ _ _ _ _ _ _ _ _ _ _ _ _ _ _ M 0 [(0, .ref (ad 0)), (1, .int 1), (2, .int x), (3, .int y)] []
  refine r_iload_n C dL_tells_0 rfl 1 rfl ?_
  refine r_if_neT (tgt := 13) C dL_tells_1 (by decide) (by decide) ?_
  refine r_iload_n C dL_tells_13 rfl 1 rfl ?_
  refine r_iconst (v := 1) C dL_tells_14 rfl ?_
  refine r_icmp_neF (tgt := 26) C dL_tells_15 (by decide) (by decide) ?_
  refine r_aload_n C dL_tells_18 rfl 0 rfl ?_
  refine r_iload_n C dL_tells_19 rfl 2 rfl ?_
  refine r_callX1 C hX9 4 (by decide) rfl (mm_ct4 ad q _) (kX4_power hAD hl0 hb) (cwV 1 C.1.2.2.2.2 gL_tells_X4_power rfl rfl rfl (by decide +kernel) ⟨Nat.le_of_ble_eq_true rfl, Nat.le_of_ble_eq_true rfl⟩) (Nat.le_of_ble_eq_true rfl) dL_tells_20 ⟨Nat.le_of_ble_eq_true rfl, Nat.le_of_ble_eq_true rfl⟩ ?_ ?_
  · rintro v u ⟨h1, h2, h3⟩
    rw [h2, h3]
    show mm_G _ _ _ _ _ _ _ _ _ _ _ _ _ _ _ _ _ _ (mc_steer (mc_laM M 8) x) 23 [(0, .ref (ad 0)), (1, .int 1), (2, .int x), (3, .int y)] [.long ((mc_pwN (mc_steer (mc_laM M 8) x) 32))]
    refine r_goto (tgt := 31) C dL_tells_23 (by decide) ?_
    exact r_wlret C hret hlk9 (Nat.le_of_ble_eq_true rfl) (Nat.le_of_ble_eq_true rfl) dL_tells_31 ⟨by rw [mz_rvJ0 h1], by rw [if_pos h1]⟩
  · rintro E u ⟨h1, rfl⟩
    rcases h1 with ⟨h1, rfl⟩
    · refine ⟨32, ⟨tableOf [], tableOf [], ⟨0, 31, 32, 49⟩, E_idx, hT9, fun z hz => absurd hz List.not_mem_nil, by decide, by decide, C.1.2.2.2.2 _ t49, mm_cast hX9 (by decide), rfl⟩, fun zz => ?_⟩
      refine r_astore (lv' := [(4, .ref zz), (0, .ref (ad 0)), (1, .int 1), (2, .int x), (3, .int y)]) C dL_tells_32 (by decide) rfl ?_
      refine r_ldc2 C (by decide +kernel : Cond.constantLong RL 69 (-16210000) ∈ wsL_tells) dL_tells_34 ?_
      exact r_wlret C hret hlk9 (Nat.le_of_ble_eq_true rfl) (Nat.le_of_ble_eq_true rfl) dL_tells_37 ⟨by rw [mz_rvJ1 h1], (if_neg (by rw [h1]; decide)).symm⟩

set_option maxHeartbeats 400000 in
set_option maxRecDepth 100000 in
theorem kL_tells_2 {l : Launch} {D : va_G} {ad : Nat → Nat} {q : Nat → ClassId} {A : Nat → Prop} (hAD : mm_AD ad A) (hl0 : l.stackTraces = false) {M : mm_M} (hb : ∀ i : Nat, i < 8 → M.1 (10 + i) 4 &&& 1 = M.1 (10 + i) 4) {x : Int32} {y : Int32} : mm_Kw l D ad q A yL_tells wsL_tells rmL_tells [.ref (ad 0), .int 2, .int x, .int y] M (some (.long (mz_rvJ (mc_bek x) (-16210000) (0) (0) ((mc_ppO (mc_laM M 8) x 8))))) (if mc_bek x = 0 then (mc_laM M 8) else (M)) := by
  have t49 : Cond.classLink RL 49 "java/lang/IndexOutOfBoundsException" ∈ wsL_tells := by decide +kernel
  refine mm_ofL (cc := cL_tells) (maxL := 5) (ret := some .long) (own := RL) (hh := [(0, 31, 32, 49)]) rfl hAD (by decide) rfl (Nat.le_of_ble_eq_true rfl) ?_
  intro pp ee ss mm bl mth cd C hX9 hT9 hret hlk9
  show mm_G _ _ _ _ _ _ _ _ _ _ _ _ _ _ _ _ _ _ M 0 [(0, .ref (ad 0)), (1, .int 2), (2, .int x), (3, .int y)] []
  refine r_iload_n C dL_tells_0 rfl 1 rfl ?_
  refine r_if_neT (tgt := 13) C dL_tells_1 (by decide) (by decide) ?_
  refine r_iload_n C dL_tells_13 rfl 1 rfl ?_
  refine r_iconst (v := 1) C dL_tells_14 rfl ?_
  refine r_icmp_neT (tgt := 26) C dL_tells_15 (by decide) (by decide) ?_
  refine r_aload_n C dL_tells_26 rfl 0 rfl ?_
  refine r_iload_n C dL_tells_27 rfl 2 rfl ?_
  refine r_callX1 C hX9 4 (by decide) rfl (mm_ct4 ad q _) (kX4_powerAnew hAD hl0 hb) (cwV 1 C.1.2.2.2.2 gL_tells_X4_powerAnew rfl rfl rfl (by decide +kernel) ⟨Nat.le_of_ble_eq_true rfl, Nat.le_of_ble_eq_true rfl⟩) (Nat.le_of_ble_eq_true rfl) dL_tells_28 ⟨Nat.le_of_ble_eq_true rfl, Nat.le_of_ble_eq_true rfl⟩ ?_ ?_
  · rintro v u ⟨h1, h2, h3⟩
    rw [h2, h3]
    show mm_G _ _ _ _ _ _ _ _ _ _ _ _ _ _ _ _ _ _ (mc_laM M 8) 31 [(0, .ref (ad 0)), (1, .int 2), (2, .int x), (3, .int y)] [.long ((mc_ppO (mc_laM M 8) x 8))]
    exact r_wlret C hret hlk9 (Nat.le_of_ble_eq_true rfl) (Nat.le_of_ble_eq_true rfl) dL_tells_31 ⟨by rw [mz_rvJ0 h1], by rw [if_pos h1]⟩
  · rintro E u ⟨h1, rfl⟩
    rcases h1 with ⟨h1, rfl⟩
    · refine ⟨32, ⟨tableOf [], tableOf [], ⟨0, 31, 32, 49⟩, E_idx, hT9, fun z hz => absurd hz List.not_mem_nil, by decide, by decide, C.1.2.2.2.2 _ t49, mm_cast hX9 (by decide), rfl⟩, fun zz => ?_⟩
      refine r_astore (lv' := [(4, .ref zz), (0, .ref (ad 0)), (1, .int 2), (2, .int x), (3, .int y)]) C dL_tells_32 (by decide) rfl ?_
      refine r_ldc2 C (by decide +kernel : Cond.constantLong RL 69 (-16210000) ∈ wsL_tells) dL_tells_34 ?_
      exact r_wlret C hret hlk9 (Nat.le_of_ble_eq_true rfl) (Nat.le_of_ble_eq_true rfl) dL_tells_37 ⟨by rw [mz_rvJ1 h1], (if_neg (by rw [h1]; decide)).symm⟩
