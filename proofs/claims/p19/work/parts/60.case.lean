theorem mz_ge0 {N : Nat} (h : N < 2147483648) : 0 ≤ nI N := by
  rw [Int32.le_iff_toInt_le, nI_toInt h, show (0 : Int32).toInt = 0 from rfl]; omega
set_option maxHeartbeats 1000000 in
set_option maxRecDepth 100000 in
theorem lw_el8 {pp : Program} {l : Launch} {ee : Env} {ss : State} {mm : MethodId} {bl : List Frame} {mth : Method} {cd : Code} {D : va_G} {ad : Nat → Nat} {q : Nat → ClassId} {A : Nat → Prop} {b : Nat} {Q : State → Prop} (hl0 : l.stackTraces = false) (C : mm_C pp ss mm #[.ref b] cd cL_law 13 wsL_law RL D ad q A) (hAD : mm_AD ad A) (hX9 : mm_XP A ss) {M : mm_M} {S T X Y : Nat} {tv hv : Int32} {c0 s0 : Nat} (hI : mz_I M 8 S T) (hT : T ≤ 58000) (hX : X < 2147483648) (hY : Y < 2147483648) (hc0 : c0 + 60 ≤ 600130) (hs0 : s0 + 360 ≤ 7301080) (K : ∀ (M2 : mm_M) (N2 S2 T2 : Nat), T2 ≤ T + 100 → mz_I M2 N2 S2 T2 → mm_G pp l ee room_1 ss mm #[.ref b] bl mth cd (c0 + 60) (s0 + 360) Q 13 D ad q A (M2) 950 [(8, .int (nI Y)), (6, .int (nI X)), (5, .int tv), (4, .int 1), (3, .ref (ad 51)), (2, .ref (ad 50)), (1, .ref (ad 0)), (0, .ref b)] []) : mm_G pp l ee room_1 ss mm #[.ref b] bl mth cd (c0) (s0) Q 13 D ad q A (M) 127 [(8, .int (nI Y)), (7, .int hv), (6, .int (nI X)), (5, .int tv), (4, .int 1), (3, .ref (ad 51)), (2, .ref (ad 50)), (1, .ref (ad 0)), (0, .ref b)] [] := by
  have n57 : Cond.constant RL 57 (-16230000) ∈ wsL_law := by decide +kernel
  refine r_aload_n C dL_law_127 rfl 7 rfl ?_
  refine r_iconst (v := 0) C dL_law_128 rfl ?_
  refine r_iload C dL_law_129 0 rfl ?_
  refine r_bipush (v := (13)) C dL_law_131 rfl ?_
  refine r_irem C dL_law_133 (by decide) ?_
  refine r_topc (y := nI (Y % 13)) (mz_rem 13 (X := Y) (by omega) (by omega)) ?_
  refine r_bipush (v := (32)) C dL_law_134 rfl ?_
  refine r_iload C dL_law_136 0 rfl ?_
  refine r_bipush (v := (13)) C dL_law_138 rfl ?_
  refine r_idiv C dL_law_140 (by decide) ?_
  refine r_topc (y := nI (Y / 13)) (mz_div 13 (X := Y) (by omega) (by omega)) ?_
  refine r_bipush (v := (65)) C dL_law_141 rfl ?_
  refine r_irem C dL_law_143 (by decide) ?_
  refine r_topc (y := nI ((Y / 13) % 65)) (mz_rem 65 (X := Y / 13) (by omega) (by omega)) ?_
  refine r_iadd C dL_law_144 ?_
  refine r_topc (y := nI (32 + ((Y / 13) % 65))) (mz_add 32 ((Y / 13) % 65)) ?_
  refine r_iload C dL_law_145 0 rfl ?_
  refine r_bipush (v := (7)) C dL_law_147 rfl ?_
  refine r_idiv C dL_law_149 (by decide) ?_
  refine r_topc (y := nI (Y / 7)) (mz_div 7 (X := Y) (by omega) (by omega)) ?_
  refine r_bipush (v := (7)) C dL_law_150 rfl ?_
  refine r_irem C dL_law_152 (by decide) ?_
  refine r_topc (y := nI ((Y / 7) % 7)) (mz_rem 7 (X := Y / 7) (by omega) (by omega)) ?_
  refine r_iconst (v := 3) C dL_law_153 rfl ?_
  refine r_isub C dL_law_154 ?_
  refine r_callW5I C hX9 (mz_act2 (kL_act_0 hAD hl0 hI.R.cN hI.R.N8) (mz_elk2 hI.R (mz_pos13 Y) (mz_gain Y) (mz_lag7 Y) rfl) rfl) (vx_cwSW 5 C.1.2.2.2.2 gL_law_L_act rfl rfl rfl (by decide +kernel) ⟨Nat.le_of_ble_eq_true rfl, Nat.le_of_ble_eq_true rfl⟩) (Nat.le_of_ble_eq_true rfl) dL_law_155 (kc := 1) (ks := 6) ⟨rfl, rfl⟩ (by show _ ≤ 600130 ∧ _ ≤ 7301080; omega) ?_
  refine r_istore (lv' := [(9, .int (-16230000)), (8, .int (nI Y)), (7, .int hv), (6, .int (nI X)), (5, .int tv), (4, .int 1), (3, .ref (ad 51)), (2, .ref (ad 50)), (1, .ref (ad 0)), (0, .ref b)]) C dL_law_158 (by decide) rfl ?_
  refine r_iload C dL_law_160 0 rfl ?_
  refine r_aload_n C dL_law_162 rfl 7 rfl ?_
  refine r_iconst (v := 1) C dL_law_163 rfl ?_
  refine r_ialdL C mm_aL_50 1 rfl (by decide) dL_law_164 ?_
  refine r_topc (y := nI 8) (hI.m1) ?_
  refine r_bipush (v := (8)) C dL_law_165 rfl ?_
  refine r_icmp_neF (tgt := 175) C dL_law_167 (by decide) (rfl) ?_
  refine r_ldc C n57 dL_law_170 ?_
  refine r_goto (tgt := 178) C dL_law_172 (by decide) ?_
  refine r_icmp_neF (tgt := 226) C dL_law_178 (by decide) (by decide) ?_
  refine r_iload C dL_law_181 0 rfl ?_
  refine r_if_ltT (tgt := 222) C dL_law_183 (by decide) (by decide) ?_
  refine r_iconst (v := 1) C dL_law_222 rfl ?_
  refine r_goto (tgt := 227) C dL_law_223 (by decide) ?_
  refine r_istore (lv' := [(4, .int 1), (9, .int (-16230000)), (8, .int (nI Y)), (7, .int hv), (6, .int (nI X)), (5, .int tv), (3, .ref (ad 51)), (2, .ref (ad 50)), (1, .ref (ad 0)), (0, .ref b)]) C dL_law_227 (by decide) rfl ?_
  refine r_iload C dL_law_229 1 rfl ?_
  refine r_if_ltT (tgt := 259) C dL_law_231 (by decide) (by decide) ?_
  refine r_goto (tgt := 950) C dL_law_259 (by decide) ?_
  refine r_sub (lv' := [(8, .int (nI Y)), (6, .int (nI X)), (5, .int tv), (4, .int 1), (3, .ref (ad 51)), (2, .ref (ad 50)), (1, .ref (ad 0)), (0, .ref b)]) [2, 4, 5, 0, 6, 7, 8, 9] rfl ?_
  exact r_wid (by omega) (by omega) (K M 8 S T (by omega) hI)

set_option maxHeartbeats 1000000 in
set_option maxRecDepth 100000 in
theorem lw_el {pp : Program} {l : Launch} {ee : Env} {ss : State} {mm : MethodId} {bl : List Frame} {mth : Method} {cd : Code} {D : va_G} {ad : Nat → Nat} {q : Nat → ClassId} {A : Nat → Prop} {b : Nat} {Q : State → Prop} (hl0 : l.stackTraces = false) (C : mm_C pp ss mm #[.ref b] cd cL_law 13 wsL_law RL D ad q A) (hAD : mm_AD ad A) (hX9 : mm_XP A ss) {M : mm_M} {N S T X Y : Nat} {tv hv : Int32} {c0 s0 : Nat} (hI : mz_I M N S T) (hT : T ≤ 58000) (hX : X < 2147483648) (hY : Y < 2147483648) (hc0 : c0 + 60 ≤ 600130) (hs0 : s0 + 360 ≤ 7301080) (K : ∀ (M2 : mm_M) (N2 S2 T2 : Nat), T2 ≤ T + 100 → mz_I M2 N2 S2 T2 → mm_G pp l ee room_1 ss mm #[.ref b] bl mth cd (c0 + 60) (s0 + 360) Q 13 D ad q A (M2) 950 [(8, .int (nI Y)), (6, .int (nI X)), (5, .int tv), (4, .int 1), (3, .ref (ad 51)), (2, .ref (ad 50)), (1, .ref (ad 0)), (0, .ref b)] [])(hN : N < 8) : mm_G pp l ee room_1 ss mm #[.ref b] bl mth cd (c0) (s0) Q 13 D ad q A (M) 127 [(8, .int (nI Y)), (7, .int hv), (6, .int (nI X)), (5, .int tv), (4, .int 1), (3, .ref (ad 51)), (2, .ref (ad 50)), (1, .ref (ad 0)), (0, .ref b)] [] := by
  have hN8 := hI.R.N8
  have hc9 := mz_elk0 hI.R (mz_pos13 Y) (mz_gain Y) (mz_lag7 Y) hN
  refine r_aload_n C dL_law_127 rfl 7 rfl ?_
  refine r_iconst (v := 0) C dL_law_128 rfl ?_
  refine r_iload C dL_law_129 0 rfl ?_
  refine r_bipush (v := (13)) C dL_law_131 rfl ?_
  refine r_irem C dL_law_133 (by decide) ?_
  refine r_topc (y := nI (Y % 13)) (mz_rem 13 (X := Y) (by omega) (by omega)) ?_
  refine r_bipush (v := (32)) C dL_law_134 rfl ?_
  refine r_iload C dL_law_136 0 rfl ?_
  refine r_bipush (v := (13)) C dL_law_138 rfl ?_
  refine r_idiv C dL_law_140 (by decide) ?_
  refine r_topc (y := nI (Y / 13)) (mz_div 13 (X := Y) (by omega) (by omega)) ?_
  refine r_bipush (v := (65)) C dL_law_141 rfl ?_
  refine r_irem C dL_law_143 (by decide) ?_
  refine r_topc (y := nI ((Y / 13) % 65)) (mz_rem 65 (X := Y / 13) (by omega) (by omega)) ?_
  refine r_iadd C dL_law_144 ?_
  refine r_topc (y := nI (32 + ((Y / 13) % 65))) (mz_add 32 ((Y / 13) % 65)) ?_
  refine r_iload C dL_law_145 0 rfl ?_
  refine r_bipush (v := (7)) C dL_law_147 rfl ?_
  refine r_idiv C dL_law_149 (by decide) ?_
  refine r_topc (y := nI (Y / 7)) (mz_div 7 (X := Y) (by omega) (by omega)) ?_
  refine r_bipush (v := (7)) C dL_law_150 rfl ?_
  refine r_irem C dL_law_152 (by decide) ?_
  refine r_topc (y := nI ((Y / 7) % 7)) (mz_rem 7 (X := Y / 7) (by omega) (by omega)) ?_
  refine r_iconst (v := 3) C dL_law_153 rfl ?_
  refine r_isub C dL_law_154 ?_
  refine r_callW5I C hX9 (mz_act0 (kL_act_0 hAD hl0 hI.R.cN hI.R.N8) hc9 hI.R.cN) (vx_cwSW 5 C.1.2.2.2.2 gL_law_L_act rfl rfl rfl (by decide +kernel) ⟨Nat.le_of_ble_eq_true rfl, Nat.le_of_ble_eq_true rfl⟩) (Nat.le_of_ble_eq_true rfl) dL_law_155 (kc := 1) (ks := 6) ⟨rfl, rfl⟩ (by show _ ≤ 600130 ∧ _ ≤ 7301080; omega) ?_
  refine r_gh (M' := mr_elS (mc_elS M N (nI (Y % 13)) (nI (32 + ((Y / 13) % 65))) (nI ((Y / 7) % 7) - 3)) N (nI (Y % 13)) (nI (32 + ((Y / 13) % 65))) (nI ((Y / 7) % 7) - 3)) mz_gh_el rfl ?_
  refine r_mem (fun M2 eM2 => ?_)
  obtain ⟨hR2, hF, h37, hn, ho⟩ := mz_el hI hT hc9 eM2
  have hw : M2.1 = M2.1 := rfl
  refine r_istore (lv' := [(9, .int (nI N)), (8, .int (nI Y)), (7, .int hv), (6, .int (nI X)), (5, .int tv), (4, .int 1), (3, .ref (ad 51)), (2, .ref (ad 50)), (1, .ref (ad 0)), (0, .ref b)]) C dL_law_158 (by decide) rfl ?_
  refine r_iload C dL_law_160 0 rfl ?_
  refine r_aload_n C dL_law_162 rfl 7 rfl ?_
  refine r_iconst (v := 1) C dL_law_163 rfl ?_
  refine r_ialdL C mm_aL_50 1 rfl (by decide) dL_law_164 ?_
  refine r_topc (y := nI N) ((congrFun (congrFun hw 65) 1).trans ((hF.hi 65 1 (by omega)).trans hI.m1)) ?_
  refine r_bipush (v := (8)) C dL_law_165 rfl ?_
  refine r_icmp_neT (tgt := 175) C dL_law_167 (by decide) (mz_ne8 hN) ?_
  refine r_aload_n C dL_law_175 rfl 7 rfl ?_
  refine r_iconst (v := 1) C dL_law_176 rfl ?_
  refine r_ialdL C mm_aL_50 1 rfl (by decide) dL_law_177 ?_
  refine r_topc (y := nI N) ((congrFun (congrFun hw 65) 1).trans ((hF.hi 65 1 (by omega)).trans hI.m1)) ?_
  refine r_icmp_neF (tgt := 226) C dL_law_178 (by decide) (rfl) ?_
  refine r_iload C dL_law_181 0 rfl ?_
  refine r_if_ltF (tgt := 222) C dL_law_183 (by decide) (mz_neg (by omega)) ?_
  refine r_aload_n C dL_law_186 rfl 8 rfl ?_
  refine r_iload C dL_law_187 0 rfl ?_
  refine r_iconst (v := 0) C dL_law_189 rfl ?_
  refine r_q2I C hX9 4 (by decide) rfl (mm_ct4 ad q _) (kX4_calibrated hAD hl0) (mz_qcal0 hR2 hw (k := N) (by omega)) (cwV 2 C.1.2.2.2.2 gL_law_X4_calibrated rfl rfl rfl (by decide +kernel) ⟨Nat.le_of_ble_eq_true rfl, Nat.le_of_ble_eq_true rfl⟩) (Nat.le_of_ble_eq_true rfl) dL_law_190 (kc := 1) (ks := 6) ⟨rfl, rfl⟩ (by show _ ≤ 600130 ∧ _ ≤ 7301080; omega) (fun Mw hw => ?_)
  refine r_bipush (v := (64)) C dL_law_193 rfl ?_
  refine r_icmp_neF (tgt := 226) C dL_law_195 (by decide) ((hR2.el N (by omega)).2.2.2.2.2.1.trans hn.2.2.1) ?_
  refine r_aload_n C dL_law_198 rfl 8 rfl ?_
  refine r_iload C dL_law_199 0 rfl ?_
  refine r_iconst (v := 1) C dL_law_201 rfl ?_
  refine r_q2I C hX9 4 (by decide) rfl (mm_ct4 ad q _) (kX4_calibrated hAD hl0) (mz_qcal1 hR2 hw (k := N) (by omega)) (cwV 2 C.1.2.2.2.2 gL_law_X4_calibrated rfl rfl rfl (by decide +kernel) ⟨Nat.le_of_ble_eq_true rfl, Nat.le_of_ble_eq_true rfl⟩) (Nat.le_of_ble_eq_true rfl) dL_law_202 (kc := 1) (ks := 6) ⟨rfl, rfl⟩ (by show _ ≤ 600130 ∧ _ ≤ 7301080; omega) (fun Mw hw => ?_)
  refine r_if_neF (tgt := 226) C dL_law_205 (by decide) ((hR2.el N (by omega)).2.2.2.2.2.2.1.trans hn.2.2.2) ?_
  refine r_aload_n C dL_law_208 rfl 8 rfl ?_
  refine r_iload C dL_law_209 0 rfl ?_
  refine r_iload C dL_law_211 1 rfl ?_
  refine r_bipush (v := (64)) C dL_law_213 rfl ?_
  refine r_irem C dL_law_215 (by decide) ?_
  refine r_topc (y := nI (Y % 64)) (mz_rem 64 (X := Y) (by omega) (by omega)) ?_
  refine r_q2I C hX9 4 (by decide) rfl (mm_ct4 ad q _) (kX4_sample hAD hl0) (mz_qsam hR2 (by omega) hw (k := N) (by omega) (mz_in63 Y)) (cwV 2 C.1.2.2.2.2 gL_law_X4_sample rfl rfl rfl (by decide +kernel) ⟨Nat.le_of_ble_eq_true rfl, Nat.le_of_ble_eq_true rfl⟩) (Nat.le_of_ble_eq_true rfl) dL_law_216 (kc := 1) (ks := 6) ⟨rfl, rfl⟩ (by show _ ≤ 600130 ∧ _ ≤ 7301080; omega) (fun Mw hw => ?_)
  refine r_if_neF (tgt := 226) C dL_law_219 (by decide) (mz_kept0 hR2 (by omega) (by omega) hn.1 Y) ?_
  refine r_iconst (v := 1) C dL_law_222 rfl ?_
  refine r_goto (tgt := 227) C dL_law_223 (by decide) ?_
  refine r_istore (lv' := [(4, .int 1), (9, .int (nI N)), (8, .int (nI Y)), (7, .int hv), (6, .int (nI X)), (5, .int tv), (3, .ref (ad 51)), (2, .ref (ad 50)), (1, .ref (ad 0)), (0, .ref b)]) C dL_law_227 (by decide) rfl ?_
  refine r_iload C dL_law_229 1 rfl ?_
  refine r_if_ltF (tgt := 259) C dL_law_231 (by decide) (mz_neg (by omega)) ?_
  refine r_aload_n C dL_law_234 rfl 6 rfl ?_
  refine r_iconst (v := 2) C dL_law_235 rfl ?_
  refine r_iload C dL_law_236 1 rfl ?_
  refine r_imul C dL_law_238 ?_
  refine r_topc (y := nI (2 * N)) (mz_mul 2 N) ?_
  refine r_iconst (v := 1) C dL_law_239 rfl ?_
  refine r_iastL C mm_aL_51 (2 * N) (mz_nn (by omega)) (by omega) dL_law_240 ?_
  refine r_aload_n C dL_law_241 rfl 6 rfl ?_
  refine r_iconst (v := 2) C dL_law_242 rfl ?_
  refine r_iload C dL_law_243 1 rfl ?_
  refine r_imul C dL_law_245 ?_
  refine r_topc (y := nI (2 * N)) (mz_mul 2 N) ?_
  refine r_iconst (v := 1) C dL_law_246 rfl ?_
  refine r_iadd C dL_law_247 ?_
  refine r_topc (y := nI ((2 * N) + 1)) (mz_add (2 * N) 1) ?_
  refine r_aload_n C dL_law_248 rfl 7 rfl ?_
  refine r_iconst (v := 0) C dL_law_249 rfl ?_
  refine r_ialdL C mm_aL_50 0 rfl (by decide) dL_law_250 ?_
  refine r_topc (y := nI T) ((mm_sI_k (by decide)).trans ((congrFun (congrFun hw 65) 0).trans ((hF.hi 65 0 (by omega)).trans hI.m0))) ?_
  refine r_iastL C mm_aL_51 ((2 * N) + 1) (mz_nn (by omega)) (by omega) dL_law_251 ?_
  refine r_aload_n C dL_law_252 rfl 7 rfl ?_
  refine r_iconst (v := 1) C dL_law_253 rfl ?_
  refine r_dup2_11 C dL_law_254 rfl rfl ?_
  refine r_ialdL C mm_aL_50 1 rfl (by decide) dL_law_255 ?_
  refine r_topc (y := nI N) ((mm_sI_k (by decide)).trans ((mm_sI_k (by decide)).trans ((congrFun (congrFun hw 65) 1).trans ((hF.hi 65 1 (by omega)).trans hI.m1)))) ?_
  refine r_iconst (v := 1) C dL_law_256 rfl ?_
  refine r_iadd C dL_law_257 ?_
  refine r_topc (y := nI (N + 1)) (mz_add N 1) ?_
  refine r_iastL C mm_aL_50 (1) (rfl) (by decide) dL_law_258 ?_
  refine r_goto (tgt := 950) C dL_law_259 (by decide) ?_
  refine r_sub (lv' := [(8, .int (nI Y)), (6, .int (nI X)), (5, .int tv), (4, .int 1), (3, .ref (ad 51)), (2, .ref (ad 50)), (1, .ref (ad 0)), (0, .ref b)]) [2, 4, 5, 0, 6, 7, 8, 9] rfl ?_
  exact r_wid (by omega) (by omega) (K _ (N + 1) S T (by omega) (mz_elF hI hN hR2 hF h37 hn ho hw))

set_option maxHeartbeats 1000000 in
set_option maxRecDepth 100000 in
theorem lw_so4 {pp : Program} {l : Launch} {ee : Env} {ss : State} {mm : MethodId} {bl : List Frame} {mth : Method} {cd : Code} {D : va_G} {ad : Nat → Nat} {q : Nat → ClassId} {A : Nat → Prop} {b : Nat} {Q : State → Prop} (hl0 : l.stackTraces = false) (C : mm_C pp ss mm #[.ref b] cd cL_law 13 wsL_law RL D ad q A) (hAD : mm_AD ad A) (hX9 : mm_XP A ss) {M : mm_M} {N T X Y : Nat} {tv hv : Int32} {c0 s0 : Nat} (hI : mz_I M N 4 T) (hT : T ≤ 58000) (hX : X < 2147483648) (hY : Y < 2147483648) (hc0 : c0 + 60 ≤ 600130) (hs0 : s0 + 360 ≤ 7301080) (K : ∀ (M2 : mm_M) (N2 S2 T2 : Nat), T2 ≤ T + 100 → mz_I M2 N2 S2 T2 → mm_G pp l ee room_1 ss mm #[.ref b] bl mth cd (c0 + 60) (s0 + 360) Q 13 D ad q A (M2) 950 [(8, .int (nI Y)), (6, .int (nI X)), (5, .int tv), (4, .int 1), (3, .ref (ad 51)), (2, .ref (ad 50)), (1, .ref (ad 0)), (0, .ref b)] []) : mm_G pp l ee room_1 ss mm #[.ref b] bl mth cd (c0) (s0) Q 13 D ad q A (M) 268 [(8, .int (nI Y)), (7, .int hv), (6, .int (nI X)), (5, .int tv), (4, .int 1), (3, .ref (ad 51)), (2, .ref (ad 50)), (1, .ref (ad 0)), (0, .ref b)] [] := by
  have n57 : Cond.constant RL 57 (-16230000) ∈ wsL_law := by decide +kernel
  refine r_aload_n C dL_law_268 rfl 7 rfl ?_
  refine r_iconst (v := 2) C dL_law_269 rfl ?_
  refine r_iload C dL_law_270 0 rfl ?_
  refine r_bipush (v := (9)) C dL_law_272 rfl ?_
  refine r_irem C dL_law_274 (by decide) ?_
  refine r_topc (y := nI (Y % 9)) (mz_rem 9 (X := Y) (by omega) (by omega)) ?_
  refine r_iconst (v := 4) C dL_law_275 rfl ?_
  refine r_isub C dL_law_276 ?_
  refine r_iconst (v := 1) C dL_law_277 rfl ?_
  refine r_iload C dL_law_278 0 rfl ?_
  refine r_bipush (v := (9)) C dL_law_280 rfl ?_
  refine r_idiv C dL_law_282 (by decide) ?_
  refine r_topc (y := nI (Y / 9)) (mz_div 9 (X := Y) (by omega) (by omega)) ?_
  refine r_bipush (v := (100)) C dL_law_283 rfl ?_
  refine r_irem C dL_law_285 (by decide) ?_
  refine r_topc (y := nI ((Y / 9) % 100)) (mz_rem 100 (X := Y / 9) (by omega) (by omega)) ?_
  refine r_iadd C dL_law_286 ?_
  refine r_topc (y := nI (1 + ((Y / 9) % 100))) (mz_add 1 ((Y / 9) % 100)) ?_
  refine r_iconst (v := 2) C dL_law_287 rfl ?_
  refine r_iload C dL_law_288 0 rfl ?_
  refine r_bipush (v := (11)) C dL_law_290 rfl ?_
  refine r_idiv C dL_law_292 (by decide) ?_
  refine r_topc (y := nI (Y / 11)) (mz_div 11 (X := Y) (by omega) (by omega)) ?_
  refine r_bipush (v := (15)) C dL_law_293 rfl ?_
  refine r_irem C dL_law_295 (by decide) ?_
  refine r_topc (y := nI ((Y / 11) % 15)) (mz_rem 15 (X := Y / 11) (by omega) (by omega)) ?_
  refine r_iadd C dL_law_296 ?_
  refine r_topc (y := nI (2 + ((Y / 11) % 15))) (mz_add 2 ((Y / 11) % 15)) ?_
  refine r_callW5I C hX9 (mz_act3 (kL_act_2 hAD hl0 hI.R.cS hI.R.S4) (mz_sok3 hI.R (mz_b9 Y) (mz_s100 Y) (mz_p15 Y) rfl) rfl) (vx_cwSW 5 C.1.2.2.2.2 gL_law_L_act rfl rfl rfl (by decide +kernel) ⟨Nat.le_of_ble_eq_true rfl, Nat.le_of_ble_eq_true rfl⟩) (Nat.le_of_ble_eq_true rfl) dL_law_297 (kc := 1) (ks := 6) ⟨rfl, rfl⟩ (by show _ ≤ 600130 ∧ _ ≤ 7301080; omega) ?_
  refine r_istore (lv' := [(9, .int (-16230000)), (8, .int (nI Y)), (7, .int hv), (6, .int (nI X)), (5, .int tv), (4, .int 1), (3, .ref (ad 51)), (2, .ref (ad 50)), (1, .ref (ad 0)), (0, .ref b)]) C dL_law_300 (by decide) rfl ?_
  refine r_iload C dL_law_302 0 rfl ?_
  refine r_aload_n C dL_law_304 rfl 7 rfl ?_
  refine r_iconst (v := 2) C dL_law_305 rfl ?_
  refine r_ialdL C mm_aL_50 2 rfl (by decide) dL_law_306 ?_
  refine r_topc (y := nI 4) (hI.m2) ?_
  refine r_iconst (v := 4) C dL_law_307 rfl ?_
  refine r_icmp_neF (tgt := 316) C dL_law_308 (by decide) (rfl) ?_
  refine r_ldc C n57 dL_law_311 ?_
  refine r_goto (tgt := 319) C dL_law_313 (by decide) ?_
  refine r_icmp_neF (tgt := 326) C dL_law_319 (by decide) (by decide) ?_
  refine r_iconst (v := 1) C dL_law_322 rfl ?_
  refine r_goto (tgt := 327) C dL_law_323 (by decide) ?_
  refine r_istore (lv' := [(4, .int 1), (9, .int (-16230000)), (8, .int (nI Y)), (7, .int hv), (6, .int (nI X)), (5, .int tv), (3, .ref (ad 51)), (2, .ref (ad 50)), (1, .ref (ad 0)), (0, .ref b)]) C dL_law_327 (by decide) rfl ?_
  refine r_aload_n C dL_law_329 rfl 7 rfl ?_
  refine r_iconst (v := 2) C dL_law_330 rfl ?_
  refine r_dup2_11 C dL_law_331 rfl rfl ?_
  refine r_ialdL C mm_aL_50 2 rfl (by decide) dL_law_332 ?_
  refine r_topc (y := nI 4) (hI.m2) ?_
  refine r_iload C dL_law_333 1 rfl ?_
  refine r_if_geF (tgt := 342) C dL_law_335 (by decide) (by decide) ?_
  refine r_iconst (v := 0) C dL_law_338 rfl ?_
  refine r_goto (tgt := 343) C dL_law_339 (by decide) ?_
  refine r_iadd C dL_law_343 ?_
  refine r_topc (y := nI (4 + 0)) (mz_add 4 0) ?_
  refine r_iastL C mm_aL_50 (2) (rfl) (by decide) dL_law_344 ?_
  refine r_goto (tgt := 950) C dL_law_345 (by decide) ?_
  refine r_sub (lv' := [(8, .int (nI Y)), (6, .int (nI X)), (5, .int tv), (4, .int 1), (3, .ref (ad 51)), (2, .ref (ad 50)), (1, .ref (ad 0)), (0, .ref b)]) [2, 4, 5, 0, 6, 7, 8, 9] rfl ?_
  exact r_wid (by omega) (by omega) (K _ N 4 T (by omega) (hI.eq (mz_same hI.m2)))

set_option maxHeartbeats 1000000 in
set_option maxRecDepth 100000 in
theorem lw_so {pp : Program} {l : Launch} {ee : Env} {ss : State} {mm : MethodId} {bl : List Frame} {mth : Method} {cd : Code} {D : va_G} {ad : Nat → Nat} {q : Nat → ClassId} {A : Nat → Prop} {b : Nat} {Q : State → Prop} (hl0 : l.stackTraces = false) (C : mm_C pp ss mm #[.ref b] cd cL_law 13 wsL_law RL D ad q A) (hAD : mm_AD ad A) (hX9 : mm_XP A ss) {M : mm_M} {N S T X Y : Nat} {tv hv : Int32} {c0 s0 : Nat} (hI : mz_I M N S T) (hT : T ≤ 58000) (hX : X < 2147483648) (hY : Y < 2147483648) (hc0 : c0 + 60 ≤ 600130) (hs0 : s0 + 360 ≤ 7301080) (K : ∀ (M2 : mm_M) (N2 S2 T2 : Nat), T2 ≤ T + 100 → mz_I M2 N2 S2 T2 → mm_G pp l ee room_1 ss mm #[.ref b] bl mth cd (c0 + 60) (s0 + 360) Q 13 D ad q A (M2) 950 [(8, .int (nI Y)), (6, .int (nI X)), (5, .int tv), (4, .int 1), (3, .ref (ad 51)), (2, .ref (ad 50)), (1, .ref (ad 0)), (0, .ref b)] [])(hS : S < 4) : mm_G pp l ee room_1 ss mm #[.ref b] bl mth cd (c0) (s0) Q 13 D ad q A (M) 268 [(8, .int (nI Y)), (7, .int hv), (6, .int (nI X)), (5, .int tv), (4, .int 1), (3, .ref (ad 51)), (2, .ref (ad 50)), (1, .ref (ad 0)), (0, .ref b)] [] := by
  have hN8 := hI.R.N8
  have hc9 := mz_sok0 hI.R (mz_b9 Y) (mz_s100 Y) (mz_p15 Y) hS
  refine r_aload_n C dL_law_268 rfl 7 rfl ?_
  refine r_iconst (v := 2) C dL_law_269 rfl ?_
  refine r_iload C dL_law_270 0 rfl ?_
  refine r_bipush (v := (9)) C dL_law_272 rfl ?_
  refine r_irem C dL_law_274 (by decide) ?_
  refine r_topc (y := nI (Y % 9)) (mz_rem 9 (X := Y) (by omega) (by omega)) ?_
  refine r_iconst (v := 4) C dL_law_275 rfl ?_
  refine r_isub C dL_law_276 ?_
  refine r_iconst (v := 1) C dL_law_277 rfl ?_
  refine r_iload C dL_law_278 0 rfl ?_
  refine r_bipush (v := (9)) C dL_law_280 rfl ?_
  refine r_idiv C dL_law_282 (by decide) ?_
  refine r_topc (y := nI (Y / 9)) (mz_div 9 (X := Y) (by omega) (by omega)) ?_
  refine r_bipush (v := (100)) C dL_law_283 rfl ?_
  refine r_irem C dL_law_285 (by decide) ?_
  refine r_topc (y := nI ((Y / 9) % 100)) (mz_rem 100 (X := Y / 9) (by omega) (by omega)) ?_
  refine r_iadd C dL_law_286 ?_
  refine r_topc (y := nI (1 + ((Y / 9) % 100))) (mz_add 1 ((Y / 9) % 100)) ?_
  refine r_iconst (v := 2) C dL_law_287 rfl ?_
  refine r_iload C dL_law_288 0 rfl ?_
  refine r_bipush (v := (11)) C dL_law_290 rfl ?_
  refine r_idiv C dL_law_292 (by decide) ?_
  refine r_topc (y := nI (Y / 11)) (mz_div 11 (X := Y) (by omega) (by omega)) ?_
  refine r_bipush (v := (15)) C dL_law_293 rfl ?_
  refine r_irem C dL_law_295 (by decide) ?_
  refine r_topc (y := nI ((Y / 11) % 15)) (mz_rem 15 (X := Y / 11) (by omega) (by omega)) ?_
  refine r_iadd C dL_law_296 ?_
  refine r_topc (y := nI (2 + ((Y / 11) % 15))) (mz_add 2 ((Y / 11) % 15)) ?_
  refine r_callW5I C hX9 (mz_act0 (kL_act_2 hAD hl0 hI.R.cS hI.R.S4) hc9 hI.R.cS) (vx_cwSW 5 C.1.2.2.2.2 gL_law_L_act rfl rfl rfl (by decide +kernel) ⟨Nat.le_of_ble_eq_true rfl, Nat.le_of_ble_eq_true rfl⟩) (Nat.le_of_ble_eq_true rfl) dL_law_297 (kc := 1) (ks := 6) ⟨rfl, rfl⟩ (by show _ ≤ 600130 ∧ _ ≤ 7301080; omega) ?_
  refine r_gh (M' := mr_soS (mc_soS M S (nI (Y % 9) - 4) (nI (1 + ((Y / 9) % 100))) (nI (2 + ((Y / 11) % 15)))) S (nI (Y % 9) - 4) (nI (1 + ((Y / 9) % 100))) (nI (2 + ((Y / 11) % 15)))) mz_gh_so rfl ?_
  refine r_mem (fun M2 eM2 => ?_)
  obtain ⟨hR2, hF, hf⟩ := mz_so hI hS hc9 eM2
  refine r_istore (lv' := [(9, .int (nI S)), (8, .int (nI Y)), (7, .int hv), (6, .int (nI X)), (5, .int tv), (4, .int 1), (3, .ref (ad 51)), (2, .ref (ad 50)), (1, .ref (ad 0)), (0, .ref b)]) C dL_law_300 (by decide) rfl ?_
  refine r_iload C dL_law_302 0 rfl ?_
  refine r_aload_n C dL_law_304 rfl 7 rfl ?_
  refine r_iconst (v := 2) C dL_law_305 rfl ?_
  refine r_ialdL C mm_aL_50 2 rfl (by decide) dL_law_306 ?_
  refine r_topc (y := nI S) ((hF.hi 65 2 (by omega)).trans hI.m2) ?_
  refine r_iconst (v := 4) C dL_law_307 rfl ?_
  refine r_icmp_neT (tgt := 316) C dL_law_308 (by decide) (mz_ne4 hS) ?_
  refine r_aload_n C dL_law_316 rfl 7 rfl ?_
  refine r_iconst (v := 2) C dL_law_317 rfl ?_
  refine r_ialdL C mm_aL_50 2 rfl (by decide) dL_law_318 ?_
  refine r_topc (y := nI S) ((hF.hi 65 2 (by omega)).trans hI.m2) ?_
  refine r_icmp_neF (tgt := 326) C dL_law_319 (by decide) (rfl) ?_
  refine r_iconst (v := 1) C dL_law_322 rfl ?_
  refine r_goto (tgt := 327) C dL_law_323 (by decide) ?_
  refine r_istore (lv' := [(4, .int 1), (9, .int (nI S)), (8, .int (nI Y)), (7, .int hv), (6, .int (nI X)), (5, .int tv), (3, .ref (ad 51)), (2, .ref (ad 50)), (1, .ref (ad 0)), (0, .ref b)]) C dL_law_327 (by decide) rfl ?_
  refine r_aload_n C dL_law_329 rfl 7 rfl ?_
  refine r_iconst (v := 2) C dL_law_330 rfl ?_
  refine r_dup2_11 C dL_law_331 rfl rfl ?_
  refine r_ialdL C mm_aL_50 2 rfl (by decide) dL_law_332 ?_
  refine r_topc (y := nI S) ((hF.hi 65 2 (by omega)).trans hI.m2) ?_
  refine r_iload C dL_law_333 1 rfl ?_
  refine r_if_geT (tgt := 342) C dL_law_335 (by decide) (mz_ge0 (by omega)) ?_
  refine r_iconst (v := 1) C dL_law_342 rfl ?_
  refine r_iadd C dL_law_343 ?_
  refine r_topc (y := nI (S + 1)) (mz_add S 1) ?_
  refine r_iastL C mm_aL_50 (2) (rfl) (by decide) dL_law_344 ?_
  refine r_goto (tgt := 950) C dL_law_345 (by decide) ?_
  refine r_sub (lv' := [(8, .int (nI Y)), (6, .int (nI X)), (5, .int tv), (4, .int 1), (3, .ref (ad 51)), (2, .ref (ad 50)), (1, .ref (ad 0)), (0, .ref b)]) [2, 4, 5, 0, 6, 7, 8, 9] rfl ?_
  exact r_wid (by omega) (by omega) (K _ N (S + 1) T (by omega) hf)
