set_option maxHeartbeats 1000000 in
set_option maxRecDepth 100000 in
theorem kL_isRefused_1 {l : Launch} {D : va_G} {ad : Nat → Nat} {q : Nat → ClassId} {A : Nat → Prop} (hAD : mm_AD ad A) (hl0 : l.stackTraces = false) {N S T X : Nat} {M : mm_M} (hR : mk_R M N S T) (hT : T ≤ 59000) (hX : X < 2147483648) (hm1 : M.1 65 1 = nI N) (hm2 : M.1 65 2 = nI S) (hp : X % 2 = 1) : mm_Ko l D ad q A yL_isRefused wsL_isRefused rmL_isRefused [.ref (ad 0), .ref (ad 50), .int (nI X)] M (fun v u => v = some (.int 1) ∧ u.1 = M.1) := by
  have n51 : Cond.constant RL 51 (-16210000) ∈ wsL_isRefused := by decide +kernel
  have n54 : Cond.constant RL 54 (-16220000) ∈ wsL_isRefused := by decide +kernel
  have n57 : Cond.constant RL 57 (-16230000) ∈ wsL_isRefused := by decide +kernel
  have n69 : Cond.constantLong RL 69 (-16210000) ∈ wsL_isRefused := by decide +kernel
  have n91 : Cond.constant RL 91 (65537) ∈ wsL_isRefused := by decide +kernel
  have hw : M.1 = M.1 := rfl
  have hN8 := hR.N8
  have hS4 := hR.S4
  refine mm_ofO (b := 0) (L := 0) (xs := fun _ => 0) (cc := cL_isRefused) (maxL := 11) (ret := some .boolean) (own := RL) rfl hAD (plainFor_of_name (by decide)) rfl (Nat.le_of_ble_eq_true rfl) ?_
  intro pp ee ss mm bl mth cd C hX9 hret hlk9
  show mm_G _ _ _ _ _ _ _ _ _ _ _ _ _ _ _ _ _ _ M 0 [(0, .ref (ad 0)), (1, .ref (ad 50)), (2, .int (nI X))] []
  refine r_iload_n C dL_isRefused_0 rfl 2 rfl ?_
  refine r_iconst (v := 2) C dL_isRefused_1 rfl ?_
  refine r_irem C dL_isRefused_2 (by decide) ?_
  refine r_topc (y := nI (X % 2)) (mz_rem 2 (X := X) (by omega) (by omega)) ?_
  refine r_if_neT (tgt := 10) C dL_isRefused_3 (by decide) (fun h9 => absurd ((congrArg nI hp).symm.trans h9) (by decide)) ?_
  refine r_iconst (v := 0) C dL_isRefused_10 rfl ?_
  refine r_istore_n (lv' := [(3, .int 0), (0, .ref (ad 0)), (1, .ref (ad 50)), (2, .int (nI X))]) C dL_isRefused_11 rfl (by decide) rfl ?_
  refine r_iload_n C dL_isRefused_12 rfl 0 rfl ?_
  refine r_if_eqT (tgt := 25) C dL_isRefused_13 (by decide) (by decide) ?_
  refine r_aload_n C dL_isRefused_25 rfl 2 rfl ?_
  refine r_iconst (v := 1) C dL_isRefused_26 rfl ?_
  refine r_ialdL C mm_aL_50 1 rfl (by decide) dL_isRefused_27 ?_
  refine r_topc (y := nI N) (by rw [hw]; exact hm1) ?_
  refine r_iload_n C dL_isRefused_28 rfl 3 rfl ?_
  refine r_bipush (v := (30)) C dL_isRefused_29 rfl ?_
  refine r_irem C dL_isRefused_31 (by decide) ?_
  refine r_topc (y := nI (X % 30)) (mz_rem 30 (X := X) (by omega) (by omega)) ?_
  refine r_iadd C dL_isRefused_32 ?_
  refine r_topc (y := nI (N + (X % 30))) (mz_add N (X % 30)) ?_
  refine r_istore (lv' := [(4, .int (nI (N + (X % 30)))), (3, .int 0), (0, .ref (ad 0)), (1, .ref (ad 50)), (2, .int (nI X))]) C dL_isRefused_33 (by decide) rfl ?_
  refine r_iload_n C dL_isRefused_35 rfl 1 rfl ?_
  refine r_if_eqT (tgt := 49) C dL_isRefused_36 (by decide) (by decide) ?_
  refine r_iconst (v := 5) C dL_isRefused_49 rfl ?_
  refine r_iload_n C dL_isRefused_50 rfl 4 rfl ?_
  refine r_bipush (v := (30)) C dL_isRefused_51 rfl ?_
  refine r_irem C dL_isRefused_53 (by decide) ?_
  refine r_topc (y := nI (X % 30)) (mz_rem 30 (X := X) (by omega) (by omega)) ?_
  refine r_iadd C dL_isRefused_54 ?_
  refine r_topc (y := nI (5 + (X % 30))) (mz_add 5 (X % 30)) ?_
  refine r_istore (lv' := [(5, .int (nI (5 + (X % 30)))), (4, .int (nI (N + (X % 30)))), (3, .int 0), (0, .ref (ad 0)), (1, .ref (ad 50)), (2, .int (nI X))]) C dL_isRefused_55 (by decide) rfl ?_
  refine r_iload_n C dL_isRefused_57 rfl 2 rfl ?_
  refine r_if_eqT (tgt := 70) C dL_isRefused_58 (by decide) (by decide) ?_
  refine r_bipush (v := (101)) C dL_isRefused_70 rfl ?_
  refine r_iload_n C dL_isRefused_72 rfl 5 rfl ?_
  refine r_bipush (v := (30)) C dL_isRefused_73 rfl ?_
  refine r_irem C dL_isRefused_75 (by decide) ?_
  refine r_topc (y := nI (X % 30)) (mz_rem 30 (X := X) (by omega) (by omega)) ?_
  refine r_iadd C dL_isRefused_76 ?_
  refine r_topc (y := nI (101 + (X % 30))) (mz_add 101 (X % 30)) ?_
  refine r_istore (lv' := [(6, .int (nI (101 + (X % 30)))), (5, .int (nI (5 + (X % 30)))), (4, .int (nI (N + (X % 30)))), (3, .int 0), (0, .ref (ad 0)), (1, .ref (ad 50)), (2, .int (nI X))]) C dL_isRefused_77 (by decide) rfl ?_
  refine r_aload_n C dL_isRefused_79 rfl 4 rfl ?_
  refine r_aload_n C dL_isRefused_80 rfl 5 rfl ?_
  refine r_callO2J C hX9 (kL_all hAD hl0 hR hT (by exact hm1)) (va_cwS 2 C.1.2.2.2.2 gL_isRefused_L_all rfl rfl rfl (by decide +kernel) ⟨Nat.le_of_ble_eq_true rfl, Nat.le_of_ble_eq_true rfl⟩) (Nat.le_of_ble_eq_true rfl) dL_isRefused_81 (kc := 40) (ks := 240) ⟨rfl, rfl⟩ (by show _ ≤ 140 ∧ _ ≤ 840; omega) (fun Mw hw => ?_)
  have hRw := hR.eq hw
  refine r_lstore (lv' := [(7, .long (mz_allN M.1 N N)), (6, .int (nI (101 + (X % 30)))), (5, .int (nI (5 + (X % 30)))), (4, .int (nI (N + (X % 30)))), (3, .int 0), (0, .ref (ad 0)), (1, .ref (ad 50)), (2, .int (nI X))]) C dL_isRefused_84 (by decide) rfl ?_
  refine r_aload_n C dL_isRefused_86 rfl 5 rfl ?_
  refine r_iconst (v := 0) C dL_isRefused_87 rfl ?_
  refine r_iload_n C dL_isRefused_88 rfl 4 rfl ?_
  refine r_if_eqT (tgt := 101) C dL_isRefused_89 (by decide) (by decide) ?_
  refine r_bipush (v := (13)) C dL_isRefused_101 rfl ?_
  refine r_bipush (v := (64)) C dL_isRefused_103 rfl ?_
  refine r_iconst (v := 0) C dL_isRefused_105 rfl ?_
  refine r_callW5I C hX9 (mz_act1 (kL_act_0 hAD hl0 hRw.cN hRw.N8) (mz_elk1 (Or.inl (by decide))) (rfl)) (vx_cwSW 5 C.1.2.2.2.2 gL_isRefused_L_act rfl rfl rfl (by decide +kernel) ⟨Nat.le_of_ble_eq_true rfl, Nat.le_of_ble_eq_true rfl⟩) (Nat.le_of_ble_eq_true rfl) dL_isRefused_106 (kc := 1) (ks := 6) ⟨rfl, rfl⟩ (by show _ ≤ 140 ∧ _ ≤ 840; omega) ?_
  refine r_ldc C n54 dL_isRefused_109 ?_
  refine r_icmp_neF (tgt := 500) C dL_isRefused_111 (by decide) (by decide) ?_
  refine r_aload_n C dL_isRefused_114 rfl 5 rfl ?_
  refine r_iconst (v := 0) C dL_isRefused_115 rfl ?_
  refine r_iconst (v := 5) C dL_isRefused_116 rfl ?_
  refine r_iload_n C dL_isRefused_117 rfl 4 rfl ?_
  refine r_if_eqT (tgt := 126) C dL_isRefused_118 (by decide) (by decide) ?_
  refine r_bipush (v := (97)) C dL_isRefused_126 rfl ?_
  refine r_iload_n C dL_isRefused_128 rfl 7 rfl ?_
  refine r_bipush (v := (30)) C dL_isRefused_129 rfl ?_
  refine r_irem C dL_isRefused_131 (by decide) ?_
  refine r_topc (y := nI (X % 30)) (mz_rem 30 (X := X) (by omega) (by omega)) ?_
  refine r_iadd C dL_isRefused_132 ?_
  refine r_topc (y := nI (97 + (X % 30))) (mz_add 97 (X % 30)) ?_
  refine r_iconst (v := 0) C dL_isRefused_133 rfl ?_
  refine r_callW5I C hX9 (mz_act1 (kL_act_0 hAD hl0 hRw.cN hRw.N8) (mz_elk1 (Or.inr (Or.inl (mz_outG (a := 97 + X % 30) (h := 96) rfl (by omega) (by omega))))) (rfl)) (vx_cwSW 5 C.1.2.2.2.2 gL_isRefused_L_act rfl rfl rfl (by decide +kernel) ⟨Nat.le_of_ble_eq_true rfl, Nat.le_of_ble_eq_true rfl⟩) (Nat.le_of_ble_eq_true rfl) dL_isRefused_134 (kc := 1) (ks := 6) ⟨rfl, rfl⟩ (by show _ ≤ 140 ∧ _ ≤ 840; omega) ?_
  refine r_ldc C n54 dL_isRefused_137 ?_
  refine r_icmp_neF (tgt := 500) C dL_isRefused_139 (by decide) (by decide) ?_
  refine r_aload_n C dL_isRefused_142 rfl 5 rfl ?_
  refine r_iconst (v := 0) C dL_isRefused_143 rfl ?_
  refine r_iconst (v := 5) C dL_isRefused_144 rfl ?_
  refine r_bipush (v := (64)) C dL_isRefused_145 rfl ?_
  refine r_iload_n C dL_isRefused_147 rfl 4 rfl ?_
  refine r_if_eqT (tgt := 161) C dL_isRefused_148 (by decide) (by decide) ?_
  refine r_iconst (v := 4) C dL_isRefused_161 rfl ?_
  refine r_callW5I C hX9 (mz_act1 (kL_act_0 hAD hl0 hRw.cN hRw.N8) (mz_elk1 (Or.inr (Or.inr (by decide)))) (rfl)) (vx_cwSW 5 C.1.2.2.2.2 gL_isRefused_L_act rfl rfl rfl (by decide +kernel) ⟨Nat.le_of_ble_eq_true rfl, Nat.le_of_ble_eq_true rfl⟩) (Nat.le_of_ble_eq_true rfl) dL_isRefused_162 (kc := 1) (ks := 6) ⟨rfl, rfl⟩ (by show _ ≤ 140 ∧ _ ≤ 840; omega) ?_
  refine r_ldc C n54 dL_isRefused_165 ?_
  refine r_icmp_neF (tgt := 500) C dL_isRefused_167 (by decide) (by decide) ?_
  refine r_aload_n C dL_isRefused_170 rfl 5 rfl ?_
  refine r_iconst (v := 1) C dL_isRefused_171 rfl ?_
  refine r_iload C dL_isRefused_172 3 rfl ?_
  refine r_iconst (v := 0) C dL_isRefused_174 rfl ?_
  refine r_iconst (v := 0) C dL_isRefused_175 rfl ?_
  refine r_callW5I C hX9 (mz_act1 (kL_act_1_0 hAD hl0 hRw.lb) (mz_elG hRw (by omega)) (rfl)) (vx_cwSW 5 C.1.2.2.2.2 gL_isRefused_L_act rfl rfl rfl (by decide +kernel) ⟨Nat.le_of_ble_eq_true rfl, Nat.le_of_ble_eq_true rfl⟩) (Nat.le_of_ble_eq_true rfl) dL_isRefused_176 (kc := 1) (ks := 6) ⟨rfl, rfl⟩ (by show _ ≤ 140 ∧ _ ≤ 840; omega) ?_
  refine r_ldc C n51 dL_isRefused_179 ?_
  refine r_icmp_neF (tgt := 500) C dL_isRefused_181 (by decide) (by decide) ?_
  refine r_aload_n C dL_isRefused_184 rfl 5 rfl ?_
  refine r_iconst (v := 2) C dL_isRefused_185 rfl ?_
  refine r_iload C dL_isRefused_186 2 rfl ?_
  refine r_iconst (v := 0) C dL_isRefused_188 rfl ?_
  refine r_iconst (v := 5) C dL_isRefused_189 rfl ?_
  refine r_callW5I C hX9 (mz_act1 (kL_act_2 hAD hl0 hRw.cS hRw.S4) (mz_sok1 (mz_outG (a := 5 + X % 30) (h := 4) rfl (by omega) (by omega))) (rfl)) (vx_cwSW 5 C.1.2.2.2.2 gL_isRefused_L_act rfl rfl rfl (by decide +kernel) ⟨Nat.le_of_ble_eq_true rfl, Nat.le_of_ble_eq_true rfl⟩) (Nat.le_of_ble_eq_true rfl) dL_isRefused_190 (kc := 1) (ks := 6) ⟨rfl, rfl⟩ (by show _ ≤ 140 ∧ _ ≤ 840; omega) ?_
  refine r_ldc C n51 dL_isRefused_193 ?_
  refine r_icmp_neF (tgt := 500) C dL_isRefused_195 (by decide) (by decide) ?_
  refine r_aload_n C dL_isRefused_198 rfl 5 rfl ?_
  refine r_iconst (v := 2) C dL_isRefused_199 rfl ?_
  refine r_iconst (v := 0) C dL_isRefused_200 rfl ?_
  refine r_iload C dL_isRefused_201 1 rfl ?_
  refine r_iconst (v := 5) C dL_isRefused_203 rfl ?_
  refine r_callW5I C hX9 (mz_act2 (kL_act_2 hAD hl0 hRw.cS hRw.S4) (mz_sok2 (by decide) (Or.inl (mz_outG (a := 101 + X % 30) (h := 100) rfl (by omega) (by omega)))) (rfl)) (vx_cwSW 5 C.1.2.2.2.2 gL_isRefused_L_act rfl rfl rfl (by decide +kernel) ⟨Nat.le_of_ble_eq_true rfl, Nat.le_of_ble_eq_true rfl⟩) (Nat.le_of_ble_eq_true rfl) dL_isRefused_204 (kc := 1) (ks := 6) ⟨rfl, rfl⟩ (by show _ ≤ 140 ∧ _ ≤ 840; omega) ?_
  refine r_ldc C n54 dL_isRefused_207 ?_
  refine r_icmp_neF (tgt := 500) C dL_isRefused_209 (by decide) (by decide) ?_
  refine r_aload_n C dL_isRefused_212 rfl 5 rfl ?_
  refine r_iconst (v := 2) C dL_isRefused_213 rfl ?_
  refine r_iconst (v := 0) C dL_isRefused_214 rfl ?_
  refine r_iconst (v := 5) C dL_isRefused_215 rfl ?_
  refine r_iload_n C dL_isRefused_216 rfl 4 rfl ?_
  refine r_if_eqT (tgt := 229) C dL_isRefused_217 (by decide) (by decide) ?_
  refine r_bipush (v := (17)) C dL_isRefused_229 rfl ?_
  refine r_callW5I C hX9 (mz_act2 (kL_act_2 hAD hl0 hRw.cS hRw.S4) (mz_sok2 (by decide) (Or.inr (by decide))) (rfl)) (vx_cwSW 5 C.1.2.2.2.2 gL_isRefused_L_act rfl rfl rfl (by decide +kernel) ⟨Nat.le_of_ble_eq_true rfl, Nat.le_of_ble_eq_true rfl⟩) (Nat.le_of_ble_eq_true rfl) dL_isRefused_231 (kc := 1) (ks := 6) ⟨rfl, rfl⟩ (by show _ ≤ 140 ∧ _ ≤ 840; omega) ?_
  refine r_ldc C n54 dL_isRefused_234 ?_
  refine r_icmp_neF (tgt := 500) C dL_isRefused_236 (by decide) (by decide) ?_
  refine r_aload_n C dL_isRefused_239 rfl 5 rfl ?_
  refine r_iconst (v := 3) C dL_isRefused_240 rfl ?_
  refine r_iload_n C dL_isRefused_241 rfl 4 rfl ?_
  refine r_if_eqT (tgt := 254) C dL_isRefused_242 (by decide) (by decide) ?_
  refine r_bipush (v := (51)) C dL_isRefused_254 rfl ?_
  refine r_iconst (v := 5) C dL_isRefused_256 rfl ?_
  refine r_iconst (v := 0) C dL_isRefused_257 rfl ?_
  refine r_callW5I C hX9 (mz_act1 (kL_act_3 hAD hl0) (mz_nok1 (Or.inl (by decide))) (rfl)) (vx_cwSW 5 C.1.2.2.2.2 gL_isRefused_L_act rfl rfl rfl (by decide +kernel) ⟨Nat.le_of_ble_eq_true rfl, Nat.le_of_ble_eq_true rfl⟩) (Nat.le_of_ble_eq_true rfl) dL_isRefused_258 (kc := 1) (ks := 6) ⟨rfl, rfl⟩ (by show _ ≤ 140 ∧ _ ≤ 840; omega) ?_
  refine r_ldc C n54 dL_isRefused_261 ?_
  refine r_icmp_neF (tgt := 500) C dL_isRefused_263 (by decide) (by decide) ?_
  refine r_aload_n C dL_isRefused_266 rfl 5 rfl ?_
  refine r_iconst (v := 3) C dL_isRefused_267 rfl ?_
  refine r_iconst (v := 5) C dL_isRefused_268 rfl ?_
  refine r_iload_n C dL_isRefused_269 rfl 4 rfl ?_
  refine r_if_eqT (tgt := 282) C dL_isRefused_270 (by decide) (by decide) ?_
  refine r_ldc C n91 dL_isRefused_282 ?_
  refine r_iconst (v := 0) C dL_isRefused_284 rfl ?_
  refine r_callW5I C hX9 (mz_act1 (kL_act_3 hAD hl0) (mz_nok1 (Or.inr (by decide))) (rfl)) (vx_cwSW 5 C.1.2.2.2.2 gL_isRefused_L_act rfl rfl rfl (by decide +kernel) ⟨Nat.le_of_ble_eq_true rfl, Nat.le_of_ble_eq_true rfl⟩) (Nat.le_of_ble_eq_true rfl) dL_isRefused_285 (kc := 1) (ks := 6) ⟨rfl, rfl⟩ (by show _ ≤ 140 ∧ _ ≤ 840; omega) ?_
  refine r_ldc C n54 dL_isRefused_288 ?_
  refine r_icmp_neF (tgt := 500) C dL_isRefused_290 (by decide) (by decide) ?_
  refine r_aload_n C dL_isRefused_293 rfl 5 rfl ?_
  refine r_iconst (v := 4) C dL_isRefused_294 rfl ?_
  refine r_iload C dL_isRefused_295 1 rfl ?_
  refine r_iconst (v := 0) C dL_isRefused_297 rfl ?_
  refine r_iconst (v := 0) C dL_isRefused_298 rfl ?_
  refine r_callW5I C hX9 (mz_act1 (kL_act_4 hAD hl0 hRw.lb hRw.ub hRw.cS hRw.S4) (mz_hek1 (mz_outG (a := 101 + X % 30) (h := 100) rfl (by omega) (by omega))) (rfl)) (vx_cwSW 5 C.1.2.2.2.2 gL_isRefused_L_act rfl rfl rfl (by decide +kernel) ⟨Nat.le_of_ble_eq_true rfl, Nat.le_of_ble_eq_true rfl⟩) (Nat.le_of_ble_eq_true rfl) dL_isRefused_299 (kc := 1) (ks := 6) ⟨rfl, rfl⟩ (by show _ ≤ 140 ∧ _ ≤ 840; omega) ?_
  refine r_ldc C n54 dL_isRefused_302 ?_
  refine r_icmp_neF (tgt := 500) C dL_isRefused_304 (by decide) (by decide) ?_
  refine r_aload_n C dL_isRefused_307 rfl 5 rfl ?_
  refine r_iconst (v := 5) C dL_isRefused_308 rfl ?_
  refine r_iload_n C dL_isRefused_309 rfl 4 rfl ?_
  refine r_if_eqT (tgt := 317) C dL_isRefused_310 (by decide) (by decide) ?_
  refine r_iconst (v := 3) C dL_isRefused_317 rfl ?_
  refine r_iload_n C dL_isRefused_318 rfl 7 rfl ?_
  refine r_bipush (v := (30)) C dL_isRefused_319 rfl ?_
  refine r_irem C dL_isRefused_321 (by decide) ?_
  refine r_topc (y := nI (X % 30)) (mz_rem 30 (X := X) (by omega) (by omega)) ?_
  refine r_iadd C dL_isRefused_322 ?_
  refine r_topc (y := nI (3 + (X % 30))) (mz_add 3 (X % 30)) ?_
  refine r_iconst (v := 0) C dL_isRefused_323 rfl ?_
  refine r_iconst (v := 0) C dL_isRefused_324 rfl ?_
  refine r_callW5I C hX9 (mz_act1 (kL_act_5 hAD hl0) (mz_wik1 (mz_outG (a := 3 + X % 30) (h := 2) rfl (by omega) (by omega))) (rfl)) (vx_cwSW 5 C.1.2.2.2.2 gL_isRefused_L_act rfl rfl rfl (by decide +kernel) ⟨Nat.le_of_ble_eq_true rfl, Nat.le_of_ble_eq_true rfl⟩) (Nat.le_of_ble_eq_true rfl) dL_isRefused_325 (kc := 1) (ks := 6) ⟨rfl, rfl⟩ (by show _ ≤ 140 ∧ _ ≤ 840; omega) ?_
  refine r_ldc C n54 dL_isRefused_328 ?_
  refine r_icmp_neF (tgt := 500) C dL_isRefused_330 (by decide) (by decide) ?_
  refine r_aload_n C dL_isRefused_333 rfl 5 rfl ?_
  refine r_bipush (v := (6)) C dL_isRefused_334 rfl ?_
  refine r_iload C dL_isRefused_336 2 rfl ?_
  refine r_iconst (v := 0) C dL_isRefused_338 rfl ?_
  refine r_iconst (v := 0) C dL_isRefused_339 rfl ?_
  refine r_callW5I C hX9 (mz_act1 (kL_act_6 hAD hl0 hRw.lb) (mz_cak1 (mz_outG (a := 5 + X % 30) (h := 4) rfl (by omega) (by omega))) (if_pos (mz_outG (a := 5 + X % 30) (h := 4) rfl (by omega) (by omega)))) (vx_cwSW 5 C.1.2.2.2.2 gL_isRefused_L_act rfl rfl rfl (by decide +kernel) ⟨Nat.le_of_ble_eq_true rfl, Nat.le_of_ble_eq_true rfl⟩) (Nat.le_of_ble_eq_true rfl) dL_isRefused_340 (kc := 1) (ks := 6) ⟨rfl, rfl⟩ (by show _ ≤ 140 ∧ _ ≤ 840; omega) ?_
  refine r_ldc C n51 dL_isRefused_343 ?_
  refine r_icmp_neF (tgt := 500) C dL_isRefused_345 (by decide) (by decide) ?_
  refine r_aload_n C dL_isRefused_348 rfl 5 rfl ?_
  refine r_bipush (v := (7)) C dL_isRefused_349 rfl ?_
  refine r_iload C dL_isRefused_351 3 rfl ?_
  refine r_iconst (v := 0) C dL_isRefused_353 rfl ?_
  refine r_iconst (v := 0) C dL_isRefused_354 rfl ?_
  refine r_callW5I C hX9 (mz_act1 (kL_act_7 hAD hl0) (mz_smk1 (mz_elG hRw (by omega))) (rfl)) (vx_cwSW 5 C.1.2.2.2.2 gL_isRefused_L_act rfl rfl rfl (by decide +kernel) ⟨Nat.le_of_ble_eq_true rfl, Nat.le_of_ble_eq_true rfl⟩) (Nat.le_of_ble_eq_true rfl) dL_isRefused_355 (kc := 1) (ks := 6) ⟨rfl, rfl⟩ (by show _ ≤ 140 ∧ _ ≤ 840; omega) ?_
  refine r_ldc C n51 dL_isRefused_358 ?_
  refine r_icmp_neF (tgt := 500) C dL_isRefused_360 (by decide) (by decide) ?_
  refine r_aload_n C dL_isRefused_363 rfl 5 rfl ?_
  refine r_bipush (v := (8)) C dL_isRefused_364 rfl ?_
  refine r_iload C dL_isRefused_366 1 rfl ?_
  refine r_iconst (v := 0) C dL_isRefused_368 rfl ?_
  refine r_iconst (v := 0) C dL_isRefused_369 rfl ?_
  refine r_callW5I C hX9 (mz_act1 (kL_act_8 hAD hl0 hRw.lb) (mz_hek1 (mz_outG (a := 101 + X % 30) (h := 100) rfl (by omega) (by omega))) (rfl)) (vx_cwSW 5 C.1.2.2.2.2 gL_isRefused_L_act rfl rfl rfl (by decide +kernel) ⟨Nat.le_of_ble_eq_true rfl, Nat.le_of_ble_eq_true rfl⟩) (Nat.le_of_ble_eq_true rfl) dL_isRefused_370 (kc := 1) (ks := 6) ⟨rfl, rfl⟩ (by show _ ≤ 140 ∧ _ ≤ 840; omega) ?_
  refine r_ldc C n54 dL_isRefused_373 ?_
  refine r_icmp_neF (tgt := 500) C dL_isRefused_375 (by decide) (by decide) ?_
  refine r_aload_n C dL_isRefused_378 rfl 5 rfl ?_
  refine r_bipush (v := (9)) C dL_isRefused_379 rfl ?_
  refine r_iload_n C dL_isRefused_381 rfl 4 rfl ?_
  refine r_if_eqT (tgt := 394) C dL_isRefused_382 (by decide) (by decide) ?_
  refine r_bipush (v := (6)) C dL_isRefused_394 rfl ?_
  refine r_iconst (v := 0) C dL_isRefused_396 rfl ?_
  refine r_iconst (v := 0) C dL_isRefused_397 rfl ?_
  refine r_callW5I C hX9 (mz_act1 (kL_act_9 hAD hl0 hRw.lb) (mz_fok1 (by decide)) (rfl)) (vx_cwSW 5 C.1.2.2.2.2 gL_isRefused_L_act rfl rfl rfl (by decide +kernel) ⟨Nat.le_of_ble_eq_true rfl, Nat.le_of_ble_eq_true rfl⟩) (Nat.le_of_ble_eq_true rfl) dL_isRefused_398 (kc := 1) (ks := 6) ⟨rfl, rfl⟩ (by show _ ≤ 140 ∧ _ ≤ 840; omega) ?_
  refine r_ldc C n51 dL_isRefused_401 ?_
  refine r_icmp_neF (tgt := 500) C dL_isRefused_403 (by decide) (by decide) ?_
  refine r_aload_n C dL_isRefused_406 rfl 5 rfl ?_
  refine r_bipush (v := (10)) C dL_isRefused_407 rfl ?_
  refine r_iload C dL_isRefused_409 3 rfl ?_
  refine r_iconst (v := 0) C dL_isRefused_411 rfl ?_
  refine r_iconst (v := 0) C dL_isRefused_412 rfl ?_
  refine r_callW5I C hX9 (mz_act1 (kL_act_10_0 hAD hl0) (mz_elG hRw (by omega)) (rfl)) (vx_cwSW 5 C.1.2.2.2.2 gL_isRefused_L_act rfl rfl rfl (by decide +kernel) ⟨Nat.le_of_ble_eq_true rfl, Nat.le_of_ble_eq_true rfl⟩) (Nat.le_of_ble_eq_true rfl) dL_isRefused_413 (kc := 1) (ks := 6) ⟨rfl, rfl⟩ (by show _ ≤ 140 ∧ _ ≤ 840; omega) ?_
  refine r_ldc C n51 dL_isRefused_416 ?_
  refine r_icmp_neF (tgt := 500) C dL_isRefused_418 (by decide) (by decide) ?_
  refine r_aload_n C dL_isRefused_421 rfl 5 rfl ?_
  refine r_iconst (v := 0) C dL_isRefused_422 rfl ?_
  refine r_iload C dL_isRefused_423 2 rfl ?_
  refine r_bipush (v := (20)) C dL_isRefused_425 rfl ?_
  refine r_callW4J C hX9 (mz_tells1 (kL_tells_0 hAD hl0 hRw.lb) (mz_suk1 (Or.inl (mz_outG (a := 5 + X % 30) (h := 4) rfl (by omega) (by omega))))) (vx_cwSW 4 C.1.2.2.2.2 gL_isRefused_L_tells rfl rfl rfl (by decide +kernel) ⟨Nat.le_of_ble_eq_true rfl, Nat.le_of_ble_eq_true rfl⟩) (Nat.le_of_ble_eq_true rfl) dL_isRefused_427 (kc := 1) (ks := 6) ⟨rfl, rfl⟩ (by show _ ≤ 140 ∧ _ ≤ 840; omega) ?_
  refine r_ldc2 C n69 dL_isRefused_430 ?_
  refine r_lcmp C dL_isRefused_433 ?_
  refine r_if_neF (tgt := 500) C dL_isRefused_434 (by decide) (by decide) ?_
  refine r_aload_n C dL_isRefused_437 rfl 5 rfl ?_
  refine r_iconst (v := 0) C dL_isRefused_438 rfl ?_
  refine r_iconst (v := 0) C dL_isRefused_439 rfl ?_
  refine r_iload_n C dL_isRefused_440 rfl 4 rfl ?_
  refine r_if_eqT (tgt := 454) C dL_isRefused_441 (by decide) (by decide) ?_
  refine r_bipush (v := (48)) C dL_isRefused_454 rfl ?_
  refine r_callW4J C hX9 (mz_tells1 (kL_tells_0 hAD hl0 hRw.lb) (mz_suk1 (Or.inr (by decide)))) (vx_cwSW 4 C.1.2.2.2.2 gL_isRefused_L_tells rfl rfl rfl (by decide +kernel) ⟨Nat.le_of_ble_eq_true rfl, Nat.le_of_ble_eq_true rfl⟩) (Nat.le_of_ble_eq_true rfl) dL_isRefused_456 (kc := 1) (ks := 6) ⟨rfl, rfl⟩ (by show _ ≤ 140 ∧ _ ≤ 840; omega) ?_
  refine r_ldc2 C n69 dL_isRefused_459 ?_
  refine r_lcmp C dL_isRefused_462 ?_
  refine r_if_neF (tgt := 500) C dL_isRefused_463 (by decide) (by decide) ?_
  refine r_aload_n C dL_isRefused_466 rfl 5 rfl ?_
  refine r_iconst (v := 1) C dL_isRefused_467 rfl ?_
  refine r_iload C dL_isRefused_468 2 rfl ?_
  refine r_iconst (v := 0) C dL_isRefused_470 rfl ?_
  refine r_callW4J C hX9 (mz_tells1 (kL_tells_1 hAD hl0 hRw.lb) (mz_bek1 (mz_outG (a := 5 + X % 30) (h := 4) rfl (by omega) (by omega)))) (vx_cwSW 4 C.1.2.2.2.2 gL_isRefused_L_tells rfl rfl rfl (by decide +kernel) ⟨Nat.le_of_ble_eq_true rfl, Nat.le_of_ble_eq_true rfl⟩) (Nat.le_of_ble_eq_true rfl) dL_isRefused_471 (kc := 1) (ks := 6) ⟨rfl, rfl⟩ (by show _ ≤ 140 ∧ _ ≤ 840; omega) ?_
  refine r_ldc2 C n69 dL_isRefused_474 ?_
  refine r_lcmp C dL_isRefused_477 ?_
  refine r_if_neF (tgt := 500) C dL_isRefused_478 (by decide) (by decide) ?_
  refine r_aload_n C dL_isRefused_481 rfl 5 rfl ?_
  refine r_iconst (v := 2) C dL_isRefused_482 rfl ?_
  refine r_iload C dL_isRefused_483 2 rfl ?_
  refine r_iconst (v := 0) C dL_isRefused_485 rfl ?_
  refine r_callW4J C hX9 (mz_tells1 (kL_tells_2 hAD hl0 hRw.lb) (mz_bek1 (mz_outG (a := 5 + X % 30) (h := 4) rfl (by omega) (by omega)))) (vx_cwSW 4 C.1.2.2.2.2 gL_isRefused_L_tells rfl rfl rfl (by decide +kernel) ⟨Nat.le_of_ble_eq_true rfl, Nat.le_of_ble_eq_true rfl⟩) (Nat.le_of_ble_eq_true rfl) dL_isRefused_486 (kc := 1) (ks := 6) ⟨rfl, rfl⟩ (by show _ ≤ 140 ∧ _ ≤ 840; omega) ?_
  refine r_ldc2 C n69 dL_isRefused_489 ?_
  refine r_lcmp C dL_isRefused_492 ?_
  refine r_if_neF (tgt := 500) C dL_isRefused_493 (by decide) (by decide) ?_
  refine r_iconst (v := 1) C dL_isRefused_496 rfl ?_
  refine r_goto (tgt := 501) C dL_isRefused_497 (by decide) ?_
  refine r_istore (lv' := [(9, .int 1), (7, .long (mz_allN M.1 N N)), (6, .int (nI (101 + (X % 30)))), (5, .int (nI (5 + (X % 30)))), (4, .int (nI (N + (X % 30)))), (3, .int 0), (0, .ref (ad 0)), (1, .ref (ad 50)), (2, .int (nI X))]) C dL_isRefused_501 (by decide) rfl ?_
  refine r_iconst (v := 0) C dL_isRefused_503 rfl ?_
  refine r_istore (lv' := [(10, .int 0), (9, .int 1), (7, .long (mz_allN M.1 N N)), (6, .int (nI (101 + (X % 30)))), (5, .int (nI (5 + (X % 30)))), (4, .int (nI (N + (X % 30)))), (3, .int 0), (0, .ref (ad 0)), (1, .ref (ad 50)), (2, .int (nI X))]) C dL_isRefused_504 (by decide) rfl ?_
  have L506 : ∀ (k9 : Nat) (k : Nat) (hk9 : k ≤ N), N - k < k9 → mm_G pp l ee rmL_isRefused ss mm ([.ref (ad 0), .ref (ad 50), .int (nI X)] : List Value).toArray bl mth cd (80 + k) (480 + 6 * k) (MQ bl (mm_Q D ad q A (fun v u => v = some (.int 1) ∧ u.1 = M.1)) ([.ref (ad 0), .ref (ad 50), .int (nI X)] : List Value).toArray ss rmL_isRefused.cells rmL_isRefused.slots A) 11 D ad q A (Mw) 506 [(10, .int (nI k)), (9, .int 1), (7, .long (mz_allN M.1 N N)), (3, .int 0), (0, .ref (ad 0)), (1, .ref (ad 50)), (2, .int (nI X))] [] := by
    intro k9
    induction k9 with
    | zero => intro k hk9 h9; exact absurd h9 (Nat.not_lt_zero _)
    | succ k9 ih506 =>
      intro k hk9 h9
      have hN8 := hRw.N8
      refine r_iload C dL_isRefused_506 0 rfl ?_
      refine r_aload_n C dL_isRefused_508 rfl 5 rfl ?_
      refine r_iconst (v := 1) C dL_isRefused_509 rfl ?_
      refine r_ialdL C mm_aL_50 1 rfl (by decide) dL_isRefused_510 ?_
      refine r_topc (y := nI N) (by rw [hw]; exact hm1) ?_
      refine r_icmp_ge (tgt := 566) C dL_isRefused_511 (by decide) (fun z511 => ?_) (fun z511 => ?_)
      · have hkN : k = N := nm_ge hk9 (by omega) z511
        refine r_iload C dL_isRefused_566 1 rfl ?_
        refine r_if_eqF (tgt := 628) C dL_isRefused_568 (by decide) (by decide) ?_
        refine r_aload_n C dL_isRefused_571 rfl 5 rfl ?_
        refine r_iconst (v := 1) C dL_isRefused_572 rfl ?_
        refine r_ialdL C mm_aL_50 1 rfl (by decide) dL_isRefused_573 ?_
        refine r_topc (y := nI N) (by rw [hw]; exact hm1) ?_
        refine r_bipush (v := (8)) C dL_isRefused_574 rfl ?_
        refine r_icmp_lt (tgt := 593) C dL_isRefused_576 (by decide) (fun z576 => ?_) (fun z576 => ?_)
        · have J593 : mm_G pp l ee rmL_isRefused ss mm ([.ref (ad 0), .ref (ad 50), .int (nI X)] : List Value).toArray bl mth cd (95) (570) (MQ bl (mm_Q D ad q A (fun v u => v = some (.int 1) ∧ u.1 = M.1)) ([.ref (ad 0), .ref (ad 50), .int (nI X)] : List Value).toArray ss rmL_isRefused.cells rmL_isRefused.slots A) 11 D ad q A (Mw) 593 [(9, .int 1), (7, .long (mz_allN M.1 N N)), (3, .int 0), (0, .ref (ad 0)), (1, .ref (ad 50)), (2, .int (nI X))] [] := by
              refine r_aload_n C dL_isRefused_593 rfl 4 rfl ?_
              refine r_iconst (v := 2) C dL_isRefused_594 rfl ?_
              refine r_ialdL C mm_aL_50 2 rfl (by decide) dL_isRefused_595 ?_
              refine r_topc (y := nI S) (by rw [hw]; exact hm2) ?_
              refine r_iconst (v := 4) C dL_isRefused_596 rfl ?_
              refine r_icmp_lt (tgt := 613) C dL_isRefused_597 (by decide) (fun z597 => ?_) (fun z597 => ?_)
              · have J613 : mm_G pp l ee rmL_isRefused ss mm ([.ref (ad 0), .ref (ad 50), .int (nI X)] : List Value).toArray bl mth cd (97) (582) (MQ bl (mm_Q D ad q A (fun v u => v = some (.int 1) ∧ u.1 = M.1)) ([.ref (ad 0), .ref (ad 50), .int (nI X)] : List Value).toArray ss rmL_isRefused.cells rmL_isRefused.slots A) 11 D ad q A (Mw) 613 [(9, .int 1), (7, .long (mz_allN M.1 N N)), (3, .int 0), (0, .ref (ad 0)), (1, .ref (ad 50)), (2, .int (nI X))] [] := by
                    refine r_aload_n C dL_isRefused_613 rfl 3 rfl ?_
                    refine r_aload_n C dL_isRefused_614 rfl 4 rfl ?_
                    refine r_callO2J C hX9 (kL_all hAD hl0 hRw hT (by rw [hw]; exact hm1)) (va_cwS 2 C.1.2.2.2.2 gL_isRefused_L_all rfl rfl rfl (by decide +kernel) ⟨Nat.le_of_ble_eq_true rfl, Nat.le_of_ble_eq_true rfl⟩) (Nat.le_of_ble_eq_true rfl) dL_isRefused_615 (kc := 40) (ks := 240) ⟨rfl, rfl⟩ (by show _ ≤ 140 ∧ _ ≤ 840; omega) (fun My hy => ?_)
                    refine r_lload C dL_isRefused_618 1 rfl ?_
                    refine r_lcmp C dL_isRefused_620 ?_
                    refine r_if_neF (tgt := 628) C dL_isRefused_621 (by decide) (lg_eq0.mpr (by rw [hw])) ?_
                    refine r_iconst (v := 1) C dL_isRefused_624 rfl ?_
                    refine r_goto (tgt := 629) C dL_isRefused_625 (by decide) ?_
                    exact r_wzret C hret (by decide) hlk9 (by show _ ≤ 140; omega) (by show _ ≤ 840; omega) dL_isRefused_629 (⟨rfl, hy.trans hw⟩)
                exact r_wid (by omega) (by omega) (J613 )
              · have hS : S = 4 := mz_nlt4 hS4 z597
                refine r_aload_n C dL_isRefused_600 rfl 3 rfl ?_
                refine r_iconst (v := 2) C dL_isRefused_601 rfl ?_
                refine r_iconst (v := 0) C dL_isRefused_602 rfl ?_
                refine r_iconst (v := 5) C dL_isRefused_603 rfl ?_
                refine r_iconst (v := 5) C dL_isRefused_604 rfl ?_
                refine r_callW5I C hX9 (mz_act3 (kL_act_2 hAD hl0 hRw.cS hRw.S4) (mz_sok3 hRw (by decide) (by decide) (by decide) hS) (rfl)) (vx_cwSW 5 C.1.2.2.2.2 gL_isRefused_L_act rfl rfl rfl (by decide +kernel) ⟨Nat.le_of_ble_eq_true rfl, Nat.le_of_ble_eq_true rfl⟩) (Nat.le_of_ble_eq_true rfl) dL_isRefused_605 (kc := 1) (ks := 6) ⟨rfl, rfl⟩ (by show _ ≤ 140 ∧ _ ≤ 840; omega) ?_
                refine r_ldc C n57 dL_isRefused_608 ?_
                refine r_icmp_neF (tgt := 628) C dL_isRefused_610 (by decide) (by decide) ?_
                have J613 : mm_G pp l ee rmL_isRefused ss mm ([.ref (ad 0), .ref (ad 50), .int (nI X)] : List Value).toArray bl mth cd (97) (582) (MQ bl (mm_Q D ad q A (fun v u => v = some (.int 1) ∧ u.1 = M.1)) ([.ref (ad 0), .ref (ad 50), .int (nI X)] : List Value).toArray ss rmL_isRefused.cells rmL_isRefused.slots A) 11 D ad q A (Mw) 613 [(9, .int 1), (7, .long (mz_allN M.1 N N)), (3, .int 0), (0, .ref (ad 0)), (1, .ref (ad 50)), (2, .int (nI X))] [] := by
                    refine r_aload_n C dL_isRefused_613 rfl 3 rfl ?_
                    refine r_aload_n C dL_isRefused_614 rfl 4 rfl ?_
                    refine r_callO2J C hX9 (kL_all hAD hl0 hRw hT (by rw [hw]; exact hm1)) (va_cwS 2 C.1.2.2.2.2 gL_isRefused_L_all rfl rfl rfl (by decide +kernel) ⟨Nat.le_of_ble_eq_true rfl, Nat.le_of_ble_eq_true rfl⟩) (Nat.le_of_ble_eq_true rfl) dL_isRefused_615 (kc := 40) (ks := 240) ⟨rfl, rfl⟩ (by show _ ≤ 140 ∧ _ ≤ 840; omega) (fun My hy => ?_)
                    refine r_lload C dL_isRefused_618 1 rfl ?_
                    refine r_lcmp C dL_isRefused_620 ?_
                    refine r_if_neF (tgt := 628) C dL_isRefused_621 (by decide) (lg_eq0.mpr (by rw [hw])) ?_
                    refine r_iconst (v := 1) C dL_isRefused_624 rfl ?_
                    refine r_goto (tgt := 629) C dL_isRefused_625 (by decide) ?_
                    exact r_wzret C hret (by decide) hlk9 (by show _ ≤ 140; omega) (by show _ ≤ 840; omega) dL_isRefused_629 (⟨rfl, hy.trans hw⟩)
                exact r_wid (by omega) (by omega) (J613 )
          refine r_sub (lv' := [(9, .int 1), (7, .long (mz_allN M.1 N N)), (3, .int 0), (0, .ref (ad 0)), (1, .ref (ad 50)), (2, .int (nI X))]) [1, 2, 3, 4, 5, 6] rfl ?_
          exact r_wid (by omega) (by omega) (J593 )
        · have hN : N = 8 := mz_nlt8 hN8 z576
          refine r_aload_n C dL_isRefused_579 rfl 4 rfl ?_
          refine r_iconst (v := 0) C dL_isRefused_580 rfl ?_
          refine r_iconst (v := 5) C dL_isRefused_581 rfl ?_
          refine r_bipush (v := (64)) C dL_isRefused_582 rfl ?_
          refine r_iconst (v := 0) C dL_isRefused_584 rfl ?_
          refine r_callW5I C hX9 (mz_act2 (kL_act_0 hAD hl0 hRw.cN hRw.N8) (mz_elk2 hRw (by decide) (by decide) (by decide) hN) (rfl)) (vx_cwSW 5 C.1.2.2.2.2 gL_isRefused_L_act rfl rfl rfl (by decide +kernel) ⟨Nat.le_of_ble_eq_true rfl, Nat.le_of_ble_eq_true rfl⟩) (Nat.le_of_ble_eq_true rfl) dL_isRefused_585 (kc := 1) (ks := 6) ⟨rfl, rfl⟩ (by show _ ≤ 140 ∧ _ ≤ 840; omega) ?_
          refine r_ldc C n57 dL_isRefused_588 ?_
          refine r_icmp_neF (tgt := 628) C dL_isRefused_590 (by decide) (by decide) ?_
          have J593 : mm_G pp l ee rmL_isRefused ss mm ([.ref (ad 0), .ref (ad 50), .int (nI X)] : List Value).toArray bl mth cd (95) (570) (MQ bl (mm_Q D ad q A (fun v u => v = some (.int 1) ∧ u.1 = M.1)) ([.ref (ad 0), .ref (ad 50), .int (nI X)] : List Value).toArray ss rmL_isRefused.cells rmL_isRefused.slots A) 11 D ad q A (Mw) 593 [(9, .int 1), (7, .long (mz_allN M.1 N N)), (3, .int 0), (0, .ref (ad 0)), (1, .ref (ad 50)), (2, .int (nI X))] [] := by
              refine r_aload_n C dL_isRefused_593 rfl 4 rfl ?_
              refine r_iconst (v := 2) C dL_isRefused_594 rfl ?_
              refine r_ialdL C mm_aL_50 2 rfl (by decide) dL_isRefused_595 ?_
              refine r_topc (y := nI S) (by rw [hw]; exact hm2) ?_
              refine r_iconst (v := 4) C dL_isRefused_596 rfl ?_
              refine r_icmp_lt (tgt := 613) C dL_isRefused_597 (by decide) (fun z597 => ?_) (fun z597 => ?_)
              · have J613 : mm_G pp l ee rmL_isRefused ss mm ([.ref (ad 0), .ref (ad 50), .int (nI X)] : List Value).toArray bl mth cd (97) (582) (MQ bl (mm_Q D ad q A (fun v u => v = some (.int 1) ∧ u.1 = M.1)) ([.ref (ad 0), .ref (ad 50), .int (nI X)] : List Value).toArray ss rmL_isRefused.cells rmL_isRefused.slots A) 11 D ad q A (Mw) 613 [(9, .int 1), (7, .long (mz_allN M.1 N N)), (3, .int 0), (0, .ref (ad 0)), (1, .ref (ad 50)), (2, .int (nI X))] [] := by
                    refine r_aload_n C dL_isRefused_613 rfl 3 rfl ?_
                    refine r_aload_n C dL_isRefused_614 rfl 4 rfl ?_
                    refine r_callO2J C hX9 (kL_all hAD hl0 hRw hT (by rw [hw]; exact hm1)) (va_cwS 2 C.1.2.2.2.2 gL_isRefused_L_all rfl rfl rfl (by decide +kernel) ⟨Nat.le_of_ble_eq_true rfl, Nat.le_of_ble_eq_true rfl⟩) (Nat.le_of_ble_eq_true rfl) dL_isRefused_615 (kc := 40) (ks := 240) ⟨rfl, rfl⟩ (by show _ ≤ 140 ∧ _ ≤ 840; omega) (fun My hy => ?_)
                    refine r_lload C dL_isRefused_618 1 rfl ?_
                    refine r_lcmp C dL_isRefused_620 ?_
                    refine r_if_neF (tgt := 628) C dL_isRefused_621 (by decide) (lg_eq0.mpr (by rw [hw])) ?_
                    refine r_iconst (v := 1) C dL_isRefused_624 rfl ?_
                    refine r_goto (tgt := 629) C dL_isRefused_625 (by decide) ?_
                    exact r_wzret C hret (by decide) hlk9 (by show _ ≤ 140; omega) (by show _ ≤ 840; omega) dL_isRefused_629 (⟨rfl, hy.trans hw⟩)
                exact r_wid (by omega) (by omega) (J613 )
              · have hS : S = 4 := mz_nlt4 hS4 z597
                refine r_aload_n C dL_isRefused_600 rfl 3 rfl ?_
                refine r_iconst (v := 2) C dL_isRefused_601 rfl ?_
                refine r_iconst (v := 0) C dL_isRefused_602 rfl ?_
                refine r_iconst (v := 5) C dL_isRefused_603 rfl ?_
                refine r_iconst (v := 5) C dL_isRefused_604 rfl ?_
                refine r_callW5I C hX9 (mz_act3 (kL_act_2 hAD hl0 hRw.cS hRw.S4) (mz_sok3 hRw (by decide) (by decide) (by decide) hS) (rfl)) (vx_cwSW 5 C.1.2.2.2.2 gL_isRefused_L_act rfl rfl rfl (by decide +kernel) ⟨Nat.le_of_ble_eq_true rfl, Nat.le_of_ble_eq_true rfl⟩) (Nat.le_of_ble_eq_true rfl) dL_isRefused_605 (kc := 1) (ks := 6) ⟨rfl, rfl⟩ (by show _ ≤ 140 ∧ _ ≤ 840; omega) ?_
                refine r_ldc C n57 dL_isRefused_608 ?_
                refine r_icmp_neF (tgt := 628) C dL_isRefused_610 (by decide) (by decide) ?_
                have J613 : mm_G pp l ee rmL_isRefused ss mm ([.ref (ad 0), .ref (ad 50), .int (nI X)] : List Value).toArray bl mth cd (97) (582) (MQ bl (mm_Q D ad q A (fun v u => v = some (.int 1) ∧ u.1 = M.1)) ([.ref (ad 0), .ref (ad 50), .int (nI X)] : List Value).toArray ss rmL_isRefused.cells rmL_isRefused.slots A) 11 D ad q A (Mw) 613 [(9, .int 1), (7, .long (mz_allN M.1 N N)), (3, .int 0), (0, .ref (ad 0)), (1, .ref (ad 50)), (2, .int (nI X))] [] := by
                    refine r_aload_n C dL_isRefused_613 rfl 3 rfl ?_
                    refine r_aload_n C dL_isRefused_614 rfl 4 rfl ?_
                    refine r_callO2J C hX9 (kL_all hAD hl0 hRw hT (by rw [hw]; exact hm1)) (va_cwS 2 C.1.2.2.2.2 gL_isRefused_L_all rfl rfl rfl (by decide +kernel) ⟨Nat.le_of_ble_eq_true rfl, Nat.le_of_ble_eq_true rfl⟩) (Nat.le_of_ble_eq_true rfl) dL_isRefused_615 (kc := 40) (ks := 240) ⟨rfl, rfl⟩ (by show _ ≤ 140 ∧ _ ≤ 840; omega) (fun My hy => ?_)
                    refine r_lload C dL_isRefused_618 1 rfl ?_
                    refine r_lcmp C dL_isRefused_620 ?_
                    refine r_if_neF (tgt := 628) C dL_isRefused_621 (by decide) (lg_eq0.mpr (by rw [hw])) ?_
                    refine r_iconst (v := 1) C dL_isRefused_624 rfl ?_
                    refine r_goto (tgt := 629) C dL_isRefused_625 (by decide) ?_
                    exact r_wzret C hret (by decide) hlk9 (by show _ ≤ 140; omega) (by show _ ≤ 840; omega) dL_isRefused_629 (⟨rfl, hy.trans hw⟩)
                exact r_wid (by omega) (by omega) (J613 )
          refine r_sub (lv' := [(9, .int 1), (7, .long (mz_allN M.1 N N)), (3, .int 0), (0, .ref (ad 0)), (1, .ref (ad 50)), (2, .int (nI X))]) [1, 2, 3, 4, 5, 6] rfl ?_
          exact r_wid (by omega) (by omega) (J593 )
      · have hk : k < N := nm_lt (by omega) (by omega) z511
        refine r_iload C dL_isRefused_514 1 rfl ?_
        refine r_if_eqF (tgt := 566) C dL_isRefused_516 (by decide) (by decide) ?_
        refine r_aload_n C dL_isRefused_519 rfl 4 rfl ?_
        refine r_bipush (v := (7)) C dL_isRefused_520 rfl ?_
        refine r_iload C dL_isRefused_522 0 rfl ?_
        refine r_iload_n C dL_isRefused_524 rfl 3 rfl ?_
        refine r_if_eqT (tgt := 537) C dL_isRefused_525 (by decide) (by decide) ?_
        refine r_bipush (v := (64)) C dL_isRefused_537 rfl ?_
        refine r_iload_n C dL_isRefused_539 rfl 6 rfl ?_
        refine r_bipush (v := (30)) C dL_isRefused_540 rfl ?_
        refine r_irem C dL_isRefused_542 (by decide) ?_
        refine r_topc (y := nI (X % 30)) (mz_rem 30 (X := X) (by omega) (by omega)) ?_
        refine r_iadd C dL_isRefused_543 ?_
        refine r_topc (y := nI (64 + (X % 30))) (mz_add 64 (X % 30)) ?_
        refine r_iconst (v := 0) C dL_isRefused_544 rfl ?_
        refine r_callW5I C hX9 (mz_act1 (kL_act_7 hAD hl0) (mz_smk2 (mz_outG (a := 64 + X % 30) (h := 63) rfl (by omega) (by omega))) (rfl)) (vx_cwSW 5 C.1.2.2.2.2 gL_isRefused_L_act rfl rfl rfl (by decide +kernel) ⟨Nat.le_of_ble_eq_true rfl, Nat.le_of_ble_eq_true rfl⟩) (Nat.le_of_ble_eq_true rfl) dL_isRefused_545 (kc := 1) (ks := 6) ⟨rfl, rfl⟩ (by show _ ≤ 140 ∧ _ ≤ 840; omega) ?_
        refine r_ldc C n51 dL_isRefused_548 ?_
        refine r_icmp_neF (tgt := 557) C dL_isRefused_550 (by decide) (by decide) ?_
        refine r_iconst (v := 1) C dL_isRefused_553 rfl ?_
        refine r_goto (tgt := 558) C dL_isRefused_554 (by decide) ?_
        refine r_istore (lv' := [(9, .int 1), (10, .int (nI k)), (7, .long (mz_allN M.1 N N)), (3, .int 0), (0, .ref (ad 0)), (1, .ref (ad 50)), (2, .int (nI X))]) C dL_isRefused_558 (by decide) rfl ?_
        refine r_iinc (v := nI (k + 1)) (lv' := [(10, .int (nI (k + 1))), (9, .int 1), (7, .long (mz_allN M.1 N N)), (3, .int 0), (0, .ref (ad 0)), (1, .ref (ad 50)), (2, .int (nI X))]) C dL_isRefused_560 1 rfl (mz_inc k) (by decide) rfl ?_
        refine r_goto (tgt := 506) C dL_isRefused_563 (by decide) ?_
        exact r_wid (by omega) (by omega) (ih506 (k + 1) (by omega) (by omega))
  refine r_sub (lv' := [(10, .int 0), (9, .int 1), (7, .long (mz_allN M.1 N N)), (3, .int 0), (0, .ref (ad 0)), (1, .ref (ad 50)), (2, .int (nI X))]) [0, 1, 2, 6, 7, 8, 9] rfl ?_
  have hN8 := hRw.N8
  refine r_cast (M' := Mw) (lv' := [(10, .int (nI 0)), (9, .int 1), (7, .long (mz_allN M.1 N N)), (3, .int 0), (0, .ref (ad 0)), (1, .ref (ad 50)), (2, .int (nI X))]) (st' := []) rfl rfl rfl (r_wid (by omega) (by omega) (L506 (N - 0 + 1) 0 (Nat.zero_le _) (by omega)))
