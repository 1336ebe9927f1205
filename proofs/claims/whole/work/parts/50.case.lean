theorem nm_ik {i k : Nat} {x : Int32} (hi : i ≤ 3000) (hx : x.toInt = (k : Int)) (hk : k ≤ 10) : (nI i + x).toInt = ((i + k : Nat) : Int) := by
  have hni : (nI i).toInt = (i : Int) := nI_toInt (by omega)
  exact (mk_ia (by rw [hni, hx]; omega) (by rw [hni, hx]; omega)).trans (by rw [hni, hx]; omega)
theorem r_wid {p : Program} {l : Launch} {e : Env} {R : Room} {s : State} {m : MethodId} {args : Array Value} {below : List Frame} {meth : Method} {c : Code} {cells slots k n : Nat} {Q : State → Prop} {nL : Nat} {D : va_G} {ad : Nat → Nat} {q : Nat → ClassId} {A : Nat → Prop} {M : mm_M} {pc : Nat} {lv : List (Nat × Value)} {st : List Value} (hc : cells ≤ k) (hs : slots ≤ n) (h : mm_G p l e R s m args below meth c k n Q nL D ad q A M pc lv st) : mm_G p l e R s m args below meth c cells slots Q nL D ad q A M pc lv st := fun H locs ls hP hS hl => W.widen hc hs (h H locs ls hP hS hl)
theorem mq_silence {M M1 M2 : mm_M} {N S T : Nat} (h : mk_R M N S T) (h1 : M1 = mm_sI M 0 6 0) (h2 : M2 = mm_sI (mm_sI M1 50 20 0) 50 9 0) : (∃ N' S' T' : Nat, T' ≤ T + 100 ∧ mk_R M2 N' S' T') ∧ M.1 0 6 = M1.1 50 9 := by
  obtain ⟨r1, r2⟩ := mj_silence h (M1 := M1) (by rw [h1])
  exact ⟨⟨N, 0, T, by omega, by rw [h2]; exact r1⟩, r2.symm⟩
theorem mq_tick {M M1 M2 : mm_M} {N S T : Nat} (h : mk_R M N S T) (h1 : M1 = M) (h2 : M2 = mm_sI M1 50 20 0) : (∃ N' S' T' : Nat, T' ≤ T + 100 ∧ mk_R M2 N' S' T') ∧ M.1 0 8 = M1.1 50 0 := by
  refine ⟨⟨N, S, T, by omega, by rw [h2]; exact mj_20 h (by rw [h1]) 0⟩, ?_⟩
  rw [h1, h.cT, h.rT]
set_option maxHeartbeats 400000 in
set_option maxRecDepth 100000 in
theorem lw_c0 {p : Program} {l : Launch} {e : Env} {s : State} {m : MethodId} {below : List Frame} {meth : Method} {c : Code} {D : va_G} {ad : Nat → Nat} {q : Nat → ClassId} {A : Nat → Prop} {b L : Nat} {xs : Nat → Int32} {Q : State → Prop} {cells slots : Nat} (hl0 : l.stackTraces = false) (C : mm_C p s m #[.ref b] c cL_law 8 wsL_law RL D ad q A) (hAD : mm_AD ad A) (hX9 : mm_XP A s) (hXs : va_X b L xs s s.heap) (hbl : b < s.heap.size) (hbA : ¬ A b) {M : mm_M} {N S T : Nat} (h : mk_R M N S T) (hT : T ≤ 59000) {i : Nat} (hi : i + 4 ≤ L) (hL : L ≤ 2048) (hc : cells + 1 ≤ 601024) (hs : slots + 6 ≤ 7293034) (K : ∀ (M2 : mm_M) (N2 S2 T2 : Nat), T2 ≤ T + 100 → mk_R M2 N2 S2 T2 → mm_G p l e room_1 s m #[.ref b] below meth c (cells + 1) (slots + 6) Q 8 D ad q A M2 1070 [(4, .int (nI i)), (3, .ref (ad 65)), (2, .ref (ad 50)), (1, .ref (ad 0)), (0, .ref b)] []) : mm_G p l e room_1 s m #[.ref b] below meth c cells slots Q 8 D ad q A M 116 [(4, .int (nI i)), (3, .ref (ad 65)), (2, .ref (ad 50)), (1, .ref (ad 0)), (0, .ref b)] [] := by
  refine r_aload_n C dL_law_116 rfl 3 rfl ?_
  refine r_aload_n C dL_law_117 rfl 4 rfl ?_
  refine r_iload C dL_law_118 0 rfl ?_
  refine r_iconst (v := 1) C dL_law_120 rfl ?_
  refine r_iadd C dL_law_121 ?_
  refine r_sld C hXs hbl hbA (i + 1) (nm_ik (k := 1) (by omega) rfl (by omega)) (by omega) dL_law_122 ?_
  refine r_aload_n C dL_law_123 rfl 4 rfl ?_
  refine r_iload C dL_law_124 0 rfl ?_
  refine r_iconst (v := 2) C dL_law_126 rfl ?_
  refine r_iadd C dL_law_127 ?_
  refine r_sld C hXs hbl hbA (i + 2) (nm_ik (k := 2) (by omega) rfl (by omega)) (by omega) dL_law_128 ?_
  refine r_aload_n C dL_law_129 rfl 4 rfl ?_
  refine r_iload C dL_law_130 0 rfl ?_
  refine r_iconst (v := 3) C dL_law_132 rfl ?_
  refine r_iadd C dL_law_133 ?_
  refine r_sld C hXs hbl hbA (i + 3) (nm_ik (k := 3) (by omega) rfl (by omega)) (by omega) dL_law_134 ?_
  refine r_aload_n C dL_law_135 rfl 1 rfl ?_
  refine r_callW5 C hX9 (kL_element hAD hl0 h.cN h.N8) (vx_cwSW 5 C.1.2.2.2.2 gL_law_L_element rfl rfl rfl (by decide +kernel) ⟨Nat.le_of_ble_eq_true rfl, Nat.le_of_ble_eq_true rfl⟩) (Nat.le_of_ble_eq_true rfl) dL_law_136 ⟨hc, hs⟩ ?_
  refine r_mem (fun M1 eM1 => ?_)
  have hq := mq_element h hT eM1
  refine r_topi (fun cd ecd => ?_)
  refine r_istore (lv' := [(5, .int cd), (4, .int (nI i)), (3, .ref (ad 65)), (2, .ref (ad 50)), (1, .ref (ad 0)), (0, .ref b)]) C dL_law_139 (by decide) rfl ?_
  refine r_aload_n C dL_law_141 rfl 3 rfl ?_
  refine r_aload_n C dL_law_142 rfl 5 rfl ?_
  refine r_iload C dL_law_143 1 rfl ?_
  refine r_iconst (v := 1) C dL_law_145 rfl ?_
  refine r_iadd C dL_law_146 ?_
  refine r_sld C hXs hbl hbA (i + 1) (nm_ik (k := 1) (by omega) rfl (by omega)) (by omega) dL_law_147 ?_
  refine r_aload_n C dL_law_148 rfl 5 rfl ?_
  refine r_iload C dL_law_149 1 rfl ?_
  refine r_iconst (v := 2) C dL_law_151 rfl ?_
  refine r_iadd C dL_law_152 ?_
  refine r_sld C hXs hbl hbA (i + 2) (nm_ik (k := 2) (by omega) rfl (by omega)) (by omega) dL_law_153 ?_
  refine r_aload_n C dL_law_154 rfl 5 rfl ?_
  refine r_iload C dL_law_155 1 rfl ?_
  refine r_iconst (v := 3) C dL_law_157 rfl ?_
  refine r_iadd C dL_law_158 ?_
  refine r_sld C hXs hbl hbA (i + 3) (nm_ik (k := 3) (by omega) rfl (by omega)) (by omega) dL_law_159 ?_
  refine r_callV3I C 5 (by decide) rfl (mm_ct5 ad q _) (kX5_element hAD hq.1 h.N8) (cwV 3 C.1.2.2.2.2 gL_law_X5_element rfl rfl rfl (by decide +kernel) ⟨Nat.le_of_ble_eq_true rfl, Nat.le_of_ble_eq_true rfl⟩) (Nat.le_of_ble_eq_true rfl) dL_law_160 ⟨rfl, rfl⟩ ⟨hc, hs⟩ ?_
  refine r_mem (fun M2 eM2 => ?_)
  refine r_topi (fun rr err => ?_)
  rw [← eM2] at hq
  rw [← err, ← ecd] at hq
  refine r_istore (lv' := [(6, .int rr), (5, .int cd), (4, .int (nI i)), (3, .ref (ad 65)), (2, .ref (ad 50)), (1, .ref (ad 0)), (0, .ref b)]) C dL_law_163 (by decide) rfl ?_
  refine r_aload_n C dL_law_165 rfl 4 rfl ?_
  refine r_callV0I C 5 (by decide) rfl (mm_ct5 ad q _) (kX5_thrown hAD) (cwV 0 C.1.2.2.2.2 gL_law_X5_thrown rfl rfl rfl (by decide +kernel) ⟨Nat.le_of_ble_eq_true rfl, Nat.le_of_ble_eq_true rfl⟩) (Nat.le_of_ble_eq_true rfl) dL_law_166 ⟨rfl, rfl⟩ ⟨hc, hs⟩ ?_
  refine r_iload C dL_law_169 1 rfl ?_
  refine r_icmp_eq (tgt := 176) C dL_law_171 (by decide) (fun z1 => ?_) (fun z1 => ?_)
  · refine r_iload C dL_law_176 1 rfl ?_
    refine r_if_ne (tgt := 193) C dL_law_178 (by decide) (fun z2 => ?_) (fun z2 => ?_)
    · refine r_goto (tgt := 1070) C dL_law_193 (by decide) ?_
      refine r_sub (lv' := [(4, .int (nI i)), (3, .ref (ad 65)), (2, .ref (ad 50)), (1, .ref (ad 0)), (0, .ref b)]) [2, 3, 4, 5, 6] rfl ?_
      obtain ⟨N2, S2, T2, g1, g2⟩ := hq.2.2.2
      exact K M2 N2 S2 T2 g1 g2
    · refine r_aload_n C dL_law_181 rfl 3 rfl ?_
      refine r_iconst (v := 0) C dL_law_182 rfl ?_
      refine r_lald C mm_aJ_65 0 rfl (by decide) dL_law_183 ?_
      refine r_iload C dL_law_184 0 rfl ?_
      refine r_i2l C dL_law_186 ?_
      refine r_lcmp C dL_law_187 ?_
      refine r_if_eq (tgt := 193) C dL_law_188 (by decide) (fun z3 => ?_) (fun z3 => ?_)
      · refine r_goto (tgt := 1070) C dL_law_193 (by decide) ?_
        refine r_sub (lv' := [(4, .int (nI i)), (3, .ref (ad 65)), (2, .ref (ad 50)), (1, .ref (ad 0)), (0, .ref b)]) [2, 3, 4, 5, 6] rfl ?_
        obtain ⟨N2, S2, T2, g1, g2⟩ := hq.2.2.2
        exact K M2 N2 S2 T2 g1 g2
      · exact absurd (lg_eq0.mpr (hq.2.2.1 z2)) z3
  · exact absurd (hq.2.1) z1

set_option maxHeartbeats 400000 in
set_option maxRecDepth 100000 in
theorem lw_c1 {p : Program} {l : Launch} {e : Env} {s : State} {m : MethodId} {below : List Frame} {meth : Method} {c : Code} {D : va_G} {ad : Nat → Nat} {q : Nat → ClassId} {A : Nat → Prop} {b L : Nat} {xs : Nat → Int32} {Q : State → Prop} {cells slots : Nat} (hl0 : l.stackTraces = false) (C : mm_C p s m #[.ref b] c cL_law 8 wsL_law RL D ad q A) (hAD : mm_AD ad A) (hX9 : mm_XP A s) (hXs : va_X b L xs s s.heap) (hbl : b < s.heap.size) (hbA : ¬ A b) {M : mm_M} {N S T : Nat} (h : mk_R M N S T) (hT : T ≤ 59000) {i : Nat} (hi : i + 4 ≤ L) (hL : L ≤ 2048) (hc : cells + 1 ≤ 601024) (hs : slots + 6 ≤ 7293034) (K : ∀ (M2 : mm_M) (N2 S2 T2 : Nat), T2 ≤ T + 100 → mk_R M2 N2 S2 T2 → mm_G p l e room_1 s m #[.ref b] below meth c (cells + 1) (slots + 6) Q 8 D ad q A M2 1070 [(4, .int (nI i)), (3, .ref (ad 65)), (2, .ref (ad 50)), (1, .ref (ad 0)), (0, .ref b)] []) : mm_G p l e room_1 s m #[.ref b] below meth c cells slots Q 8 D ad q A M 196 [(4, .int (nI i)), (3, .ref (ad 65)), (2, .ref (ad 50)), (1, .ref (ad 0)), (0, .ref b)] [] := by
  refine r_aload_n C dL_law_196 rfl 3 rfl ?_
  refine r_aload_n C dL_law_197 rfl 4 rfl ?_
  refine r_iload C dL_law_198 0 rfl ?_
  refine r_iconst (v := 1) C dL_law_200 rfl ?_
  refine r_iadd C dL_law_201 ?_
  refine r_sld C hXs hbl hbA (i + 1) (nm_ik (k := 1) (by omega) rfl (by omega)) (by omega) dL_law_202 ?_
  refine r_aload_n C dL_law_203 rfl 4 rfl ?_
  refine r_iload C dL_law_204 0 rfl ?_
  refine r_iconst (v := 2) C dL_law_206 rfl ?_
  refine r_iadd C dL_law_207 ?_
  refine r_sld C hXs hbl hbA (i + 2) (nm_ik (k := 2) (by omega) rfl (by omega)) (by omega) dL_law_208 ?_
  refine r_if_eq (tgt := 216) C dL_law_209 (by decide) (fun z0 => ?_) (fun z0 => ?_)
  · refine r_iconst (v := 0) C dL_law_216 rfl ?_
    refine r_aload_n C dL_law_217 rfl 1 rfl ?_
    have hy9 : (0 : Int32) &&& 1 = 0 := by decide
    have hy8 : (0 : Int32) = 0 ∨ (0 : Int32) = 1 := by decide
    refine r_callW4 C hX9 (kL_alive hAD hl0 h.lb hy9) (vx_cwSW 4 C.1.2.2.2.2 gL_law_L_alive rfl rfl rfl (by decide +kernel) ⟨Nat.le_of_ble_eq_true rfl, Nat.le_of_ble_eq_true rfl⟩) (Nat.le_of_ble_eq_true rfl) dL_law_218 ⟨hc, hs⟩ ?_
    refine r_mem (fun M1 eM1 => ?_)
    have hq := mq_alive h hy8 eM1
    refine r_topi (fun cd ecd => ?_)
    refine r_istore (lv' := [(5, .int cd), (4, .int (nI i)), (3, .ref (ad 65)), (2, .ref (ad 50)), (1, .ref (ad 0)), (0, .ref b)]) C dL_law_221 (by decide) rfl ?_
    refine r_aload_n C dL_law_223 rfl 3 rfl ?_
    refine r_aload_n C dL_law_224 rfl 5 rfl ?_
    refine r_iload C dL_law_225 1 rfl ?_
    refine r_iconst (v := 1) C dL_law_227 rfl ?_
    refine r_iadd C dL_law_228 ?_
    refine r_sld C hXs hbl hbA (i + 1) (nm_ik (k := 1) (by omega) rfl (by omega)) (by omega) dL_law_229 ?_
    refine r_aload_n C dL_law_230 rfl 5 rfl ?_
    refine r_iload C dL_law_231 1 rfl ?_
    refine r_iconst (v := 2) C dL_law_233 rfl ?_
    refine r_iadd C dL_law_234 ?_
    refine r_sld C hXs hbl hbA (i + 2) (nm_ik (k := 2) (by omega) rfl (by omega)) (by omega) dL_law_235 ?_
    refine r_if_eqT (tgt := 243) C dL_law_236 (by decide) (z0) ?_
    refine r_iconst (v := 0) C dL_law_243 rfl ?_
    refine r_callV2I C 5 (by decide) rfl (mm_ct5 ad q _) (kX5_alive hAD hq.1.1 h.N8 hq.1.2 hy9) (cwV 2 C.1.2.2.2.2 gL_law_X5_alive rfl rfl rfl (by decide +kernel) ⟨Nat.le_of_ble_eq_true rfl, Nat.le_of_ble_eq_true rfl⟩) (Nat.le_of_ble_eq_true rfl) dL_law_244 ⟨rfl, rfl⟩ ⟨hc, hs⟩ ?_
    refine r_mem (fun M2 eM2 => ?_)
    refine r_topi (fun rr err => ?_)
    rw [← eM2] at hq
    rw [← err, ← ecd] at hq
    refine r_istore (lv' := [(6, .int rr), (5, .int cd), (4, .int (nI i)), (3, .ref (ad 65)), (2, .ref (ad 50)), (1, .ref (ad 0)), (0, .ref b)]) C dL_law_247 (by decide) rfl ?_
    refine r_aload_n C dL_law_249 rfl 4 rfl ?_
    refine r_callV0I C 5 (by decide) rfl (mm_ct5 ad q _) (kX5_thrown hAD) (cwV 0 C.1.2.2.2.2 gL_law_X5_thrown rfl rfl rfl (by decide +kernel) ⟨Nat.le_of_ble_eq_true rfl, Nat.le_of_ble_eq_true rfl⟩) (Nat.le_of_ble_eq_true rfl) dL_law_250 ⟨rfl, rfl⟩ ⟨hc, hs⟩ ?_
    refine r_iload C dL_law_253 1 rfl ?_
    refine r_icmp_eq (tgt := 260) C dL_law_255 (by decide) (fun z1 => ?_) (fun z1 => ?_)
    · refine r_iload C dL_law_260 1 rfl ?_
      refine r_if_ne (tgt := 284) C dL_law_262 (by decide) (fun z2 => ?_) (fun z2 => ?_)
      · refine r_goto (tgt := 1070) C dL_law_284 (by decide) ?_
        refine r_sub (lv' := [(4, .int (nI i)), (3, .ref (ad 65)), (2, .ref (ad 50)), (1, .ref (ad 0)), (0, .ref b)]) [2, 3, 4, 5, 6] rfl ?_
        obtain ⟨N2, S2, T2, g1, g2⟩ := hq.2.2.2
        exact K M2 N2 S2 T2 g1 g2
      · refine r_aload_n C dL_law_265 rfl 3 rfl ?_
        refine r_iconst (v := 0) C dL_law_266 rfl ?_
        refine r_lald C mm_aJ_65 0 rfl (by decide) dL_law_267 ?_
        refine r_iload C dL_law_268 0 rfl ?_
        refine r_if_eq (tgt := 277) C dL_law_270 (by decide) (fun z4 => ?_) (fun z4 => ?_)
        · refine r_lconst (v := 0) C dL_law_277 rfl ?_
          refine r_lcmp C dL_law_278 ?_
          refine r_if_eq (tgt := 284) C dL_law_279 (by decide) (fun z3 => ?_) (fun z3 => ?_)
          · refine r_goto (tgt := 1070) C dL_law_284 (by decide) ?_
            refine r_sub (lv' := [(4, .int (nI i)), (3, .ref (ad 65)), (2, .ref (ad 50)), (1, .ref (ad 0)), (0, .ref b)]) [2, 3, 4, 5, 6] rfl ?_
            obtain ⟨N2, S2, T2, g1, g2⟩ := hq.2.2.2
            exact K M2 N2 S2 T2 g1 g2
          · exact absurd (lg_eq0.mpr ((hq.2.2.1 z2).trans (if_pos z4))) z3
        · refine r_lconst (v := 1) C dL_law_273 rfl ?_
          refine r_goto (tgt := 278) C dL_law_274 (by decide) ?_
          refine r_lcmp C dL_law_278 ?_
          refine r_if_eq (tgt := 284) C dL_law_279 (by decide) (fun z3 => ?_) (fun z3 => ?_)
          · refine r_goto (tgt := 1070) C dL_law_284 (by decide) ?_
            refine r_sub (lv' := [(4, .int (nI i)), (3, .ref (ad 65)), (2, .ref (ad 50)), (1, .ref (ad 0)), (0, .ref b)]) [2, 3, 4, 5, 6] rfl ?_
            obtain ⟨N2, S2, T2, g1, g2⟩ := hq.2.2.2
            exact K M2 N2 S2 T2 g1 g2
          · exact absurd (lg_eq0.mpr ((hq.2.2.1 z2).trans (if_neg z4))) z3
    · exact absurd (hq.2.1) z1
  · refine r_iconst (v := 1) C dL_law_212 rfl ?_
    refine r_goto (tgt := 217) C dL_law_213 (by decide) ?_
    refine r_aload_n C dL_law_217 rfl 1 rfl ?_
    have hy9 : (1 : Int32) &&& 1 = 1 := by decide
    have hy8 : (1 : Int32) = 0 ∨ (1 : Int32) = 1 := by decide
    refine r_callW4 C hX9 (kL_alive hAD hl0 h.lb hy9) (vx_cwSW 4 C.1.2.2.2.2 gL_law_L_alive rfl rfl rfl (by decide +kernel) ⟨Nat.le_of_ble_eq_true rfl, Nat.le_of_ble_eq_true rfl⟩) (Nat.le_of_ble_eq_true rfl) dL_law_218 ⟨hc, hs⟩ ?_
    refine r_mem (fun M1 eM1 => ?_)
    have hq := mq_alive h hy8 eM1
    refine r_topi (fun cd ecd => ?_)
    refine r_istore (lv' := [(5, .int cd), (4, .int (nI i)), (3, .ref (ad 65)), (2, .ref (ad 50)), (1, .ref (ad 0)), (0, .ref b)]) C dL_law_221 (by decide) rfl ?_
    refine r_aload_n C dL_law_223 rfl 3 rfl ?_
    refine r_aload_n C dL_law_224 rfl 5 rfl ?_
    refine r_iload C dL_law_225 1 rfl ?_
    refine r_iconst (v := 1) C dL_law_227 rfl ?_
    refine r_iadd C dL_law_228 ?_
    refine r_sld C hXs hbl hbA (i + 1) (nm_ik (k := 1) (by omega) rfl (by omega)) (by omega) dL_law_229 ?_
    refine r_aload_n C dL_law_230 rfl 5 rfl ?_
    refine r_iload C dL_law_231 1 rfl ?_
    refine r_iconst (v := 2) C dL_law_233 rfl ?_
    refine r_iadd C dL_law_234 ?_
    refine r_sld C hXs hbl hbA (i + 2) (nm_ik (k := 2) (by omega) rfl (by omega)) (by omega) dL_law_235 ?_
    refine r_if_eqF (tgt := 243) C dL_law_236 (by decide) (z0) ?_
    refine r_iconst (v := 1) C dL_law_239 rfl ?_
    refine r_goto (tgt := 244) C dL_law_240 (by decide) ?_
    refine r_callV2I C 5 (by decide) rfl (mm_ct5 ad q _) (kX5_alive hAD hq.1.1 h.N8 hq.1.2 hy9) (cwV 2 C.1.2.2.2.2 gL_law_X5_alive rfl rfl rfl (by decide +kernel) ⟨Nat.le_of_ble_eq_true rfl, Nat.le_of_ble_eq_true rfl⟩) (Nat.le_of_ble_eq_true rfl) dL_law_244 ⟨rfl, rfl⟩ ⟨hc, hs⟩ ?_
    refine r_mem (fun M2 eM2 => ?_)
    refine r_topi (fun rr err => ?_)
    rw [← eM2] at hq
    rw [← err, ← ecd] at hq
    refine r_istore (lv' := [(6, .int rr), (5, .int cd), (4, .int (nI i)), (3, .ref (ad 65)), (2, .ref (ad 50)), (1, .ref (ad 0)), (0, .ref b)]) C dL_law_247 (by decide) rfl ?_
    refine r_aload_n C dL_law_249 rfl 4 rfl ?_
    refine r_callV0I C 5 (by decide) rfl (mm_ct5 ad q _) (kX5_thrown hAD) (cwV 0 C.1.2.2.2.2 gL_law_X5_thrown rfl rfl rfl (by decide +kernel) ⟨Nat.le_of_ble_eq_true rfl, Nat.le_of_ble_eq_true rfl⟩) (Nat.le_of_ble_eq_true rfl) dL_law_250 ⟨rfl, rfl⟩ ⟨hc, hs⟩ ?_
    refine r_iload C dL_law_253 1 rfl ?_
    refine r_icmp_eq (tgt := 260) C dL_law_255 (by decide) (fun z1 => ?_) (fun z1 => ?_)
    · refine r_iload C dL_law_260 1 rfl ?_
      refine r_if_ne (tgt := 284) C dL_law_262 (by decide) (fun z2 => ?_) (fun z2 => ?_)
      · refine r_goto (tgt := 1070) C dL_law_284 (by decide) ?_
        refine r_sub (lv' := [(4, .int (nI i)), (3, .ref (ad 65)), (2, .ref (ad 50)), (1, .ref (ad 0)), (0, .ref b)]) [2, 3, 4, 5, 6] rfl ?_
        obtain ⟨N2, S2, T2, g1, g2⟩ := hq.2.2.2
        exact K M2 N2 S2 T2 g1 g2
      · refine r_aload_n C dL_law_265 rfl 3 rfl ?_
        refine r_iconst (v := 0) C dL_law_266 rfl ?_
        refine r_lald C mm_aJ_65 0 rfl (by decide) dL_law_267 ?_
        refine r_iload C dL_law_268 0 rfl ?_
        refine r_if_eq (tgt := 277) C dL_law_270 (by decide) (fun z4 => ?_) (fun z4 => ?_)
        · refine r_lconst (v := 0) C dL_law_277 rfl ?_
          refine r_lcmp C dL_law_278 ?_
          refine r_if_eq (tgt := 284) C dL_law_279 (by decide) (fun z3 => ?_) (fun z3 => ?_)
          · refine r_goto (tgt := 1070) C dL_law_284 (by decide) ?_
            refine r_sub (lv' := [(4, .int (nI i)), (3, .ref (ad 65)), (2, .ref (ad 50)), (1, .ref (ad 0)), (0, .ref b)]) [2, 3, 4, 5, 6] rfl ?_
            obtain ⟨N2, S2, T2, g1, g2⟩ := hq.2.2.2
            exact K M2 N2 S2 T2 g1 g2
          · exact absurd (lg_eq0.mpr ((hq.2.2.1 z2).trans (if_pos z4))) z3
        · refine r_lconst (v := 1) C dL_law_273 rfl ?_
          refine r_goto (tgt := 278) C dL_law_274 (by decide) ?_
          refine r_lcmp C dL_law_278 ?_
          refine r_if_eq (tgt := 284) C dL_law_279 (by decide) (fun z3 => ?_) (fun z3 => ?_)
          · refine r_goto (tgt := 1070) C dL_law_284 (by decide) ?_
            refine r_sub (lv' := [(4, .int (nI i)), (3, .ref (ad 65)), (2, .ref (ad 50)), (1, .ref (ad 0)), (0, .ref b)]) [2, 3, 4, 5, 6] rfl ?_
            obtain ⟨N2, S2, T2, g1, g2⟩ := hq.2.2.2
            exact K M2 N2 S2 T2 g1 g2
          · exact absurd (lg_eq0.mpr ((hq.2.2.1 z2).trans (if_neg z4))) z3
    · exact absurd (hq.2.1) z1

set_option maxHeartbeats 400000 in
set_option maxRecDepth 100000 in
theorem lw_c2 {p : Program} {l : Launch} {e : Env} {s : State} {m : MethodId} {below : List Frame} {meth : Method} {c : Code} {D : va_G} {ad : Nat → Nat} {q : Nat → ClassId} {A : Nat → Prop} {b L : Nat} {xs : Nat → Int32} {Q : State → Prop} {cells slots : Nat} (hl0 : l.stackTraces = false) (C : mm_C p s m #[.ref b] c cL_law 8 wsL_law RL D ad q A) (hAD : mm_AD ad A) (hX9 : mm_XP A s) (hXs : va_X b L xs s s.heap) (hbl : b < s.heap.size) (hbA : ¬ A b) {M : mm_M} {N S T : Nat} (h : mk_R M N S T) (hT : T ≤ 59000) {i : Nat} (hi : i + 4 ≤ L) (hL : L ≤ 2048) (hc : cells + 1 ≤ 601024) (hs : slots + 6 ≤ 7293034) (K : ∀ (M2 : mm_M) (N2 S2 T2 : Nat), T2 ≤ T + 100 → mk_R M2 N2 S2 T2 → mm_G p l e room_1 s m #[.ref b] below meth c (cells + 1) (slots + 6) Q 8 D ad q A M2 1070 [(4, .int (nI i)), (3, .ref (ad 65)), (2, .ref (ad 50)), (1, .ref (ad 0)), (0, .ref b)] []) : mm_G p l e room_1 s m #[.ref b] below meth c cells slots Q 8 D ad q A M 287 [(4, .int (nI i)), (3, .ref (ad 65)), (2, .ref (ad 50)), (1, .ref (ad 0)), (0, .ref b)] [] := by
  refine r_aload_n C dL_law_287 rfl 3 rfl ?_
  refine r_aload_n C dL_law_288 rfl 4 rfl ?_
  refine r_iload C dL_law_289 0 rfl ?_
  refine r_iconst (v := 1) C dL_law_291 rfl ?_
  refine r_iadd C dL_law_292 ?_
  refine r_sld C hXs hbl hbA (i + 1) (nm_ik (k := 1) (by omega) rfl (by omega)) (by omega) dL_law_293 ?_
  refine r_aload_n C dL_law_294 rfl 4 rfl ?_
  refine r_iload C dL_law_295 0 rfl ?_
  refine r_iconst (v := 2) C dL_law_297 rfl ?_
  refine r_iadd C dL_law_298 ?_
  refine r_sld C hXs hbl hbA (i + 2) (nm_ik (k := 2) (by omega) rfl (by omega)) (by omega) dL_law_299 ?_
  refine r_aload_n C dL_law_300 rfl 4 rfl ?_
  refine r_iload C dL_law_301 0 rfl ?_
  refine r_iconst (v := 3) C dL_law_303 rfl ?_
  refine r_iadd C dL_law_304 ?_
  refine r_sld C hXs hbl hbA (i + 3) (nm_ik (k := 3) (by omega) rfl (by omega)) (by omega) dL_law_305 ?_
  refine r_aload_n C dL_law_306 rfl 1 rfl ?_
  refine r_callW5 C hX9 (kL_source hAD hl0 h.cS h.S4) (vx_cwSW 5 C.1.2.2.2.2 gL_law_L_source rfl rfl rfl (by decide +kernel) ⟨Nat.le_of_ble_eq_true rfl, Nat.le_of_ble_eq_true rfl⟩) (Nat.le_of_ble_eq_true rfl) dL_law_307 ⟨hc, hs⟩ ?_
  refine r_mem (fun M1 eM1 => ?_)
  have hq := mq_source h eM1
  refine r_topi (fun cd ecd => ?_)
  refine r_istore (lv' := [(5, .int cd), (4, .int (nI i)), (3, .ref (ad 65)), (2, .ref (ad 50)), (1, .ref (ad 0)), (0, .ref b)]) C dL_law_310 (by decide) rfl ?_
  refine r_aload_n C dL_law_312 rfl 3 rfl ?_
  refine r_aload_n C dL_law_313 rfl 5 rfl ?_
  refine r_iload C dL_law_314 1 rfl ?_
  refine r_iconst (v := 1) C dL_law_316 rfl ?_
  refine r_iadd C dL_law_317 ?_
  refine r_sld C hXs hbl hbA (i + 1) (nm_ik (k := 1) (by omega) rfl (by omega)) (by omega) dL_law_318 ?_
  refine r_aload_n C dL_law_319 rfl 5 rfl ?_
  refine r_iload C dL_law_320 1 rfl ?_
  refine r_iconst (v := 2) C dL_law_322 rfl ?_
  refine r_iadd C dL_law_323 ?_
  refine r_sld C hXs hbl hbA (i + 2) (nm_ik (k := 2) (by omega) rfl (by omega)) (by omega) dL_law_324 ?_
  refine r_aload_n C dL_law_325 rfl 5 rfl ?_
  refine r_iload C dL_law_326 1 rfl ?_
  refine r_iconst (v := 3) C dL_law_328 rfl ?_
  refine r_iadd C dL_law_329 ?_
  refine r_sld C hXs hbl hbA (i + 3) (nm_ik (k := 3) (by omega) rfl (by omega)) (by omega) dL_law_330 ?_
  refine r_callV3I C 5 (by decide) rfl (mm_ct5 ad q _) (kX5_source hAD hq.1 h.S4) (cwV 3 C.1.2.2.2.2 gL_law_X5_source rfl rfl rfl (by decide +kernel) ⟨Nat.le_of_ble_eq_true rfl, Nat.le_of_ble_eq_true rfl⟩) (Nat.le_of_ble_eq_true rfl) dL_law_331 ⟨rfl, rfl⟩ ⟨hc, hs⟩ ?_
  refine r_mem (fun M2 eM2 => ?_)
  refine r_topi (fun rr err => ?_)
  rw [← eM2] at hq
  rw [← err, ← ecd] at hq
  refine r_istore (lv' := [(6, .int rr), (5, .int cd), (4, .int (nI i)), (3, .ref (ad 65)), (2, .ref (ad 50)), (1, .ref (ad 0)), (0, .ref b)]) C dL_law_334 (by decide) rfl ?_
  refine r_aload_n C dL_law_336 rfl 4 rfl ?_
  refine r_callV0I C 5 (by decide) rfl (mm_ct5 ad q _) (kX5_thrown hAD) (cwV 0 C.1.2.2.2.2 gL_law_X5_thrown rfl rfl rfl (by decide +kernel) ⟨Nat.le_of_ble_eq_true rfl, Nat.le_of_ble_eq_true rfl⟩) (Nat.le_of_ble_eq_true rfl) dL_law_337 ⟨rfl, rfl⟩ ⟨hc, hs⟩ ?_
  refine r_iload C dL_law_340 1 rfl ?_
  refine r_icmp_eq (tgt := 347) C dL_law_342 (by decide) (fun z1 => ?_) (fun z1 => ?_)
  · refine r_iload C dL_law_347 1 rfl ?_
    refine r_if_ne (tgt := 364) C dL_law_349 (by decide) (fun z2 => ?_) (fun z2 => ?_)
    · refine r_goto (tgt := 1070) C dL_law_364 (by decide) ?_
      refine r_sub (lv' := [(4, .int (nI i)), (3, .ref (ad 65)), (2, .ref (ad 50)), (1, .ref (ad 0)), (0, .ref b)]) [2, 3, 4, 5, 6] rfl ?_
      obtain ⟨N2, S2, T2, g1, g2⟩ := hq.2.2.2
      exact K M2 N2 S2 T2 g1 g2
    · refine r_aload_n C dL_law_352 rfl 3 rfl ?_
      refine r_iconst (v := 0) C dL_law_353 rfl ?_
      refine r_lald C mm_aJ_65 0 rfl (by decide) dL_law_354 ?_
      refine r_iload C dL_law_355 0 rfl ?_
      refine r_i2l C dL_law_357 ?_
      refine r_lcmp C dL_law_358 ?_
      refine r_if_eq (tgt := 364) C dL_law_359 (by decide) (fun z3 => ?_) (fun z3 => ?_)
      · refine r_goto (tgt := 1070) C dL_law_364 (by decide) ?_
        refine r_sub (lv' := [(4, .int (nI i)), (3, .ref (ad 65)), (2, .ref (ad 50)), (1, .ref (ad 0)), (0, .ref b)]) [2, 3, 4, 5, 6] rfl ?_
        obtain ⟨N2, S2, T2, g1, g2⟩ := hq.2.2.2
        exact K M2 N2 S2 T2 g1 g2
      · exact absurd (lg_eq0.mpr (hq.2.2.1 z2)) z3
  · exact absurd (hq.2.1) z1

set_option maxHeartbeats 400000 in
set_option maxRecDepth 100000 in
theorem lw_c3 {p : Program} {l : Launch} {e : Env} {s : State} {m : MethodId} {below : List Frame} {meth : Method} {c : Code} {D : va_G} {ad : Nat → Nat} {q : Nat → ClassId} {A : Nat → Prop} {b L : Nat} {xs : Nat → Int32} {Q : State → Prop} {cells slots : Nat} (hl0 : l.stackTraces = false) (C : mm_C p s m #[.ref b] c cL_law 8 wsL_law RL D ad q A) (hAD : mm_AD ad A) (hX9 : mm_XP A s) (hXs : va_X b L xs s s.heap) (hbl : b < s.heap.size) (hbA : ¬ A b) {M : mm_M} {N S T : Nat} (h : mk_R M N S T) (hT : T ≤ 59000) {i : Nat} (hi : i + 4 ≤ L) (hL : L ≤ 2048) (hc : cells + 1 ≤ 601024) (hs : slots + 6 ≤ 7293034) (K : ∀ (M2 : mm_M) (N2 S2 T2 : Nat), T2 ≤ T + 100 → mk_R M2 N2 S2 T2 → mm_G p l e room_1 s m #[.ref b] below meth c (cells + 1) (slots + 6) Q 8 D ad q A M2 1070 [(4, .int (nI i)), (3, .ref (ad 65)), (2, .ref (ad 50)), (1, .ref (ad 0)), (0, .ref b)] []) : mm_G p l e room_1 s m #[.ref b] below meth c cells slots Q 8 D ad q A M 367 [(4, .int (nI i)), (3, .ref (ad 65)), (2, .ref (ad 50)), (1, .ref (ad 0)), (0, .ref b)] [] := by
  have hc2 : cells ≤ room_1.cells := Nat.le_trans (Nat.le_succ _) hc
  have hs2 : slots ≤ room_1.slots := Nat.le_trans (Nat.le_add_right _ 6) hs
  refine r_aload_n C dL_law_367 rfl 3 rfl ?_
  refine r_callV0I C 4 (by decide) rfl (mm_ct4 ad q _) (kX4_silence hAD) (cwV 0 C.1.2.2.2.2 gL_law_X4_silence rfl rfl rfl (by decide +kernel) ⟨Nat.le_of_ble_eq_true rfl, Nat.le_of_ble_eq_true rfl⟩) (Nat.le_of_ble_eq_true rfl) dL_law_368 ⟨rfl, rfl⟩ ⟨hc2, hs2⟩ ?_
  refine r_mem (fun M1 eM1 => ?_)
  refine r_aload_n C dL_law_371 rfl 2 rfl ?_
  refine r_callV0I C 5 (by decide) rfl (mm_ct5 ad q _) (kX5_silence hAD) (cwV 0 C.1.2.2.2.2 gL_law_X5_silence rfl rfl rfl (by decide +kernel) ⟨Nat.le_of_ble_eq_true rfl, Nat.le_of_ble_eq_true rfl⟩) (Nat.le_of_ble_eq_true rfl) dL_law_372 ⟨rfl, rfl⟩ ⟨hc2, hs2⟩ ?_
  refine r_mem (fun M2 eM2 => ?_)
  have hq := mq_silence h eM1 eM2
  refine r_icmp_eq (tgt := 1070) C dL_law_375 (by decide) (fun z1 => ?_) (fun z1 => ?_)
  · obtain ⟨N2, S2, T2, g1, g2⟩ := hq.1
    exact r_wid (Nat.le_succ _) (Nat.le_add_right _ 6) (K M2 N2 S2 T2 g1 g2)
  · exact absurd (hq.2) z1
