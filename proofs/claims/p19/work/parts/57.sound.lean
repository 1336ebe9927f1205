abbrev rmL_areSound : Room := { frames := 8, cells := 100, slots := 600, locals := 184 }

set_option maxHeartbeats 1000000 in
set_option maxRecDepth 100000 in
theorem kL_areSound_0 {l : Launch} {D : va_G} {ad : Nat → Nat} {q : Nat → ClassId} {A : Nat → Prop} (hAD : mm_AD ad A) (hl0 : l.stackTraces = false) {N S T X : Nat} {M : mm_M} (hR : mk_R M N S T) (hB : mz_B M.1) (hT : T ≤ 59000) (hX : X < 2147483648) (hm0 : M.1 65 0 = nI T) (hm1 : M.1 65 1 = nI N) (he : ∀ k : Nat, k < N → M.1 66 (2 * k) = M.1 55 k ∧ M.1 66 (2 * k + 1) = M.1 54 k) : mm_Ko l D ad q A yL_areSound wsL_areSound rmL_areSound [.ref (ad 0), .ref (ad 50), .ref (ad 51), .int (nI X), .int 0] M (fun v u => v = some (.int 1) ∧ u.1 = M.1) := by
  have hw : M.1 = M.1 := rfl
  have hN8 := hR.N8
  refine mm_ofO (b := 0) (L := 0) (xs := fun _ => 0) (cc := cL_areSound) (maxL := 16) (ret := some .boolean) (own := RL) rfl hAD (plainFor_of_name (by decide)) rfl (Nat.le_of_ble_eq_true rfl) ?_
  intro pp ee ss mm bl mth cd C hX9 hret hlk9
  show mm_G _ _ _ _ _ _ _ _ _ _ _ _ _ _ _ _ _ _ M 0 [(0, .ref (ad 0)), (1, .ref (ad 50)), (2, .ref (ad 51)), (3, .int (nI X)), (4, .int 0)] []
  refine r_aload_n C dL_areSound_0 rfl 0 rfl ?_
  refine r_callV0I C 4 (by decide) rfl (mm_ct4 ad q _) (kX4_tick hAD) (cwV 0 C.1.2.2.2.2 gL_areSound_X4_tick rfl rfl rfl (by decide +kernel) ⟨Nat.le_of_ble_eq_true rfl, Nat.le_of_ble_eq_true rfl⟩) (Nat.le_of_ble_eq_true rfl) dL_areSound_1 ⟨rfl, rfl⟩ (by show _ ≤ 100 ∧ _ ≤ 600; omega) ?_
  refine r_topc (y := nI T) (by exact hR.cT) ?_
  refine r_aload_n C dL_areSound_4 rfl 1 rfl ?_
  refine r_iconst (v := 0) C dL_areSound_5 rfl ?_
  refine r_ialdL C mm_aL_50 0 rfl (by decide) dL_areSound_6 ?_
  refine r_topc (y := nI T) (by rw [hw]; exact hm0) ?_
  refine r_icmp_neF (tgt := 14) C dL_areSound_7 (by decide) (rfl) ?_
  refine r_iconst (v := 1) C dL_areSound_10 rfl ?_
  refine r_goto (tgt := 15) C dL_areSound_11 (by decide) ?_
  refine r_istore (lv' := [(5, .int 1), (0, .ref (ad 0)), (1, .ref (ad 50)), (2, .ref (ad 51)), (3, .int (nI X)), (4, .int 0)]) C dL_areSound_15 (by decide) rfl ?_
  refine r_iconst (v := 0) C dL_areSound_17 rfl ?_
  refine r_istore (lv' := [(6, .int (mz_al M.1 0)), (5, .int 1), (0, .ref (ad 0)), (1, .ref (ad 50)), (2, .ref (ad 51)), (3, .int (nI X)), (4, .int 0)]) C dL_areSound_18 (by decide) rfl ?_
  refine r_iconst (v := 0) C dL_areSound_20 rfl ?_
  refine r_istore (lv' := [(7, .int (nI 0)), (6, .int (mz_al M.1 0)), (5, .int 1), (0, .ref (ad 0)), (1, .ref (ad 50)), (2, .ref (ad 51)), (3, .int (nI X)), (4, .int 0)]) C dL_areSound_21 (by decide) rfl ?_
  have L23 : ∀ (k9 : Nat) (k : Nat) (Mw : mm_M) (hk9 : k ≤ N) (hw : Mw.1 = M.1), N - k < k9 → mm_G pp l ee rmL_areSound ss mm ([.ref (ad 0), .ref (ad 50), .ref (ad 51), .int (nI X), .int 0] : List Value).toArray bl mth cd (3 * k) (18 * k) (MQ bl (mm_Q D ad q A (fun v u => v = some (.int 1) ∧ u.1 = M.1)) ([.ref (ad 0), .ref (ad 50), .ref (ad 51), .int (nI X), .int 0] : List Value).toArray ss rmL_areSound.cells rmL_areSound.slots A) 16 D ad q A (Mw) 23 [(7, .int (nI k)), (6, .int (mz_al M.1 k)), (5, .int 1), (0, .ref (ad 0)), (1, .ref (ad 50)), (2, .ref (ad 51)), (3, .int (nI X)), (4, .int 0)] [] := by
    intro k9
    induction k9 with
    | zero => intro k Mw hk9 hw h9; exact absurd h9 (Nat.not_lt_zero _)
    | succ k9 ih23 =>
      intro k Mw hk9 hw h9
      have hN8 := hR.N8
      refine r_iload C dL_areSound_23 0 rfl ?_
      refine r_aload_n C dL_areSound_25 rfl 4 rfl ?_
      refine r_iconst (v := 1) C dL_areSound_26 rfl ?_
      refine r_ialdL C mm_aL_50 1 rfl (by decide) dL_areSound_27 ?_
      refine r_topc (y := nI N) (by rw [hw]; exact hm1) ?_
      refine r_icmp_ge (tgt := 162) C dL_areSound_28 (by decide) (fun z28 => ?_) (fun z28 => ?_)
      · obtain rfl : N = k := (nm_ge hk9 (by omega) z28).symm
        refine r_iload C dL_areSound_162 2 rfl ?_
        refine r_if_eqF (tgt := 172) C dL_areSound_164 (by decide) (by decide) ?_
        refine r_iload C dL_areSound_167 7 rfl ?_
        refine r_if_neF (tgt := 175) C dL_areSound_169 (by decide) (by decide) ?_
        refine r_iload C dL_areSound_172 2 rfl ?_
        exact r_wzret C hret (by decide) hlk9 (by show _ ≤ 100; omega) (by show _ ≤ 600; omega) dL_areSound_174 (⟨rfl, hw⟩)
      · have hk : k < N := nm_lt (by omega) (by omega) z28
        refine r_iload C dL_areSound_31 2 rfl ?_
        refine r_if_eqF (tgt := 162) C dL_areSound_33 (by decide) (by decide) ?_
        refine r_aload_n C dL_areSound_36 rfl 3 rfl ?_
        refine r_iload C dL_areSound_37 0 rfl ?_
        refine r_iconst (v := 0) C dL_areSound_39 rfl ?_
        refine r_q2I C hX9 4 (by decide) rfl (mm_ct4 ad q _) (kX4_calibrated hAD hl0) (mz_qcal0 hR hw (hk)) (cwV 2 C.1.2.2.2.2 gL_areSound_X4_calibrated rfl rfl rfl (by decide +kernel) ⟨Nat.le_of_ble_eq_true rfl, Nat.le_of_ble_eq_true rfl⟩) (Nat.le_of_ble_eq_true rfl) dL_areSound_40 (kc := 1) (ks := 6) ⟨rfl, rfl⟩ (by show _ ≤ 100 ∧ _ ≤ 600; omega) (fun Mw hw => ?_)
        refine r_istore (lv' := [(8, .int (M.1 (10 + k) 8)), (7, .int (nI k)), (6, .int (mz_al M.1 k)), (5, .int 1), (0, .ref (ad 0)), (1, .ref (ad 50)), (2, .ref (ad 51)), (3, .int (nI X)), (4, .int 0)]) C dL_areSound_43 (by decide) rfl ?_
        refine r_aload_n C dL_areSound_45 rfl 4 rfl ?_
        refine r_iload C dL_areSound_46 1 rfl ?_
        refine r_iconst (v := 1) C dL_areSound_48 rfl ?_
        refine r_q2I C hX9 4 (by decide) rfl (mm_ct4 ad q _) (kX4_calibrated hAD hl0) (mz_qcal1 hR hw (hk)) (cwV 2 C.1.2.2.2.2 gL_areSound_X4_calibrated rfl rfl rfl (by decide +kernel) ⟨Nat.le_of_ble_eq_true rfl, Nat.le_of_ble_eq_true rfl⟩) (Nat.le_of_ble_eq_true rfl) dL_areSound_49 (kc := 1) (ks := 6) ⟨rfl, rfl⟩ (by show _ ≤ 100 ∧ _ ≤ 600; omega) (fun Mw hw => ?_)
        refine r_istore (lv' := [(9, .int (M.1 (10 + k) 9)), (8, .int (M.1 (10 + k) 8)), (7, .int (nI k)), (6, .int (mz_al M.1 k)), (5, .int 1), (0, .ref (ad 0)), (1, .ref (ad 50)), (2, .ref (ad 51)), (3, .int (nI X)), (4, .int 0)]) C dL_areSound_52 (by decide) rfl ?_
        refine r_iload_n C dL_areSound_54 rfl 8 rfl ?_
        refine r_bipush (v := (64)) C dL_areSound_55 rfl ?_
        refine r_irem C dL_areSound_57 (by decide) ?_
        refine r_topc (y := nI (X % 64)) (mz_rem 64 (X := X) (by omega) (by omega)) ?_
        refine r_istore (lv' := [(10, .int (nI (X % 64))), (9, .int (M.1 (10 + k) 9)), (8, .int (M.1 (10 + k) 8)), (7, .int (nI k)), (6, .int (mz_al M.1 k)), (5, .int 1), (0, .ref (ad 0)), (1, .ref (ad 50)), (2, .ref (ad 51)), (3, .int (nI X)), (4, .int 0)]) C dL_areSound_58 (by decide) rfl ?_
        refine r_aload_n C dL_areSound_60 rfl 6 rfl ?_
        refine r_iload C dL_areSound_61 3 rfl ?_
        refine r_iload C dL_areSound_63 0 rfl ?_
        refine r_q2I C hX9 4 (by decide) rfl (mm_ct4 ad q _) (kX4_sample hAD hl0) (mz_qsam hR hT hw (hk) (mz_in63 X)) (cwV 2 C.1.2.2.2.2 gL_areSound_X4_sample rfl rfl rfl (by decide +kernel) ⟨Nat.le_of_ble_eq_true rfl, Nat.le_of_ble_eq_true rfl⟩) (Nat.le_of_ble_eq_true rfl) dL_areSound_65 (kc := 1) (ks := 6) ⟨rfl, rfl⟩ (by show _ ≤ 100 ∧ _ ≤ 600; omega) (fun Mw hw => ?_)
        have hk1 := mz_k1 hR hB hT hk X
        refine r_istore (lv' := [(11, .int (mr_kept M.1 61 k (M.1 50 0 - 1 - nI (X % 64)))), (10, .int (nI (X % 64))), (9, .int (M.1 (10 + k) 9)), (8, .int (M.1 (10 + k) 8)), (7, .int (nI k)), (6, .int (mz_al M.1 k)), (5, .int 1), (0, .ref (ad 0)), (1, .ref (ad 50)), (2, .ref (ad 51)), (3, .int (nI X)), (4, .int 0)]) C dL_areSound_68 (by decide) rfl ?_
        refine r_iload C dL_areSound_70 5 rfl ?_
        refine r_aload_n C dL_areSound_72 rfl 9 rfl ?_
        refine r_iconst (v := 2) C dL_areSound_73 rfl ?_
        refine r_iload C dL_areSound_74 4 rfl ?_
        refine r_imul C dL_areSound_76 ?_
        refine r_topc (y := nI (2 * k)) (mz_mul 2 k) ?_
        refine r_ialdL C mm_aL_51 (2 * k) (mz_nn (by omega)) (by omega) dL_areSound_77 ?_
        refine r_topc (y := M.1 55 k) (by rw [hw]; exact (he k hk).1) ?_
        refine r_iadd C dL_areSound_78 ?_
        refine r_istore (lv' := [(6, .int (mz_al M.1 (k + 1))), (11, .int (mr_kept M.1 61 k (M.1 50 0 - 1 - nI (X % 64)))), (10, .int (nI (X % 64))), (9, .int (M.1 (10 + k) 9)), (8, .int (M.1 (10 + k) 8)), (7, .int (nI k)), (5, .int 1), (0, .ref (ad 0)), (1, .ref (ad 50)), (2, .ref (ad 51)), (3, .int (nI X)), (4, .int 0)]) C dL_areSound_79 (by decide) rfl ?_
        refine r_iload C dL_areSound_81 4 rfl ?_
        refine r_bipush (v := (15)) C dL_areSound_83 rfl ?_
        refine r_icmp_leF (tgt := 153) C dL_areSound_85 (by decide) (mz_nle hk1.1.1) ?_
        refine r_iload C dL_areSound_88 4 rfl ?_
        refine r_sipush (v := (256)) C dL_areSound_90 rfl ?_
        refine r_icmp_geF (tgt := 153) C dL_areSound_93 (by decide) (mz_nle hk1.1.2) ?_
        refine r_iload C dL_areSound_96 3 rfl ?_
        refine r_bipush (v := (-4)) C dL_areSound_98 rfl ?_
        refine r_icmp_leF (tgt := 153) C dL_areSound_100 (by decide) (mz_nle hk1.2.1.1) ?_
        refine r_iload C dL_areSound_103 3 rfl ?_
        refine r_iconst (v := 4) C dL_areSound_105 rfl ?_
        refine r_icmp_geF (tgt := 153) C dL_areSound_106 (by decide) (mz_nle hk1.2.1.2) ?_
        refine r_iload C dL_areSound_109 1 rfl ?_
        refine r_sipush (v := (-651)) C dL_areSound_111 rfl ?_
        refine r_icmp_ltF (tgt := 153) C dL_areSound_114 (by decide) (mz_nlt hk1.2.2.1.1) ?_
        refine r_iload C dL_areSound_117 1 rfl ?_
        refine r_sipush (v := (650)) C dL_areSound_119 rfl ?_
        refine r_icmp_gtF (tgt := 153) C dL_areSound_122 (by decide) (mz_nlt hk1.2.2.1.2) ?_
        refine r_aload_n C dL_areSound_125 rfl 8 rfl ?_
        refine r_iconst (v := 0) C dL_areSound_126 rfl ?_
        refine r_ialdL C mm_aL_50 0 rfl (by decide) dL_areSound_127 ?_
        refine r_topc (y := nI T) (by rw [hw]; exact hm0) ?_
        refine r_iconst (v := 1) C dL_areSound_128 rfl ?_
        refine r_isub C dL_areSound_129 ?_
        refine r_iload C dL_areSound_130 2 rfl ?_
        refine r_isub C dL_areSound_132 ?_
        refine r_aload_n C dL_areSound_133 rfl 9 rfl ?_
        refine r_iconst (v := 2) C dL_areSound_134 rfl ?_
        refine r_iload C dL_areSound_135 5 rfl ?_
        refine r_imul C dL_areSound_137 ?_
        refine r_topc (y := nI (2 * k)) (mz_mul 2 k) ?_
        refine r_iconst (v := 1) C dL_areSound_138 rfl ?_
        refine r_iadd C dL_areSound_139 ?_
        refine r_topc (y := nI ((2 * k) + 1)) (mz_add (2 * k) 1) ?_
        refine r_ialdL C mm_aL_51 ((2 * k) + 1) (mz_nn (by omega)) (by omega) dL_areSound_140 ?_
        refine r_topc (y := M.1 54 k) (by rw [hw]; exact (he k hk).2) ?_
        refine r_icmp_ge (tgt := 149) C dL_areSound_141 (by decide) (fun z141 => ?_) (fun z141 => ?_)
        · refine r_iconst (v := 1) C dL_areSound_149 rfl ?_
          refine r_goto (tgt := 154) C dL_areSound_150 (by decide) ?_
          refine r_istore (lv' := [(5, .int 1), (6, .int (mz_al M.1 (k + 1))), (11, .int (mr_kept M.1 61 k (M.1 50 0 - 1 - nI (X % 64)))), (10, .int (nI (X % 64))), (9, .int (M.1 (10 + k) 9)), (8, .int (M.1 (10 + k) 8)), (7, .int (nI k)), (0, .ref (ad 0)), (1, .ref (ad 50)), (2, .ref (ad 51)), (3, .int (nI X)), (4, .int 0)]) C dL_areSound_154 (by decide) rfl ?_
          refine r_iinc (v := nI (k + 1)) (lv' := [(7, .int (nI (k + 1))), (5, .int 1), (6, .int (mz_al M.1 (k + 1))), (11, .int (mr_kept M.1 61 k (M.1 50 0 - 1 - nI (X % 64)))), (10, .int (nI (X % 64))), (9, .int (M.1 (10 + k) 9)), (8, .int (M.1 (10 + k) 8)), (0, .ref (ad 0)), (1, .ref (ad 50)), (2, .ref (ad 51)), (3, .int (nI X)), (4, .int 0)]) C dL_areSound_156 6 rfl (mz_inc k) (by decide) rfl ?_
          refine r_goto (tgt := 23) C dL_areSound_159 (by decide) ?_
          refine r_sub (lv' := [(7, .int (nI (k + 1))), (6, .int (mz_al M.1 (k + 1))), (5, .int 1), (0, .ref (ad 0)), (1, .ref (ad 50)), (2, .ref (ad 51)), (3, .int (nI X)), (4, .int 0)]) [0, 2, 1, 7, 8, 9, 10, 11] rfl ?_
          exact r_wid (by omega) (by omega) (ih23 (k + 1) Mw (by omega) (hw) (by omega))
        · refine r_iload C dL_areSound_144 1 rfl ?_
          refine r_if_neF (tgt := 153) C dL_areSound_146 (by decide) (hk1.2.2.2 z141) ?_
          refine r_iconst (v := 1) C dL_areSound_149 rfl ?_
          refine r_goto (tgt := 154) C dL_areSound_150 (by decide) ?_
          refine r_istore (lv' := [(5, .int 1), (6, .int (mz_al M.1 (k + 1))), (11, .int (mr_kept M.1 61 k (M.1 50 0 - 1 - nI (X % 64)))), (10, .int (nI (X % 64))), (9, .int (M.1 (10 + k) 9)), (8, .int (M.1 (10 + k) 8)), (7, .int (nI k)), (0, .ref (ad 0)), (1, .ref (ad 50)), (2, .ref (ad 51)), (3, .int (nI X)), (4, .int 0)]) C dL_areSound_154 (by decide) rfl ?_
          refine r_iinc (v := nI (k + 1)) (lv' := [(7, .int (nI (k + 1))), (5, .int 1), (6, .int (mz_al M.1 (k + 1))), (11, .int (mr_kept M.1 61 k (M.1 50 0 - 1 - nI (X % 64)))), (10, .int (nI (X % 64))), (9, .int (M.1 (10 + k) 9)), (8, .int (M.1 (10 + k) 8)), (0, .ref (ad 0)), (1, .ref (ad 50)), (2, .ref (ad 51)), (3, .int (nI X)), (4, .int 0)]) C dL_areSound_156 6 rfl (mz_inc k) (by decide) rfl ?_
          refine r_goto (tgt := 23) C dL_areSound_159 (by decide) ?_
          refine r_sub (lv' := [(7, .int (nI (k + 1))), (6, .int (mz_al M.1 (k + 1))), (5, .int 1), (0, .ref (ad 0)), (1, .ref (ad 50)), (2, .ref (ad 51)), (3, .int (nI X)), (4, .int 0)]) [0, 2, 1, 7, 8, 9, 10, 11] rfl ?_
          exact r_wid (by omega) (by omega) (ih23 (k + 1) Mw (by omega) (hw) (by omega))
  have hN8 := hR.N8
  refine r_cast (M' := M) (lv' := [(7, .int (nI 0)), (6, .int (mz_al M.1 0)), (5, .int 1), (0, .ref (ad 0)), (1, .ref (ad 50)), (2, .ref (ad 51)), (3, .int (nI X)), (4, .int 0)]) (st' := []) rfl rfl rfl (r_wid (by omega) (by omega) (L23 (N - 0 + 1) 0 M (Nat.zero_le _) (rfl) (by omega)))
