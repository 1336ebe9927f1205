abbrev rmL_all : Room := { frames := 7, cells := 40, slots := 240, locals := 155 }
/-- the law's number for all that it asks -/
def mz_allN (F : mm_F) (N : Nat) : Nat → Int64
  | 0 => (F 0 8).toInt64 + 31 * mr_powN F N 61 0 32 + 7 * mr_powN F N 61 3 32
  | n + 1 => 31 * mz_allN F N n + (F (10 + n) 8).toInt64 + 7 * (F (10 + n) 9).toInt64 + 3 * (mr_kept F 61 n (F 50 0 - 1 - 5)).toInt64 + (mr_kept F 61 n (F 50 0 - 1 - 40)).toInt64
set_option maxHeartbeats 1000000 in
set_option maxRecDepth 100000 in
theorem kL_all {l : Launch} {D : va_G} {ad : Nat → Nat} {q : Nat → ClassId} {A : Nat → Prop} (hAD : mm_AD ad A) (hl0 : l.stackTraces = false) {N S T : Nat} {M : mm_M} (hR : mk_R M N S T) (hT : T ≤ 59000) (hm1 : M.1 65 1 = nI N) : mm_Ko l D ad q A yL_all wsL_all rmL_all [.ref (ad 0), .ref (ad 50)] M (fun v u => v = some (.long (mz_allN M.1 N N)) ∧ u.1 = M.1) := by
  have n75 : Cond.constantLong RL 75 (31) ∈ wsL_all := by decide +kernel
  have n77 : Cond.constantLong RL 77 (7) ∈ wsL_all := by decide +kernel
  have n79 : Cond.constantLong RL 79 (3) ∈ wsL_all := by decide +kernel
  have hw : M.1 = M.1 := rfl
  refine mm_ofO (b := 0) (L := 0) (xs := fun _ => 0) (cc := cL_all) (maxL := 5) (ret := some .long) (own := RL) rfl hAD (plainFor_of_name (by decide)) rfl (Nat.le_of_ble_eq_true rfl) ?_
  intro pp ee ss mm bl mth cd C hX9 hret hlk9
  show mm_G _ _ _ _ _ _ _ _ _ _ _ _ _ _ _ _ _ _ M 0 [(0, .ref (ad 0)), (1, .ref (ad 50))] []
  refine r_aload_n C dL_all_0 rfl 0 rfl ?_
  refine r_callV0I C 4 (by decide) rfl (mm_ct4 ad q _) (kX4_tick hAD) (cwV 0 C.1.2.2.2.2 gL_all_X4_tick rfl rfl rfl (by decide +kernel) ⟨Nat.le_of_ble_eq_true rfl, Nat.le_of_ble_eq_true rfl⟩) (Nat.le_of_ble_eq_true rfl) dL_all_1 ⟨rfl, rfl⟩ (by show _ ≤ 40 ∧ _ ≤ 240; omega) ?_
  refine r_topc (y := M.1 0 8) (rfl) ?_
  refine r_i2l C dL_all_4 ?_
  refine r_ldc2 C n75 dL_all_5 ?_
  refine r_aload_n C dL_all_8 rfl 0 rfl ?_
  refine r_iconst (v := 0) C dL_all_9 rfl ?_
  refine r_q1J C hX9 4 (by decide) rfl (mm_ct4 ad q _) (kX4_power hAD hl0 (hR.eq hw).lb) (mz_qpow hR hT hw (by decide)) (cwV 1 C.1.2.2.2.2 gL_all_X4_power rfl rfl rfl (by decide +kernel) ⟨Nat.le_of_ble_eq_true rfl, Nat.le_of_ble_eq_true rfl⟩) (Nat.le_of_ble_eq_true rfl) dL_all_10 (kc := 1) (ks := 6) ⟨rfl, rfl⟩ (by show _ ≤ 40 ∧ _ ≤ 240; omega) (fun Mw hw => ?_)
  refine r_lmul C dL_all_13 ?_
  refine r_ladd C dL_all_14 ?_
  refine r_ldc2 C n77 dL_all_15 ?_
  refine r_aload_n C dL_all_18 rfl 0 rfl ?_
  refine r_iconst (v := 3) C dL_all_19 rfl ?_
  refine r_q1J C hX9 4 (by decide) rfl (mm_ct4 ad q _) (kX4_power hAD hl0 (hR.eq hw).lb) (mz_qpow hR hT hw (by decide)) (cwV 1 C.1.2.2.2.2 gL_all_X4_power rfl rfl rfl (by decide +kernel) ⟨Nat.le_of_ble_eq_true rfl, Nat.le_of_ble_eq_true rfl⟩) (Nat.le_of_ble_eq_true rfl) dL_all_20 (kc := 1) (ks := 6) ⟨rfl, rfl⟩ (by show _ ≤ 40 ∧ _ ≤ 240; omega) (fun Mw hw => ?_)
  refine r_lmul C dL_all_23 ?_
  refine r_ladd C dL_all_24 ?_
  refine r_lstore_n (lv' := [(2, .long (mz_allN M.1 N 0)), (0, .ref (ad 0)), (1, .ref (ad 50))]) C dL_all_25 rfl (by decide) rfl ?_
  refine r_iconst (v := 0) C dL_all_26 rfl ?_
  refine r_istore (lv' := [(4, .int (nI 0)), (2, .long (mz_allN M.1 N 0)), (0, .ref (ad 0)), (1, .ref (ad 50))]) C dL_all_27 (by decide) rfl ?_
  have L29 : ∀ (k9 : Nat) (k : Nat) (Mw : mm_M) (hk9 : k ≤ N) (hw : Mw.1 = M.1), N - k < k9 → mm_G pp l ee rmL_all ss mm ([.ref (ad 0), .ref (ad 50)] : List Value).toArray bl mth cd (2 + 4 * k) (12 + 24 * k) (MQ bl (mm_Q D ad q A (fun v u => v = some (.long (mz_allN M.1 N N)) ∧ u.1 = M.1)) ([.ref (ad 0), .ref (ad 50)] : List Value).toArray ss rmL_all.cells rmL_all.slots A) 5 D ad q A (Mw) 29 [(4, .int (nI k)), (2, .long (mz_allN M.1 N k)), (0, .ref (ad 0)), (1, .ref (ad 50))] [] := by
    intro k9
    induction k9 with
    | zero => intro k Mw hk9 hw h9; exact absurd h9 (Nat.not_lt_zero _)
    | succ k9 ih29 =>
      intro k Mw hk9 hw h9
      have hN8 := hR.N8
      refine r_iload C dL_all_29 0 rfl ?_
      refine r_aload_n C dL_all_31 rfl 3 rfl ?_
      refine r_iconst (v := 1) C dL_all_32 rfl ?_
      refine r_ialdL C mm_aL_50 1 rfl (by decide) dL_all_33 ?_
      refine r_topc (y := nI N) (by rw [hw]; exact hm1) ?_
      refine r_icmp_ge (tgt := 94) C dL_all_34 (by decide) (fun z34 => ?_) (fun z34 => ?_)
      · have hkN : k = N := nm_ge hk9 (by omega) z34
        refine r_lload_n C dL_all_94 rfl 1 rfl ?_
        exact r_wlret C hret hlk9 (by show _ ≤ 40; omega) (by show _ ≤ 240; omega) dL_all_95 (⟨by rw [hkN], hw⟩)
      · have hk : k < N := nm_lt (by omega) (by omega) z34
        refine r_ldc2 C n75 dL_all_37 ?_
        refine r_lload_n C dL_all_40 rfl 1 rfl ?_
        refine r_lmul C dL_all_41 ?_
        refine r_aload_n C dL_all_42 rfl 2 rfl ?_
        refine r_iload C dL_all_43 0 rfl ?_
        refine r_iconst (v := 0) C dL_all_45 rfl ?_
        refine r_q2I C hX9 4 (by decide) rfl (mm_ct4 ad q _) (kX4_calibrated hAD hl0) (mz_qcal0 hR hw (hk)) (cwV 2 C.1.2.2.2.2 gL_all_X4_calibrated rfl rfl rfl (by decide +kernel) ⟨Nat.le_of_ble_eq_true rfl, Nat.le_of_ble_eq_true rfl⟩) (Nat.le_of_ble_eq_true rfl) dL_all_46 (kc := 1) (ks := 6) ⟨rfl, rfl⟩ (by show _ ≤ 40 ∧ _ ≤ 240; omega) (fun Mw hw => ?_)
        refine r_i2l C dL_all_49 ?_
        refine r_ladd C dL_all_50 ?_
        refine r_ldc2 C n77 dL_all_51 ?_
        refine r_aload_n C dL_all_54 rfl 2 rfl ?_
        refine r_iload C dL_all_55 0 rfl ?_
        refine r_iconst (v := 1) C dL_all_57 rfl ?_
        refine r_q2I C hX9 4 (by decide) rfl (mm_ct4 ad q _) (kX4_calibrated hAD hl0) (mz_qcal1 hR hw (hk)) (cwV 2 C.1.2.2.2.2 gL_all_X4_calibrated rfl rfl rfl (by decide +kernel) ⟨Nat.le_of_ble_eq_true rfl, Nat.le_of_ble_eq_true rfl⟩) (Nat.le_of_ble_eq_true rfl) dL_all_58 (kc := 1) (ks := 6) ⟨rfl, rfl⟩ (by show _ ≤ 40 ∧ _ ≤ 240; omega) (fun Mw hw => ?_)
        refine r_i2l C dL_all_61 ?_
        refine r_lmul C dL_all_62 ?_
        refine r_ladd C dL_all_63 ?_
        refine r_ldc2 C n79 dL_all_64 ?_
        refine r_aload_n C dL_all_67 rfl 2 rfl ?_
        refine r_iload C dL_all_68 0 rfl ?_
        refine r_iconst (v := 5) C dL_all_70 rfl ?_
        refine r_q2I C hX9 4 (by decide) rfl (mm_ct4 ad q _) (kX4_sample hAD hl0) (mz_qsam hR hT hw (hk) (by decide)) (cwV 2 C.1.2.2.2.2 gL_all_X4_sample rfl rfl rfl (by decide +kernel) ⟨Nat.le_of_ble_eq_true rfl, Nat.le_of_ble_eq_true rfl⟩) (Nat.le_of_ble_eq_true rfl) dL_all_71 (kc := 1) (ks := 6) ⟨rfl, rfl⟩ (by show _ ≤ 40 ∧ _ ≤ 240; omega) (fun Mw hw => ?_)
        refine r_i2l C dL_all_74 ?_
        refine r_lmul C dL_all_75 ?_
        refine r_ladd C dL_all_76 ?_
        refine r_aload_n C dL_all_77 rfl 2 rfl ?_
        refine r_iload C dL_all_78 0 rfl ?_
        refine r_bipush (v := (40)) C dL_all_80 rfl ?_
        refine r_q2I C hX9 4 (by decide) rfl (mm_ct4 ad q _) (kX4_sample hAD hl0) (mz_qsam hR hT hw (hk) (by decide)) (cwV 2 C.1.2.2.2.2 gL_all_X4_sample rfl rfl rfl (by decide +kernel) ⟨Nat.le_of_ble_eq_true rfl, Nat.le_of_ble_eq_true rfl⟩) (Nat.le_of_ble_eq_true rfl) dL_all_82 (kc := 1) (ks := 6) ⟨rfl, rfl⟩ (by show _ ≤ 40 ∧ _ ≤ 240; omega) (fun Mw hw => ?_)
        refine r_i2l C dL_all_85 ?_
        refine r_ladd C dL_all_86 ?_
        refine r_lstore_n (lv' := [(2, .long (mz_allN M.1 N (k + 1))), (4, .int (nI k)), (0, .ref (ad 0)), (1, .ref (ad 50))]) C dL_all_87 rfl (by decide) rfl ?_
        refine r_iinc (v := nI (k + 1)) (lv' := [(4, .int (nI (k + 1))), (2, .long (mz_allN M.1 N (k + 1))), (0, .ref (ad 0)), (1, .ref (ad 50))]) C dL_all_88 1 rfl (mz_inc k) (by decide) rfl ?_
        refine r_goto (tgt := 29) C dL_all_91 (by decide) ?_
        exact r_wid (by omega) (by omega) (ih29 (k + 1) Mw (by omega) (hw) (by omega))
  have hN8 := hR.N8
  exact r_wid (by omega) (by omega) (L29 (N - 0 + 1) 0 Mw (Nat.zero_le _) (hw) (by omega))
