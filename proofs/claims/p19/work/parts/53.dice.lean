theorem mz_tL {t L : Nat} (hL : L ≤ 260) (ht : t < 100) (z : ¬ Int32.ofNat L ≤ nI t) : t < L := by
  have e1 : (Int32.ofNat L).toInt = (L : Int) := nI_toInt (by omega)
  rw [Int32.le_iff_toInt_le, e1, nI_toInt (by omega)] at z; omega
abbrev rmL_dice : Room := { frames := 0, cells := 0, slots := 0, locals := 0 }
set_option maxHeartbeats 1000000 in
set_option maxRecDepth 100000 in
theorem kL_dice {l : Launch} {D : va_G} {ad : Nat → Nat} {q : Nat → ClassId} {A : Nat → Prop} (hAD : mm_AD ad A) (hl0 : l.stackTraces = false) {b L : Nat} {xs : Nat → Int32} {M : mm_M} {t : Nat} (hL : L ≤ 260) (ht : t < 100) : mm_Ks l D ad q A yL_dice wsL_dice rmL_dice b L xs [.ref b, .int (nI t)] M (fun v u => ∃ r : Int32, v = some (.int r) ∧ (∃ X : Nat, X < 2147483648 ∧ r = nI X) ∧ u = M) := by
  have n7 : Cond.constant RL 7 (1811024881) ∈ wsL_dice := by decide +kernel
  have n8 : Cond.constant RL 8 (2147483647) ∈ wsL_dice := by decide +kernel
  refine mm_ofS (cc := cL_dice) (maxL := 2) (ret := some .int) (own := RL) rfl hAD (plainFor_of_name (by decide)) rfl (Nat.le_of_ble_eq_true rfl) ?_
  intro pp ee ss mm bl mth cd C hSX hret hlk9
  show mm_G _ _ _ _ _ _ _ _ _ _ _ _ _ _ _ _ _ _ M 0 [(0, .ref b), (1, .int (nI t))] []
  refine r_iload_n C dL_dice_0 rfl 1 rfl ?_
  refine r_aload_n C dL_dice_1 rfl 0 rfl ?_
  refine r_slen C hSX dL_dice_2 ?_
  refine r_icmp_ge (tgt := 12) C dL_dice_3 (by decide) (fun z3 => ?_) (fun z3 => ?_)
  · refine r_ldc C n7 dL_dice_12 ?_
    refine r_iload_n C dL_dice_14 rfl 1 rfl ?_
    refine r_sipush (v := (593)) C dL_dice_15 rfl ?_
    refine r_iadd C dL_dice_18 ?_
    refine r_topc (y := nI (t + 593)) (mz_add t 593) ?_
    refine r_imul C dL_dice_19 ?_
    refine r_topc (y := nI (1811024881 * (t + 593))) (mz_mul 1811024881 (t + 593)) ?_
    refine r_sipush (v := (937)) C dL_dice_20 rfl ?_
    refine r_iload_n C dL_dice_23 rfl 1 rfl ?_
    refine r_imul C dL_dice_24 ?_
    refine r_topc (y := nI (937 * t)) (mz_mul 937 t) ?_
    refine r_iload_n C dL_dice_25 rfl 1 rfl ?_
    refine r_imul C dL_dice_26 ?_
    refine r_topc (y := nI ((937 * t) * t)) (mz_mul (937 * t) t) ?_
    refine r_iadd C dL_dice_27 ?_
    refine r_topc (y := nI ((1811024881 * (t + 593)) + ((937 * t) * t))) (mz_add (1811024881 * (t + 593)) ((937 * t) * t)) ?_
    refine r_sipush (v := (449)) C dL_dice_28 rfl ?_
    refine r_iadd C dL_dice_31 ?_
    refine r_topc (y := nI (((1811024881 * (t + 593)) + ((937 * t) * t)) + 449)) (mz_add ((1811024881 * (t + 593)) + ((937 * t) * t)) 449) ?_
    refine r_ldc C n8 dL_dice_32 ?_
    refine r_iand C dL_dice_34 ?_
    exact r_wiret C hret hlk9 (by show _ ≤ 0; omega) (by show _ ≤ 0; omega) dL_dice_35 (⟨_, rfl, mz_dice _, rfl⟩)
  · have htL : t < L := mz_tL hL ht z3
    refine r_aload_n C dL_dice_6 rfl 0 rfl ?_
    refine r_iload_n C dL_dice_7 rfl 1 rfl ?_
    refine r_sld C hSX (t) (mz_nn (by omega)) (htL) dL_dice_8 ?_
    refine r_goto (tgt := 32) C dL_dice_9 (by decide) ?_
    refine r_ldc C n8 dL_dice_32 ?_
    refine r_iand C dL_dice_34 ?_
    exact r_wiret C hret hlk9 (by show _ ≤ 0; omega) (by show _ ≤ 0; omega) dL_dice_35 (⟨_, rfl, mz_dice _, rfl⟩)
