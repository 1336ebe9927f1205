abbrev rmX4_calibrated : Room := { frames := 6, cells := 1, slots := 6, locals := 90 }
set_option maxHeartbeats 400000 in
set_option maxRecDepth 100000 in
theorem kX4_calibrated {l : Launch} {D : va_G} {ad : Nat → Nat} {q : Nat → ClassId} {A : Nat → Prop} (hAD : mm_AD ad A) (hl0 : l.stackTraces = false) {M : mm_M} {x y : Int32} : mm_Kx l D ad q A yX4_calibrated wsX4_calibrated rmX4_calibrated [.ref (ad 0), .int x, .int y] M (fun v' u => mc_alk M x = 0 ∧ v' = some (.int (if y = 0 then M.1 (10 + x.toInt.toNat) 8 else M.1 (10 + x.toInt.toNat) 9)) ∧ u = M) (fun E u => ((mc_alk M x = 1 ∧ E = E_idx)) ∧ u = M) := by
  have inX4 : ∀ w ∈ wsX40, w ∈ wsX4_calibrated := by decide +kernel
  have f11 : Cond.fieldLink RX4 11 "Beamrow" "elements" "[LBeamrow$Element;" ∈ wsX4_calibrated := by decide +kernel
  have t71_1 : Cond.classLink RX4 71 "java/lang/IndexOutOfBoundsException" ∈ wsX4_calibrated := by decide +kernel
  have t71_2 : Cond.initialized "java/lang/IndexOutOfBoundsException" ∈ wsX4_calibrated := by decide +kernel
  have t71_3 : ∀ w ∈ (vx_atS RX4 75 "java/lang/IndexOutOfBoundsException" E_nms).filter goodWord, w ∈ wsX4_calibrated := by decide +kernel
  have t71_4 : ∀ w ∈ (vx_atS RX4 75 "java/lang/IndexOutOfBoundsException" E_nms).filter (fun w => !goodWord w), w ∈ mm_NG := by decide +kernel
  have t71_5 : ∀ w ∈ Cond.classLink RX4 71 "java/lang/IndexOutOfBoundsException" :: Cond.initialized "java/lang/IndexOutOfBoundsException" :: vx_atS RX4 75 "java/lang/IndexOutOfBoundsException" E_nms, vx_ot w = true := by decide +kernel
  refine mm_ofX (cc := cX4_calibrated) (maxL := 3) (ret := some .int) (own := RX4) rfl hAD (by decide) rfl (Nat.le_of_ble_eq_true rfl) ?_
  intro pp ee ss mm bl mth cd C hX9 hT9 hret hlk9
  show mm_G _ _ _ _ _ _ _ _ _ _ _ _ _ _ _ _ _ _ M 0 [(0, .ref (ad 0)), (1, .int x), (2, .int y)] []
  refine r_aload_n C dX4_calibrated_0 rfl 0 rfl ?_
  refine r_iload_n C dX4_calibrated_1 rfl 1 rfl ?_
  refine r_callV1I C 4 (by decide) rfl (mm_ct4 ad q _) (kX4_isElement hAD) (cwV 1 C.1.2.2.2.2 gX4_calibrated_X4_isElement rfl rfl rfl (by decide +kernel) ⟨Nat.le_of_ble_eq_true rfl, Nat.le_of_ble_eq_true rfl⟩) (Nat.le_of_ble_eq_true rfl) dX4_calibrated_2 ⟨rfl, rfl⟩ ⟨Nat.zero_le _, Nat.zero_le _⟩ ?_
  refine r_if_ne (tgt := 18) C dX4_calibrated_5 (by decide) (fun z5 => ?_) (fun z5 => ?_)
  · have hxe := mc_isEl_i z5
    refine r_iload_n C dX4_calibrated_18 rfl 2 rfl ?_
    refine r_if_eq (tgt := 34) C dX4_calibrated_19 (by decide) (fun z19 => ?_) (fun z19 => ?_)
    · refine r_aload_n C dX4_calibrated_34 rfl 0 rfl ?_
      refine r_get4 C inX4 0 (by decide) rfl f11 rfl dX4_calibrated_35 ?_
      refine r_iload_n C dX4_calibrated_38 rfl 1 rfl ?_
      refine r_aaldE C (x.toInt.toNat) (hxe.1) (hxe.2) dX4_calibrated_39 ?_
      refine r_callV0I C 0 (by have := hxe.2; omega) rfl (mm_ct0 ad q _ hxe.2) (kX0_getTrimGain hAD hxe.2) (cwV 0 C.1.2.2.2.2 gX4_calibrated_X0_getTrimGain rfl rfl rfl (by decide +kernel) ⟨Nat.le_of_ble_eq_true rfl, Nat.le_of_ble_eq_true rfl⟩) (Nat.le_of_ble_eq_true rfl) dX4_calibrated_40 ⟨rfl, rfl⟩ ⟨Nat.zero_le _, Nat.zero_le _⟩ ?_
      exact r_xiret C hret hlk9 (Nat.zero_le _) (Nat.zero_le _) dX4_calibrated_43 (by have e9 : mc_alk M x = 0 := (by rw [mc_alk, if_neg z5]); exact ⟨e9, by first | rw [if_pos z19] | rw [if_neg z19], by rfl⟩)
    · refine r_aload_n C dX4_calibrated_22 rfl 0 rfl ?_
      refine r_get4 C inX4 0 (by decide) rfl f11 rfl dX4_calibrated_23 ?_
      refine r_iload_n C dX4_calibrated_26 rfl 1 rfl ?_
      refine r_aaldE C (x.toInt.toNat) (hxe.1) (hxe.2) dX4_calibrated_27 ?_
      refine r_callV0I C 0 (by have := hxe.2; omega) rfl (mm_ct0 ad q _ hxe.2) (kX0_getTrimLag hAD hxe.2) (cwV 0 C.1.2.2.2.2 gX4_calibrated_X0_getTrimLag rfl rfl rfl (by decide +kernel) ⟨Nat.le_of_ble_eq_true rfl, Nat.le_of_ble_eq_true rfl⟩) (Nat.le_of_ble_eq_true rfl) dX4_calibrated_28 ⟨rfl, rfl⟩ ⟨Nat.zero_le _, Nat.zero_le _⟩ ?_
      refine r_goto (tgt := 43) C dX4_calibrated_31 (by decide) ?_
      exact r_xiret C hret hlk9 (Nat.zero_le _) (Nat.zero_le _) dX4_calibrated_43 (by have e9 : mc_alk M x = 0 := (by rw [mc_alk, if_neg z5]); exact ⟨e9, by first | rw [if_pos z19] | rw [if_neg z19], by rfl⟩)
  · exact r_throw C hX9 hT9 hl0 (cls := "java/lang/IndexOutOfBoundsException") (ik := 71) (is := 73) (ic := 75) (by decide) (by decide) rfl t71_1 t71_2 (by decide) t71_3 t71_4 t71_5 dX4_calibrated_8 dX4_calibrated_11 dX4_calibrated_12 dX4_calibrated_14 dX4_calibrated_17 (Nat.le_of_ble_eq_true rfl) (Nat.le_of_ble_eq_true rfl) (Nat.le_of_ble_eq_true rfl) (Nat.le_of_ble_eq_true rfl) hlk9 (Nat.le_of_ble_eq_true rfl) (Nat.le_of_ble_eq_true rfl) (by first | (have e9 : mc_alk M x = 1 := (by rw [mc_alk, if_pos z5]); exact ⟨⟨e9, rfl⟩, rfl⟩))

theorem nm_47 {y : Int32} (h : ¬ nm_in y 16 47 = 0) : (47 - y).toInt = ((47 - y.toInt).toNat : Int) ∧ (47 - y.toInt).toNat < 32 := by
  have h1 := nm_inT h
  have e1 : (16 : Int32).toInt = 16 := rfl
  have e2 : (47 : Int32).toInt = 47 := rfl
  rw [Int32.toInt_sub, e2, nm_bmI (by omega) (by omega)]
  omega
abbrev rmX4_sum : Room := { frames := 6, cells := 1, slots := 6, locals := 113 }
set_option maxHeartbeats 400000 in
set_option maxRecDepth 100000 in
theorem kX4_sum {l : Launch} {D : va_G} {ad : Nat → Nat} {q : Nat → ClassId} {A : Nat → Prop} (hAD : mm_AD ad A) (hl0 : l.stackTraces = false) {M : mm_M} (hb : ∀ i : Nat, i < 8 → M.1 (10 + i) 4 &&& 1 = M.1 (10 + i) 4) {x y : Int32} : mm_Kx l D ad q A yX4_sum wsX4_sum rmX4_sum [.ref (ad 0), .int x, .int y] M (fun v' u => mr_suk x y = 0 ∧ v' = some (.long ((mc_steer (mc_laM M 8) x).2 4 (47 - y.toInt).toNat)) ∧ u = mc_steer (mc_laM M 8) x) (fun E u => ((mr_suk x y = 1 ∧ E = E_idx)) ∧ u = M) := by
  have inX4 : ∀ w ∈ wsX40, w ∈ wsX4_sum := by decide +kernel
  have f28 : Cond.fieldLink RX4 28 "Beamrow" "sums" "[J" ∈ wsX4_sum := by decide +kernel
  have t71_1 : Cond.classLink RX4 71 "java/lang/IndexOutOfBoundsException" ∈ wsX4_sum := by decide +kernel
  have t71_2 : Cond.initialized "java/lang/IndexOutOfBoundsException" ∈ wsX4_sum := by decide +kernel
  have t71_3 : ∀ w ∈ (vx_atS RX4 75 "java/lang/IndexOutOfBoundsException" E_nms).filter goodWord, w ∈ wsX4_sum := by decide +kernel
  have t71_4 : ∀ w ∈ (vx_atS RX4 75 "java/lang/IndexOutOfBoundsException" E_nms).filter (fun w => !goodWord w), w ∈ mm_NG := by decide +kernel
  have t71_5 : ∀ w ∈ Cond.classLink RX4 71 "java/lang/IndexOutOfBoundsException" :: Cond.initialized "java/lang/IndexOutOfBoundsException" :: vx_atS RX4 75 "java/lang/IndexOutOfBoundsException" E_nms, vx_ot w = true := by decide +kernel
  refine mm_ofX (cc := cX4_sum) (maxL := 4) (ret := some .long) (own := RX4) rfl hAD (by decide) rfl (Nat.le_of_ble_eq_true rfl) ?_
  intro pp ee ss mm bl mth cd C hX9 hT9 hret hlk9
  show mm_G _ _ _ _ _ _ _ _ _ _ _ _ _ _ _ _ _ _ M 0 [(0, .ref (ad 0)), (1, .int x), (2, .int y)] []
  refine r_iload_n C dX4_sum_0 rfl 1 rfl ?_
  refine r_callS1I C (kX4_isBearing hAD) (va_cwS 1 C.1.2.2.2.2 gX4_sum_X4_isBearing rfl rfl rfl (by decide +kernel) ⟨Nat.le_of_ble_eq_true rfl, Nat.le_of_ble_eq_true rfl⟩) (Nat.le_of_ble_eq_true rfl) dX4_sum_1 ⟨rfl, rfl⟩ ⟨Nat.zero_le _, Nat.zero_le _⟩ ?_
  refine r_if_eq (tgt := 18) C dX4_sum_4 (by decide) (fun z4 => ?_) (fun z4 => ?_)
  · exact r_throw C hX9 hT9 hl0 (cls := "java/lang/IndexOutOfBoundsException") (ik := 71) (is := 144) (ic := 75) (by decide) (by decide) rfl t71_1 t71_2 (by decide) t71_3 t71_4 t71_5 dX4_sum_18 dX4_sum_21 dX4_sum_22 dX4_sum_24 dX4_sum_27 (Nat.le_of_ble_eq_true rfl) (Nat.le_of_ble_eq_true rfl) (Nat.le_of_ble_eq_true rfl) (Nat.le_of_ble_eq_true rfl) hlk9 (Nat.le_of_ble_eq_true rfl) (Nat.le_of_ble_eq_true rfl) (by first | (have e9 : mr_suk x y = 1 := (by rw [mr_suk, if_pos z4]); exact ⟨⟨e9, rfl⟩, rfl⟩) | (have e9 : mr_suk x y = 1 := (by rw [mr_suk, if_neg z4, if_pos z15]); exact ⟨⟨e9, rfl⟩, rfl⟩))
  · refine r_iload_n C dX4_sum_7 rfl 2 rfl ?_
    refine r_bipush (v := (16)) C dX4_sum_8 rfl ?_
    refine r_bipush (v := (47)) C dX4_sum_10 rfl ?_
    refine r_callS3I C (kX4_isWithin hAD) (va_cwS 3 C.1.2.2.2.2 gX4_sum_X4_isWithin rfl rfl rfl (by decide +kernel) ⟨Nat.le_of_ble_eq_true rfl, Nat.le_of_ble_eq_true rfl⟩) (Nat.le_of_ble_eq_true rfl) dX4_sum_12 ⟨rfl, rfl⟩ ⟨Nat.zero_le _, Nat.zero_le _⟩ ?_
    refine r_if_ne (tgt := 28) C dX4_sum_15 (by decide) (fun z15 => ?_) (fun z15 => ?_)
    · have hxe := nm_47 z15
      refine r_aload_n C dX4_sum_28 rfl 0 rfl ?_
      refine r_callV0J C 4 (by decide) rfl (mm_ct4 ad q _) (kX4_layAll hAD (by exact hb)) (cwV 0 C.1.2.2.2.2 gX4_sum_X4_layAll rfl rfl rfl (by decide +kernel) ⟨Nat.le_of_ble_eq_true rfl, Nat.le_of_ble_eq_true rfl⟩) (Nat.le_of_ble_eq_true rfl) dX4_sum_29 ⟨rfl, rfl⟩ ⟨Nat.zero_le _, Nat.zero_le _⟩ ?_
      refine r_pop2_2 C dX4_sum_32 rfl ?_
      refine r_aload_n C dX4_sum_33 rfl 0 rfl ?_
      refine r_iload_n C dX4_sum_34 rfl 1 rfl ?_
      refine r_callV1V C 4 (by decide) rfl (mm_ct4 ad q _) (kX4_steer hAD) (cwV 1 C.1.2.2.2.2 gX4_sum_X4_steer rfl rfl rfl (by decide +kernel) ⟨Nat.le_of_ble_eq_true rfl, Nat.le_of_ble_eq_true rfl⟩) (Nat.le_of_ble_eq_true rfl) dX4_sum_35 ⟨rfl, rfl⟩ ⟨Nat.zero_le _, Nat.zero_le _⟩ ?_
      refine r_bipush (v := (47)) C dX4_sum_38 rfl ?_
      refine r_iload_n C dX4_sum_40 rfl 2 rfl ?_
      refine r_isub C dX4_sum_41 ?_
      refine r_topi (fun v3_42 ev3_42 => ?_)
      refine r_istore_n (lv' := [(3, .int v3_42), (0, .ref (ad 0)), (1, .int x), (2, .int y)]) C dX4_sum_42 rfl (by decide) rfl ?_
      refine r_iload_n C dX4_sum_43 rfl 0 rfl ?_
      refine r_if_ltF (tgt := 65) C dX4_sum_44 (by decide) (by rw [ev3_42, Int32.lt_iff_toInt_lt, hxe.1]; have e : (0 : Int32).toInt = 0 := rfl; omega) ?_
      refine r_iload_n C dX4_sum_47 rfl 0 rfl ?_
      refine r_aload_n C dX4_sum_48 rfl 1 rfl ?_
      refine r_get4 C inX4 3 (by decide) rfl f28 rfl dX4_sum_49 ?_
      refine r_alenJ C mm_aJ_4 dX4_sum_52 ?_
      refine r_icmp_geF (tgt := 65) C dX4_sum_53 (by decide) (by rw [ev3_42, Int32.le_iff_toInt_le, hxe.1, nI_toInt (by decide)]; omega) ?_
      refine r_aload_n C dX4_sum_56 rfl 1 rfl ?_
      refine r_get4 C inX4 3 (by decide) rfl f28 rfl dX4_sum_57 ?_
      refine r_iload_n C dX4_sum_60 rfl 0 rfl ?_
      refine r_lald C mm_aJ_4 ((47 - y.toInt).toNat) (by rw [ev3_42]; exact hxe.1) (hxe.2) dX4_sum_61 ?_
      refine r_goto (tgt := 66) C dX4_sum_62 (by decide) ?_
      exact r_xlret C hret hlk9 (Nat.zero_le _) (Nat.zero_le _) dX4_sum_66 (by have e9 : mr_suk x y = 0 := (by rw [mr_suk, if_neg z4, if_neg z15]); exact ⟨e9, by rfl, by rfl⟩)
    · exact r_throw C hX9 hT9 hl0 (cls := "java/lang/IndexOutOfBoundsException") (ik := 71) (is := 144) (ic := 75) (by decide) (by decide) rfl t71_1 t71_2 (by decide) t71_3 t71_4 t71_5 dX4_sum_18 dX4_sum_21 dX4_sum_22 dX4_sum_24 dX4_sum_27 (Nat.le_of_ble_eq_true rfl) (Nat.le_of_ble_eq_true rfl) (Nat.le_of_ble_eq_true rfl) (Nat.le_of_ble_eq_true rfl) hlk9 (Nat.le_of_ble_eq_true rfl) (Nat.le_of_ble_eq_true rfl) (by first | (have e9 : mr_suk x y = 1 := (by rw [mr_suk, if_pos z4]); exact ⟨⟨e9, rfl⟩, rfl⟩) | (have e9 : mr_suk x y = 1 := (by rw [mr_suk, if_neg z4, if_pos z15]); exact ⟨⟨e9, rfl⟩, rfl⟩))

def mc_bek (x : Int32) : Int32 := if nm_in x (-4) 4 = 0 then 1 else 0
abbrev rmX4_power : Room := { frames := 6, cells := 1, slots := 6, locals := 134 }
set_option maxHeartbeats 400000 in
set_option maxRecDepth 100000 in
theorem kX4_power {l : Launch} {D : va_G} {ad : Nat → Nat} {q : Nat → ClassId} {A : Nat → Prop} (hAD : mm_AD ad A) (hl0 : l.stackTraces = false) {M : mm_M} (hb : ∀ i : Nat, i < 8 → M.1 (10 + i) 4 &&& 1 = M.1 (10 + i) 4) {x : Int32} : mm_Kx l D ad q A yX4_power wsX4_power rmX4_power [.ref (ad 0), .int x] M (fun v' u => mc_bek x = 0 ∧ v' = some (.long (mc_pwN (mc_steer (mc_laM M 8) x) 32)) ∧ u = mc_steer (mc_laM M 8) x) (fun E u => ((mc_bek x = 1 ∧ E = E_idx)) ∧ u = M) := by
  have t71_1 : Cond.classLink RX4 71 "java/lang/IndexOutOfBoundsException" ∈ wsX4_power := by decide +kernel
  have t71_2 : Cond.initialized "java/lang/IndexOutOfBoundsException" ∈ wsX4_power := by decide +kernel
  have t71_3 : ∀ w ∈ (vx_atS RX4 75 "java/lang/IndexOutOfBoundsException" E_nms).filter goodWord, w ∈ wsX4_power := by decide +kernel
  have t71_4 : ∀ w ∈ (vx_atS RX4 75 "java/lang/IndexOutOfBoundsException" E_nms).filter (fun w => !goodWord w), w ∈ mm_NG := by decide +kernel
  have t71_5 : ∀ w ∈ Cond.classLink RX4 71 "java/lang/IndexOutOfBoundsException" :: Cond.initialized "java/lang/IndexOutOfBoundsException" :: vx_atS RX4 75 "java/lang/IndexOutOfBoundsException" E_nms, vx_ot w = true := by decide +kernel
  refine mm_ofX (cc := cX4_power) (maxL := 2) (ret := some .long) (own := RX4) rfl hAD (by decide) rfl (Nat.le_of_ble_eq_true rfl) ?_
  intro pp ee ss mm bl mth cd C hX9 hT9 hret hlk9
  show mm_G _ _ _ _ _ _ _ _ _ _ _ _ _ _ _ _ _ _ M 0 [(0, .ref (ad 0)), (1, .int x)] []
  refine r_iload_n C dX4_power_0 rfl 1 rfl ?_
  refine r_callS1I C (kX4_isBearing hAD) (va_cwS 1 C.1.2.2.2.2 gX4_power_X4_isBearing rfl rfl rfl (by decide +kernel) ⟨Nat.le_of_ble_eq_true rfl, Nat.le_of_ble_eq_true rfl⟩) (Nat.le_of_ble_eq_true rfl) dX4_power_1 ⟨rfl, rfl⟩ ⟨Nat.zero_le _, Nat.zero_le _⟩ ?_
  refine r_if_ne (tgt := 17) C dX4_power_4 (by decide) (fun z4 => ?_) (fun z4 => ?_)
  · refine r_aload_n C dX4_power_17 rfl 0 rfl ?_
    refine r_callV0J C 4 (by decide) rfl (mm_ct4 ad q _) (kX4_layAll hAD (by exact hb)) (cwV 0 C.1.2.2.2.2 gX4_power_X4_layAll rfl rfl rfl (by decide +kernel) ⟨Nat.le_of_ble_eq_true rfl, Nat.le_of_ble_eq_true rfl⟩) (Nat.le_of_ble_eq_true rfl) dX4_power_18 ⟨rfl, rfl⟩ ⟨Nat.zero_le _, Nat.zero_le _⟩ ?_
    refine r_pop2_2 C dX4_power_21 rfl ?_
    refine r_aload_n C dX4_power_22 rfl 0 rfl ?_
    refine r_iload_n C dX4_power_23 rfl 1 rfl ?_
    refine r_callV1J C 4 (by decide) rfl (mm_ct4 ad q _) (kX4_powerBySums hAD) (cwV 1 C.1.2.2.2.2 gX4_power_X4_powerBySums rfl rfl rfl (by decide +kernel) ⟨Nat.le_of_ble_eq_true rfl, Nat.le_of_ble_eq_true rfl⟩) (Nat.le_of_ble_eq_true rfl) dX4_power_24 ⟨rfl, rfl⟩ ⟨Nat.zero_le _, Nat.zero_le _⟩ ?_
    exact r_xlret C hret hlk9 (Nat.zero_le _) (Nat.zero_le _) dX4_power_27 (by have e9 : mc_bek x = 0 := (by rw [mc_bek, if_neg z4]); exact ⟨e9, by rfl, by rfl⟩)
  · exact r_throw C hX9 hT9 hl0 (cls := "java/lang/IndexOutOfBoundsException") (ik := 71) (is := 87) (ic := 75) (by decide) (by decide) rfl t71_1 t71_2 (by decide) t71_3 t71_4 t71_5 dX4_power_7 dX4_power_10 dX4_power_11 dX4_power_13 dX4_power_16 (Nat.le_of_ble_eq_true rfl) (Nat.le_of_ble_eq_true rfl) (Nat.le_of_ble_eq_true rfl) (Nat.le_of_ble_eq_true rfl) hlk9 (Nat.le_of_ble_eq_true rfl) (Nat.le_of_ble_eq_true rfl) (by first | (have e9 : mc_bek x = 1 := (by rw [mc_bek, if_pos z4]); exact ⟨⟨e9, rfl⟩, rfl⟩))

abbrev rmX4_powerAnew : Room := { frames := 6, cells := 1, slots := 6, locals := 122 }
set_option maxHeartbeats 400000 in
set_option maxRecDepth 100000 in
theorem kX4_powerAnew {l : Launch} {D : va_G} {ad : Nat → Nat} {q : Nat → ClassId} {A : Nat → Prop} (hAD : mm_AD ad A) (hl0 : l.stackTraces = false) {M : mm_M} (hb : ∀ i : Nat, i < 8 → M.1 (10 + i) 4 &&& 1 = M.1 (10 + i) 4) {x : Int32} : mm_Kx l D ad q A yX4_powerAnew wsX4_powerAnew rmX4_powerAnew [.ref (ad 0), .int x] M (fun v' u => mc_bek x = 0 ∧ v' = some (.long (mc_ppO (mc_laM M 8) x 8)) ∧ u = mc_laM M 8) (fun E u => ((mc_bek x = 1 ∧ E = E_idx)) ∧ u = M) := by
  have t71_1 : Cond.classLink RX4 71 "java/lang/IndexOutOfBoundsException" ∈ wsX4_powerAnew := by decide +kernel
  have t71_2 : Cond.initialized "java/lang/IndexOutOfBoundsException" ∈ wsX4_powerAnew := by decide +kernel
  have t71_3 : ∀ w ∈ (vx_atS RX4 75 "java/lang/IndexOutOfBoundsException" E_nms).filter goodWord, w ∈ wsX4_powerAnew := by decide +kernel
  have t71_4 : ∀ w ∈ (vx_atS RX4 75 "java/lang/IndexOutOfBoundsException" E_nms).filter (fun w => !goodWord w), w ∈ mm_NG := by decide +kernel
  have t71_5 : ∀ w ∈ Cond.classLink RX4 71 "java/lang/IndexOutOfBoundsException" :: Cond.initialized "java/lang/IndexOutOfBoundsException" :: vx_atS RX4 75 "java/lang/IndexOutOfBoundsException" E_nms, vx_ot w = true := by decide +kernel
  refine mm_ofX (cc := cX4_powerAnew) (maxL := 2) (ret := some .long) (own := RX4) rfl hAD (by decide) rfl (Nat.le_of_ble_eq_true rfl) ?_
  intro pp ee ss mm bl mth cd C hX9 hT9 hret hlk9
  show mm_G _ _ _ _ _ _ _ _ _ _ _ _ _ _ _ _ _ _ M 0 [(0, .ref (ad 0)), (1, .int x)] []
  refine r_iload_n C dX4_powerAnew_0 rfl 1 rfl ?_
  refine r_callS1I C (kX4_isBearing hAD) (va_cwS 1 C.1.2.2.2.2 gX4_powerAnew_X4_isBearing rfl rfl rfl (by decide +kernel) ⟨Nat.le_of_ble_eq_true rfl, Nat.le_of_ble_eq_true rfl⟩) (Nat.le_of_ble_eq_true rfl) dX4_powerAnew_1 ⟨rfl, rfl⟩ ⟨Nat.zero_le _, Nat.zero_le _⟩ ?_
  refine r_if_ne (tgt := 17) C dX4_powerAnew_4 (by decide) (fun z4 => ?_) (fun z4 => ?_)
  · refine r_aload_n C dX4_powerAnew_17 rfl 0 rfl ?_
    refine r_callV0J C 4 (by decide) rfl (mm_ct4 ad q _) (kX4_layAll hAD (by exact hb)) (cwV 0 C.1.2.2.2.2 gX4_powerAnew_X4_layAll rfl rfl rfl (by decide +kernel) ⟨Nat.le_of_ble_eq_true rfl, Nat.le_of_ble_eq_true rfl⟩) (Nat.le_of_ble_eq_true rfl) dX4_powerAnew_18 ⟨rfl, rfl⟩ ⟨Nat.zero_le _, Nat.zero_le _⟩ ?_
    refine r_pop2_2 C dX4_powerAnew_21 rfl ?_
    refine r_aload_n C dX4_powerAnew_22 rfl 0 rfl ?_
    refine r_iload_n C dX4_powerAnew_23 rfl 1 rfl ?_
    refine r_callV1J C 4 (by decide) rfl (mm_ct4 ad q _) (kX4_powerByPairs hAD) (cwV 1 C.1.2.2.2.2 gX4_powerAnew_X4_powerByPairs rfl rfl rfl (by decide +kernel) ⟨Nat.le_of_ble_eq_true rfl, Nat.le_of_ble_eq_true rfl⟩) (Nat.le_of_ble_eq_true rfl) dX4_powerAnew_24 ⟨rfl, rfl⟩ ⟨Nat.zero_le _, Nat.zero_le _⟩ ?_
    exact r_xlret C hret hlk9 (Nat.zero_le _) (Nat.zero_le _) dX4_powerAnew_27 (by have e9 : mc_bek x = 0 := (by rw [mc_bek, if_neg z4]); exact ⟨e9, by rfl, by rfl⟩)
  · exact r_throw C hX9 hT9 hl0 (cls := "java/lang/IndexOutOfBoundsException") (ik := 71) (is := 87) (ic := 75) (by decide) (by decide) rfl t71_1 t71_2 (by decide) t71_3 t71_4 t71_5 dX4_powerAnew_7 dX4_powerAnew_10 dX4_powerAnew_11 dX4_powerAnew_13 dX4_powerAnew_16 (Nat.le_of_ble_eq_true rfl) (Nat.le_of_ble_eq_true rfl) (Nat.le_of_ble_eq_true rfl) (Nat.le_of_ble_eq_true rfl) hlk9 (Nat.le_of_ble_eq_true rfl) (Nat.le_of_ble_eq_true rfl) (by first | (have e9 : mc_bek x = 1 := (by rw [mc_bek, if_pos z4]); exact ⟨⟨e9, rfl⟩, rfl⟩))

def mc_pkN (M : mm_M) (g : Int64) (x : Int32) : Nat → Int32
  | 0 => 0
  | n + 1 => if mc_peak M (nI n) = 0 then mc_pkN M g x n else if lg_cmp (M.2 5 n * 100) (g * x.toInt64) < 0 then mc_pkN M g x n else mc_pkN M g x n + 1
abbrev rmX4_peaks : Room := { frames := 6, cells := 1, slots := 6, locals := 136 }
set_option maxHeartbeats 400000 in
set_option maxRecDepth 100000 in
theorem kX4_peaks {l : Launch} {D : va_G} {ad : Nat → Nat} {q : Nat → ClassId} {A : Nat → Prop} (hAD : mm_AD ad A) (hl0 : l.stackTraces = false) {M : mm_M} (hb : ∀ i : Nat, i < 8 → M.1 (10 + i) 4 &&& 1 = M.1 (10 + i) 4) {x : Int32} : mm_Kx l D ad q A yX4_peaks wsX4_peaks rmX4_peaks [.ref (ad 0), .int x] M (fun v' u => mc_hek x = 0 ∧ v' = some (.int (mc_pkN (mc_fpM (mc_laM M 8) 9) (mc_fpG (mc_laM M 8) 9) x 9)) ∧ u = mc_fpM (mc_laM M 8) 9) (fun E u => ((mc_hek x = 1 ∧ E = E_arg)) ∧ u = M) := by
  have inX4 : ∀ w ∈ wsX40, w ∈ wsX4_peaks := by decide +kernel
  have f32 : Cond.fieldLink RX4 32 "Beamrow" "powers" "[J" ∈ wsX4_peaks := by decide +kernel
  have n165 : Cond.constantLong RX4 165 (100) ∈ wsX4_peaks := by decide +kernel
  have t45_1 : Cond.classLink RX4 45 "java/lang/IllegalArgumentException" ∈ wsX4_peaks := by decide +kernel
  have t45_2 : Cond.initialized "java/lang/IllegalArgumentException" ∈ wsX4_peaks := by decide +kernel
  have t45_3 : ∀ w ∈ (vx_atS RX4 49 "java/lang/IllegalArgumentException" E_nms).filter goodWord, w ∈ wsX4_peaks := by decide +kernel
  have t45_4 : ∀ w ∈ (vx_atS RX4 49 "java/lang/IllegalArgumentException" E_nms).filter (fun w => !goodWord w), w ∈ mm_NG := by decide +kernel
  have t45_5 : ∀ w ∈ Cond.classLink RX4 45 "java/lang/IllegalArgumentException" :: Cond.initialized "java/lang/IllegalArgumentException" :: vx_atS RX4 49 "java/lang/IllegalArgumentException" E_nms, vx_ot w = true := by decide +kernel
  refine mm_ofX (cc := cX4_peaks) (maxL := 6) (ret := some .int) (own := RX4) rfl hAD (by decide) rfl (Nat.le_of_ble_eq_true rfl) ?_
  intro pp ee ss mm bl mth cd C hX9 hT9 hret hlk9
  show mm_G _ _ _ _ _ _ _ _ _ _ _ _ _ _ _ _ _ _ M 0 [(0, .ref (ad 0)), (1, .int x)] []
  refine r_iload_n C dX4_peaks_0 rfl 1 rfl ?_
  refine r_iconst (v := 1) C dX4_peaks_1 rfl ?_
  refine r_bipush (v := (100)) C dX4_peaks_2 rfl ?_
  refine r_callS3I C (kX4_isWithin hAD) (va_cwS 3 C.1.2.2.2.2 gX4_peaks_X4_isWithin rfl rfl rfl (by decide +kernel) ⟨Nat.le_of_ble_eq_true rfl, Nat.le_of_ble_eq_true rfl⟩) (Nat.le_of_ble_eq_true rfl) dX4_peaks_4 ⟨rfl, rfl⟩ ⟨Nat.zero_le _, Nat.zero_le _⟩ ?_
  refine r_if_ne (tgt := 20) C dX4_peaks_7 (by decide) (fun z7 => ?_) (fun z7 => ?_)
  · refine r_aload_n C dX4_peaks_20 rfl 0 rfl ?_
    refine r_callV0J C 4 (by decide) rfl (mm_ct4 ad q _) (kX4_layAll hAD (by exact hb)) (cwV 0 C.1.2.2.2.2 gX4_peaks_X4_layAll rfl rfl rfl (by decide +kernel) ⟨Nat.le_of_ble_eq_true rfl, Nat.le_of_ble_eq_true rfl⟩) (Nat.le_of_ble_eq_true rfl) dX4_peaks_21 ⟨rfl, rfl⟩ ⟨Nat.zero_le _, Nat.zero_le _⟩ ?_
    refine r_pop2_2 C dX4_peaks_24 rfl ?_
    refine r_aload_n C dX4_peaks_25 rfl 0 rfl ?_
    refine r_callV0J C 4 (by decide) rfl (mm_ct4 ad q _) (kX4_fillPowers hAD) (cwV 0 C.1.2.2.2.2 gX4_peaks_X4_fillPowers rfl rfl rfl (by decide +kernel) ⟨Nat.le_of_ble_eq_true rfl, Nat.le_of_ble_eq_true rfl⟩) (Nat.le_of_ble_eq_true rfl) dX4_peaks_26 ⟨rfl, rfl⟩ ⟨Nat.zero_le _, Nat.zero_le _⟩ ?_
    refine r_topl (fun v2_29 ev2_29 => ?_)
    refine r_lstore_n (lv' := [(2, .long v2_29), (0, .ref (ad 0)), (1, .int x)]) C dX4_peaks_29 rfl (by decide) rfl ?_
    refine r_iconst (v := 0) C dX4_peaks_30 rfl ?_
    refine r_istore (lv' := [(4, .int 0), (2, .long v2_29), (0, .ref (ad 0)), (1, .int x)]) C dX4_peaks_31 (by decide) rfl ?_
    refine r_iconst (v := 0) C dX4_peaks_33 rfl ?_
    refine r_istore (lv' := [(5, .int 0), (4, .int 0), (2, .long v2_29), (0, .ref (ad 0)), (1, .int x)]) C dX4_peaks_34 (by decide) rfl ?_
    have L36 : ∀ (k9 : Nat) (n : Nat) (hn : n ≤ 9), 9 - n < k9 → mm_G pp l ee rmX4_peaks ss mm ([.ref (ad 0), .int x] : List Value).toArray bl mth cd 0 0 (vx_MQ bl (mm_Q D ad q A (fun v' u => mc_hek x = 0 ∧ v' = some (.int (mc_pkN (mc_fpM (mc_laM M 8) 9) (mc_fpG (mc_laM M 8) 9) x 9)) ∧ u = mc_fpM (mc_laM M 8) 9)) (mm_X D ad q A (fun E u => ((mc_hek x = 1 ∧ E = E_arg)) ∧ u = M)) ([.ref (ad 0), .int x] : List Value).toArray ss rmX4_peaks.cells rmX4_peaks.slots A) 6 D ad q A (mc_fpM (mc_laM M 8) 9) 36 [(5, .int (nI n)), (4, .int (mc_pkN (mc_fpM (mc_laM M 8) 9) (mc_fpG (mc_laM M 8) 9) x n)), (2, .long v2_29), (0, .ref (ad 0)), (1, .int x)] [] := by
      intro k9
      induction k9 with
      | zero => intro n hn h9; exact absurd h9 (Nat.not_lt_zero _)
      | succ k9 ih36 =>
        intro n hn h9
        refine r_iload C dX4_peaks_36 0 rfl ?_
        refine r_aload_n C dX4_peaks_38 rfl 3 rfl ?_
        refine r_get4 C inX4 4 (by decide) rfl f32 rfl dX4_peaks_39 ?_
        refine r_alenJ C mm_aJ_5 dX4_peaks_42 ?_
        refine r_icmp_ge (tgt := 83) C dX4_peaks_43 (by decide) (fun z43 => ?_) (fun z43 => ?_)
        · obtain rfl : n = 9 := nm_ge hn (by decide) z43
          refine r_iload C dX4_peaks_83 1 rfl ?_
          exact r_xiret C hret hlk9 (Nat.zero_le _) (Nat.zero_le _) dX4_peaks_85 (by have e9 : mc_hek x = 0 := (by rw [mc_hek, if_neg z7]); exact ⟨e9, by rfl, by rfl⟩)
        · have hlt : n < 9 := nm_lt (by omega) (by decide) z43
          refine r_aload_n C dX4_peaks_46 rfl 3 rfl ?_
          refine r_iload C dX4_peaks_47 0 rfl ?_
          refine r_callV1I C 4 (by decide) rfl (mm_ct4 ad q _) (kX4_isPeak hAD) (cwV 1 C.1.2.2.2.2 gX4_peaks_X4_isPeak rfl rfl rfl (by decide +kernel) ⟨Nat.le_of_ble_eq_true rfl, Nat.le_of_ble_eq_true rfl⟩) (Nat.le_of_ble_eq_true rfl) dX4_peaks_49 ⟨rfl, rfl⟩ ⟨Nat.zero_le _, Nat.zero_le _⟩ ?_
          refine r_if_eq (tgt := 77) C dX4_peaks_52 (by decide) (fun z52 => ?_) (fun z52 => ?_)
          · obtain ⟨v5_77, ev5_77⟩ : ∃ y9 : Int32, y9 = (nI n) + 1 := ⟨_, rfl⟩
            refine r_iinc (v := v5_77) (lv' := [(5, .int v5_77), (4, .int (mc_pkN (mc_fpM (mc_laM M 8) 9) (mc_fpG (mc_laM M 8) 9) x n)), (2, .long v2_29), (0, .ref (ad 0)), (1, .int x)]) C dX4_peaks_77 0 rfl (by rw [ev5_77]; rfl) (by decide) rfl ?_
            refine r_goto (tgt := 36) C dX4_peaks_80 (by decide) ?_
            refine r_cast (M' := mc_fpM (mc_laM M 8) 9) (lv' := [(5, .int (nI (n + 1))), (4, .int (mc_pkN (mc_fpM (mc_laM M 8) 9) (mc_fpG (mc_laM M 8) 9) x (n + 1))), (2, .long v2_29), (0, .ref (ad 0)), (1, .int x)]) (st' := []) rfl (by rw [ev5_77, nI_1, mc_pkN]; first | (rw [if_pos z52]; done) | (rw [if_neg z52, if_pos (by rw [← ev2_29]; exact z71)]; done) | rw [if_neg z52, if_neg (by rw [← ev2_29]; exact z71), ev4_74]) rfl (ih36 (n + 1) (by omega) (by omega))
          · refine r_aload_n C dX4_peaks_55 rfl 3 rfl ?_
            refine r_get4 C inX4 4 (by decide) rfl f32 rfl dX4_peaks_56 ?_
            refine r_iload C dX4_peaks_59 0 rfl ?_
            refine r_lald C mm_aJ_5 (n) (nI_toInt (by omega)) (hlt) dX4_peaks_61 ?_
            refine r_ldc2 C n165 dX4_peaks_62 ?_
            refine r_lmul C dX4_peaks_65 ?_
            refine r_lload_n C dX4_peaks_66 rfl 2 rfl ?_
            refine r_iload_n C dX4_peaks_67 rfl 4 rfl ?_
            refine r_i2l C dX4_peaks_68 ?_
            refine r_lmul C dX4_peaks_69 ?_
            refine r_lcmp C dX4_peaks_70 ?_
            refine r_if_lt (tgt := 77) C dX4_peaks_71 (by decide) (fun z71 => ?_) (fun z71 => ?_)
            · obtain ⟨v5_77, ev5_77⟩ : ∃ y9 : Int32, y9 = (nI n) + 1 := ⟨_, rfl⟩
              refine r_iinc (v := v5_77) (lv' := [(5, .int v5_77), (4, .int (mc_pkN (mc_fpM (mc_laM M 8) 9) (mc_fpG (mc_laM M 8) 9) x n)), (2, .long v2_29), (0, .ref (ad 0)), (1, .int x)]) C dX4_peaks_77 0 rfl (by rw [ev5_77]; rfl) (by decide) rfl ?_
              refine r_goto (tgt := 36) C dX4_peaks_80 (by decide) ?_
              refine r_cast (M' := mc_fpM (mc_laM M 8) 9) (lv' := [(5, .int (nI (n + 1))), (4, .int (mc_pkN (mc_fpM (mc_laM M 8) 9) (mc_fpG (mc_laM M 8) 9) x (n + 1))), (2, .long v2_29), (0, .ref (ad 0)), (1, .int x)]) (st' := []) rfl (by rw [ev5_77, nI_1, mc_pkN]; first | (rw [if_pos z52]; done) | (rw [if_neg z52, if_pos (by rw [← ev2_29]; exact z71)]; done) | rw [if_neg z52, if_neg (by rw [← ev2_29]; exact z71), ev4_74]) rfl (ih36 (n + 1) (by omega) (by omega))
            · obtain ⟨v4_74, ev4_74⟩ : ∃ y9 : Int32, y9 = (mc_pkN (mc_fpM (mc_laM M 8) 9) (mc_fpG (mc_laM M 8) 9) x n) + 1 := ⟨_, rfl⟩
              refine r_iinc (v := v4_74) (lv' := [(4, .int v4_74), (5, .int (nI n)), (2, .long v2_29), (0, .ref (ad 0)), (1, .int x)]) C dX4_peaks_74 1 rfl (by rw [ev4_74]; rfl) (by decide) rfl ?_
              obtain ⟨v5_77, ev5_77⟩ : ∃ y9 : Int32, y9 = (nI n) + 1 := ⟨_, rfl⟩
              refine r_iinc (v := v5_77) (lv' := [(5, .int v5_77), (4, .int v4_74), (2, .long v2_29), (0, .ref (ad 0)), (1, .int x)]) C dX4_peaks_77 1 rfl (by rw [ev5_77]; rfl) (by decide) rfl ?_
              refine r_goto (tgt := 36) C dX4_peaks_80 (by decide) ?_
              refine r_cast (M' := mc_fpM (mc_laM M 8) 9) (lv' := [(5, .int (nI (n + 1))), (4, .int (mc_pkN (mc_fpM (mc_laM M 8) 9) (mc_fpG (mc_laM M 8) 9) x (n + 1))), (2, .long v2_29), (0, .ref (ad 0)), (1, .int x)]) (st' := []) rfl (by rw [ev5_77, nI_1, mc_pkN]; first | (rw [if_pos z52]; done) | (rw [if_neg z52, if_pos (by rw [← ev2_29]; exact z71)]; done) | rw [if_neg z52, if_neg (by rw [← ev2_29]; exact z71), ev4_74]) rfl (ih36 (n + 1) (by omega) (by omega))
    refine r_cast (M' := mc_fpM (mc_laM M 8) 9) (lv' := [(5, .int (nI 0)), (4, .int (mc_pkN (mc_fpM (mc_laM M 8) 9) (mc_fpG (mc_laM M 8) 9) x 0)), (2, .long v2_29), (0, .ref (ad 0)), (1, .int x)]) (st' := []) rfl rfl rfl (L36 (9 - 0 + 1) 0 (by omega) (by omega))
  · exact r_throw C hX9 hT9 hl0 (cls := "java/lang/IllegalArgumentException") (ik := 45) (is := 157) (ic := 49) (by decide) (by decide) rfl t45_1 t45_2 (by decide) t45_3 t45_4 t45_5 dX4_peaks_10 dX4_peaks_13 dX4_peaks_14 dX4_peaks_16 dX4_peaks_19 (Nat.le_of_ble_eq_true rfl) (Nat.le_of_ble_eq_true rfl) (Nat.le_of_ble_eq_true rfl) (Nat.le_of_ble_eq_true rfl) hlk9 (Nat.le_of_ble_eq_true rfl) (Nat.le_of_ble_eq_true rfl) (by first | (have e9 : mc_hek x = 1 := (by rw [mc_hek, if_pos z7]); exact ⟨⟨e9, rfl⟩, rfl⟩))

def mc_fok (x : Int32) : Int32 := if nm_in x 0 5 = 0 then 1 else 0
def mc_fd (y : Int64) : Nat → mm_M → Int32 → Int32 × mm_M
  | 0, M, b => (b, M)
  | r + 1, M, b => if b = -99 then (b, M) else mc_fd y r (mc_fpM (mc_takeAll M b y) 9) (mc_strong (mc_takeAll M b y))
abbrev rmX4_found : Room := { frames := 7, cells := 1, slots := 6, locals := 159 }
set_option maxHeartbeats 400000 in
set_option maxRecDepth 100000 in
theorem kX4_found {l : Launch} {D : va_G} {ad : Nat → Nat} {q : Nat → ClassId} {A : Nat → Prop} (hAD : mm_AD ad A) (hl0 : l.stackTraces = false) {M : mm_M} (hb : ∀ i : Nat, i < 8 → M.1 (10 + i) 4 &&& 1 = M.1 (10 + i) 4) {x : Int32} : mm_Kx l D ad q A yX4_found wsX4_found rmX4_found [.ref (ad 0), .int x] M (fun v' u => mc_fok x = 0 ∧ v' = some (.int (mc_fd (mc_laA M 8) x.toInt.toNat (mc_fpM (mc_laM M 8) 9) (mc_strong (mc_laM M 8))).1) ∧ u = (mc_fd (mc_laA M 8) x.toInt.toNat (mc_fpM (mc_laM M 8) 9) (mc_strong (mc_laM M 8))).2) (fun E u => ((mc_fok x = 1 ∧ E = E_idx)) ∧ u = M) := by
  have t71_1 : Cond.classLink RX4 71 "java/lang/IndexOutOfBoundsException" ∈ wsX4_found := by decide +kernel
  have t71_2 : Cond.initialized "java/lang/IndexOutOfBoundsException" ∈ wsX4_found := by decide +kernel
  have t71_3 : ∀ w ∈ (vx_atS RX4 75 "java/lang/IndexOutOfBoundsException" E_nms).filter goodWord, w ∈ wsX4_found := by decide +kernel
  have t71_4 : ∀ w ∈ (vx_atS RX4 75 "java/lang/IndexOutOfBoundsException" E_nms).filter (fun w => !goodWord w), w ∈ mm_NG := by decide +kernel
  have t71_5 : ∀ w ∈ Cond.classLink RX4 71 "java/lang/IndexOutOfBoundsException" :: Cond.initialized "java/lang/IndexOutOfBoundsException" :: vx_atS RX4 75 "java/lang/IndexOutOfBoundsException" E_nms, vx_ot w = true := by decide +kernel
  refine mm_ofX (cc := cX4_found) (maxL := 6) (ret := some .int) (own := RX4) rfl hAD (by decide) rfl (Nat.le_of_ble_eq_true rfl) ?_
  intro pp ee ss mm bl mth cd C hX9 hT9 hret hlk9
  show mm_G _ _ _ _ _ _ _ _ _ _ _ _ _ _ _ _ _ _ M 0 [(0, .ref (ad 0)), (1, .int x)] []
  refine r_iload_n C dX4_found_0 rfl 1 rfl ?_
  refine r_iconst (v := 0) C dX4_found_1 rfl ?_
  refine r_iconst (v := 5) C dX4_found_2 rfl ?_
  refine r_callS3I C (kX4_isWithin hAD) (va_cwS 3 C.1.2.2.2.2 gX4_found_X4_isWithin rfl rfl rfl (by decide +kernel) ⟨Nat.le_of_ble_eq_true rfl, Nat.le_of_ble_eq_true rfl⟩) (Nat.le_of_ble_eq_true rfl) dX4_found_3 ⟨rfl, rfl⟩ ⟨Nat.zero_le _, Nat.zero_le _⟩ ?_
  refine r_if_ne (tgt := 19) C dX4_found_6 (by decide) (fun z6 => ?_) (fun z6 => ?_)
  · obtain ⟨T, hT⟩ : ∃ T : Nat, T = x.toInt.toNat := ⟨_, rfl⟩
    have hT1 : x = nI T := by rw [hT]; exact nm_toN (by have := (nm_inT z6).1; have e : (0 : Int32).toInt = 0 := rfl; omega)
    have hT2 : T ≤ 5 := by have := (nm_inT z6).2; have e : (5 : Int32).toInt = 5 := rfl; omega
    refine r_aload_n C dX4_found_19 rfl 0 rfl ?_
    refine r_callV0J C 4 (by decide) rfl (mm_ct4 ad q _) (kX4_layAll hAD (by exact hb)) (cwV 0 C.1.2.2.2.2 gX4_found_X4_layAll rfl rfl rfl (by decide +kernel) ⟨Nat.le_of_ble_eq_true rfl, Nat.le_of_ble_eq_true rfl⟩) (Nat.le_of_ble_eq_true rfl) dX4_found_20 ⟨rfl, rfl⟩ ⟨Nat.zero_le _, Nat.zero_le _⟩ ?_
    refine r_topl (fun v2_23 ev2_23 => ?_)
    refine r_lstore_n (lv' := [(2, .long v2_23), (0, .ref (ad 0)), (1, .int x)]) C dX4_found_23 rfl (by decide) rfl ?_
    refine r_aload_n C dX4_found_24 rfl 1 rfl ?_
    refine r_callV0I C 4 (by decide) rfl (mm_ct4 ad q _) (kX4_strongest hAD) (cwV 0 C.1.2.2.2.2 gX4_found_X4_strongest rfl rfl rfl (by decide +kernel) ⟨Nat.le_of_ble_eq_true rfl, Nat.le_of_ble_eq_true rfl⟩) (Nat.le_of_ble_eq_true rfl) dX4_found_25 ⟨rfl, rfl⟩ ⟨Nat.zero_le _, Nat.zero_le _⟩ ?_
    refine r_topi (fun v4_28 ev4_28 => ?_)
    refine r_istore (lv' := [(4, .int v4_28), (2, .long v2_23), (0, .ref (ad 0)), (1, .int x)]) C dX4_found_28 (by decide) rfl ?_
    refine r_iconst (v := 0) C dX4_found_30 rfl ?_
    refine r_istore (lv' := [(5, .int 0), (4, .int v4_28), (2, .long v2_23), (0, .ref (ad 0)), (1, .int x)]) C dX4_found_31 (by decide) rfl ?_
    have L33 : ∀ (k9 : Nat) (n : Nat) (M1 : mm_M) (b9 : Int32) (hn : n ≤ T) (hfd : mc_fd v2_23 T (mc_fpM (mc_laM M 8) 9) (mc_strong (mc_laM M 8)) = mc_fd v2_23 (T - n) M1 b9), T - n < k9 → mm_G pp l ee rmX4_found ss mm ([.ref (ad 0), .int x] : List Value).toArray bl mth cd 0 0 (vx_MQ bl (mm_Q D ad q A (fun v' u => mc_fok x = 0 ∧ v' = some (.int (mc_fd (mc_laA M 8) x.toInt.toNat (mc_fpM (mc_laM M 8) 9) (mc_strong (mc_laM M 8))).1) ∧ u = (mc_fd (mc_laA M 8) x.toInt.toNat (mc_fpM (mc_laM M 8) 9) (mc_strong (mc_laM M 8))).2)) (mm_X D ad q A (fun E u => ((mc_fok x = 1 ∧ E = E_idx)) ∧ u = M)) ([.ref (ad 0), .int x] : List Value).toArray ss rmX4_found.cells rmX4_found.slots A) 6 D ad q A (M1) 33 [(5, .int (nI n)), (4, .int b9), (2, .long v2_23), (0, .ref (ad 0)), (1, .int x)] [] := by
      intro k9
      induction k9 with
      | zero => intro n M1 b9 hn hfd h9; exact absurd h9 (Nat.not_lt_zero _)
      | succ k9 ih33 =>
        intro n M1 b9 hn hfd h9
        refine r_iload C dX4_found_33 0 rfl ?_
        refine r_iload_n C dX4_found_35 rfl 4 rfl ?_
        refine r_icmp_ge (tgt := 65) C dX4_found_36 (by decide) (fun z36 => ?_) (fun z36 => ?_)
        · rw [hT1] at z36
          have hnT : n = T := nm_ge hn (by omega) z36
          refine r_iload C dX4_found_65 1 rfl ?_
          exact r_xiret C hret hlk9 (Nat.zero_le _) (Nat.zero_le _) dX4_found_67 (by have e9 : mc_fok x = 0 := (by rw [mc_fok, if_neg z6]); have e8 : mc_fd v2_23 T (mc_fpM (mc_laM M 8) 9) (mc_strong (mc_laM M 8)) = (b9, M1) := (by rw [hfd]; first | rw [hnT, Nat.sub_self, mc_fd] | (rw [show T - n = (T - (n + 1)) + 1 from by omega, mc_fd, if_pos z43])); exact ⟨e9, by rw [← hT, ← ev2_23, e8], by rw [← hT, ← ev2_23, e8]⟩)
        · rw [hT1] at z36
          have hlt : n < T := nm_lt (by omega) (by omega) z36
          refine r_iload C dX4_found_39 1 rfl ?_
          refine r_bipush (v := (-99)) C dX4_found_41 rfl ?_
          refine r_icmp_eq (tgt := 65) C dX4_found_43 (by decide) (fun z43 => ?_) (fun z43 => ?_)
          · refine r_iload C dX4_found_65 1 rfl ?_
            exact r_xiret C hret hlk9 (Nat.zero_le _) (Nat.zero_le _) dX4_found_67 (by have e9 : mc_fok x = 0 := (by rw [mc_fok, if_neg z6]); have e8 : mc_fd v2_23 T (mc_fpM (mc_laM M 8) 9) (mc_strong (mc_laM M 8)) = (b9, M1) := (by rw [hfd]; first | rw [hnT, Nat.sub_self, mc_fd] | (rw [show T - n = (T - (n + 1)) + 1 from by omega, mc_fd, if_pos z43])); exact ⟨e9, by rw [← hT, ← ev2_23, e8], by rw [← hT, ← ev2_23, e8]⟩)
          · refine r_aload_n C dX4_found_46 rfl 3 rfl ?_
            refine r_iload C dX4_found_47 1 rfl ?_
            refine r_lload_n C dX4_found_49 rfl 2 rfl ?_
            refine r_callV2V C 4 (by decide) rfl (mm_ct4 ad q _) (kX4_takeAway hAD) (cwV 2 C.1.2.2.2.2 gX4_found_X4_takeAway rfl rfl rfl (by decide +kernel) ⟨Nat.le_of_ble_eq_true rfl, Nat.le_of_ble_eq_true rfl⟩) (Nat.le_of_ble_eq_true rfl) dX4_found_50 ⟨rfl, rfl⟩ ⟨Nat.zero_le _, Nat.zero_le _⟩ ?_
            refine r_aload_n C dX4_found_53 rfl 3 rfl ?_
            refine r_callV0I C 4 (by decide) rfl (mm_ct4 ad q _) (kX4_strongest hAD) (cwV 0 C.1.2.2.2.2 gX4_found_X4_strongest rfl rfl rfl (by decide +kernel) ⟨Nat.le_of_ble_eq_true rfl, Nat.le_of_ble_eq_true rfl⟩) (Nat.le_of_ble_eq_true rfl) dX4_found_54 ⟨rfl, rfl⟩ ⟨Nat.zero_le _, Nat.zero_le _⟩ ?_
            refine r_topi (fun v4_57 ev4_57 => ?_)
            refine r_istore (lv' := [(4, .int v4_57), (5, .int (nI n)), (2, .long v2_23), (0, .ref (ad 0)), (1, .int x)]) C dX4_found_57 (by decide) rfl ?_
            obtain ⟨v5_59, ev5_59⟩ : ∃ y9 : Int32, y9 = (nI n) + 1 := ⟨_, rfl⟩
            refine r_iinc (v := v5_59) (lv' := [(5, .int v5_59), (4, .int v4_57), (2, .long v2_23), (0, .ref (ad 0)), (1, .int x)]) C dX4_found_59 1 rfl (by rw [ev5_59]; rfl) (by decide) rfl ?_
            refine r_goto (tgt := 33) C dX4_found_62 (by decide) ?_
            refine r_cast (M' := (mc_fpM (mc_takeAll M1 b9 v2_23) 9)) (lv' := [(5, .int (nI (n + 1))), (4, .int (mc_strong (mc_takeAll M1 b9 v2_23))), (2, .long v2_23), (0, .ref (ad 0)), (1, .int x)]) (st' := []) rfl (by rw [ev5_59, nI_1, ev4_57]) rfl (ih33 (n + 1) (mc_fpM (mc_takeAll M1 b9 v2_23) 9) (mc_strong (mc_takeAll M1 b9 v2_23)) (by omega) (by rw [hfd, show T - n = (T - (n + 1)) + 1 from by omega, mc_fd, if_neg z43]) (by omega))
    refine r_cast (M' := (mc_fpM (mc_laM M 8) 9)) (lv' := [(5, .int (nI 0)), (4, .int (mc_strong (mc_laM M 8))), (2, .long v2_23), (0, .ref (ad 0)), (1, .int x)]) (st' := []) rfl (by rw [ev4_28]; rfl) rfl (L33 (T - 0 + 1) 0 (mc_fpM (mc_laM M 8) 9) (mc_strong (mc_laM M 8)) (Nat.zero_le _) (rfl) (by omega))
  · exact r_throw C hX9 hT9 hl0 (cls := "java/lang/IndexOutOfBoundsException") (ik := 71) (is := 167) (ic := 75) (by decide) (by decide) rfl t71_1 t71_2 (by decide) t71_3 t71_4 t71_5 dX4_found_9 dX4_found_12 dX4_found_13 dX4_found_15 dX4_found_18 (Nat.le_of_ble_eq_true rfl) (Nat.le_of_ble_eq_true rfl) (Nat.le_of_ble_eq_true rfl) (Nat.le_of_ble_eq_true rfl) hlk9 (Nat.le_of_ble_eq_true rfl) (Nat.le_of_ble_eq_true rfl) (by first | (have e9 : mc_fok x = 1 := (by rw [mc_fok, if_pos z6]); exact ⟨⟨e9, rfl⟩, rfl⟩))

def mc_lowI (M : mm_M) : Nat → Nat → Nat
  | 0, k => k
  | r + 1, k => if M.1 (10 + k) 4 = 0 then mc_lowI M r (k + 1) else k
theorem mc_low_c (ad : Nat → Nat) (M : mm_M) : ∀ r k, k + r ≤ 8 → (mc_lowV ad M r k = .null ∧ mc_lowI M r k = k + r) ∨ (mc_lowV ad M r k = .ref (ad (10 + mc_lowI M r k)) ∧ mc_lowI M r k < k + r)
  | 0, k, _ => Or.inl ⟨rfl, rfl⟩
  | r + 1, k, h => by
    by_cases z : M.1 (10 + k) 4 = 0
    · have e1 : mc_lowV ad M (r + 1) k = mc_lowV ad M r (k + 1) := if_pos z
      have e2 : mc_lowI M (r + 1) k = mc_lowI M r (k + 1) := if_pos z
      rw [e1, e2]
      rcases mc_low_c ad M r (k + 1) (by omega) with h1 | h1
      · exact Or.inl ⟨h1.1, by rw [h1.2]; omega⟩
      · exact Or.inr ⟨h1.1, by have := h1.2; omega⟩
    · have e1 : mc_lowV ad M (r + 1) k = .ref (ad (10 + k)) := if_neg z
      have e2 : mc_lowI M (r + 1) k = k := if_neg z
      rw [e1, e2]
      exact Or.inr ⟨rfl, by omega⟩
def mc_sq (M : mm_M) (x : Int32) : Int64 := mc_agN (mc_laM M 8) (mc_lowI M 8 0) (mc_lowI M 8 0) x 0 32
def mc_cak (M : mm_M) (x : Int32) : Int32 := if nm_in x (-4) 4 = 0 then 1 else if mc_lowI M 8 0 = 8 then 2 else if 0 < lg_cmp (mc_sq M x) 0 then 0 else 2
theorem mc_low_null {l : Launch} {D : va_G} {ad : Nat → Nat} {q : Nat → ClassId} {A : Nat → Prop} (hAD : mm_AD ad A) {M : mm_M} (hb : ∀ i : Nat, i < 8 → M.1 (10 + i) 4 &&& 1 = M.1 (10 + i) 4) (h : mc_lowV ad M 8 0 = .null) : mm_Kd l D ad q A yX4_lowestLiving wsX4_lowestLiving rmX4_lowestLiving [.ref (ad 0)] M (some .null) M := by have := kX4_lowestLiving (l := l) (D := D) (q := q) hAD hb; rw [h] at this; exact this
theorem mc_low_some {l : Launch} {D : va_G} {ad : Nat → Nat} {q : Nat → ClassId} {A : Nat → Prop} (hAD : mm_AD ad A) {M : mm_M} {k : Nat} (hb : ∀ i : Nat, i < 8 → M.1 (10 + i) 4 &&& 1 = M.1 (10 + i) 4) (h : mc_lowV ad M 8 0 = .ref (ad (10 + k))) : mm_Kd l D ad q A yX4_lowestLiving wsX4_lowestLiving rmX4_lowestLiving [.ref (ad 0)] M (some (.ref (ad (10 + k)))) M := by have := kX4_lowestLiving (l := l) (D := D) (q := q) hAD hb; rw [h] at this; exact this
abbrev rmX4_calibrate : Room := { frames := 6, cells := 1, slots := 6, locals := 130 }
set_option maxHeartbeats 400000 in
set_option maxRecDepth 100000 in
theorem kX4_calibrate {l : Launch} {D : va_G} {ad : Nat → Nat} {q : Nat → ClassId} {A : Nat → Prop} (hAD : mm_AD ad A) (hl0 : l.stackTraces = false) {M : mm_M} (hb : ∀ i : Nat, i < 8 → M.1 (10 + i) 4 &&& 1 = M.1 (10 + i) 4) {x : Int32} : mm_Kx l D ad q A yX4_calibrate wsX4_calibrate rmX4_calibrate [.ref (ad 0), .int x] M (fun v' u => mc_cak M x = 0 ∧ v' = some (.int (mc_hoV (mc_laM M 8) (mc_lowI M 8 0) (mc_sq M x) x 8)) ∧ u = mc_hoM (mc_laM M 8) (mc_lowI M 8 0) (mc_sq M x) x 8) (fun E u => ((mc_cak M x = 1 ∧ E = E_idx) ∨ (mc_cak M x = 2 ∧ E = E_sta)) ∧ u = (if nm_in x (-4) 4 = 0 then M else if mc_lowI M 8 0 = 8 then M else mc_laM M 8)) := by
  have t55_1 : Cond.classLink RX4 55 "java/lang/IllegalStateException" ∈ wsX4_calibrate := by decide +kernel
  have t55_2 : Cond.initialized "java/lang/IllegalStateException" ∈ wsX4_calibrate := by decide +kernel
  have t55_3 : ∀ w ∈ (vx_atS RX4 59 "java/lang/IllegalStateException" E_nms).filter goodWord, w ∈ wsX4_calibrate := by decide +kernel
  have t55_4 : ∀ w ∈ (vx_atS RX4 59 "java/lang/IllegalStateException" E_nms).filter (fun w => !goodWord w), w ∈ mm_NG := by decide +kernel
  have t55_5 : ∀ w ∈ Cond.classLink RX4 55 "java/lang/IllegalStateException" :: Cond.initialized "java/lang/IllegalStateException" :: vx_atS RX4 59 "java/lang/IllegalStateException" E_nms, vx_ot w = true := by decide +kernel
  have t71_1 : Cond.classLink RX4 71 "java/lang/IndexOutOfBoundsException" ∈ wsX4_calibrate := by decide +kernel
  have t71_2 : Cond.initialized "java/lang/IndexOutOfBoundsException" ∈ wsX4_calibrate := by decide +kernel
  have t71_3 : ∀ w ∈ (vx_atS RX4 75 "java/lang/IndexOutOfBoundsException" E_nms).filter goodWord, w ∈ wsX4_calibrate := by decide +kernel
  have t71_4 : ∀ w ∈ (vx_atS RX4 75 "java/lang/IndexOutOfBoundsException" E_nms).filter (fun w => !goodWord w), w ∈ mm_NG := by decide +kernel
  have t71_5 : ∀ w ∈ Cond.classLink RX4 71 "java/lang/IndexOutOfBoundsException" :: Cond.initialized "java/lang/IndexOutOfBoundsException" :: vx_atS RX4 75 "java/lang/IndexOutOfBoundsException" E_nms, vx_ot w = true := by decide +kernel
  refine mm_ofX (cc := cX4_calibrate) (maxL := 5) (ret := some .int) (own := RX4) rfl hAD (by decide) rfl (Nat.le_of_ble_eq_true rfl) ?_
  intro pp ee ss mm bl mth cd C hX9 hT9 hret hlk9
  show mm_G _ _ _ _ _ _ _ _ _ _ _ _ _ _ _ _ _ _ M 0 [(0, .ref (ad 0)), (1, .int x)] []
  refine r_iload_n C dX4_calibrate_0 rfl 1 rfl ?_
  refine r_callS1I C (kX4_isBearing hAD) (va_cwS 1 C.1.2.2.2.2 gX4_calibrate_X4_isBearing rfl rfl rfl (by decide +kernel) ⟨Nat.le_of_ble_eq_true rfl, Nat.le_of_ble_eq_true rfl⟩) (Nat.le_of_ble_eq_true rfl) dX4_calibrate_1 ⟨rfl, rfl⟩ ⟨Nat.zero_le _, Nat.zero_le _⟩ ?_
  refine r_if_ne (tgt := 17) C dX4_calibrate_4 (by decide) (fun z4 => ?_) (fun z4 => ?_)
  · refine r_aload_n C dX4_calibrate_17 rfl 0 rfl ?_
    obtain ⟨k, ek⟩ : ∃ k : Nat, k = mc_lowI M 8 0 := ⟨_, rfl⟩; rcases mc_low_c ad M 8 0 (by decide) with ⟨h0, h1⟩ | ⟨h0, h1⟩
    · refine r_callV0N C 4 (by decide) rfl (mm_ct4 ad q _) (mc_low_null hAD hb h0) (cwV 0 C.1.2.2.2.2 gX4_calibrate_X4_lowestLiving rfl rfl rfl (by decide +kernel) ⟨Nat.le_of_ble_eq_true rfl, Nat.le_of_ble_eq_true rfl⟩) (Nat.le_of_ble_eq_true rfl) dX4_calibrate_18 ⟨rfl, rfl⟩ ⟨Nat.zero_le _, Nat.zero_le _⟩ ?_
      refine r_astoreN_n (lv' := [(2, .null), (0, .ref (ad 0)), (1, .int x)]) C dX4_calibrate_21 rfl (by decide) rfl ?_
      refine r_aloadN_n C dX4_calibrate_22 rfl 0 rfl ?_
      refine r_ifnonnullN C dX4_calibrate_23 ?_
      exact r_throw C hX9 hT9 hl0 (cls := "java/lang/IllegalStateException") (ik := 55) (is := 122) (ic := 59) (by decide) (by decide) rfl t55_1 t55_2 (by decide) t55_3 t55_4 t55_5 dX4_calibrate_26 dX4_calibrate_29 dX4_calibrate_30 dX4_calibrate_32 dX4_calibrate_35 (Nat.le_of_ble_eq_true rfl) (Nat.le_of_ble_eq_true rfl) (Nat.le_of_ble_eq_true rfl) (Nat.le_of_ble_eq_true rfl) hlk9 (Nat.le_of_ble_eq_true rfl) (Nat.le_of_ble_eq_true rfl) (by have e9 : mc_cak M x = 2 := (by rw [mc_cak, if_neg z4, if_pos (by omega)]); exact ⟨Or.inr ⟨e9, rfl⟩, by rw [if_neg z4, if_pos (by omega)]⟩)
    · have hk : k < 8 := by omega
      rw [← ek] at h0
      refine r_callV0R C 4 (by decide) rfl (mm_ct4 ad q _) (mc_low_some hAD hb h0) (cwV 0 C.1.2.2.2.2 gX4_calibrate_X4_lowestLiving rfl rfl rfl (by decide +kernel) ⟨Nat.le_of_ble_eq_true rfl, Nat.le_of_ble_eq_true rfl⟩) (Nat.le_of_ble_eq_true rfl) dX4_calibrate_18 ⟨rfl, rfl⟩ ⟨Nat.zero_le _, Nat.zero_le _⟩ ?_
      refine r_astore_n (lv' := [(2, .ref (ad (10 + k))), (0, .ref (ad 0)), (1, .int x)]) C dX4_calibrate_21 rfl (by decide) rfl ?_
      refine r_aload_n C dX4_calibrate_22 rfl 0 rfl ?_
      refine r_ifnonnull (tgt := 36) C dX4_calibrate_23 (by decide) ?_
      refine r_aload_n C dX4_calibrate_36 rfl 1 rfl ?_
      refine r_callV0J C 4 (by decide) rfl (mm_ct4 ad q _) (kX4_layAll hAD (by exact hb)) (cwV 0 C.1.2.2.2.2 gX4_calibrate_X4_layAll rfl rfl rfl (by decide +kernel) ⟨Nat.le_of_ble_eq_true rfl, Nat.le_of_ble_eq_true rfl⟩) (Nat.le_of_ble_eq_true rfl) dX4_calibrate_37 ⟨rfl, rfl⟩ ⟨Nat.zero_le _, Nat.zero_le _⟩ ?_
      refine r_pop2_2 C dX4_calibrate_40 rfl ?_
      refine r_aload_n C dX4_calibrate_41 rfl 0 rfl ?_
      refine r_aload_n C dX4_calibrate_42 rfl 0 rfl ?_
      refine r_iload_n C dX4_calibrate_43 rfl 2 rfl ?_
      refine r_iconst (v := 0) C dX4_calibrate_44 rfl ?_
      refine r_callV3J C 0 (by have := hk; omega) rfl (mm_ct0 ad q _ hk) (kX0_agreement hAD hk hk) (cwV 3 C.1.2.2.2.2 gX4_calibrate_X0_agreement rfl rfl rfl (by decide +kernel) ⟨Nat.le_of_ble_eq_true rfl, Nat.le_of_ble_eq_true rfl⟩) (Nat.le_of_ble_eq_true rfl) dX4_calibrate_45 ⟨rfl, rfl⟩ ⟨Nat.zero_le _, Nat.zero_le _⟩ ?_
      refine r_topl (fun v3_48 ev3_48 => ?_)
      refine r_lstore_n (lv' := [(3, .long v3_48), (2, .ref (ad (10 + k))), (0, .ref (ad 0)), (1, .int x)]) C dX4_calibrate_48 rfl (by decide) rfl ?_
      refine r_lload_n C dX4_calibrate_49 rfl 0 rfl ?_
      refine r_lconst (v := 0) C dX4_calibrate_50 rfl ?_
      refine r_lcmp C dX4_calibrate_51 ?_
      refine r_if_gt (tgt := 65) C dX4_calibrate_52 (by decide) (fun z52 => ?_) (fun z52 => ?_)
      · refine r_aload_n C dX4_calibrate_65 rfl 2 rfl ?_
        refine r_aload_n C dX4_calibrate_66 rfl 1 rfl ?_
        refine r_lload_n C dX4_calibrate_67 rfl 0 rfl ?_
        refine r_iload_n C dX4_calibrate_68 rfl 3 rfl ?_
        refine r_callV3I C 4 (by decide) rfl (mm_ct4 ad q _) (kX4_holdTo hAD hk (by intro i9 hi9; rw [mc_laM_1]; exact hb i9 hi9)) (cwV 3 C.1.2.2.2.2 gX4_calibrate_X4_holdTo rfl rfl rfl (by decide +kernel) ⟨Nat.le_of_ble_eq_true rfl, Nat.le_of_ble_eq_true rfl⟩) (Nat.le_of_ble_eq_true rfl) dX4_calibrate_69 ⟨rfl, rfl⟩ ⟨Nat.zero_le _, Nat.zero_le _⟩ ?_
        exact r_xiret C hret hlk9 (Nat.zero_le _) (Nat.zero_le _) dX4_calibrate_72 (by have e9 : mc_cak M x = 0 := (by rw [mc_cak, if_neg z4, if_neg (by omega), if_pos (by rw [mc_sq, ← ek, ← ev3_48]; exact z52)]); exact ⟨e9, by rw [mc_sq, ← ek, ← ev3_48], by rw [mc_sq, ← ek, ← ev3_48]⟩)
      · exact r_throw C hX9 hT9 hl0 (cls := "java/lang/IllegalStateException") (ik := 55) (is := 132) (ic := 59) (by decide) (by decide) rfl t55_1 t55_2 (by decide) t55_3 t55_4 t55_5 dX4_calibrate_55 dX4_calibrate_58 dX4_calibrate_59 dX4_calibrate_61 dX4_calibrate_64 (Nat.le_of_ble_eq_true rfl) (Nat.le_of_ble_eq_true rfl) (Nat.le_of_ble_eq_true rfl) (Nat.le_of_ble_eq_true rfl) hlk9 (Nat.le_of_ble_eq_true rfl) (Nat.le_of_ble_eq_true rfl) (by have e9 : mc_cak M x = 2 := (by rw [mc_cak, if_neg z4, if_neg (by omega), if_neg (by rw [mc_sq, ← ek, ← ev3_48]; exact z52)]); exact ⟨Or.inr ⟨e9, rfl⟩, by rw [if_neg z4, if_neg (by omega)]⟩)
  · exact r_throw C hX9 hT9 hl0 (cls := "java/lang/IndexOutOfBoundsException") (ik := 71) (is := 87) (ic := 75) (by decide) (by decide) rfl t71_1 t71_2 (by decide) t71_3 t71_4 t71_5 dX4_calibrate_7 dX4_calibrate_10 dX4_calibrate_11 dX4_calibrate_13 dX4_calibrate_16 (Nat.le_of_ble_eq_true rfl) (Nat.le_of_ble_eq_true rfl) (Nat.le_of_ble_eq_true rfl) (Nat.le_of_ble_eq_true rfl) hlk9 (Nat.le_of_ble_eq_true rfl) (Nat.le_of_ble_eq_true rfl) (by have e9 : mc_cak M x = 1 := (by rw [mc_cak, if_pos z4]); exact ⟨Or.inl ⟨e9, rfl⟩, by rw [if_pos z4]⟩)
