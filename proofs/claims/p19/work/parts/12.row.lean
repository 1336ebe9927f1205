abbrev rmX1_set : Room := { frames := 0, cells := 0, slots := 0, locals := 0 }
set_option maxHeartbeats 400000 in
set_option maxRecDepth 100000 in
theorem kX1_set {l : Launch} {D : va_G} {ad : Nat → Nat} {q : Nat → ClassId} {A : Nat → Prop} (hAD : mm_AD ad A) {M : mm_M} {x y : Int32} : mm_Kd l D ad q A yX1_set wsX1_set rmX1_set [.ref (ad 3), .int x, .int y] M none (mm_sI (mm_sI M 3 0 x) 3 1 y) := by
  have inX1 : ∀ w ∈ wsX10, w ∈ wsX1_set := by decide +kernel
  have f7 : Cond.fieldLink RX1 7 "Beamrow$Hiss" "number" "I" ∈ wsX1_set := by decide +kernel
  have f13 : Cond.fieldLink RX1 13 "Beamrow$Hiss" "loudness" "I" ∈ wsX1_set := by decide +kernel
  refine mm_of (cc := cX1_set) (maxL := 3) (ret := none) (own := RX1) rfl hAD (plainFor_of_name (by decide)) rfl (Nat.le_of_ble_eq_true rfl) ⟨rfl, rfl⟩ ?_
  intro pp ee ss mm bl mth cd C hret hlk9
  show mm_G _ _ _ _ _ _ _ _ _ _ _ _ _ _ _ _ _ _ M 0 [(0, .ref (ad 3)), (1, .int x), (2, .int y)] []
  refine r_aload_n C dX1_set_0 rfl 0 rfl ?_
  refine r_iload_n C dX1_set_1 rfl 1 rfl ?_
  refine r_put1 C inX1 (ty := .int) 0 (by decide) mm_set1_0 f13 rfl rfl (by decide +kernel) rfl rfl dX1_set_2 ?_
  refine r_aload_n C dX1_set_5 rfl 0 rfl ?_
  refine r_iload_n C dX1_set_6 rfl 2 rfl ?_
  refine r_put1 C inX1 (ty := .int) 1 (by decide) mm_set1_1 f7 rfl rfl (by decide +kernel) rfl rfl dX1_set_7 ?_
  exact r_vret C hret hlk9 dX1_set_10 ⟨by first | rfl | (subst_vars; rfl) | (subst_vars; simp [*]), by first | rfl | (subst_vars; rfl)⟩

abbrev rmX1_getLoudness : Room := { frames := 0, cells := 0, slots := 0, locals := 0 }
set_option maxHeartbeats 400000 in
set_option maxRecDepth 100000 in
theorem kX1_getLoudness {l : Launch} {D : va_G} {ad : Nat → Nat} {q : Nat → ClassId} {A : Nat → Prop} (hAD : mm_AD ad A) {M : mm_M} : mm_Kd l D ad q A yX1_getLoudness wsX1_getLoudness rmX1_getLoudness [.ref (ad 3)] M (some (.int (M.1 3 0))) M := by
  have inX1 : ∀ w ∈ wsX10, w ∈ wsX1_getLoudness := by decide +kernel
  have f13 : Cond.fieldLink RX1 13 "Beamrow$Hiss" "loudness" "I" ∈ wsX1_getLoudness := by decide +kernel
  refine mm_of (cc := cX1_getLoudness) (maxL := 1) (ret := some .int) (own := RX1) rfl hAD (plainFor_of_name (by decide)) rfl (Nat.le_of_ble_eq_true rfl) ⟨rfl, rfl⟩ ?_
  intro pp ee ss mm bl mth cd C hret hlk9
  show mm_G _ _ _ _ _ _ _ _ _ _ _ _ _ _ _ _ _ _ M 0 [(0, .ref (ad 3))] []
  refine r_aload_n C dX1_getLoudness_0 rfl 0 rfl ?_
  refine r_get1 C inX1 0 (by decide) rfl f13 rfl dX1_getLoudness_1 ?_
  exact r_iret C hret hlk9 dX1_getLoudness_4 ⟨by first | rfl | (subst_vars; rfl) | (subst_vars; simp [*]), by first | rfl | (subst_vars; rfl)⟩

def mc_dr (M : mm_M) : Int32 := 75 * M.1 3 1 + 74 - (75 * M.1 3 1 + 74) / 65537 * 65537
def mc_drv (M : mm_M) : Int32 := if 2 * M.1 3 0 + 1 ≤ 0 then 0 else mc_dr M - mc_dr M / (2 * M.1 3 0 + 1) * (2 * M.1 3 0 + 1) - M.1 3 0
abbrev rmX1_draw : Room := { frames := 0, cells := 0, slots := 0, locals := 0 }
set_option maxHeartbeats 400000 in
set_option maxRecDepth 100000 in
theorem kX1_draw {l : Launch} {D : va_G} {ad : Nat → Nat} {q : Nat → ClassId} {A : Nat → Prop} (hAD : mm_AD ad A) {M : mm_M} : mm_Kd l D ad q A yX1_draw wsX1_draw rmX1_draw [.ref (ad 3)] M (some (.int (mc_drv M))) (mm_sI M 3 1 (mc_dr M)) := by
  have inX1 : ∀ w ∈ wsX10, w ∈ wsX1_draw := by decide +kernel
  have f7 : Cond.fieldLink RX1 7 "Beamrow$Hiss" "number" "I" ∈ wsX1_draw := by decide +kernel
  have f13 : Cond.fieldLink RX1 13 "Beamrow$Hiss" "loudness" "I" ∈ wsX1_draw := by decide +kernel
  have n16 : Cond.constant RX1 16 (65537) ∈ wsX1_draw := by decide +kernel
  refine mm_of (cc := cX1_draw) (maxL := 2) (ret := some .int) (own := RX1) rfl hAD (plainFor_of_name (by decide)) rfl (Nat.le_of_ble_eq_true rfl) ⟨rfl, rfl⟩ ?_
  intro pp ee ss mm bl mth cd C hret hlk9
  show mm_G _ _ _ _ _ _ _ _ _ _ _ _ _ _ _ _ _ _ M 0 [(0, .ref (ad 3))] []
  refine r_aload_n C dX1_draw_0 rfl 0 rfl ?_
  refine r_bipush (v := (75)) C dX1_draw_1 rfl ?_
  refine r_aload_n C dX1_draw_3 rfl 0 rfl ?_
  refine r_get1 C inX1 1 (by decide) rfl f7 rfl dX1_draw_4 ?_
  refine r_imul C dX1_draw_7 ?_
  refine r_bipush (v := (74)) C dX1_draw_8 rfl ?_
  refine r_iadd C dX1_draw_10 ?_
  refine r_ldc C n16 dX1_draw_11 ?_
  refine r_irem C dX1_draw_13 (by decide) ?_
  refine r_put1 C inX1 (ty := .int) 1 (by decide) mm_set1_1 f7 rfl rfl (by decide +kernel) rfl rfl dX1_draw_14 ?_
  refine r_iconst (v := 2) C dX1_draw_17 rfl ?_
  refine r_aload_n C dX1_draw_18 rfl 0 rfl ?_
  refine r_get1 C inX1 0 (by decide) rfl f13 rfl dX1_draw_19 ?_
  refine r_imul C dX1_draw_22 ?_
  refine r_iconst (v := 1) C dX1_draw_23 rfl ?_
  refine r_iadd C dX1_draw_24 ?_
  refine r_topi (fun v1_25 ev1_25 => ?_)
  refine r_istore_n (lv' := [(1, .int v1_25), (0, .ref (ad 3))]) C dX1_draw_25 rfl (by decide) rfl ?_
  refine r_iload_n C dX1_draw_26 rfl 0 rfl ?_
  refine r_if_le (tgt := 44) C dX1_draw_27 (by decide) (fun z27 => ?_) (fun z27 => ?_)
  · refine r_iconst (v := 0) C dX1_draw_44 rfl ?_
    exact r_iret C hret hlk9 dX1_draw_45 ⟨by subst ev1_25; first | exact congrArg (fun x => some (Value.int x)) (if_pos z27).symm | exact congrArg (fun x => some (Value.int x)) (if_neg z27).symm, by first | rfl | (subst_vars; rfl)⟩
  · refine r_aload_n C dX1_draw_30 rfl 1 rfl ?_
    refine r_get1 C inX1 1 (by decide) rfl f7 rfl dX1_draw_31 ?_
    refine r_iload_n C dX1_draw_34 rfl 0 rfl ?_
    refine r_irem C dX1_draw_35 (by rw [ev1_25] at *; intro h; exact z27 (by rw [h]; decide)) ?_
    refine r_aload_n C dX1_draw_36 rfl 1 rfl ?_
    refine r_get1 C inX1 0 (by decide) rfl f13 rfl dX1_draw_37 ?_
    refine r_isub C dX1_draw_40 ?_
    refine r_goto (tgt := 45) C dX1_draw_41 (by decide) ?_
    exact r_iret C hret hlk9 dX1_draw_45 ⟨by subst ev1_25; first | exact congrArg (fun x => some (Value.int x)) (if_pos z27).symm | exact congrArg (fun x => some (Value.int x)) (if_neg z27).symm, by first | rfl | (subst_vars; rfl)⟩

abbrev rmX2_setUp : Room := { frames := 0, cells := 0, slots := 0, locals := 0 }
set_option maxHeartbeats 400000 in
set_option maxRecDepth 100000 in
theorem kX2_setUp {l : Launch} {D : va_G} {ad : Nat → Nat} {q : Nat → ClassId} {A : Nat → Prop} (hAD : mm_AD ad A) {i : Nat} (hi : i < 4) {M : mm_M} {x y z : Int32} : mm_Kd l D ad q A yX2_setUp wsX2_setUp rmX2_setUp [.ref (ad (6 + i)), .int x, .int y, .int z] M none (mm_sI (mm_sI (mm_sI M (6 + i) 0 x) (6 + i) 1 y) (6 + i) 2 z) := by
  have inX2 : ∀ w ∈ wsX20, w ∈ wsX2_setUp := by decide +kernel
  have f7 : Cond.fieldLink RX2 7 "Beamrow$Source" "period" "I" ∈ wsX2_setUp := by decide +kernel
  have f13 : Cond.fieldLink RX2 13 "Beamrow$Source" "bearing" "I" ∈ wsX2_setUp := by decide +kernel
  have f16 : Cond.fieldLink RX2 16 "Beamrow$Source" "strength" "I" ∈ wsX2_setUp := by decide +kernel
  refine mm_of (cc := cX2_setUp) (maxL := 4) (ret := none) (own := RX2) rfl hAD (plainFor_of_name (by decide)) rfl (Nat.le_of_ble_eq_true rfl) ⟨rfl, rfl⟩ ?_
  intro pp ee ss mm bl mth cd C hret hlk9
  show mm_G _ _ _ _ _ _ _ _ _ _ _ _ _ _ _ _ _ _ M 0 [(0, .ref (ad (6 + i))), (1, .int x), (2, .int y), (3, .int z)] []
  refine r_aload_n C dX2_setUp_0 rfl 0 rfl ?_
  refine r_iload_n C dX2_setUp_1 rfl 1 rfl ?_
  refine r_put2 C hi inX2 (ty := .int) 0 (by decide) mm_set2_0 f13 rfl rfl (by decide +kernel) rfl rfl dX2_setUp_2 ?_
  refine r_aload_n C dX2_setUp_5 rfl 0 rfl ?_
  refine r_iload_n C dX2_setUp_6 rfl 2 rfl ?_
  refine r_put2 C hi inX2 (ty := .int) 1 (by decide) mm_set2_1 f16 rfl rfl (by decide +kernel) rfl rfl dX2_setUp_7 ?_
  refine r_aload_n C dX2_setUp_10 rfl 0 rfl ?_
  refine r_iload_n C dX2_setUp_11 rfl 3 rfl ?_
  refine r_put2 C hi inX2 (ty := .int) 2 (by decide) mm_set2_2 f7 rfl rfl (by decide +kernel) rfl rfl dX2_setUp_12 ?_
  exact r_vret C hret hlk9 dX2_setUp_15 ⟨by first | rfl | (subst_vars; rfl) | (subst_vars; simp [*]), by first | rfl | (subst_vars; rfl)⟩

abbrev rmX2_getBearing : Room := { frames := 0, cells := 0, slots := 0, locals := 0 }
set_option maxHeartbeats 400000 in
set_option maxRecDepth 100000 in
theorem kX2_getBearing {l : Launch} {D : va_G} {ad : Nat → Nat} {q : Nat → ClassId} {A : Nat → Prop} (hAD : mm_AD ad A) {i : Nat} (hi : i < 4) {M : mm_M} : mm_Kd l D ad q A yX2_getBearing wsX2_getBearing rmX2_getBearing [.ref (ad (6 + i))] M (some (.int (M.1 (6 + i) 0))) M := by
  have inX2 : ∀ w ∈ wsX20, w ∈ wsX2_getBearing := by decide +kernel
  have f13 : Cond.fieldLink RX2 13 "Beamrow$Source" "bearing" "I" ∈ wsX2_getBearing := by decide +kernel
  refine mm_of (cc := cX2_getBearing) (maxL := 1) (ret := some .int) (own := RX2) rfl hAD (plainFor_of_name (by decide)) rfl (Nat.le_of_ble_eq_true rfl) ⟨rfl, rfl⟩ ?_
  intro pp ee ss mm bl mth cd C hret hlk9
  show mm_G _ _ _ _ _ _ _ _ _ _ _ _ _ _ _ _ _ _ M 0 [(0, .ref (ad (6 + i)))] []
  refine r_aload_n C dX2_getBearing_0 rfl 0 rfl ?_
  refine r_get2 C hi inX2 0 (by decide) rfl f13 rfl dX2_getBearing_1 ?_
  exact r_iret C hret hlk9 dX2_getBearing_4 ⟨by first | rfl | (subst_vars; rfl) | (subst_vars; simp [*]), by first | rfl | (subst_vars; rfl)⟩

def mc_wave (M : mm_M) (i : Nat) (x : Int32) : Int32 := if 0 < M.1 (6 + i) 2 then (if M.1 (6 + i) 2 / 2 ≤ nm_fmI x (M.1 (6 + i) 2) then -M.1 (6 + i) 1 else M.1 (6 + i) 1) else 0
abbrev rmX2_waveAt : Room := { frames := 1, cells := 0, slots := 0, locals := 22 }
set_option maxHeartbeats 400000 in
set_option maxRecDepth 100000 in
theorem kX2_waveAt {l : Launch} {D : va_G} {ad : Nat → Nat} {q : Nat → ClassId} {A : Nat → Prop} (hAD : mm_AD ad A) {i : Nat} (hi : i < 4) {M : mm_M} {x : Int32} : mm_Kd l D ad q A yX2_waveAt wsX2_waveAt rmX2_waveAt [.ref (ad (6 + i)), .int x] M (some (.int (mc_wave M i x))) M := by
  have inX2 : ∀ w ∈ wsX20, w ∈ wsX2_waveAt := by decide +kernel
  have f7 : Cond.fieldLink RX2 7 "Beamrow$Source" "period" "I" ∈ wsX2_waveAt := by decide +kernel
  have f16 : Cond.fieldLink RX2 16 "Beamrow$Source" "strength" "I" ∈ wsX2_waveAt := by decide +kernel
  refine mm_of (cc := cX2_waveAt) (maxL := 2) (ret := some .int) (own := RX2) rfl hAD (plainFor_of_name (by decide)) rfl (Nat.le_of_ble_eq_true rfl) ⟨rfl, rfl⟩ ?_
  intro pp ee ss mm bl mth cd C hret hlk9
  show mm_G _ _ _ _ _ _ _ _ _ _ _ _ _ _ _ _ _ _ M 0 [(0, .ref (ad (6 + i))), (1, .int x)] []
  refine r_aload_n C dX2_waveAt_0 rfl 0 rfl ?_
  refine r_get2 C hi inX2 2 (by decide) rfl f7 rfl dX2_waveAt_1 ?_
  refine r_if_gt (tgt := 9) C dX2_waveAt_4 (by decide) (fun z4 => ?_) (fun z4 => ?_)
  · refine r_iload_n C dX2_waveAt_9 rfl 1 rfl ?_
    refine r_aload_n C dX2_waveAt_10 rfl 0 rfl ?_
    refine r_get2 C hi inX2 2 (by decide) rfl f7 rfl dX2_waveAt_11 ?_
    refine r_callS2I C (kJ9_floorMod_7cf53 hAD (Int32.lt_iff_toInt_lt.mp z4)) (va_cwS 2 C.1.2.2.2.2 gX2_waveAt_J9_floorMod_7cf53 rfl rfl rfl (by decide +kernel) ⟨Nat.le_of_ble_eq_true rfl, Nat.le_of_ble_eq_true rfl⟩) (Nat.le_of_ble_eq_true rfl) dX2_waveAt_14 ⟨rfl, rfl⟩ ⟨Nat.zero_le _, Nat.zero_le _⟩ ?_
    refine r_aload_n C dX2_waveAt_17 rfl 0 rfl ?_
    refine r_get2 C hi inX2 2 (by decide) rfl f7 rfl dX2_waveAt_18 ?_
    refine r_iconst (v := 2) C dX2_waveAt_21 rfl ?_
    refine r_idiv C dX2_waveAt_22 (by decide) ?_
    refine r_icmp_ge (tgt := 33) C dX2_waveAt_23 (by decide) (fun z23 => ?_) (fun z23 => ?_)
    · refine r_aload_n C dX2_waveAt_33 rfl 0 rfl ?_
      refine r_get2 C hi inX2 1 (by decide) rfl f16 rfl dX2_waveAt_34 ?_
      refine r_ineg C dX2_waveAt_37 ?_
      exact r_iret C hret hlk9 dX2_waveAt_38 ⟨by simp only [mc_wave]; simp [*], by first | rfl | (subst_vars; rfl)⟩
    · refine r_aload_n C dX2_waveAt_26 rfl 0 rfl ?_
      refine r_get2 C hi inX2 1 (by decide) rfl f16 rfl dX2_waveAt_27 ?_
      refine r_goto (tgt := 38) C dX2_waveAt_30 (by decide) ?_
      exact r_iret C hret hlk9 dX2_waveAt_38 ⟨by simp only [mc_wave]; simp [*], by first | rfl | (subst_vars; rfl)⟩
  · refine r_iconst (v := 0) C dX2_waveAt_7 rfl ?_
    exact r_iret C hret hlk9 dX2_waveAt_8 ⟨by simp only [mc_wave]; simp [*], by first | rfl | (subst_vars; rfl)⟩

def nm_in (x y z : Int32) : Int32 := if x < y then 0 else if z < x then 0 else 1
theorem nm_in_z (x y z : Int32) : nm_in x y z &&& 1 = nm_in x y z := by unfold nm_in; split; decide; split <;> decide
abbrev rmX4_isWithin : Room := { frames := 0, cells := 0, slots := 0, locals := 0 }
set_option maxHeartbeats 400000 in
set_option maxRecDepth 100000 in
theorem kX4_isWithin {l : Launch} {D : va_G} {ad : Nat → Nat} {q : Nat → ClassId} {A : Nat → Prop} (hAD : mm_AD ad A) {M : mm_M} {x y z : Int32} : mm_Kd l D ad q A yX4_isWithin wsX4_isWithin rmX4_isWithin [.int x, .int y, .int z] M (some (.int (nm_in x y z))) M := by
  refine mm_of (cc := cX4_isWithin) (maxL := 3) (ret := some .boolean) (own := RX4) rfl hAD (plainFor_of_name (by decide)) rfl (Nat.le_of_ble_eq_true rfl) ⟨rfl, rfl⟩ ?_
  intro pp ee ss mm bl mth cd C hret hlk9
  show mm_G _ _ _ _ _ _ _ _ _ _ _ _ _ _ _ _ _ _ M 0 [(0, .int x), (1, .int y), (2, .int z)] []
  refine r_iload_n C dX4_isWithin_0 rfl 0 rfl ?_
  refine r_iload_n C dX4_isWithin_1 rfl 1 rfl ?_
  refine r_icmp_lt (tgt := 14) C dX4_isWithin_2 (by decide) (fun z2 => ?_) (fun z2 => ?_)
  · refine r_iconst (v := 0) C dX4_isWithin_14 rfl ?_
    exact r_zret C hret (by first | decide | assumption) hlk9 dX4_isWithin_15 ⟨by simp only [nm_in]; simp [*], by first | rfl | (subst_vars; rfl)⟩
  · refine r_iload_n C dX4_isWithin_5 rfl 0 rfl ?_
    refine r_iload_n C dX4_isWithin_6 rfl 2 rfl ?_
    refine r_icmp_gt (tgt := 14) C dX4_isWithin_7 (by decide) (fun z7 => ?_) (fun z7 => ?_)
    · refine r_iconst (v := 0) C dX4_isWithin_14 rfl ?_
      exact r_zret C hret (by first | decide | assumption) hlk9 dX4_isWithin_15 ⟨by simp only [nm_in]; simp [*], by first | rfl | (subst_vars; rfl)⟩
    · refine r_iconst (v := 1) C dX4_isWithin_10 rfl ?_
      refine r_goto (tgt := 15) C dX4_isWithin_11 (by decide) ?_
      exact r_zret C hret (by first | decide | assumption) hlk9 dX4_isWithin_15 ⟨by simp only [nm_in]; simp [*], by first | rfl | (subst_vars; rfl)⟩

abbrev rmX4_isBearing : Room := { frames := 1, cells := 0, slots := 0, locals := 22 }
set_option maxHeartbeats 400000 in
set_option maxRecDepth 100000 in
theorem kX4_isBearing {l : Launch} {D : va_G} {ad : Nat → Nat} {q : Nat → ClassId} {A : Nat → Prop} (hAD : mm_AD ad A) {M : mm_M} {x : Int32} : mm_Kd l D ad q A yX4_isBearing wsX4_isBearing rmX4_isBearing [.int x] M (some (.int (nm_in x (-4) 4))) M := by
  refine mm_of (cc := cX4_isBearing) (maxL := 1) (ret := some .boolean) (own := RX4) rfl hAD (plainFor_of_name (by decide)) rfl (Nat.le_of_ble_eq_true rfl) ⟨rfl, rfl⟩ ?_
  intro pp ee ss mm bl mth cd C hret hlk9
  show mm_G _ _ _ _ _ _ _ _ _ _ _ _ _ _ _ _ _ _ M 0 [(0, .int x)] []
  refine r_iload_n C dX4_isBearing_0 rfl 0 rfl ?_
  refine r_bipush (v := (-4)) C dX4_isBearing_1 rfl ?_
  refine r_iconst (v := 4) C dX4_isBearing_3 rfl ?_
  refine r_callS3I C (kX4_isWithin hAD) (va_cwS 3 C.1.2.2.2.2 gX4_isBearing_X4_isWithin rfl rfl rfl (by decide +kernel) ⟨Nat.le_of_ble_eq_true rfl, Nat.le_of_ble_eq_true rfl⟩) (Nat.le_of_ble_eq_true rfl) dX4_isBearing_4 ⟨rfl, rfl⟩ ⟨Nat.zero_le _, Nat.zero_le _⟩ ?_
  exact r_zret C hret (nm_in_z _ _ _) hlk9 dX4_isBearing_7 ⟨by first | rfl | (subst_vars; rfl) | (subst_vars; simp [*]), by first | rfl | (subst_vars; rfl)⟩

def mc_isEl (M : mm_M) (x : Int32) : Int32 := if x < 0 then 0 else if M.1 0 5 ≤ x then 0 else if nI 8 ≤ x then 0 else 1
abbrev rmX4_isElement : Room := { frames := 0, cells := 0, slots := 0, locals := 0 }
set_option maxHeartbeats 400000 in
set_option maxRecDepth 100000 in
theorem kX4_isElement {l : Launch} {D : va_G} {ad : Nat → Nat} {q : Nat → ClassId} {A : Nat → Prop} (hAD : mm_AD ad A) {M : mm_M} {x : Int32} : mm_Kd l D ad q A yX4_isElement wsX4_isElement rmX4_isElement [.ref (ad 0), .int x] M (some (.int (mc_isEl M x))) M := by
  have inX4 : ∀ w ∈ wsX40, w ∈ wsX4_isElement := by decide +kernel
  have f11 : Cond.fieldLink RX4 11 "Beamrow" "elements" "[LBeamrow$Element;" ∈ wsX4_isElement := by decide +kernel
  have f52 : Cond.fieldLink RX4 52 "Beamrow" "elementCount" "I" ∈ wsX4_isElement := by decide +kernel
  refine mm_of (cc := cX4_isElement) (maxL := 2) (ret := some .boolean) (own := RX4) rfl hAD (plainFor_of_name (by decide)) rfl (Nat.le_of_ble_eq_true rfl) ⟨rfl, rfl⟩ ?_
  intro pp ee ss mm bl mth cd C hret hlk9
  show mm_G _ _ _ _ _ _ _ _ _ _ _ _ _ _ _ _ _ _ M 0 [(0, .ref (ad 0)), (1, .int x)] []
  refine r_iload_n C dX4_isElement_0 rfl 1 rfl ?_
  refine r_if_lt (tgt := 25) C dX4_isElement_1 (by decide) (fun z1 => ?_) (fun z1 => ?_)
  · refine r_iconst (v := 0) C dX4_isElement_25 rfl ?_
    exact r_zret C hret (by first | decide | assumption) hlk9 dX4_isElement_26 ⟨by simp only [mc_isEl]; simp [*], by first | rfl | (subst_vars; rfl)⟩
  · refine r_iload_n C dX4_isElement_4 rfl 1 rfl ?_
    refine r_aload_n C dX4_isElement_5 rfl 0 rfl ?_
    refine r_get4 C inX4 5 (by decide) rfl f52 rfl dX4_isElement_6 ?_
    refine r_icmp_ge (tgt := 25) C dX4_isElement_9 (by decide) (fun z9 => ?_) (fun z9 => ?_)
    · refine r_iconst (v := 0) C dX4_isElement_25 rfl ?_
      exact r_zret C hret (by first | decide | assumption) hlk9 dX4_isElement_26 ⟨by simp only [mc_isEl]; simp [*], by first | rfl | (subst_vars; rfl)⟩
    · refine r_iload_n C dX4_isElement_12 rfl 1 rfl ?_
      refine r_aload_n C dX4_isElement_13 rfl 0 rfl ?_
      refine r_get4 C inX4 0 (by decide) rfl f11 rfl dX4_isElement_14 ?_
      refine r_alenE C dX4_isElement_17 ?_
      refine r_icmp_ge (tgt := 25) C dX4_isElement_18 (by decide) (fun z18 => ?_) (fun z18 => ?_)
      · refine r_iconst (v := 0) C dX4_isElement_25 rfl ?_
        exact r_zret C hret (by first | decide | assumption) hlk9 dX4_isElement_26 ⟨by simp only [mc_isEl]; simp [*], by first | rfl | (subst_vars; rfl)⟩
      · refine r_iconst (v := 1) C dX4_isElement_21 rfl ?_
        refine r_goto (tgt := 26) C dX4_isElement_22 (by decide) ?_
        exact r_zret C hret (by first | decide | assumption) hlk9 dX4_isElement_26 ⟨by simp only [mc_isEl]; simp [*], by first | rfl | (subst_vars; rfl)⟩

abbrev rmX4_silence : Room := { frames := 0, cells := 0, slots := 0, locals := 0 }
set_option maxHeartbeats 400000 in
set_option maxRecDepth 100000 in
theorem kX4_silence {l : Launch} {D : va_G} {ad : Nat → Nat} {q : Nat → ClassId} {A : Nat → Prop} (hAD : mm_AD ad A) {M : mm_M} : mm_Kd l D ad q A yX4_silence wsX4_silence rmX4_silence [.ref (ad 0)] M (some (.int (M.1 0 6))) (mm_sI M 0 6 0) := by
  have inX4 : ∀ w ∈ wsX40, w ∈ wsX4_silence := by decide +kernel
  have f91 : Cond.fieldLink RX4 91 "Beamrow" "sourceCount" "I" ∈ wsX4_silence := by decide +kernel
  refine mm_of (cc := cX4_silence) (maxL := 2) (ret := some .int) (own := RX4) rfl hAD (plainFor_of_name (by decide)) rfl (Nat.le_of_ble_eq_true rfl) ⟨rfl, rfl⟩ ?_
  intro pp ee ss mm bl mth cd C hret hlk9
  show mm_G _ _ _ _ _ _ _ _ _ _ _ _ _ _ _ _ _ _ M 0 [(0, .ref (ad 0))] []
  refine r_aload_n C dX4_silence_0 rfl 0 rfl ?_
  refine r_get4 C inX4 6 (by decide) rfl f91 rfl dX4_silence_1 ?_
  refine r_topi (fun v1_4 ev1_4 => ?_)
  refine r_istore_n (lv' := [(1, .int v1_4), (0, .ref (ad 0))]) C dX4_silence_4 rfl (by decide) rfl ?_
  refine r_aload_n C dX4_silence_5 rfl 1 rfl ?_
  refine r_iconst (v := 0) C dX4_silence_6 rfl ?_
  refine r_put4 C inX4 (ty := .int) 6 (by decide) mm_set4_6 f91 rfl rfl (by decide +kernel) rfl rfl dX4_silence_7 ?_
  refine r_iload_n C dX4_silence_10 rfl 0 rfl ?_
  exact r_iret C hret hlk9 dX4_silence_11 ⟨by first | rfl | (subst_vars; rfl) | (subst_vars; simp [*]), by first | rfl | (subst_vars; rfl)⟩

abbrev rmX4_tick : Room := { frames := 0, cells := 0, slots := 0, locals := 0 }
set_option maxHeartbeats 400000 in
set_option maxRecDepth 100000 in
theorem kX4_tick {l : Launch} {D : va_G} {ad : Nat → Nat} {q : Nat → ClassId} {A : Nat → Prop} (hAD : mm_AD ad A) {M : mm_M} : mm_Kd l D ad q A yX4_tick wsX4_tick rmX4_tick [.ref (ad 0)] M (some (.int (M.1 0 8))) M := by
  have inX4 : ∀ w ∈ wsX40, w ∈ wsX4_tick := by decide +kernel
  have f60 : Cond.fieldLink RX4 60 "Beamrow" "nextTick" "I" ∈ wsX4_tick := by decide +kernel
  refine mm_of (cc := cX4_tick) (maxL := 1) (ret := some .int) (own := RX4) rfl hAD (plainFor_of_name (by decide)) rfl (Nat.le_of_ble_eq_true rfl) ⟨rfl, rfl⟩ ?_
  intro pp ee ss mm bl mth cd C hret hlk9
  show mm_G _ _ _ _ _ _ _ _ _ _ _ _ _ _ _ _ _ _ M 0 [(0, .ref (ad 0))] []
  refine r_aload_n C dX4_tick_0 rfl 0 rfl ?_
  refine r_get4 C inX4 8 (by decide) rfl f60 rfl dX4_tick_1 ?_
  exact r_iret C hret hlk9 dX4_tick_4 ⟨by first | rfl | (subst_vars; rfl) | (subst_vars; simp [*]), by first | rfl | (subst_vars; rfl)⟩

def mc_wt (M : mm_M) (x y : Int32) : Int32 := if M.1 0 7 = 1 then 1 + (if y - 1 - x < x then y - 1 - x else x) else if M.1 0 7 = 2 then (if x = 0 then 3 else if y - 1 - x = 0 then 3 else 1) else 1
abbrev rmX4_weightOf : Room := { frames := 1, cells := 0, slots := 0, locals := 24 }
set_option maxHeartbeats 400000 in
set_option maxRecDepth 100000 in
theorem kX4_weightOf {l : Launch} {D : va_G} {ad : Nat → Nat} {q : Nat → ClassId} {A : Nat → Prop} (hAD : mm_AD ad A) {M : mm_M} {x y : Int32} : mm_Kd l D ad q A yX4_weightOf wsX4_weightOf rmX4_weightOf [.ref (ad 0), .int x, .int y] M (some (.int (mc_wt M x y))) M := by
  have inX4 : ∀ w ∈ wsX40, w ∈ wsX4_weightOf := by decide +kernel
  have f37 : Cond.fieldLink RX4 37 "Beamrow" "shape" "I" ∈ wsX4_weightOf := by decide +kernel
  have h217_1 : Cond.methodLink RX4 217 Lib.Math.min.name ∈ wsX4_weightOf := by decide +kernel
  have h217_2 : Cond.static Lib.Math.min.name ∈ wsX4_weightOf := by decide +kernel
  have h217_3 : Cond.initialized "java/lang/Math" ∈ wsX4_weightOf := by decide +kernel
  have h217_4 : Cond.code Lib.Math.min.name Lib.Math.min.code 2 (some .int) ∈ wsX4_weightOf := by decide +kernel
  refine mm_of (cc := cX4_weightOf) (maxL := 4) (ret := some .int) (own := RX4) rfl hAD (plainFor_of_name (by decide)) rfl (Nat.le_of_ble_eq_true rfl) ⟨rfl, rfl⟩ ?_
  intro pp ee ss mm bl mth cd C hret hlk9
  show mm_G _ _ _ _ _ _ _ _ _ _ _ _ _ _ _ _ _ _ M 0 [(0, .ref (ad 0)), (1, .int x), (2, .int y)] []
  refine r_iload_n C dX4_weightOf_0 rfl 2 rfl ?_
  refine r_iconst (v := 1) C dX4_weightOf_1 rfl ?_
  refine r_isub C dX4_weightOf_2 ?_
  refine r_iload_n C dX4_weightOf_3 rfl 1 rfl ?_
  refine r_isub C dX4_weightOf_4 ?_
  refine r_topi (fun v3_5 ev3_5 => ?_)
  refine r_istore_n (lv' := [(3, .int v3_5), (0, .ref (ad 0)), (1, .int x), (2, .int y)]) C dX4_weightOf_5 rfl (by decide) rfl ?_
  refine r_aload_n C dX4_weightOf_6 rfl 1 rfl ?_
  refine r_get4 C inX4 7 (by decide) rfl f37 rfl dX4_weightOf_7 ?_
  refine r_iconst (v := 1) C dX4_weightOf_10 rfl ?_
  refine r_icmp_ne (tgt := 22) C dX4_weightOf_11 (by decide) (fun z11 => ?_) (fun z11 => ?_)
  · refine r_aload_n C dX4_weightOf_22 rfl 1 rfl ?_
    refine r_get4 C inX4 7 (by decide) rfl f37 rfl dX4_weightOf_23 ?_
    refine r_iconst (v := 2) C dX4_weightOf_26 rfl ?_
    refine r_icmp_ne (tgt := 44) C dX4_weightOf_27 (by decide) (fun z27 => ?_) (fun z27 => ?_)
    · refine r_iconst (v := 1) C dX4_weightOf_44 rfl ?_
      exact r_iret C hret hlk9 dX4_weightOf_45 ⟨by subst_vars; simp only [mc_wt]; simp [*], by first | rfl | (subst_vars; rfl)⟩
    · refine r_iload_n C dX4_weightOf_30 rfl 2 rfl ?_
      refine r_if_eq (tgt := 38) C dX4_weightOf_31 (by decide) (fun z31 => ?_) (fun z31 => ?_)
      · refine r_iconst (v := 3) C dX4_weightOf_38 rfl ?_
        refine r_goto (tgt := 43) C dX4_weightOf_39 (by decide) ?_
        exact r_iret C hret hlk9 dX4_weightOf_43 ⟨by subst_vars; simp only [mc_wt]; simp [*], by first | rfl | (subst_vars; rfl)⟩
      · refine r_iload_n C dX4_weightOf_34 rfl 0 rfl ?_
        refine r_if_ne (tgt := 42) C dX4_weightOf_35 (by decide) (fun z35 => ?_) (fun z35 => ?_)
        · refine r_iconst (v := 1) C dX4_weightOf_42 rfl ?_
          exact r_iret C hret hlk9 dX4_weightOf_43 ⟨by subst_vars; simp only [mc_wt]; simp [*], by first | rfl | (subst_vars; rfl)⟩
        · refine r_iconst (v := 3) C dX4_weightOf_38 rfl ?_
          refine r_goto (tgt := 43) C dX4_weightOf_39 (by decide) ?_
          exact r_iret C hret hlk9 dX4_weightOf_43 ⟨by subst_vars; simp only [mc_wt]; simp [*], by first | rfl | (subst_vars; rfl)⟩
  · refine r_iconst (v := 1) C dX4_weightOf_14 rfl ?_
    refine r_iload_n C dX4_weightOf_15 rfl 2 rfl ?_
    refine r_iload_n C dX4_weightOf_16 rfl 0 rfl ?_
    refine r_mmin C h217_1 h217_2 h217_3 h217_4 (Nat.le_of_ble_eq_true rfl) (Nat.le_of_ble_eq_true rfl) (Nat.zero_le _) (Nat.zero_le _) dX4_weightOf_17 ?_
    refine r_iadd C dX4_weightOf_20 ?_
    exact r_iret C hret hlk9 dX4_weightOf_21 ⟨by subst_vars; simp only [mc_wt]; simp [*], by first | rfl | (subst_vars; rfl)⟩
