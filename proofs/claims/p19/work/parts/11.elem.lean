abbrev rmX0_isUp : Room := { frames := 0, cells := 0, slots := 0, locals := 0 }
set_option maxHeartbeats 400000 in
set_option maxRecDepth 100000 in
theorem kX0_isUp {l : Launch} {D : va_G} {ad : Nat → Nat} {q : Nat → ClassId} {A : Nat → Prop} (hAD : mm_AD ad A) {i : Nat} (hi : i < 8) {M : mm_M} (hb : M.1 (10 + i) 3 &&& 1 = M.1 (10 + i) 3) : mm_Kd l D ad q A yX0_isUp wsX0_isUp rmX0_isUp [.ref (ad (10 + i))] M (some (.int (M.1 (10 + i) 3))) M := by
  have inX0 : ∀ w ∈ wsX00, w ∈ wsX0_isUp := by decide +kernel
  have f29 : Cond.fieldLink RX0 29 "Beamrow$Element" "up" "Z" ∈ wsX0_isUp := by decide +kernel
  refine mm_of (cc := cX0_isUp) (maxL := 1) (ret := some .boolean) (own := RX0) rfl hAD (plainFor_of_name (by decide)) rfl (Nat.le_of_ble_eq_true rfl) ⟨rfl, rfl⟩ ?_
  intro pp ee ss mm bl mth cd C hret hlk9
  show mm_G _ _ _ _ _ _ _ _ _ _ _ _ _ _ _ _ _ _ M 0 [(0, .ref (ad (10 + i)))] []
  refine r_aload_n C dX0_isUp_0 rfl 0 rfl ?_
  refine r_get0 C hi inX0 3 (by decide) rfl f29 rfl dX0_isUp_1 ?_
  exact r_zret C hret (hb) hlk9 dX0_isUp_4 ⟨by first | rfl | (subst_vars; rfl) | (subst_vars; simp [*]), by first | rfl | (subst_vars; rfl)⟩

abbrev rmX0_isLiving : Room := { frames := 0, cells := 0, slots := 0, locals := 0 }
set_option maxHeartbeats 400000 in
set_option maxRecDepth 100000 in
theorem kX0_isLiving {l : Launch} {D : va_G} {ad : Nat → Nat} {q : Nat → ClassId} {A : Nat → Prop} (hAD : mm_AD ad A) {i : Nat} (hi : i < 8) {M : mm_M} (hb : M.1 (10 + i) 4 &&& 1 = M.1 (10 + i) 4) : mm_Kd l D ad q A yX0_isLiving wsX0_isLiving rmX0_isLiving [.ref (ad (10 + i))] M (some (.int (M.1 (10 + i) 4))) M := by
  have inX0 : ∀ w ∈ wsX00, w ∈ wsX0_isLiving := by decide +kernel
  have f33 : Cond.fieldLink RX0 33 "Beamrow$Element" "living" "Z" ∈ wsX0_isLiving := by decide +kernel
  refine mm_of (cc := cX0_isLiving) (maxL := 1) (ret := some .boolean) (own := RX0) rfl hAD (plainFor_of_name (by decide)) rfl (Nat.le_of_ble_eq_true rfl) ⟨rfl, rfl⟩ ?_
  intro pp ee ss mm bl mth cd C hret hlk9
  show mm_G _ _ _ _ _ _ _ _ _ _ _ _ _ _ _ _ _ _ M 0 [(0, .ref (ad (10 + i)))] []
  refine r_aload_n C dX0_isLiving_0 rfl 0 rfl ?_
  refine r_get0 C hi inX0 4 (by decide) rfl f33 rfl dX0_isLiving_1 ?_
  exact r_zret C hret (hb) hlk9 dX0_isLiving_4 ⟨by first | rfl | (subst_vars; rfl) | (subst_vars; simp [*]), by first | rfl | (subst_vars; rfl)⟩

abbrev rmX0_getLag : Room := { frames := 0, cells := 0, slots := 0, locals := 0 }
set_option maxHeartbeats 400000 in
set_option maxRecDepth 100000 in
theorem kX0_getLag {l : Launch} {D : va_G} {ad : Nat → Nat} {q : Nat → ClassId} {A : Nat → Prop} (hAD : mm_AD ad A) {i : Nat} (hi : i < 8) {M : mm_M} : mm_Kd l D ad q A yX0_getLag wsX0_getLag rmX0_getLag [.ref (ad (10 + i))] M (some (.int (M.1 (10 + i) 7))) M := by
  have inX0 : ∀ w ∈ wsX00, w ∈ wsX0_getLag := by decide +kernel
  have f42 : Cond.fieldLink RX0 42 "Beamrow$Element" "lag" "I" ∈ wsX0_getLag := by decide +kernel
  refine mm_of (cc := cX0_getLag) (maxL := 1) (ret := some .int) (own := RX0) rfl hAD (plainFor_of_name (by decide)) rfl (Nat.le_of_ble_eq_true rfl) ⟨rfl, rfl⟩ ?_
  intro pp ee ss mm bl mth cd C hret hlk9
  show mm_G _ _ _ _ _ _ _ _ _ _ _ _ _ _ _ _ _ _ M 0 [(0, .ref (ad (10 + i)))] []
  refine r_aload_n C dX0_getLag_0 rfl 0 rfl ?_
  refine r_get0 C hi inX0 7 (by decide) rfl f42 rfl dX0_getLag_1 ?_
  exact r_iret C hret hlk9 dX0_getLag_4 ⟨by first | rfl | (subst_vars; rfl) | (subst_vars; simp [*]), by first | rfl | (subst_vars; rfl)⟩

abbrev rmX0_getTrimGain : Room := { frames := 0, cells := 0, slots := 0, locals := 0 }
set_option maxHeartbeats 400000 in
set_option maxRecDepth 100000 in
theorem kX0_getTrimGain {l : Launch} {D : va_G} {ad : Nat → Nat} {q : Nat → ClassId} {A : Nat → Prop} (hAD : mm_AD ad A) {i : Nat} (hi : i < 8) {M : mm_M} : mm_Kd l D ad q A yX0_getTrimGain wsX0_getTrimGain rmX0_getTrimGain [.ref (ad (10 + i))] M (some (.int (M.1 (10 + i) 8))) M := by
  have inX0 : ∀ w ∈ wsX00, w ∈ wsX0_getTrimGain := by decide +kernel
  have f25 : Cond.fieldLink RX0 25 "Beamrow$Element" "trimGain" "I" ∈ wsX0_getTrimGain := by decide +kernel
  refine mm_of (cc := cX0_getTrimGain) (maxL := 1) (ret := some .int) (own := RX0) rfl hAD (plainFor_of_name (by decide)) rfl (Nat.le_of_ble_eq_true rfl) ⟨rfl, rfl⟩ ?_
  intro pp ee ss mm bl mth cd C hret hlk9
  show mm_G _ _ _ _ _ _ _ _ _ _ _ _ _ _ _ _ _ _ M 0 [(0, .ref (ad (10 + i)))] []
  refine r_aload_n C dX0_getTrimGain_0 rfl 0 rfl ?_
  refine r_get0 C hi inX0 8 (by decide) rfl f25 rfl dX0_getTrimGain_1 ?_
  exact r_iret C hret hlk9 dX0_getTrimGain_4 ⟨by first | rfl | (subst_vars; rfl) | (subst_vars; simp [*]), by first | rfl | (subst_vars; rfl)⟩

abbrev rmX0_getTrimLag : Room := { frames := 0, cells := 0, slots := 0, locals := 0 }
set_option maxHeartbeats 400000 in
set_option maxRecDepth 100000 in
theorem kX0_getTrimLag {l : Launch} {D : va_G} {ad : Nat → Nat} {q : Nat → ClassId} {A : Nat → Prop} (hAD : mm_AD ad A) {i : Nat} (hi : i < 8) {M : mm_M} : mm_Kd l D ad q A yX0_getTrimLag wsX0_getTrimLag rmX0_getTrimLag [.ref (ad (10 + i))] M (some (.int (M.1 (10 + i) 9))) M := by
  have inX0 : ∀ w ∈ wsX00, w ∈ wsX0_getTrimLag := by decide +kernel
  have f49 : Cond.fieldLink RX0 49 "Beamrow$Element" "trimLag" "I" ∈ wsX0_getTrimLag := by decide +kernel
  refine mm_of (cc := cX0_getTrimLag) (maxL := 1) (ret := some .int) (own := RX0) rfl hAD (plainFor_of_name (by decide)) rfl (Nat.le_of_ble_eq_true rfl) ⟨rfl, rfl⟩ ?_
  intro pp ee ss mm bl mth cd C hret hlk9
  show mm_G _ _ _ _ _ _ _ _ _ _ _ _ _ _ _ _ _ _ M 0 [(0, .ref (ad (10 + i)))] []
  refine r_aload_n C dX0_getTrimLag_0 rfl 0 rfl ?_
  refine r_get0 C hi inX0 9 (by decide) rfl f49 rfl dX0_getTrimLag_1 ?_
  exact r_iret C hret hlk9 dX0_getTrimLag_4 ⟨by first | rfl | (subst_vars; rfl) | (subst_vars; simp [*]), by first | rfl | (subst_vars; rfl)⟩

abbrev rmX0_setLiving : Room := { frames := 0, cells := 0, slots := 0, locals := 0 }
set_option maxHeartbeats 400000 in
set_option maxRecDepth 100000 in
theorem kX0_setLiving {l : Launch} {D : va_G} {ad : Nat → Nat} {q : Nat → ClassId} {A : Nat → Prop} (hAD : mm_AD ad A) {i : Nat} (hi : i < 8) {M : mm_M} {x : Int32} (hx : x &&& 1 = x) : mm_Kd l D ad q A yX0_setLiving wsX0_setLiving rmX0_setLiving [.ref (ad (10 + i)), .int x] M none (mm_sI M (10 + i) 4 x) := by
  have inX0 : ∀ w ∈ wsX00, w ∈ wsX0_setLiving := by decide +kernel
  have f33 : Cond.fieldLink RX0 33 "Beamrow$Element" "living" "Z" ∈ wsX0_setLiving := by decide +kernel
  refine mm_of (cc := cX0_setLiving) (maxL := 2) (ret := none) (own := RX0) rfl hAD (plainFor_of_name (by decide)) rfl (Nat.le_of_ble_eq_true rfl) ⟨rfl, rfl⟩ ?_
  intro pp ee ss mm bl mth cd C hret hlk9
  show mm_G _ _ _ _ _ _ _ _ _ _ _ _ _ _ _ _ _ _ M 0 [(0, .ref (ad (10 + i))), (1, .int x)] []
  refine r_aload_n C dX0_setLiving_0 rfl 0 rfl ?_
  refine r_iload_n C dX0_setLiving_1 rfl 1 rfl ?_
  refine r_put0 C hi inX0 (ty := .boolean) 4 (by decide) mm_set0_4 f33 rfl rfl (by decide +kernel) (congrArg Value.int (hx)) (mm_fz (hx)) dX0_setLiving_2 ?_
  exact r_vret C hret hlk9 dX0_setLiving_5 ⟨by first | rfl | (subst_vars; rfl) | (subst_vars; simp [*]), by first | rfl | (subst_vars; rfl)⟩

def mc_putUp (M : mm_M) (i : Nat) (x y z w : Int32) : mm_M := mm_sI (mm_sI (mm_sI (mm_sI (mm_sI (mm_sI (mm_sI M (10 + i) 3 1) (10 + i) 4 1) (10 + i) 5 x) (10 + i) 6 y) (10 + i) 7 z) (18 + i) 1 w) (18 + i) 2 w
abbrev rmX0_putUp : Room := { frames := 1, cells := 0, slots := 0, locals := 21 }
set_option maxHeartbeats 400000 in
set_option maxRecDepth 100000 in
theorem kX0_putUp {l : Launch} {D : va_G} {ad : Nat → Nat} {q : Nat → ClassId} {A : Nat → Prop} (hAD : mm_AD ad A) {i : Nat} (hi : i < 8) {M : mm_M} {x y z w : Int32} : mm_Kd l D ad q A yX0_putUp wsX0_putUp rmX0_putUp [.ref (ad (10 + i)), .int x, .int y, .int z, .int w] M none (mc_putUp M i x y z w) := by
  have inX0 : ∀ w ∈ wsX00, w ∈ wsX0_putUp := by decide +kernel
  have f12 : Cond.fieldLink RX0 12 "Beamrow$Element" "tape" "LBeamrow$Tape;" ∈ wsX0_putUp := by decide +kernel
  have f29 : Cond.fieldLink RX0 29 "Beamrow$Element" "up" "Z" ∈ wsX0_putUp := by decide +kernel
  have f33 : Cond.fieldLink RX0 33 "Beamrow$Element" "living" "Z" ∈ wsX0_putUp := by decide +kernel
  have f36 : Cond.fieldLink RX0 36 "Beamrow$Element" "position" "I" ∈ wsX0_putUp := by decide +kernel
  have f39 : Cond.fieldLink RX0 39 "Beamrow$Element" "gain" "I" ∈ wsX0_putUp := by decide +kernel
  have f42 : Cond.fieldLink RX0 42 "Beamrow$Element" "lag" "I" ∈ wsX0_putUp := by decide +kernel
  refine mm_of (cc := cX0_putUp) (maxL := 5) (ret := none) (own := RX0) rfl hAD (plainFor_of_name (by decide)) rfl (Nat.le_of_ble_eq_true rfl) ⟨rfl, rfl⟩ ?_
  intro pp ee ss mm bl mth cd C hret hlk9
  show mm_G _ _ _ _ _ _ _ _ _ _ _ _ _ _ _ _ _ _ M 0 [(0, .ref (ad (10 + i))), (1, .int x), (2, .int y), (3, .int z), (4, .int w)] []
  refine r_aload_n C dX0_putUp_0 rfl 0 rfl ?_
  refine r_iconst (v := 1) C dX0_putUp_1 rfl ?_
  refine r_put0 C hi inX0 (ty := .boolean) 3 (by decide) mm_set0_3 f29 rfl rfl (by decide +kernel) (congrArg Value.int (by decide)) (mm_fz (by decide)) dX0_putUp_2 ?_
  refine r_aload_n C dX0_putUp_5 rfl 0 rfl ?_
  refine r_iconst (v := 1) C dX0_putUp_6 rfl ?_
  refine r_put0 C hi inX0 (ty := .boolean) 4 (by decide) mm_set0_4 f33 rfl rfl (by decide +kernel) (congrArg Value.int (by decide)) (mm_fz (by decide)) dX0_putUp_7 ?_
  refine r_aload_n C dX0_putUp_10 rfl 0 rfl ?_
  refine r_iload_n C dX0_putUp_11 rfl 1 rfl ?_
  refine r_put0 C hi inX0 (ty := .int) 5 (by decide) mm_set0_5 f36 rfl rfl (by decide +kernel) rfl rfl dX0_putUp_12 ?_
  refine r_aload_n C dX0_putUp_15 rfl 0 rfl ?_
  refine r_iload_n C dX0_putUp_16 rfl 2 rfl ?_
  refine r_put0 C hi inX0 (ty := .int) 6 (by decide) mm_set0_6 f39 rfl rfl (by decide +kernel) rfl rfl dX0_putUp_17 ?_
  refine r_aload_n C dX0_putUp_20 rfl 0 rfl ?_
  refine r_iload_n C dX0_putUp_21 rfl 3 rfl ?_
  refine r_put0 C hi inX0 (ty := .int) 7 (by decide) mm_set0_7 f42 rfl rfl (by decide +kernel) rfl rfl dX0_putUp_22 ?_
  refine r_aload_n C dX0_putUp_25 rfl 0 rfl ?_
  refine r_get0 C hi inX0 0 (by decide) rfl f12 rfl dX0_putUp_26 ?_
  refine r_iload C dX0_putUp_29 4 rfl ?_
  refine r_callV1V C 3 (by have := hi; omega) rfl (mm_ct3 ad q _ hi) (kX3_beginAt hAD hi) (cwV 1 C.1.2.2.2.2 gX0_putUp_X3_beginAt rfl rfl rfl (by decide +kernel) ⟨Nat.le_of_ble_eq_true rfl, Nat.le_of_ble_eq_true rfl⟩) (Nat.le_of_ble_eq_true rfl) dX0_putUp_31 ⟨rfl, rfl⟩ ⟨Nat.zero_le _, Nat.zero_le _⟩ ?_
  exact r_vret C hret hlk9 dX0_putUp_34 ⟨by first | rfl | (subst_vars; rfl) | (subst_vars; simp [*]), by first | rfl | (subst_vars; rfl)⟩

def mc_trimv (M : mm_M) (i : Nat) (g t : Int32) : Int32 := if ¬ g = M.1 (10 + i) 8 then 1 else if t = M.1 (10 + i) 9 then 0 else 1
abbrev rmX0_trim : Room := { frames := 0, cells := 0, slots := 0, locals := 0 }
set_option maxHeartbeats 400000 in
set_option maxRecDepth 100000 in
theorem kX0_trim {l : Launch} {D : va_G} {ad : Nat → Nat} {q : Nat → ClassId} {A : Nat → Prop} (hAD : mm_AD ad A) {i : Nat} (hi : i < 8) {M : mm_M} {g t : Int32} : mm_Kd l D ad q A yX0_trim wsX0_trim rmX0_trim [.ref (ad (10 + i)), .int g, .int t] M (some (.int (mc_trimv M i g t))) (mm_sI (mm_sI M (10 + i) 8 g) (10 + i) 9 t) := by
  have inX0 : ∀ w ∈ wsX00, w ∈ wsX0_trim := by decide +kernel
  have f25 : Cond.fieldLink RX0 25 "Beamrow$Element" "trimGain" "I" ∈ wsX0_trim := by decide +kernel
  have f49 : Cond.fieldLink RX0 49 "Beamrow$Element" "trimLag" "I" ∈ wsX0_trim := by decide +kernel
  refine mm_of (cc := cX0_trim) (maxL := 4) (ret := some .boolean) (own := RX0) rfl hAD (plainFor_of_name (by decide)) rfl (Nat.le_of_ble_eq_true rfl) ⟨rfl, rfl⟩ ?_
  intro pp ee ss mm bl mth cd C hret hlk9
  show mm_G _ _ _ _ _ _ _ _ _ _ _ _ _ _ _ _ _ _ M 0 [(0, .ref (ad (10 + i))), (1, .int g), (2, .int t)] []
  refine r_iload_n C dX0_trim_0 rfl 1 rfl ?_
  refine r_aload_n C dX0_trim_1 rfl 0 rfl ?_
  refine r_get0 C hi inX0 8 (by decide) rfl f25 rfl dX0_trim_2 ?_
  refine r_icmp_ne (tgt := 16) C dX0_trim_5 (by decide) (fun z5 => ?_) (fun z5 => ?_)
  · refine r_iconst (v := 1) C dX0_trim_16 rfl ?_
    refine r_goto (tgt := 21) C dX0_trim_17 (by decide) ?_
    refine r_istore_n (lv' := [(3, .int 1), (0, .ref (ad (10 + i))), (1, .int g), (2, .int t)]) C dX0_trim_21 rfl (by decide) rfl ?_
    refine r_aload_n C dX0_trim_22 rfl 1 rfl ?_
    refine r_iload_n C dX0_trim_23 rfl 2 rfl ?_
    refine r_put0 C hi inX0 (ty := .int) 8 (by decide) mm_set0_8 f25 rfl rfl (by decide +kernel) rfl rfl dX0_trim_24 ?_
    refine r_aload_n C dX0_trim_27 rfl 1 rfl ?_
    refine r_iload_n C dX0_trim_28 rfl 3 rfl ?_
    refine r_put0 C hi inX0 (ty := .int) 9 (by decide) mm_set0_9 f49 rfl rfl (by decide +kernel) rfl rfl dX0_trim_29 ?_
    refine r_iload_n C dX0_trim_32 rfl 0 rfl ?_
    exact r_zret C hret (by first | decide | assumption) hlk9 dX0_trim_33 ⟨by simp only [mc_trimv]; simp [*], by first | rfl | (subst_vars; rfl)⟩
  · refine r_iload_n C dX0_trim_8 rfl 2 rfl ?_
    refine r_aload_n C dX0_trim_9 rfl 0 rfl ?_
    refine r_get0 C hi inX0 9 (by decide) rfl f49 rfl dX0_trim_10 ?_
    refine r_icmp_eq (tgt := 20) C dX0_trim_13 (by decide) (fun z13 => ?_) (fun z13 => ?_)
    · refine r_iconst (v := 0) C dX0_trim_20 rfl ?_
      refine r_istore_n (lv' := [(3, .int 0), (0, .ref (ad (10 + i))), (1, .int g), (2, .int t)]) C dX0_trim_21 rfl (by decide) rfl ?_
      refine r_aload_n C dX0_trim_22 rfl 1 rfl ?_
      refine r_iload_n C dX0_trim_23 rfl 2 rfl ?_
      refine r_put0 C hi inX0 (ty := .int) 8 (by decide) mm_set0_8 f25 rfl rfl (by decide +kernel) rfl rfl dX0_trim_24 ?_
      refine r_aload_n C dX0_trim_27 rfl 1 rfl ?_
      refine r_iload_n C dX0_trim_28 rfl 3 rfl ?_
      refine r_put0 C hi inX0 (ty := .int) 9 (by decide) mm_set0_9 f49 rfl rfl (by decide +kernel) rfl rfl dX0_trim_29 ?_
      refine r_iload_n C dX0_trim_32 rfl 0 rfl ?_
      exact r_zret C hret (by first | decide | assumption) hlk9 dX0_trim_33 ⟨by simp only [mc_trimv]; simp [*], by first | rfl | (subst_vars; rfl)⟩
    · refine r_iconst (v := 1) C dX0_trim_16 rfl ?_
      refine r_goto (tgt := 21) C dX0_trim_17 (by decide) ?_
      refine r_istore_n (lv' := [(3, .int 1), (0, .ref (ad (10 + i))), (1, .int g), (2, .int t)]) C dX0_trim_21 rfl (by decide) rfl ?_
      refine r_aload_n C dX0_trim_22 rfl 1 rfl ?_
      refine r_iload_n C dX0_trim_23 rfl 2 rfl ?_
      refine r_put0 C hi inX0 (ty := .int) 8 (by decide) mm_set0_8 f25 rfl rfl (by decide +kernel) rfl rfl dX0_trim_24 ?_
      refine r_aload_n C dX0_trim_27 rfl 1 rfl ?_
      refine r_iload_n C dX0_trim_28 rfl 3 rfl ?_
      refine r_put0 C hi inX0 (ty := .int) 9 (by decide) mm_set0_9 f49 rfl rfl (by decide +kernel) rfl rfl dX0_trim_29 ?_
      refine r_iload_n C dX0_trim_32 rfl 0 rfl ?_
      exact r_zret C hret (by first | decide | assumption) hlk9 dX0_trim_33 ⟨by simp only [mc_trimv]; simp [*], by first | rfl | (subst_vars; rfl)⟩

def mc_delay (M : mm_M) (i : Nat) (b : Int32) : Int32 := nm_fdI (M.1 (10 + i) 5 * b) 4
abbrev rmX0_delayFor : Room := { frames := 1, cells := 0, slots := 0, locals := 22 }
set_option maxHeartbeats 400000 in
set_option maxRecDepth 100000 in
theorem kX0_delayFor {l : Launch} {D : va_G} {ad : Nat → Nat} {q : Nat → ClassId} {A : Nat → Prop} (hAD : mm_AD ad A) {i : Nat} (hi : i < 8) {M : mm_M} {b : Int32} : mm_Kd l D ad q A yX0_delayFor wsX0_delayFor rmX0_delayFor [.ref (ad (10 + i)), .int b] M (some (.int (mc_delay M i b))) M := by
  have inX0 : ∀ w ∈ wsX00, w ∈ wsX0_delayFor := by decide +kernel
  have f36 : Cond.fieldLink RX0 36 "Beamrow$Element" "position" "I" ∈ wsX0_delayFor := by decide +kernel
  refine mm_of (cc := cX0_delayFor) (maxL := 2) (ret := some .int) (own := RX0) rfl hAD (plainFor_of_name (by decide)) rfl (Nat.le_of_ble_eq_true rfl) ⟨rfl, rfl⟩ ?_
  intro pp ee ss mm bl mth cd C hret hlk9
  show mm_G _ _ _ _ _ _ _ _ _ _ _ _ _ _ _ _ _ _ M 0 [(0, .ref (ad (10 + i))), (1, .int b)] []
  refine r_aload_n C dX0_delayFor_0 rfl 0 rfl ?_
  refine r_get0 C hi inX0 5 (by decide) rfl f36 rfl dX0_delayFor_1 ?_
  refine r_iload_n C dX0_delayFor_4 rfl 1 rfl ?_
  refine r_imul C dX0_delayFor_5 ?_
  refine r_iconst (v := 4) C dX0_delayFor_6 rfl ?_
  refine r_callS2I C (kJ9_floorDiv_7cf53 hAD (by decide)) (va_cwS 2 C.1.2.2.2.2 gX0_delayFor_J9_floorDiv_7cf53 rfl rfl rfl (by decide +kernel) ⟨Nat.le_of_ble_eq_true rfl, Nat.le_of_ble_eq_true rfl⟩) (Nat.le_of_ble_eq_true rfl) dX0_delayFor_7 ⟨rfl, rfl⟩ ⟨Nat.zero_le _, Nat.zero_le _⟩ ?_
  exact r_iret C hret hlk9 dX0_delayFor_10 ⟨by first | rfl | (subst_vars; rfl) | (subst_vars; simp [*]), by first | rfl | (subst_vars; rfl)⟩

abbrev rmX0_heardOf : Room := { frames := 1, cells := 0, slots := 0, locals := 22 }
set_option maxHeartbeats 400000 in
set_option maxRecDepth 100000 in
theorem kX0_heardOf {l : Launch} {D : va_G} {ad : Nat → Nat} {q : Nat → ClassId} {A : Nat → Prop} (hAD : mm_AD ad A) {i : Nat} (hi : i < 8) {M : mm_M} {w : Int32} : mm_Kd l D ad q A yX0_heardOf wsX0_heardOf rmX0_heardOf [.ref (ad (10 + i)), .int w] M (some (.int (nm_fdI (w * M.1 (10 + i) 6) 64))) M := by
  have inX0 : ∀ w ∈ wsX00, w ∈ wsX0_heardOf := by decide +kernel
  have f39 : Cond.fieldLink RX0 39 "Beamrow$Element" "gain" "I" ∈ wsX0_heardOf := by decide +kernel
  refine mm_of (cc := cX0_heardOf) (maxL := 2) (ret := some .int) (own := RX0) rfl hAD (plainFor_of_name (by decide)) rfl (Nat.le_of_ble_eq_true rfl) ⟨rfl, rfl⟩ ?_
  intro pp ee ss mm bl mth cd C hret hlk9
  show mm_G _ _ _ _ _ _ _ _ _ _ _ _ _ _ _ _ _ _ M 0 [(0, .ref (ad (10 + i))), (1, .int w)] []
  refine r_iload_n C dX0_heardOf_0 rfl 1 rfl ?_
  refine r_aload_n C dX0_heardOf_1 rfl 0 rfl ?_
  refine r_get0 C hi inX0 6 (by decide) rfl f39 rfl dX0_heardOf_2 ?_
  refine r_imul C dX0_heardOf_5 ?_
  refine r_bipush (v := (64)) C dX0_heardOf_6 rfl ?_
  refine r_callS2I C (kJ9_floorDiv_7cf53 hAD (by decide)) (va_cwS 2 C.1.2.2.2.2 gX0_heardOf_J9_floorDiv_7cf53 rfl rfl rfl (by decide +kernel) ⟨Nat.le_of_ble_eq_true rfl, Nat.le_of_ble_eq_true rfl⟩) (Nat.le_of_ble_eq_true rfl) dX0_heardOf_8 ⟨rfl, rfl⟩ ⟨Nat.zero_le _, Nat.zero_le _⟩ ?_
  exact r_iret C hret hlk9 dX0_heardOf_11 ⟨by first | rfl | (subst_vars; rfl) | (subst_vars; simp [*]), by first | rfl | (subst_vars; rfl)⟩

abbrev rmX0_keep : Room := { frames := 2, cells := 0, slots := 0, locals := 42 }
set_option maxHeartbeats 400000 in
set_option maxRecDepth 100000 in
theorem kX0_keep {l : Launch} {D : va_G} {ad : Nat → Nat} {q : Nat → ClassId} {A : Nat → Prop} (hAD : mm_AD ad A) {i : Nat} (hi : i < 8) {M : mm_M} {x : Int32} : mm_Kd l D ad q A yX0_keep wsX0_keep rmX0_keep [.ref (ad (10 + i)), .int x] M none (mc_add M i x) := by
  have inX0 : ∀ w ∈ wsX00, w ∈ wsX0_keep := by decide +kernel
  have f12 : Cond.fieldLink RX0 12 "Beamrow$Element" "tape" "LBeamrow$Tape;" ∈ wsX0_keep := by decide +kernel
  refine mm_of (cc := cX0_keep) (maxL := 2) (ret := none) (own := RX0) rfl hAD (plainFor_of_name (by decide)) rfl (Nat.le_of_ble_eq_true rfl) ⟨rfl, rfl⟩ ?_
  intro pp ee ss mm bl mth cd C hret hlk9
  show mm_G _ _ _ _ _ _ _ _ _ _ _ _ _ _ _ _ _ _ M 0 [(0, .ref (ad (10 + i))), (1, .int x)] []
  refine r_aload_n C dX0_keep_0 rfl 0 rfl ?_
  refine r_get0 C hi inX0 0 (by decide) rfl f12 rfl dX0_keep_1 ?_
  refine r_iload_n C dX0_keep_4 rfl 1 rfl ?_
  refine r_callV1V C 3 (by have := hi; omega) rfl (mm_ct3 ad q _ hi) (kX3_add hAD hi) (cwV 1 C.1.2.2.2.2 gX0_keep_X3_add rfl rfl rfl (by decide +kernel) ⟨Nat.le_of_ble_eq_true rfl, Nat.le_of_ble_eq_true rfl⟩) (Nat.le_of_ble_eq_true rfl) dX0_keep_5 ⟨rfl, rfl⟩ ⟨Nat.zero_le _, Nat.zero_le _⟩ ?_
  exact r_vret C hret hlk9 dX0_keep_8 ⟨by first | rfl | (subst_vars; rfl) | (subst_vars; simp [*]), by first | rfl | (subst_vars; rfl)⟩

abbrev rmX0_keptAt : Room := { frames := 2, cells := 0, slots := 0, locals := 43 }
set_option maxHeartbeats 400000 in
set_option maxRecDepth 100000 in
theorem kX0_keptAt {l : Launch} {D : va_G} {ad : Nat → Nat} {q : Nat → ClassId} {A : Nat → Prop} (hAD : mm_AD ad A) {i : Nat} (hi : i < 8) {M : mm_M} {x : Int32} : mm_Kd l D ad q A yX0_keptAt wsX0_keptAt rmX0_keptAt [.ref (ad (10 + i)), .int x] M (some (.int (mc_at M i (63 - x)))) M := by
  have inX0 : ∀ w ∈ wsX00, w ∈ wsX0_keptAt := by decide +kernel
  have f12 : Cond.fieldLink RX0 12 "Beamrow$Element" "tape" "LBeamrow$Tape;" ∈ wsX0_keptAt := by decide +kernel
  refine mm_of (cc := cX0_keptAt) (maxL := 2) (ret := some .int) (own := RX0) rfl hAD (plainFor_of_name (by decide)) rfl (Nat.le_of_ble_eq_true rfl) ⟨rfl, rfl⟩ ?_
  intro pp ee ss mm bl mth cd C hret hlk9
  show mm_G _ _ _ _ _ _ _ _ _ _ _ _ _ _ _ _ _ _ M 0 [(0, .ref (ad (10 + i))), (1, .int x)] []
  refine r_aload_n C dX0_keptAt_0 rfl 0 rfl ?_
  refine r_get0 C hi inX0 0 (by decide) rfl f12 rfl dX0_keptAt_1 ?_
  refine r_bipush (v := (63)) C dX0_keptAt_4 rfl ?_
  refine r_iload_n C dX0_keptAt_6 rfl 1 rfl ?_
  refine r_isub C dX0_keptAt_7 ?_
  refine r_callV1I C 3 (by have := hi; omega) rfl (mm_ct3 ad q _ hi) (kX3_at hAD hi) (cwV 1 C.1.2.2.2.2 gX0_keptAt_X3_at rfl rfl rfl (by decide +kernel) ⟨Nat.le_of_ble_eq_true rfl, Nat.le_of_ble_eq_true rfl⟩) (Nat.le_of_ble_eq_true rfl) dX0_keptAt_8 ⟨rfl, rfl⟩ ⟨Nat.zero_le _, Nat.zero_le _⟩ ?_
  exact r_iret C hret hlk9 dX0_keptAt_11 ⟨by first | rfl | (subst_vars; rfl) | (subst_vars; simp [*]), by first | rfl | (subst_vars; rfl)⟩

def mc_turnN (M : mm_M) (i n : Nat) : mm_M := mm_row M (42 + i) n (fun c => nm_fdJ (M.2 (34 + i) c * 64) (M.1 (10 + i) 8).toInt64)
def mc_turn (M : mm_M) (i : Nat) : mm_M := if lg_cmp (M.2 (10 + i) 10) 0 ≤ 0 then M else if M.1 (10 + i) 8 ≤ 0 then M else mc_turnN M i 64
theorem mc_turnN_34 {M : mm_M} {i n c : Nat} : (mc_turnN M i n).2 (34 + i) c = M.2 (34 + i) c := mm_row_o (by omega)
abbrev rmX0_turnAll : Room := { frames := 1, cells := 0, slots := 0, locals := 25 }
set_option maxHeartbeats 400000 in
set_option maxRecDepth 100000 in
theorem kX0_turnAll {l : Launch} {D : va_G} {ad : Nat → Nat} {q : Nat → ClassId} {A : Nat → Prop} (hAD : mm_AD ad A) {i : Nat} (hi : i < 8) {M : mm_M} : mm_Kd l D ad q A yX0_turnAll wsX0_turnAll rmX0_turnAll [.ref (ad (10 + i))] M none (mc_turn M i) := by
  have inX0 : ∀ w ∈ wsX00, w ∈ wsX0_turnAll := by decide +kernel
  have f18 : Cond.fieldLink RX0 18 "Beamrow$Element" "laid" "[J" ∈ wsX0_turnAll := by decide +kernel
  have f22 : Cond.fieldLink RX0 22 "Beamrow$Element" "turned" "[J" ∈ wsX0_turnAll := by decide +kernel
  have f25 : Cond.fieldLink RX0 25 "Beamrow$Element" "trimGain" "I" ∈ wsX0_turnAll := by decide +kernel
  have f65 : Cond.fieldLink RX0 65 "Beamrow$Element" "weight" "J" ∈ wsX0_turnAll := by decide +kernel
  have n72 : Cond.constantLong RX0 72 (64) ∈ wsX0_turnAll := by decide +kernel
  refine mm_of (cc := cX0_turnAll) (maxL := 2) (ret := none) (own := RX0) rfl hAD (plainFor_of_name (by decide)) rfl (Nat.le_of_ble_eq_true rfl) ⟨rfl, rfl⟩ ?_
  intro pp ee ss mm bl mth cd C hret hlk9
  show mm_G _ _ _ _ _ _ _ _ _ _ _ _ _ _ _ _ _ _ M 0 [(0, .ref (ad (10 + i)))] []
  refine r_aload_n C dX0_turnAll_0 rfl 0 rfl ?_
  refine r_get0 C hi inX0 10 (by decide) rfl f65 rfl dX0_turnAll_1 ?_
  refine r_lconst (v := 0) C dX0_turnAll_4 rfl ?_
  refine r_lcmp C dX0_turnAll_5 ?_
  refine r_if_le (tgt := 66) C dX0_turnAll_6 (by decide) (fun z6 => ?_) (fun z6 => ?_)
  · exact r_vret C hret hlk9 dX0_turnAll_66 ⟨by first | rfl | (subst_vars; rfl) | (subst_vars; simp [*]), by simp only [mc_turn]; simp [*]⟩
  · refine r_aload_n C dX0_turnAll_9 rfl 0 rfl ?_
    refine r_get0 C hi inX0 8 (by decide) rfl f25 rfl dX0_turnAll_10 ?_
    refine r_if_le (tgt := 66) C dX0_turnAll_13 (by decide) (fun z13 => ?_) (fun z13 => ?_)
    · exact r_vret C hret hlk9 dX0_turnAll_66 ⟨by first | rfl | (subst_vars; rfl) | (subst_vars; simp [*]), by simp only [mc_turn]; simp [*]⟩
    · refine r_iconst (v := 0) C dX0_turnAll_16 rfl ?_
      refine r_istore_n (lv' := [(1, .int 0), (0, .ref (ad (10 + i)))]) C dX0_turnAll_17 rfl (by decide) rfl ?_
      have L18 : ∀ (k9 : Nat) (n : Nat) (hn : n ≤ 64), 64 - n < k9 → mm_G pp l ee rmX0_turnAll ss mm ([.ref (ad (10 + i))] : List Value).toArray bl mth cd 0 0 (MQ bl (mm_Q D ad q A (fun v' u => v' = none ∧ u = mc_turn M i)) ([.ref (ad (10 + i))] : List Value).toArray ss 0 0 A) 2 D ad q A (mc_turnN M i n) 18 [(1, .int (nI n)), (0, .ref (ad (10 + i)))] [] := by
        intro k9
        induction k9 with
        | zero => intro n hn h9; exact absurd h9 (Nat.not_lt_zero _)
        | succ k9 ih18 =>
          intro n hn h9
          refine r_iload_n C dX0_turnAll_18 rfl 0 rfl ?_
          refine r_aload_n C dX0_turnAll_19 rfl 1 rfl ?_
          refine r_get0 C hi inX0 2 (by decide) rfl f22 rfl dX0_turnAll_20 ?_
          refine r_alenJ C (mm_aJ_turned hi) dX0_turnAll_23 ?_
          refine r_icmp_ge (tgt := 66) C dX0_turnAll_24 (by decide) (fun z24 => ?_) (fun z24 => ?_)
          · obtain rfl : n = 64 := nm_ge hn (by decide) z24
            exact r_vret C hret hlk9 dX0_turnAll_66 ⟨by first | rfl | (subst_vars; rfl) | (subst_vars; simp [*]), by simp only [mc_turn]; simp [*]⟩
          · have hlt : n < 64 := nm_lt (by omega) (by decide) z24
            refine r_iload_n C dX0_turnAll_27 rfl 0 rfl ?_
            refine r_aload_n C dX0_turnAll_28 rfl 1 rfl ?_
            refine r_get0 C hi inX0 1 (by decide) rfl f18 rfl dX0_turnAll_29 ?_
            refine r_alenJ C (mm_aJ_laid hi) dX0_turnAll_32 ?_
            refine r_icmp_geF (tgt := 66) C dX0_turnAll_33 (by decide) (nm_nge hlt (by decide)) ?_
            refine r_aload_n C dX0_turnAll_36 rfl 1 rfl ?_
            refine r_get0 C hi inX0 2 (by decide) rfl f22 rfl dX0_turnAll_37 ?_
            refine r_iload_n C dX0_turnAll_40 rfl 0 rfl ?_
            refine r_aload_n C dX0_turnAll_41 rfl 1 rfl ?_
            refine r_get0 C hi inX0 1 (by decide) rfl f18 rfl dX0_turnAll_42 ?_
            refine r_iload_n C dX0_turnAll_45 rfl 0 rfl ?_
            refine r_lald C (mm_aJ_laid hi) (n) (nI_toInt (by omega)) (hlt) dX0_turnAll_46 ?_
            refine r_ldc2 C n72 dX0_turnAll_47 ?_
            refine r_lmul C dX0_turnAll_50 ?_
            refine r_aload_n C dX0_turnAll_51 rfl 1 rfl ?_
            refine r_get0 C hi inX0 8 (by decide) rfl f25 rfl dX0_turnAll_52 ?_
            refine r_i2l C dX0_turnAll_55 ?_
            refine r_callS2J C (kJ9_floorDiv_f86c9 hAD (nm_posJ z13)) (va_cwS 2 C.1.2.2.2.2 gX0_turnAll_J9_floorDiv_f86c9 rfl rfl rfl (by decide +kernel) ⟨Nat.le_of_ble_eq_true rfl, Nat.le_of_ble_eq_true rfl⟩) (Nat.le_of_ble_eq_true rfl) dX0_turnAll_56 ⟨rfl, rfl⟩ ⟨Nat.zero_le _, Nat.zero_le _⟩ ?_
            refine r_last C (mm_aJ_turned hi) (n) (nI_toInt (by omega)) (hlt) dX0_turnAll_59 ?_
            obtain ⟨v1_60, ev1_60⟩ : ∃ y9 : Int32, y9 = (nI n) + 1 := ⟨_, rfl⟩
            refine r_iinc (v := v1_60) (lv' := [(1, .int v1_60), (0, .ref (ad (10 + i)))]) C dX0_turnAll_60 0 rfl (by rw [ev1_60]; rfl) (by decide) rfl ?_
            refine r_goto (tgt := 18) C dX0_turnAll_63 (by decide) ?_
            refine r_cast (M' := mc_turnN M i (n + 1)) (lv' := [(1, .int (nI (n + 1))), (0, .ref (ad (10 + i)))]) (st' := []) (by rw [mc_turnN_34]; exact mm_row_s) (by rw [ev1_60, nI_1]) rfl (ih18 (n + 1) (by omega) (by omega))
      refine r_cast (M' := mc_turnN M i 0) (lv' := [(1, .int (nI 0)), (0, .ref (ad (10 + i)))]) (st' := []) mm_row_0 rfl rfl (L18 (64 - 0 + 1) 0 (by omega) (by omega))

def mc_layN (M : mm_M) (i n : Nat) : mm_M := mm_row M (34 + i) n (fun c => (mc_at M i (nI c)).toInt64)
def mc_layOut (M : mm_M) (i : Nat) (w : Int32) : mm_M := if lg_cmp w.toInt64 0 ≤ 0 then mm_sL M (10 + i) 10 w.toInt64 else mc_turn (mc_layN (mm_sL M (10 + i) 10 w.toInt64) i 64) i
abbrev rmX0_layOut : Room := { frames := 2, cells := 0, slots := 0, locals := 46 }
set_option maxHeartbeats 400000 in
set_option maxRecDepth 100000 in
theorem kX0_layOut {l : Launch} {D : va_G} {ad : Nat → Nat} {q : Nat → ClassId} {A : Nat → Prop} (hAD : mm_AD ad A) {i : Nat} (hi : i < 8) {M : mm_M} {w : Int32} : mm_Kd l D ad q A yX0_layOut wsX0_layOut rmX0_layOut [.ref (ad (10 + i)), .int w] M none (mc_layOut M i w) := by
  have inX0 : ∀ w ∈ wsX00, w ∈ wsX0_layOut := by decide +kernel
  have f12 : Cond.fieldLink RX0 12 "Beamrow$Element" "tape" "LBeamrow$Tape;" ∈ wsX0_layOut := by decide +kernel
  have f18 : Cond.fieldLink RX0 18 "Beamrow$Element" "laid" "[J" ∈ wsX0_layOut := by decide +kernel
  have f65 : Cond.fieldLink RX0 65 "Beamrow$Element" "weight" "J" ∈ wsX0_layOut := by decide +kernel
  refine mm_of (cc := cX0_layOut) (maxL := 3) (ret := none) (own := RX0) rfl hAD (plainFor_of_name (by decide)) rfl (Nat.le_of_ble_eq_true rfl) ⟨rfl, rfl⟩ ?_
  intro pp ee ss mm bl mth cd C hret hlk9
  show mm_G _ _ _ _ _ _ _ _ _ _ _ _ _ _ _ _ _ _ M 0 [(0, .ref (ad (10 + i))), (1, .int w)] []
  refine r_aload_n C dX0_layOut_0 rfl 0 rfl ?_
  refine r_iload_n C dX0_layOut_1 rfl 1 rfl ?_
  refine r_i2l C dX0_layOut_2 ?_
  refine r_putW C hi inX0 f65 dX0_layOut_3 ?_
  refine r_aload_n C dX0_layOut_6 rfl 0 rfl ?_
  refine r_get0 C hi inX0 10 (by decide) rfl f65 rfl dX0_layOut_7 ?_
  refine r_lconst (v := 0) C dX0_layOut_10 rfl ?_
  refine r_lcmp C dX0_layOut_11 ?_
  refine r_if_le (tgt := 51) C dX0_layOut_12 (by decide) (fun z12 => ?_) (fun z12 => ?_)
  · rw [mm_sL_s] at z12
    exact r_vret C hret hlk9 dX0_layOut_51 ⟨by first | rfl | (subst_vars; rfl) | (subst_vars; simp [*]), by simp only [mc_layOut]; simp [*]⟩
  · rw [mm_sL_s] at z12
    refine r_iconst (v := 0) C dX0_layOut_15 rfl ?_
    refine r_istore_n (lv' := [(2, .int 0), (0, .ref (ad (10 + i))), (1, .int w)]) C dX0_layOut_16 rfl (by decide) rfl ?_
    have L17 : ∀ (k9 : Nat) (n : Nat) (hn : n ≤ 64), 64 - n < k9 → mm_G pp l ee rmX0_layOut ss mm ([.ref (ad (10 + i)), .int w] : List Value).toArray bl mth cd 0 0 (MQ bl (mm_Q D ad q A (fun v' u => v' = none ∧ u = mc_layOut M i w)) ([.ref (ad (10 + i)), .int w] : List Value).toArray ss 0 0 A) 3 D ad q A (mc_layN (mm_sL M (10 + i) 10 w.toInt64) i n) 17 [(2, .int (nI n)), (0, .ref (ad (10 + i))), (1, .int w)] [] := by
      intro k9
      induction k9 with
      | zero => intro n hn h9; exact absurd h9 (Nat.not_lt_zero _)
      | succ k9 ih17 =>
        intro n hn h9
        refine r_iload_n C dX0_layOut_17 rfl 0 rfl ?_
        refine r_aload_n C dX0_layOut_18 rfl 1 rfl ?_
        refine r_get0 C hi inX0 1 (by decide) rfl f18 rfl dX0_layOut_19 ?_
        refine r_alenJ C (mm_aJ_laid hi) dX0_layOut_22 ?_
        refine r_icmp_ge (tgt := 47) C dX0_layOut_23 (by decide) (fun z23 => ?_) (fun z23 => ?_)
        · obtain rfl : n = 64 := nm_ge hn (by decide) z23
          refine r_aload_n C dX0_layOut_47 rfl 1 rfl ?_
          refine r_callV0V C 0 (by have := hi; omega) rfl (mm_ct0 ad q _ hi) (kX0_turnAll hAD hi) (cwV 0 C.1.2.2.2.2 gX0_layOut_X0_turnAll rfl rfl rfl (by decide +kernel) ⟨Nat.le_of_ble_eq_true rfl, Nat.le_of_ble_eq_true rfl⟩) (Nat.le_of_ble_eq_true rfl) dX0_layOut_48 ⟨rfl, rfl⟩ ⟨Nat.zero_le _, Nat.zero_le _⟩ ?_
          exact r_vret C hret hlk9 dX0_layOut_51 ⟨by first | rfl | (subst_vars; rfl) | (subst_vars; simp [*]), by simp only [mc_layOut]; simp [*]⟩
        · have hlt : n < 64 := nm_lt (by omega) (by decide) z23
          refine r_aload_n C dX0_layOut_26 rfl 1 rfl ?_
          refine r_get0 C hi inX0 1 (by decide) rfl f18 rfl dX0_layOut_27 ?_
          refine r_iload_n C dX0_layOut_30 rfl 0 rfl ?_
          refine r_aload_n C dX0_layOut_31 rfl 1 rfl ?_
          refine r_get0 C hi inX0 0 (by decide) rfl f12 rfl dX0_layOut_32 ?_
          refine r_iload_n C dX0_layOut_35 rfl 0 rfl ?_
          refine r_callV1I C 3 (by have := hi; omega) rfl (mm_ct3 ad q _ hi) (kX3_at hAD hi) (cwV 1 C.1.2.2.2.2 gX0_layOut_X3_at rfl rfl rfl (by decide +kernel) ⟨Nat.le_of_ble_eq_true rfl, Nat.le_of_ble_eq_true rfl⟩) (Nat.le_of_ble_eq_true rfl) dX0_layOut_36 ⟨rfl, rfl⟩ ⟨Nat.zero_le _, Nat.zero_le _⟩ ?_
          refine r_i2l C dX0_layOut_39 ?_
          refine r_last C (mm_aJ_laid hi) (n) (nI_toInt (by omega)) (hlt) dX0_layOut_40 ?_
          obtain ⟨v2_41, ev2_41⟩ : ∃ y9 : Int32, y9 = (nI n) + 1 := ⟨_, rfl⟩
          refine r_iinc (v := v2_41) (lv' := [(2, .int v2_41), (0, .ref (ad (10 + i))), (1, .int w)]) C dX0_layOut_41 0 rfl (by rw [ev2_41]; rfl) (by decide) rfl ?_
          refine r_goto (tgt := 17) C dX0_layOut_44 (by decide) ?_
          refine r_cast (M' := mc_layN (mm_sL M (10 + i) 10 w.toInt64) i (n + 1)) (lv' := [(2, .int (nI (n + 1))), (0, .ref (ad (10 + i))), (1, .int w)]) (st' := []) mm_row_s (by rw [ev2_41, nI_1]) rfl (ih17 (n + 1) (by omega) (by omega))
    refine r_cast (M' := mc_layN (mm_sL M (10 + i) 10 w.toInt64) i 0) (lv' := [(2, .int (nI 0)), (0, .ref (ad (10 + i))), (1, .int w)]) (st' := []) mm_row_0 rfl rfl (L17 (64 - 0 + 1) 0 (by omega) (by omega))

def mc_ft (M : mm_M) (i : Nat) (b : Int32) : Int32 := 16 + mc_delay M i b + M.1 (10 + i) 9
abbrev rmX0_firstTold : Room := { frames := 2, cells := 0, slots := 0, locals := 43 }
set_option maxHeartbeats 400000 in
set_option maxRecDepth 100000 in
theorem kX0_firstTold {l : Launch} {D : va_G} {ad : Nat → Nat} {q : Nat → ClassId} {A : Nat → Prop} (hAD : mm_AD ad A) {i : Nat} (hi : i < 8) {M : mm_M} {b : Int32} : mm_Kd l D ad q A yX0_firstTold wsX0_firstTold rmX0_firstTold [.ref (ad (10 + i)), .int b] M (some (.int (mc_ft M i b))) M := by
  have inX0 : ∀ w ∈ wsX00, w ∈ wsX0_firstTold := by decide +kernel
  have f49 : Cond.fieldLink RX0 49 "Beamrow$Element" "trimLag" "I" ∈ wsX0_firstTold := by decide +kernel
  refine mm_of (cc := cX0_firstTold) (maxL := 2) (ret := some .int) (own := RX0) rfl hAD (plainFor_of_name (by decide)) rfl (Nat.le_of_ble_eq_true rfl) ⟨rfl, rfl⟩ ?_
  intro pp ee ss mm bl mth cd C hret hlk9
  show mm_G _ _ _ _ _ _ _ _ _ _ _ _ _ _ _ _ _ _ M 0 [(0, .ref (ad (10 + i))), (1, .int b)] []
  refine r_bipush (v := (16)) C dX0_firstTold_0 rfl ?_
  refine r_aload_n C dX0_firstTold_2 rfl 0 rfl ?_
  refine r_iload_n C dX0_firstTold_3 rfl 1 rfl ?_
  refine r_callV1I C 0 (by have := hi; omega) rfl (mm_ct0 ad q _ hi) (kX0_delayFor hAD hi) (cwV 1 C.1.2.2.2.2 gX0_firstTold_X0_delayFor rfl rfl rfl (by decide +kernel) ⟨Nat.le_of_ble_eq_true rfl, Nat.le_of_ble_eq_true rfl⟩) (Nat.le_of_ble_eq_true rfl) dX0_firstTold_4 ⟨rfl, rfl⟩ ⟨Nat.zero_le _, Nat.zero_le _⟩ ?_
  refine r_iadd C dX0_firstTold_7 ?_
  refine r_aload_n C dX0_firstTold_8 rfl 0 rfl ?_
  refine r_get0 C hi inX0 9 (by decide) rfl f49 rfl dX0_firstTold_9 ?_
  refine r_iadd C dX0_firstTold_12 ?_
  exact r_iret C hret hlk9 dX0_firstTold_13 ⟨by first | rfl | (subst_vars; rfl) | (subst_vars; simp [*]), by first | rfl | (subst_vars; rfl)⟩

def mc_told (M : mm_M) (i : Nat) (x : Int32) : Int64 := if x < 0 then 0 else if nI 64 ≤ x then 0 else M.2 (42 + i) x.toInt.toNat
abbrev rmX0_toldAt : Room := { frames := 0, cells := 0, slots := 0, locals := 0 }
set_option maxHeartbeats 400000 in
set_option maxRecDepth 100000 in
theorem kX0_toldAt {l : Launch} {D : va_G} {ad : Nat → Nat} {q : Nat → ClassId} {A : Nat → Prop} (hAD : mm_AD ad A) {i : Nat} (hi : i < 8) {M : mm_M} {x : Int32} : mm_Kd l D ad q A yX0_toldAt wsX0_toldAt rmX0_toldAt [.ref (ad (10 + i)), .int x] M (some (.long (mc_told M i x))) M := by
  have inX0 : ∀ w ∈ wsX00, w ∈ wsX0_toldAt := by decide +kernel
  have f22 : Cond.fieldLink RX0 22 "Beamrow$Element" "turned" "[J" ∈ wsX0_toldAt := by decide +kernel
  refine mm_of (cc := cX0_toldAt) (maxL := 2) (ret := some .long) (own := RX0) rfl hAD (plainFor_of_name (by decide)) rfl (Nat.le_of_ble_eq_true rfl) ⟨rfl, rfl⟩ ?_
  intro pp ee ss mm bl mth cd C hret hlk9
  show mm_G _ _ _ _ _ _ _ _ _ _ _ _ _ _ _ _ _ _ M 0 [(0, .ref (ad (10 + i))), (1, .int x)] []
  refine r_iload_n C dX0_toldAt_0 rfl 1 rfl ?_
  refine r_if_lt (tgt := 22) C dX0_toldAt_1 (by decide) (fun z1 => ?_) (fun z1 => ?_)
  · refine r_lconst (v := 0) C dX0_toldAt_22 rfl ?_
    exact r_lret C hret hlk9 dX0_toldAt_23 ⟨by simp only [mc_told]; simp [*], by first | rfl | (subst_vars; rfl)⟩
  · refine r_iload_n C dX0_toldAt_4 rfl 1 rfl ?_
    refine r_aload_n C dX0_toldAt_5 rfl 0 rfl ?_
    refine r_get0 C hi inX0 2 (by decide) rfl f22 rfl dX0_toldAt_6 ?_
    refine r_alenJ C (mm_aJ_turned hi) dX0_toldAt_9 ?_
    refine r_icmp_ge (tgt := 22) C dX0_toldAt_10 (by decide) (fun z10 => ?_) (fun z10 => ?_)
    · refine r_lconst (v := 0) C dX0_toldAt_22 rfl ?_
      exact r_lret C hret hlk9 dX0_toldAt_23 ⟨by simp only [mc_told]; simp [*], by first | rfl | (subst_vars; rfl)⟩
    · refine r_aload_n C dX0_toldAt_13 rfl 0 rfl ?_
      refine r_get0 C hi inX0 2 (by decide) rfl f22 rfl dX0_toldAt_14 ?_
      refine r_iload_n C dX0_toldAt_17 rfl 1 rfl ?_
      refine r_lald C (mm_aJ_turned hi) (x.toInt.toNat) (nm_ix z1) (nm_ixlt z1 (by decide) z10) dX0_toldAt_18 ?_
      refine r_goto (tgt := 23) C dX0_toldAt_19 (by decide) ?_
      exact r_lret C hret hlk9 dX0_toldAt_23 ⟨by simp only [mc_told]; simp [*], by first | rfl | (subst_vars; rfl)⟩

def mc_laid (M : mm_M) (i : Nat) (x : Int32) : Int64 := if x < 0 then 0 else if nI 64 ≤ x then 0 else M.2 (34 + i) x.toInt.toNat
abbrev rmX0_laidAt : Room := { frames := 0, cells := 0, slots := 0, locals := 0 }
set_option maxHeartbeats 400000 in
set_option maxRecDepth 100000 in
theorem kX0_laidAt {l : Launch} {D : va_G} {ad : Nat → Nat} {q : Nat → ClassId} {A : Nat → Prop} (hAD : mm_AD ad A) {i : Nat} (hi : i < 8) {M : mm_M} {x : Int32} : mm_Kd l D ad q A yX0_laidAt wsX0_laidAt rmX0_laidAt [.ref (ad (10 + i)), .int x] M (some (.long (mc_laid M i x))) M := by
  have inX0 : ∀ w ∈ wsX00, w ∈ wsX0_laidAt := by decide +kernel
  have f18 : Cond.fieldLink RX0 18 "Beamrow$Element" "laid" "[J" ∈ wsX0_laidAt := by decide +kernel
  refine mm_of (cc := cX0_laidAt) (maxL := 2) (ret := some .long) (own := RX0) rfl hAD (plainFor_of_name (by decide)) rfl (Nat.le_of_ble_eq_true rfl) ⟨rfl, rfl⟩ ?_
  intro pp ee ss mm bl mth cd C hret hlk9
  show mm_G _ _ _ _ _ _ _ _ _ _ _ _ _ _ _ _ _ _ M 0 [(0, .ref (ad (10 + i))), (1, .int x)] []
  refine r_iload_n C dX0_laidAt_0 rfl 1 rfl ?_
  refine r_if_lt (tgt := 22) C dX0_laidAt_1 (by decide) (fun z1 => ?_) (fun z1 => ?_)
  · refine r_lconst (v := 0) C dX0_laidAt_22 rfl ?_
    exact r_lret C hret hlk9 dX0_laidAt_23 ⟨by simp only [mc_laid]; simp [*], by first | rfl | (subst_vars; rfl)⟩
  · refine r_iload_n C dX0_laidAt_4 rfl 1 rfl ?_
    refine r_aload_n C dX0_laidAt_5 rfl 0 rfl ?_
    refine r_get0 C hi inX0 1 (by decide) rfl f18 rfl dX0_laidAt_6 ?_
    refine r_alenJ C (mm_aJ_laid hi) dX0_laidAt_9 ?_
    refine r_icmp_ge (tgt := 22) C dX0_laidAt_10 (by decide) (fun z10 => ?_) (fun z10 => ?_)
    · refine r_lconst (v := 0) C dX0_laidAt_22 rfl ?_
      exact r_lret C hret hlk9 dX0_laidAt_23 ⟨by simp only [mc_laid]; simp [*], by first | rfl | (subst_vars; rfl)⟩
    · refine r_aload_n C dX0_laidAt_13 rfl 0 rfl ?_
      refine r_get0 C hi inX0 1 (by decide) rfl f18 rfl dX0_laidAt_14 ?_
      refine r_iload_n C dX0_laidAt_17 rfl 1 rfl ?_
      refine r_lald C (mm_aJ_laid hi) (x.toInt.toNat) (nm_ix z1) (nm_ixlt z1 (by decide) z10) dX0_laidAt_18 ?_
      refine r_goto (tgt := 23) C dX0_laidAt_19 (by decide) ?_
      exact r_lret C hret hlk9 dX0_laidAt_23 ⟨by simp only [mc_laid]; simp [*], by first | rfl | (subst_vars; rfl)⟩

def mc_tellN (M : mm_M) (i : Nat) (b : Int32) (n : Nat) : mm_M := mm_row M 4 n (fun c => M.2 4 c + M.2 (10 + i) 10 * mc_told M i (mc_ft M i b + nI c))
def mc_tell (M : mm_M) (i : Nat) (b : Int32) : mm_M := if lg_cmp (M.2 (10 + i) 10) 0 ≤ 0 then M else mc_tellN M i b 32
theorem mc_tellN_o {M : mm_M} {i : Nat} {b : Int32} {n k c : Nat} (h : k ≠ 4) : (mc_tellN M i b n).2 k c = M.2 k c := mm_row_o h
theorem mc_tellN_4 {M : mm_M} {i : Nat} {b : Int32} {n : Nat} : (mc_tellN M i b n).2 4 n = M.2 4 n := mm_row_n (Nat.le_refl n)
theorem mc_told_tellN {M : mm_M} {i k : Nat} {b x : Int32} {n : Nat} : mc_told (mc_tellN M i b n) k x = mc_told M k x := by unfold mc_told; rw [mc_tellN_o (by omega)]
abbrev rmX0_tellTo : Room := { frames := 3, cells := 0, slots := 0, locals := 64 }
set_option maxHeartbeats 400000 in
set_option maxRecDepth 100000 in
theorem kX0_tellTo {l : Launch} {D : va_G} {ad : Nat → Nat} {q : Nat → ClassId} {A : Nat → Prop} (hAD : mm_AD ad A) {i : Nat} (hi : i < 8) {M : mm_M} {b : Int32} : mm_Kd l D ad q A yX0_tellTo wsX0_tellTo rmX0_tellTo [.ref (ad (10 + i)), .ref (ad 4), .int b] M none (mc_tell M i b) := by
  have inX0 : ∀ w ∈ wsX00, w ∈ wsX0_tellTo := by decide +kernel
  have f65 : Cond.fieldLink RX0 65 "Beamrow$Element" "weight" "J" ∈ wsX0_tellTo := by decide +kernel
  refine mm_of (cc := cX0_tellTo) (maxL := 5) (ret := none) (own := RX0) rfl hAD (plainFor_of_name (by decide)) rfl (Nat.le_of_ble_eq_true rfl) ⟨rfl, rfl⟩ ?_
  intro pp ee ss mm bl mth cd C hret hlk9
  show mm_G _ _ _ _ _ _ _ _ _ _ _ _ _ _ _ _ _ _ M 0 [(0, .ref (ad (10 + i))), (1, .ref (ad 4)), (2, .int b)] []
  refine r_aload_n C dX0_tellTo_0 rfl 0 rfl ?_
  refine r_get0 C hi inX0 10 (by decide) rfl f65 rfl dX0_tellTo_1 ?_
  refine r_lconst (v := 0) C dX0_tellTo_4 rfl ?_
  refine r_lcmp C dX0_tellTo_5 ?_
  refine r_if_le (tgt := 51) C dX0_tellTo_6 (by decide) (fun z6 => ?_) (fun z6 => ?_)
  · exact r_vret C hret hlk9 dX0_tellTo_51 ⟨by first | rfl | (subst_vars; rfl) | (subst_vars; simp [*]), by simp only [mc_tell]; simp [*]⟩
  · refine r_aload_n C dX0_tellTo_9 rfl 0 rfl ?_
    refine r_iload_n C dX0_tellTo_10 rfl 2 rfl ?_
    refine r_callV1I C 0 (by have := hi; omega) rfl (mm_ct0 ad q _ hi) (kX0_firstTold hAD hi) (cwV 1 C.1.2.2.2.2 gX0_tellTo_X0_firstTold rfl rfl rfl (by decide +kernel) ⟨Nat.le_of_ble_eq_true rfl, Nat.le_of_ble_eq_true rfl⟩) (Nat.le_of_ble_eq_true rfl) dX0_tellTo_11 ⟨rfl, rfl⟩ ⟨Nat.zero_le _, Nat.zero_le _⟩ ?_
    refine r_topi (fun v3_14 ev3_14 => ?_)
    refine r_istore_n (lv' := [(3, .int v3_14), (0, .ref (ad (10 + i))), (1, .ref (ad 4)), (2, .int b)]) C dX0_tellTo_14 rfl (by decide) rfl ?_
    refine r_iconst (v := 0) C dX0_tellTo_15 rfl ?_
    refine r_istore (lv' := [(4, .int 0), (3, .int v3_14), (0, .ref (ad (10 + i))), (1, .ref (ad 4)), (2, .int b)]) C dX0_tellTo_16 (by decide) rfl ?_
    have L18 : ∀ (k9 : Nat) (n : Nat) (hn : n ≤ 32), 32 - n < k9 → mm_G pp l ee rmX0_tellTo ss mm ([.ref (ad (10 + i)), .ref (ad 4), .int b] : List Value).toArray bl mth cd 0 0 (MQ bl (mm_Q D ad q A (fun v' u => v' = none ∧ u = mc_tell M i b)) ([.ref (ad (10 + i)), .ref (ad 4), .int b] : List Value).toArray ss 0 0 A) 5 D ad q A (mc_tellN M i b n) 18 [(4, .int (nI n)), (3, .int v3_14), (0, .ref (ad (10 + i))), (1, .ref (ad 4)), (2, .int b)] [] := by
      intro k9
      induction k9 with
      | zero => intro n hn h9; exact absurd h9 (Nat.not_lt_zero _)
      | succ k9 ih18 =>
        intro n hn h9
        refine r_iload C dX0_tellTo_18 0 rfl ?_
        refine r_aload_n C dX0_tellTo_20 rfl 3 rfl ?_
        refine r_alenJ C mm_aJ_4 dX0_tellTo_21 ?_
        refine r_icmp_ge (tgt := 51) C dX0_tellTo_22 (by decide) (fun z22 => ?_) (fun z22 => ?_)
        · obtain rfl : n = 32 := nm_ge hn (by decide) z22
          exact r_vret C hret hlk9 dX0_tellTo_51 ⟨by first | rfl | (subst_vars; rfl) | (subst_vars; simp [*]), by simp only [mc_tell]; simp [*]⟩
        · have hlt : n < 32 := nm_lt (by omega) (by decide) z22
          refine r_aload_n C dX0_tellTo_25 rfl 3 rfl ?_
          refine r_iload C dX0_tellTo_26 0 rfl ?_
          refine r_dup2_11 C dX0_tellTo_28 rfl rfl ?_
          refine r_lald C mm_aJ_4 (n) (nI_toInt (by omega)) (hlt) dX0_tellTo_29 ?_
          refine r_aload_n C dX0_tellTo_30 rfl 2 rfl ?_
          refine r_get0 C hi inX0 10 (by decide) rfl f65 rfl dX0_tellTo_31 ?_
          refine r_aload_n C dX0_tellTo_34 rfl 2 rfl ?_
          refine r_iload_n C dX0_tellTo_35 rfl 1 rfl ?_
          refine r_iload C dX0_tellTo_36 0 rfl ?_
          refine r_iadd C dX0_tellTo_38 ?_
          refine r_callV1J C 0 (by have := hi; omega) rfl (mm_ct0 ad q _ hi) (kX0_toldAt hAD hi) (cwV 1 C.1.2.2.2.2 gX0_tellTo_X0_toldAt rfl rfl rfl (by decide +kernel) ⟨Nat.le_of_ble_eq_true rfl, Nat.le_of_ble_eq_true rfl⟩) (Nat.le_of_ble_eq_true rfl) dX0_tellTo_39 ⟨rfl, rfl⟩ ⟨Nat.zero_le _, Nat.zero_le _⟩ ?_
          refine r_lmul C dX0_tellTo_42 ?_
          refine r_ladd C dX0_tellTo_43 ?_
          refine r_last C mm_aJ_4 (n) (nI_toInt (by omega)) (hlt) dX0_tellTo_44 ?_
          obtain ⟨v4_45, ev4_45⟩ : ∃ y9 : Int32, y9 = (nI n) + 1 := ⟨_, rfl⟩
          refine r_iinc (v := v4_45) (lv' := [(4, .int v4_45), (3, .int v3_14), (0, .ref (ad (10 + i))), (1, .ref (ad 4)), (2, .int b)]) C dX0_tellTo_45 0 rfl (by rw [ev4_45]; rfl) (by decide) rfl ?_
          refine r_goto (tgt := 18) C dX0_tellTo_48 (by decide) ?_
          refine r_cast (M' := mc_tellN M i b (n + 1)) (lv' := [(4, .int (nI (n + 1))), (3, .int v3_14), (0, .ref (ad (10 + i))), (1, .ref (ad 4)), (2, .int b)]) (st' := []) (by rw [mc_tellN_4, mc_tellN_o (by omega), mc_told_tellN, ev3_14]; exact mm_row_s) (by rw [ev4_45, nI_1]) rfl (ih18 (n + 1) (by omega) (by omega))
    refine r_cast (M' := mc_tellN M i b 0) (lv' := [(4, .int (nI 0)), (3, .int v3_14), (0, .ref (ad (10 + i))), (1, .ref (ad 4)), (2, .int b)]) (st' := []) mm_row_0 rfl rfl (L18 (32 - 0 + 1) 0 (by omega) (by omega))

def mc_twN (M : mm_M) (i k : Nat) (b : Int32) : Nat → Int64
  | 0 => 0
  | n + 1 => mc_twN M i k b n + mc_told M i (mc_ft M i b + nI n) * mc_told M k (mc_ft M k b + nI n)
def mc_tw (M : mm_M) (i k : Nat) (b : Int32) : Int64 := if lg_cmp (M.2 (10 + i) 10) 0 ≤ 0 then 0 else if lg_cmp (M.2 (10 + k) 10) 0 ≤ 0 then 0 else mc_twN M i k b 32
abbrev rmX0_toldWith : Room := { frames := 3, cells := 0, slots := 0, locals := 64 }
set_option maxHeartbeats 400000 in
set_option maxRecDepth 100000 in
theorem kX0_toldWith {l : Launch} {D : va_G} {ad : Nat → Nat} {q : Nat → ClassId} {A : Nat → Prop} (hAD : mm_AD ad A) {i k : Nat} (hi : i < 8) (hk : k < 8) {M : mm_M} {b : Int32} : mm_Kd l D ad q A yX0_toldWith wsX0_toldWith rmX0_toldWith [.ref (ad (10 + i)), .ref (ad (10 + k)), .int b] M (some (.long (mc_tw M i k b * M.2 (10 + i) 10 * M.2 (10 + k) 10))) M := by
  have inX0 : ∀ w ∈ wsX00, w ∈ wsX0_toldWith := by decide +kernel
  have f65 : Cond.fieldLink RX0 65 "Beamrow$Element" "weight" "J" ∈ wsX0_toldWith := by decide +kernel
  refine mm_of (cc := cX0_toldWith) (maxL := 8) (ret := some .long) (own := RX0) rfl hAD (plainFor_of_name (by decide)) rfl (Nat.le_of_ble_eq_true rfl) ⟨rfl, rfl⟩ ?_
  intro pp ee ss mm bl mth cd C hret hlk9
  show mm_G _ _ _ _ _ _ _ _ _ _ _ _ _ _ _ _ _ _ M 0 [(0, .ref (ad (10 + i))), (1, .ref (ad (10 + k))), (2, .int b)] []
  refine r_lconst (v := 0) C dX0_toldWith_0 rfl ?_
  refine r_lstore_n (lv' := [(3, .long 0), (0, .ref (ad (10 + i))), (1, .ref (ad (10 + k))), (2, .int b)]) C dX0_toldWith_1 rfl (by decide) rfl ?_
  refine r_aload_n C dX0_toldWith_2 rfl 1 rfl ?_
  refine r_get0 C hi inX0 10 (by decide) rfl f65 rfl dX0_toldWith_3 ?_
  refine r_lconst (v := 0) C dX0_toldWith_6 rfl ?_
  refine r_lcmp C dX0_toldWith_7 ?_
  refine r_if_le (tgt := 72) C dX0_toldWith_8 (by decide) (fun z8 => ?_) (fun z8 => ?_)
  · refine r_lload_n C dX0_toldWith_72 rfl 0 rfl ?_
    refine r_aload_n C dX0_toldWith_73 rfl 1 rfl ?_
    refine r_get0 C hi inX0 10 (by decide) rfl f65 rfl dX0_toldWith_74 ?_
    refine r_lmul C dX0_toldWith_77 ?_
    refine r_aload_n C dX0_toldWith_78 rfl 2 rfl ?_
    refine r_get0 C hk inX0 10 (by decide) rfl f65 rfl dX0_toldWith_79 ?_
    refine r_lmul C dX0_toldWith_82 ?_
    exact r_lret C hret hlk9 dX0_toldWith_83 ⟨by simp only [mc_tw]; simp [*], by first | rfl | (subst_vars; rfl)⟩
  · refine r_aload_n C dX0_toldWith_11 rfl 2 rfl ?_
    refine r_get0 C hk inX0 10 (by decide) rfl f65 rfl dX0_toldWith_12 ?_
    refine r_lconst (v := 0) C dX0_toldWith_15 rfl ?_
    refine r_lcmp C dX0_toldWith_16 ?_
    refine r_if_le (tgt := 72) C dX0_toldWith_17 (by decide) (fun z17 => ?_) (fun z17 => ?_)
    · refine r_lload_n C dX0_toldWith_72 rfl 0 rfl ?_
      refine r_aload_n C dX0_toldWith_73 rfl 1 rfl ?_
      refine r_get0 C hi inX0 10 (by decide) rfl f65 rfl dX0_toldWith_74 ?_
      refine r_lmul C dX0_toldWith_77 ?_
      refine r_aload_n C dX0_toldWith_78 rfl 2 rfl ?_
      refine r_get0 C hk inX0 10 (by decide) rfl f65 rfl dX0_toldWith_79 ?_
      refine r_lmul C dX0_toldWith_82 ?_
      exact r_lret C hret hlk9 dX0_toldWith_83 ⟨by simp only [mc_tw]; simp [*], by first | rfl | (subst_vars; rfl)⟩
    · refine r_aload_n C dX0_toldWith_20 rfl 1 rfl ?_
      refine r_iload_n C dX0_toldWith_21 rfl 3 rfl ?_
      refine r_callV1I C 0 (by have := hi; omega) rfl (mm_ct0 ad q _ hi) (kX0_firstTold hAD hi) (cwV 1 C.1.2.2.2.2 gX0_toldWith_X0_firstTold rfl rfl rfl (by decide +kernel) ⟨Nat.le_of_ble_eq_true rfl, Nat.le_of_ble_eq_true rfl⟩) (Nat.le_of_ble_eq_true rfl) dX0_toldWith_22 ⟨rfl, rfl⟩ ⟨Nat.zero_le _, Nat.zero_le _⟩ ?_
      refine r_topi (fun v5_25 ev5_25 => ?_)
      refine r_istore (lv' := [(5, .int v5_25), (3, .long 0), (0, .ref (ad (10 + i))), (1, .ref (ad (10 + k))), (2, .int b)]) C dX0_toldWith_25 (by decide) rfl ?_
      refine r_aload_n C dX0_toldWith_27 rfl 3 rfl ?_
      refine r_iload_n C dX0_toldWith_28 rfl 4 rfl ?_
      refine r_callV1I C 0 (by have := hk; omega) rfl (mm_ct0 ad q _ hk) (kX0_firstTold hAD hk) (cwV 1 C.1.2.2.2.2 gX0_toldWith_X0_firstTold rfl rfl rfl (by decide +kernel) ⟨Nat.le_of_ble_eq_true rfl, Nat.le_of_ble_eq_true rfl⟩) (Nat.le_of_ble_eq_true rfl) dX0_toldWith_29 ⟨rfl, rfl⟩ ⟨Nat.zero_le _, Nat.zero_le _⟩ ?_
      refine r_topi (fun v6_32 ev6_32 => ?_)
      refine r_istore (lv' := [(6, .int v6_32), (5, .int v5_25), (3, .long 0), (0, .ref (ad (10 + i))), (1, .ref (ad (10 + k))), (2, .int b)]) C dX0_toldWith_32 (by decide) rfl ?_
      refine r_iconst (v := 0) C dX0_toldWith_34 rfl ?_
      refine r_istore (lv' := [(7, .int 0), (6, .int v6_32), (5, .int v5_25), (3, .long 0), (0, .ref (ad (10 + i))), (1, .ref (ad (10 + k))), (2, .int b)]) C dX0_toldWith_35 (by decide) rfl ?_
      have L37 : ∀ (k9 : Nat) (n : Nat) (hn : n ≤ 32), 32 - n < k9 → mm_G pp l ee rmX0_toldWith ss mm ([.ref (ad (10 + i)), .ref (ad (10 + k)), .int b] : List Value).toArray bl mth cd 0 0 (MQ bl (mm_Q D ad q A (fun v' u => v' = some (.long (mc_tw M i k b * M.2 (10 + i) 10 * M.2 (10 + k) 10)) ∧ u = M)) ([.ref (ad (10 + i)), .ref (ad (10 + k)), .int b] : List Value).toArray ss 0 0 A) 8 D ad q A (M) 37 [(7, .int (nI n)), (6, .int v6_32), (5, .int v5_25), (3, .long (mc_twN M i k b n)), (0, .ref (ad (10 + i))), (1, .ref (ad (10 + k))), (2, .int b)] [] := by
        intro k9
        induction k9 with
        | zero => intro n hn h9; exact absurd h9 (Nat.not_lt_zero _)
        | succ k9 ih37 =>
          intro n hn h9
          refine r_iload C dX0_toldWith_37 0 rfl ?_
          refine r_bipush (v := (32)) C dX0_toldWith_39 rfl ?_
          refine r_icmp_ge (tgt := 72) C dX0_toldWith_41 (by decide) (fun z41 => ?_) (fun z41 => ?_)
          · obtain rfl : n = 32 := nm_ge hn (by decide) z41
            refine r_lload_n C dX0_toldWith_72 rfl 3 rfl ?_
            refine r_aload_n C dX0_toldWith_73 rfl 4 rfl ?_
            refine r_get0 C hi inX0 10 (by decide) rfl f65 rfl dX0_toldWith_74 ?_
            refine r_lmul C dX0_toldWith_77 ?_
            refine r_aload_n C dX0_toldWith_78 rfl 5 rfl ?_
            refine r_get0 C hk inX0 10 (by decide) rfl f65 rfl dX0_toldWith_79 ?_
            refine r_lmul C dX0_toldWith_82 ?_
            exact r_lret C hret hlk9 dX0_toldWith_83 ⟨by simp only [mc_tw]; simp [*], by first | rfl | (subst_vars; rfl)⟩
          · have hlt : n < 32 := nm_lt (by omega) (by decide) z41
            refine r_lload_n C dX0_toldWith_44 rfl 3 rfl ?_
            refine r_aload_n C dX0_toldWith_45 rfl 4 rfl ?_
            refine r_iload C dX0_toldWith_46 2 rfl ?_
            refine r_iload C dX0_toldWith_48 0 rfl ?_
            refine r_iadd C dX0_toldWith_50 ?_
            refine r_callV1J C 0 (by have := hi; omega) rfl (mm_ct0 ad q _ hi) (kX0_toldAt hAD hi) (cwV 1 C.1.2.2.2.2 gX0_toldWith_X0_toldAt rfl rfl rfl (by decide +kernel) ⟨Nat.le_of_ble_eq_true rfl, Nat.le_of_ble_eq_true rfl⟩) (Nat.le_of_ble_eq_true rfl) dX0_toldWith_51 ⟨rfl, rfl⟩ ⟨Nat.zero_le _, Nat.zero_le _⟩ ?_
            refine r_aload_n C dX0_toldWith_54 rfl 5 rfl ?_
            refine r_iload C dX0_toldWith_55 1 rfl ?_
            refine r_iload C dX0_toldWith_57 0 rfl ?_
            refine r_iadd C dX0_toldWith_59 ?_
            refine r_callV1J C 0 (by have := hk; omega) rfl (mm_ct0 ad q _ hk) (kX0_toldAt hAD hk) (cwV 1 C.1.2.2.2.2 gX0_toldWith_X0_toldAt rfl rfl rfl (by decide +kernel) ⟨Nat.le_of_ble_eq_true rfl, Nat.le_of_ble_eq_true rfl⟩) (Nat.le_of_ble_eq_true rfl) dX0_toldWith_60 ⟨rfl, rfl⟩ ⟨Nat.zero_le _, Nat.zero_le _⟩ ?_
            refine r_lmul C dX0_toldWith_63 ?_
            refine r_ladd C dX0_toldWith_64 ?_
            refine r_topl (fun v3_65 ev3_65 => ?_)
            refine r_lstore_n (lv' := [(3, .long v3_65), (7, .int (nI n)), (6, .int v6_32), (5, .int v5_25), (0, .ref (ad (10 + i))), (1, .ref (ad (10 + k))), (2, .int b)]) C dX0_toldWith_65 rfl (by decide) rfl ?_
            obtain ⟨v7_66, ev7_66⟩ : ∃ y9 : Int32, y9 = (nI n) + 1 := ⟨_, rfl⟩
            refine r_iinc (v := v7_66) (lv' := [(7, .int v7_66), (3, .long v3_65), (6, .int v6_32), (5, .int v5_25), (0, .ref (ad (10 + i))), (1, .ref (ad (10 + k))), (2, .int b)]) C dX0_toldWith_66 1 rfl (by rw [ev7_66]; rfl) (by decide) rfl ?_
            refine r_goto (tgt := 37) C dX0_toldWith_69 (by decide) ?_
            refine r_sub (lv' := [(7, .int v7_66), (6, .int v6_32), (5, .int v5_25), (3, .long v3_65), (0, .ref (ad (10 + i))), (1, .ref (ad (10 + k))), (2, .int b)]) [0, 2, 3, 1, 4, 5, 6] rfl ?_
            refine r_cast (M' := M) (lv' := [(7, .int (nI (n + 1))), (6, .int v6_32), (5, .int v5_25), (3, .long (mc_twN M i k b (n + 1))), (0, .ref (ad (10 + i))), (1, .ref (ad (10 + k))), (2, .int b)]) (st' := []) rfl (by rw [ev7_66, nI_1, ev3_65, ev6_32, ev5_25]; rfl) rfl (ih37 (n + 1) (by omega) (by omega))
      refine r_cast (M' := M) (lv' := [(7, .int (nI 0)), (6, .int v6_32), (5, .int v5_25), (3, .long (mc_twN M i k b 0)), (0, .ref (ad (10 + i))), (1, .ref (ad (10 + k))), (2, .int b)]) (st' := []) rfl rfl rfl (L37 (32 - 0 + 1) 0 (by omega) (by omega))

def mc_take (M : mm_M) (i : Nat) (n b : Int32) (y : Int64) : mm_M := if lg_cmp (M.2 (10 + i) 10) 0 ≤ 0 then M else if mc_keeps M i (mc_ft M i b + n) = 0 then M else if mc_ft M i b + n < 0 then M else if nI 64 ≤ mc_ft M i b + n then M else mm_sL M (34 + i) (mc_ft M i b + n).toInt.toNat (M.2 (34 + i) (mc_ft M i b + n).toInt.toNat - y)
abbrev rmX0_takeAway : Room := { frames := 3, cells := 0, slots := 0, locals := 64 }
set_option maxHeartbeats 400000 in
set_option maxRecDepth 100000 in
theorem kX0_takeAway {l : Launch} {D : va_G} {ad : Nat → Nat} {q : Nat → ClassId} {A : Nat → Prop} (hAD : mm_AD ad A) {i : Nat} (hi : i < 8) {M : mm_M} {n b : Int32} {y : Int64} : mm_Kd l D ad q A yX0_takeAway wsX0_takeAway rmX0_takeAway [.ref (ad (10 + i)), .int n, .int b, .long y] M none (mc_take M i n b y) := by
  have inX0 : ∀ w ∈ wsX00, w ∈ wsX0_takeAway := by decide +kernel
  have f12 : Cond.fieldLink RX0 12 "Beamrow$Element" "tape" "LBeamrow$Tape;" ∈ wsX0_takeAway := by decide +kernel
  have f18 : Cond.fieldLink RX0 18 "Beamrow$Element" "laid" "[J" ∈ wsX0_takeAway := by decide +kernel
  have f65 : Cond.fieldLink RX0 65 "Beamrow$Element" "weight" "J" ∈ wsX0_takeAway := by decide +kernel
  refine mm_of (cc := cX0_takeAway) (maxL := 6) (ret := none) (own := RX0) rfl hAD (plainFor_of_name (by decide)) rfl (Nat.le_of_ble_eq_true rfl) ⟨rfl, rfl⟩ ?_
  intro pp ee ss mm bl mth cd C hret hlk9
  show mm_G _ _ _ _ _ _ _ _ _ _ _ _ _ _ _ _ _ _ M 0 [(0, .ref (ad (10 + i))), (1, .int n), (2, .int b), (3, .long y)] []
  refine r_aload_n C dX0_takeAway_0 rfl 0 rfl ?_
  refine r_iload_n C dX0_takeAway_1 rfl 2 rfl ?_
  refine r_callV1I C 0 (by have := hi; omega) rfl (mm_ct0 ad q _ hi) (kX0_firstTold hAD hi) (cwV 1 C.1.2.2.2.2 gX0_takeAway_X0_firstTold rfl rfl rfl (by decide +kernel) ⟨Nat.le_of_ble_eq_true rfl, Nat.le_of_ble_eq_true rfl⟩) (Nat.le_of_ble_eq_true rfl) dX0_takeAway_2 ⟨rfl, rfl⟩ ⟨Nat.zero_le _, Nat.zero_le _⟩ ?_
  refine r_iload_n C dX0_takeAway_5 rfl 1 rfl ?_
  refine r_iadd C dX0_takeAway_6 ?_
  refine r_topi (fun v5_7 ev5_7 => ?_)
  refine r_istore (lv' := [(5, .int v5_7), (0, .ref (ad (10 + i))), (1, .int n), (2, .int b), (3, .long y)]) C dX0_takeAway_7 (by decide) rfl ?_
  refine r_aload_n C dX0_takeAway_9 rfl 1 rfl ?_
  refine r_get0 C hi inX0 10 (by decide) rfl f65 rfl dX0_takeAway_10 ?_
  refine r_lconst (v := 0) C dX0_takeAway_13 rfl ?_
  refine r_lcmp C dX0_takeAway_14 ?_
  refine r_if_le (tgt := 56) C dX0_takeAway_15 (by decide) (fun z15 => ?_) (fun z15 => ?_)
  · exact r_vret C hret hlk9 dX0_takeAway_56 ⟨by first | rfl | (subst_vars; rfl) | (subst_vars; simp [*]), by subst ev5_7; simp only [mc_take]; simp [*]⟩
  · refine r_aload_n C dX0_takeAway_18 rfl 1 rfl ?_
    refine r_get0 C hi inX0 0 (by decide) rfl f12 rfl dX0_takeAway_19 ?_
    refine r_iload C dX0_takeAway_22 0 rfl ?_
    refine r_callV1I C 3 (by have := hi; omega) rfl (mm_ct3 ad q _ hi) (kX3_keeps hAD hi) (cwV 1 C.1.2.2.2.2 gX0_takeAway_X3_keeps rfl rfl rfl (by decide +kernel) ⟨Nat.le_of_ble_eq_true rfl, Nat.le_of_ble_eq_true rfl⟩) (Nat.le_of_ble_eq_true rfl) dX0_takeAway_24 ⟨rfl, rfl⟩ ⟨Nat.zero_le _, Nat.zero_le _⟩ ?_
    refine r_if_eq (tgt := 56) C dX0_takeAway_27 (by decide) (fun z27 => ?_) (fun z27 => ?_)
    · exact r_vret C hret hlk9 dX0_takeAway_56 ⟨by first | rfl | (subst_vars; rfl) | (subst_vars; simp [*]), by subst ev5_7; simp only [mc_take]; simp [*]⟩
    · refine r_iload C dX0_takeAway_30 0 rfl ?_
      refine r_if_lt (tgt := 56) C dX0_takeAway_32 (by decide) (fun z32 => ?_) (fun z32 => ?_)
      · exact r_vret C hret hlk9 dX0_takeAway_56 ⟨by first | rfl | (subst_vars; rfl) | (subst_vars; simp [*]), by subst ev5_7; simp only [mc_take]; simp [*]⟩
      · refine r_iload C dX0_takeAway_35 0 rfl ?_
        refine r_aload_n C dX0_takeAway_37 rfl 1 rfl ?_
        refine r_get0 C hi inX0 1 (by decide) rfl f18 rfl dX0_takeAway_38 ?_
        refine r_alenJ C (mm_aJ_laid hi) dX0_takeAway_41 ?_
        refine r_icmp_ge (tgt := 56) C dX0_takeAway_42 (by decide) (fun z42 => ?_) (fun z42 => ?_)
        · exact r_vret C hret hlk9 dX0_takeAway_56 ⟨by first | rfl | (subst_vars; rfl) | (subst_vars; simp [*]), by subst ev5_7; simp only [mc_take]; simp [*]⟩
        · refine r_aload_n C dX0_takeAway_45 rfl 1 rfl ?_
          refine r_get0 C hi inX0 1 (by decide) rfl f18 rfl dX0_takeAway_46 ?_
          refine r_iload C dX0_takeAway_49 0 rfl ?_
          refine r_dup2_11 C dX0_takeAway_51 rfl rfl ?_
          refine r_lald C (mm_aJ_laid hi) ((mc_ft M i b + n).toInt.toNat) (by rw [ev5_7] at *; exact nm_ix z32) (by rw [ev5_7] at *; exact nm_ixlt z32 (by decide) z42) dX0_takeAway_52 ?_
          refine r_lload_n C dX0_takeAway_53 rfl 4 rfl ?_
          refine r_lsub C dX0_takeAway_54 ?_
          refine r_last C (mm_aJ_laid hi) ((mc_ft M i b + n).toInt.toNat) (by rw [ev5_7] at *; exact nm_ix z32) (by rw [ev5_7] at *; exact nm_ixlt z32 (by decide) z42) dX0_takeAway_55 ?_
          exact r_vret C hret hlk9 dX0_takeAway_56 ⟨by first | rfl | (subst_vars; rfl) | (subst_vars; simp [*]), by subst ev5_7; simp only [mc_take]; simp [*]⟩

def mc_agN (M : mm_M) (i k : Nat) (b t : Int32) : Nat → Int64
  | 0 => 0
  | n + 1 => mc_agN M i k b t n + mc_laid M i (16 + mc_delay M i b + t + nI n) * mc_laid M k (16 + mc_delay M k b + nI n)
abbrev rmX0_agreement : Room := { frames := 2, cells := 0, slots := 0, locals := 43 }
set_option maxHeartbeats 400000 in
set_option maxRecDepth 100000 in
theorem kX0_agreement {l : Launch} {D : va_G} {ad : Nat → Nat} {q : Nat → ClassId} {A : Nat → Prop} (hAD : mm_AD ad A) {i k : Nat} (hi : i < 8) (hk : k < 8) {M : mm_M} {b t : Int32} : mm_Kd l D ad q A yX0_agreement wsX0_agreement rmX0_agreement [.ref (ad (10 + i)), .ref (ad (10 + k)), .int b, .int t] M (some (.long (mc_agN M i k b t 32))) M := by
  refine mm_of (cc := cX0_agreement) (maxL := 9) (ret := some .long) (own := RX0) rfl hAD (plainFor_of_name (by decide)) rfl (Nat.le_of_ble_eq_true rfl) ⟨rfl, rfl⟩ ?_
  intro pp ee ss mm bl mth cd C hret hlk9
  show mm_G _ _ _ _ _ _ _ _ _ _ _ _ _ _ _ _ _ _ M 0 [(0, .ref (ad (10 + i))), (1, .ref (ad (10 + k))), (2, .int b), (3, .int t)] []
  refine r_bipush (v := (16)) C dX0_agreement_0 rfl ?_
  refine r_aload_n C dX0_agreement_2 rfl 0 rfl ?_
  refine r_iload_n C dX0_agreement_3 rfl 2 rfl ?_
  refine r_callV1I C 0 (by have := hi; omega) rfl (mm_ct0 ad q _ hi) (kX0_delayFor hAD hi) (cwV 1 C.1.2.2.2.2 gX0_agreement_X0_delayFor rfl rfl rfl (by decide +kernel) ⟨Nat.le_of_ble_eq_true rfl, Nat.le_of_ble_eq_true rfl⟩) (Nat.le_of_ble_eq_true rfl) dX0_agreement_4 ⟨rfl, rfl⟩ ⟨Nat.zero_le _, Nat.zero_le _⟩ ?_
  refine r_iadd C dX0_agreement_7 ?_
  refine r_iload_n C dX0_agreement_8 rfl 3 rfl ?_
  refine r_iadd C dX0_agreement_9 ?_
  refine r_topi (fun v4_10 ev4_10 => ?_)
  refine r_istore (lv' := [(4, .int v4_10), (0, .ref (ad (10 + i))), (1, .ref (ad (10 + k))), (2, .int b), (3, .int t)]) C dX0_agreement_10 (by decide) rfl ?_
  refine r_bipush (v := (16)) C dX0_agreement_12 rfl ?_
  refine r_aload_n C dX0_agreement_14 rfl 2 rfl ?_
  refine r_iload_n C dX0_agreement_15 rfl 3 rfl ?_
  refine r_callV1I C 0 (by have := hk; omega) rfl (mm_ct0 ad q _ hk) (kX0_delayFor hAD hk) (cwV 1 C.1.2.2.2.2 gX0_agreement_X0_delayFor rfl rfl rfl (by decide +kernel) ⟨Nat.le_of_ble_eq_true rfl, Nat.le_of_ble_eq_true rfl⟩) (Nat.le_of_ble_eq_true rfl) dX0_agreement_16 ⟨rfl, rfl⟩ ⟨Nat.zero_le _, Nat.zero_le _⟩ ?_
  refine r_iadd C dX0_agreement_19 ?_
  refine r_topi (fun v5_20 ev5_20 => ?_)
  refine r_istore (lv' := [(5, .int v5_20), (4, .int v4_10), (0, .ref (ad (10 + i))), (1, .ref (ad (10 + k))), (2, .int b), (3, .int t)]) C dX0_agreement_20 (by decide) rfl ?_
  refine r_lconst (v := 0) C dX0_agreement_22 rfl ?_
  refine r_lstore (lv' := [(6, .long 0), (5, .int v5_20), (4, .int v4_10), (0, .ref (ad (10 + i))), (1, .ref (ad (10 + k))), (2, .int b), (3, .int t)]) C dX0_agreement_23 (by decide) rfl ?_
  refine r_iconst (v := 0) C dX0_agreement_25 rfl ?_
  refine r_istore (lv' := [(8, .int 0), (6, .long 0), (5, .int v5_20), (4, .int v4_10), (0, .ref (ad (10 + i))), (1, .ref (ad (10 + k))), (2, .int b), (3, .int t)]) C dX0_agreement_26 (by decide) rfl ?_
  have L28 : ∀ (k9 : Nat) (n : Nat) (hn : n ≤ 32), 32 - n < k9 → mm_G pp l ee rmX0_agreement ss mm ([.ref (ad (10 + i)), .ref (ad (10 + k)), .int b, .int t] : List Value).toArray bl mth cd 0 0 (MQ bl (mm_Q D ad q A (fun v' u => v' = some (.long (mc_agN M i k b t 32)) ∧ u = M)) ([.ref (ad (10 + i)), .ref (ad (10 + k)), .int b, .int t] : List Value).toArray ss 0 0 A) 9 D ad q A (M) 28 [(8, .int (nI n)), (6, .long (mc_agN M i k b t n)), (5, .int v5_20), (4, .int v4_10), (0, .ref (ad (10 + i))), (1, .ref (ad (10 + k))), (2, .int b), (3, .int t)] [] := by
    intro k9
    induction k9 with
    | zero => intro n hn h9; exact absurd h9 (Nat.not_lt_zero _)
    | succ k9 ih28 =>
      intro n hn h9
      refine r_iload C dX0_agreement_28 0 rfl ?_
      refine r_bipush (v := (32)) C dX0_agreement_30 rfl ?_
      refine r_icmp_ge (tgt := 65) C dX0_agreement_32 (by decide) (fun z32 => ?_) (fun z32 => ?_)
      · obtain rfl : n = 32 := nm_ge hn (by decide) z32
        refine r_lload C dX0_agreement_65 1 rfl ?_
        exact r_lret C hret hlk9 dX0_agreement_67 ⟨by first | rfl | (subst_vars; rfl) | (subst_vars; simp [*]), by first | rfl | (subst_vars; rfl)⟩
      · have hlt : n < 32 := nm_lt (by omega) (by decide) z32
        refine r_lload C dX0_agreement_35 1 rfl ?_
        refine r_aload_n C dX0_agreement_37 rfl 4 rfl ?_
        refine r_iload C dX0_agreement_38 3 rfl ?_
        refine r_iload C dX0_agreement_40 0 rfl ?_
        refine r_iadd C dX0_agreement_42 ?_
        refine r_callV1J C 0 (by have := hi; omega) rfl (mm_ct0 ad q _ hi) (kX0_laidAt hAD hi) (cwV 1 C.1.2.2.2.2 gX0_agreement_X0_laidAt rfl rfl rfl (by decide +kernel) ⟨Nat.le_of_ble_eq_true rfl, Nat.le_of_ble_eq_true rfl⟩) (Nat.le_of_ble_eq_true rfl) dX0_agreement_43 ⟨rfl, rfl⟩ ⟨Nat.zero_le _, Nat.zero_le _⟩ ?_
        refine r_aload_n C dX0_agreement_46 rfl 5 rfl ?_
        refine r_iload C dX0_agreement_47 2 rfl ?_
        refine r_iload C dX0_agreement_49 0 rfl ?_
        refine r_iadd C dX0_agreement_51 ?_
        refine r_callV1J C 0 (by have := hk; omega) rfl (mm_ct0 ad q _ hk) (kX0_laidAt hAD hk) (cwV 1 C.1.2.2.2.2 gX0_agreement_X0_laidAt rfl rfl rfl (by decide +kernel) ⟨Nat.le_of_ble_eq_true rfl, Nat.le_of_ble_eq_true rfl⟩) (Nat.le_of_ble_eq_true rfl) dX0_agreement_52 ⟨rfl, rfl⟩ ⟨Nat.zero_le _, Nat.zero_le _⟩ ?_
        refine r_lmul C dX0_agreement_55 ?_
        refine r_ladd C dX0_agreement_56 ?_
        refine r_topl (fun v6_57 ev6_57 => ?_)
        refine r_lstore (lv' := [(6, .long v6_57), (8, .int (nI n)), (5, .int v5_20), (4, .int v4_10), (0, .ref (ad (10 + i))), (1, .ref (ad (10 + k))), (2, .int b), (3, .int t)]) C dX0_agreement_57 (by decide) rfl ?_
        obtain ⟨v8_59, ev8_59⟩ : ∃ y9 : Int32, y9 = (nI n) + 1 := ⟨_, rfl⟩
        refine r_iinc (v := v8_59) (lv' := [(8, .int v8_59), (6, .long v6_57), (5, .int v5_20), (4, .int v4_10), (0, .ref (ad (10 + i))), (1, .ref (ad (10 + k))), (2, .int b), (3, .int t)]) C dX0_agreement_59 1 rfl (by rw [ev8_59]; rfl) (by decide) rfl ?_
        refine r_goto (tgt := 28) C dX0_agreement_62 (by decide) ?_
        refine r_cast (M' := M) (lv' := [(8, .int (nI (n + 1))), (6, .long (mc_agN M i k b t (n + 1))), (5, .int v5_20), (4, .int v4_10), (0, .ref (ad (10 + i))), (1, .ref (ad (10 + k))), (2, .int b), (3, .int t)]) (st' := []) rfl (by rw [ev8_59, nI_1, ev6_57, ev5_20, ev4_10]; rfl) rfl (ih28 (n + 1) (by omega) (by omega))
  refine r_cast (M' := M) (lv' := [(8, .int (nI 0)), (6, .long (mc_agN M i k b t 0)), (5, .int v5_20), (4, .int v4_10), (0, .ref (ad (10 + i))), (1, .ref (ad (10 + k))), (2, .int b), (3, .int t)]) (st' := []) rfl rfl rfl (L28 (32 - 0 + 1) 0 (by omega) (by omega))
