abbrev rmX5_thrown : Room := { frames := 0, cells := 0, slots := 0, locals := 0 }
set_option maxHeartbeats 400000 in
set_option maxRecDepth 100000 in
theorem kX5_thrown {l : Launch} {D : va_G} {ad : Nat → Nat} {q : Nat → ClassId} {A : Nat → Prop} (hAD : mm_AD ad A) {M : mm_M} : mm_Kd l D ad q A yX5_thrown wsX5_thrown rmX5_thrown [.ref (ad 50)] M (some (.int (M.1 50 20))) M := by
  have inX5 : ∀ w ∈ wsX50, w ∈ wsX5_thrown := by decide +kernel
  have f58 : Cond.fieldLink RX5 58 "BeamrowModel" "thrown" "I" ∈ wsX5_thrown := by decide +kernel
  refine mm_of (cc := cX5_thrown) (maxL := 1) (ret := some .int) (own := RX5) rfl hAD (plainFor_of_name (by decide)) rfl (Nat.le_of_ble_eq_true rfl) ⟨rfl, rfl⟩ ?_
  intro pp ee ss mm bl mth cd C hret hlk9
  show mm_G _ _ _ _ _ _ _ _ _ _ _ _ _ _ _ _ _ _ M 0 [(0, .ref (ad 50))] []
  refine r_aload_n C dX5_thrown_0 rfl 0 rfl ?_
  refine r_get5 C inX5 20 (by decide) rfl f58 rfl dX5_thrown_1 ?_
  exact r_iret C hret hlk9 dX5_thrown_4 ⟨by first | rfl | (subst_vars; rfl) | (subst_vars; simp [*]), by first | rfl | (subst_vars; rfl)⟩

abbrev rmX5_goes : Room := { frames := 0, cells := 0, slots := 0, locals := 0 }
set_option maxHeartbeats 400000 in
set_option maxRecDepth 100000 in
theorem kX5_goes {l : Launch} {D : va_G} {ad : Nat → Nat} {q : Nat → ClassId} {A : Nat → Prop} (hAD : mm_AD ad A) {M : mm_M} {x : Int32} : mm_Kd l D ad q A yX5_goes wsX5_goes rmX5_goes [.ref (ad 50), .int x] M (some (.int (if x = 0 then 1 else 0))) (mm_sI M 50 20 x) := by
  have inX5 : ∀ w ∈ wsX50, w ∈ wsX5_goes := by decide +kernel
  have f58 : Cond.fieldLink RX5 58 "BeamrowModel" "thrown" "I" ∈ wsX5_goes := by decide +kernel
  refine mm_of (cc := cX5_goes) (maxL := 2) (ret := some .boolean) (own := RX5) rfl hAD (plainFor_of_name (by decide)) rfl (Nat.le_of_ble_eq_true rfl) ⟨rfl, rfl⟩ ?_
  intro pp ee ss mm bl mth cd C hret hlk9
  show mm_G _ _ _ _ _ _ _ _ _ _ _ _ _ _ _ _ _ _ M 0 [(0, .ref (ad 50)), (1, .int x)] []
  refine r_aload_n C dX5_goes_0 rfl 0 rfl ?_
  refine r_iload_n C dX5_goes_1 rfl 1 rfl ?_
  refine r_put5 C inX5 (ty := .int) 20 (by decide) mm_set5_20 f58 rfl rfl (by decide +kernel) rfl rfl dX5_goes_2 ?_
  refine r_iload_n C dX5_goes_5 rfl 1 rfl ?_
  refine r_if_ne (tgt := 13) C dX5_goes_6 (by decide) (fun z6 => ?_) (fun z6 => ?_)
  · refine r_iconst (v := 0) C dX5_goes_13 rfl ?_
    exact r_zret C hret (by first | decide | assumption) hlk9 dX5_goes_14 ⟨by simp [*], by first | rfl | (subst_vars; rfl)⟩
  · refine r_iconst (v := 1) C dX5_goes_9 rfl ?_
    refine r_goto (tgt := 14) C dX5_goes_10 (by decide) ?_
    exact r_zret C hret (by first | decide | assumption) hlk9 dX5_goes_14 ⟨by simp [*], by first | rfl | (subst_vars; rfl)⟩

abbrev rmX5_isIn : Room := { frames := 0, cells := 0, slots := 0, locals := 0 }
set_option maxHeartbeats 400000 in
set_option maxRecDepth 100000 in
theorem kX5_isIn {l : Launch} {D : va_G} {ad : Nat → Nat} {q : Nat → ClassId} {A : Nat → Prop} (hAD : mm_AD ad A) {M : mm_M} {x y z : Int32} : mm_Kd l D ad q A yX5_isIn wsX5_isIn rmX5_isIn [.int x, .int y, .int z] M (some (.int (nm_in x y z))) M := by
  refine mm_of (cc := cX5_isIn) (maxL := 3) (ret := some .boolean) (own := RX5) rfl hAD (plainFor_of_name (by decide)) rfl (Nat.le_of_ble_eq_true rfl) ⟨rfl, rfl⟩ ?_
  intro pp ee ss mm bl mth cd C hret hlk9
  show mm_G _ _ _ _ _ _ _ _ _ _ _ _ _ _ _ _ _ _ M 0 [(0, .int x), (1, .int y), (2, .int z)] []
  refine r_iload_n C dX5_isIn_0 rfl 0 rfl ?_
  refine r_iload_n C dX5_isIn_1 rfl 1 rfl ?_
  refine r_icmp_lt (tgt := 14) C dX5_isIn_2 (by decide) (fun z2 => ?_) (fun z2 => ?_)
  · refine r_iconst (v := 0) C dX5_isIn_14 rfl ?_
    exact r_zret C hret (by first | decide | assumption) hlk9 dX5_isIn_15 ⟨by simp only [nm_in]; simp [*], by first | rfl | (subst_vars; rfl)⟩
  · refine r_iload_n C dX5_isIn_5 rfl 0 rfl ?_
    refine r_iload_n C dX5_isIn_6 rfl 2 rfl ?_
    refine r_icmp_gt (tgt := 14) C dX5_isIn_7 (by decide) (fun z7 => ?_) (fun z7 => ?_)
    · refine r_iconst (v := 0) C dX5_isIn_14 rfl ?_
      exact r_zret C hret (by first | decide | assumption) hlk9 dX5_isIn_15 ⟨by simp only [nm_in]; simp [*], by first | rfl | (subst_vars; rfl)⟩
    · refine r_iconst (v := 1) C dX5_isIn_10 rfl ?_
      refine r_goto (tgt := 15) C dX5_isIn_11 (by decide) ?_
      exact r_zret C hret (by first | decide | assumption) hlk9 dX5_isIn_15 ⟨by simp only [nm_in]; simp [*], by first | rfl | (subst_vars; rfl)⟩

abbrev rmX5_isElement : Room := { frames := 1, cells := 0, slots := 0, locals := 22 }
set_option maxHeartbeats 400000 in
set_option maxRecDepth 100000 in
theorem kX5_isElement {l : Launch} {D : va_G} {ad : Nat → Nat} {q : Nat → ClassId} {A : Nat → Prop} (hAD : mm_AD ad A) {M : mm_M} {x : Int32} : mm_Kd l D ad q A yX5_isElement wsX5_isElement rmX5_isElement [.ref (ad 50), .int x] M (some (.int (nm_in x 0 (M.1 50 1 - 1)))) M := by
  have inX5 : ∀ w ∈ wsX50, w ∈ wsX5_isElement := by decide +kernel
  have f61 : Cond.fieldLink RX5 61 "BeamrowModel" "elements" "I" ∈ wsX5_isElement := by decide +kernel
  refine mm_of (cc := cX5_isElement) (maxL := 2) (ret := some .boolean) (own := RX5) rfl hAD (plainFor_of_name (by decide)) rfl (Nat.le_of_ble_eq_true rfl) ⟨rfl, rfl⟩ ?_
  intro pp ee ss mm bl mth cd C hret hlk9
  show mm_G _ _ _ _ _ _ _ _ _ _ _ _ _ _ _ _ _ _ M 0 [(0, .ref (ad 50)), (1, .int x)] []
  refine r_iload_n C dX5_isElement_0 rfl 1 rfl ?_
  refine r_iconst (v := 0) C dX5_isElement_1 rfl ?_
  refine r_aload_n C dX5_isElement_2 rfl 0 rfl ?_
  refine r_get5 C inX5 1 (by decide) rfl f61 rfl dX5_isElement_3 ?_
  refine r_iconst (v := 1) C dX5_isElement_6 rfl ?_
  refine r_isub C dX5_isElement_7 ?_
  refine r_callS3I C (kX5_isIn hAD) (va_cwS 3 C.1.2.2.2.2 gX5_isElement_X5_isIn rfl rfl rfl (by decide +kernel) ⟨Nat.le_of_ble_eq_true rfl, Nat.le_of_ble_eq_true rfl⟩) (Nat.le_of_ble_eq_true rfl) dX5_isElement_8 ⟨rfl, rfl⟩ ⟨Nat.zero_le _, Nat.zero_le _⟩ ?_
  exact r_zret C hret (nm_in_z _ _ _) hlk9 dX5_isElement_11 ⟨by first | rfl | (subst_vars; rfl) | (subst_vars; simp [*]), by first | rfl | (subst_vars; rfl)⟩

abbrev rmX5_isBearing : Room := { frames := 1, cells := 0, slots := 0, locals := 22 }
set_option maxHeartbeats 400000 in
set_option maxRecDepth 100000 in
theorem kX5_isBearing {l : Launch} {D : va_G} {ad : Nat → Nat} {q : Nat → ClassId} {A : Nat → Prop} (hAD : mm_AD ad A) {M : mm_M} {x : Int32} : mm_Kd l D ad q A yX5_isBearing wsX5_isBearing rmX5_isBearing [.int x] M (some (.int (nm_in x (-4) 4))) M := by
  refine mm_of (cc := cX5_isBearing) (maxL := 1) (ret := some .boolean) (own := RX5) rfl hAD (plainFor_of_name (by decide)) rfl (Nat.le_of_ble_eq_true rfl) ⟨rfl, rfl⟩ ?_
  intro pp ee ss mm bl mth cd C hret hlk9
  show mm_G _ _ _ _ _ _ _ _ _ _ _ _ _ _ _ _ _ _ M 0 [(0, .int x)] []
  refine r_iload_n C dX5_isBearing_0 rfl 0 rfl ?_
  refine r_bipush (v := (-4)) C dX5_isBearing_1 rfl ?_
  refine r_iconst (v := 4) C dX5_isBearing_3 rfl ?_
  refine r_callS3I C (kX5_isIn hAD) (va_cwS 3 C.1.2.2.2.2 gX5_isBearing_X5_isIn rfl rfl rfl (by decide +kernel) ⟨Nat.le_of_ble_eq_true rfl, Nat.le_of_ble_eq_true rfl⟩) (Nat.le_of_ble_eq_true rfl) dX5_isBearing_4 ⟨rfl, rfl⟩ ⟨Nat.zero_le _, Nat.zero_le _⟩ ?_
  exact r_zret C hret (nm_in_z _ _ _) hlk9 dX5_isBearing_7 ⟨by first | rfl | (subst_vars; rfl) | (subst_vars; simp [*]), by first | rfl | (subst_vars; rfl)⟩

theorem nm_0le {x : Int64} (h : (0 : Int64) ≤ x) : 0 ≤ x.toInt := Int64.le_iff_toInt_le.mp h
theorem nm_0lt {x : Int64} (h : ¬ (0 : Int64) ≤ x) : x.toInt < 0 := Int.not_le.mp fun z => h (Int64.le_iff_toInt_le.mpr z)
abbrev rmX5_down : Room := { frames := 0, cells := 0, slots := 0, locals := 0 }
set_option maxHeartbeats 400000 in
set_option maxRecDepth 100000 in
theorem kX5_down {l : Launch} {D : va_G} {ad : Nat → Nat} {q : Nat → ClassId} {A : Nat → Prop} (hAD : mm_AD ad A) {M : mm_M} {x y : Int64} (hy : 0 < y.toInt) : mm_Kd l D ad q A yX5_down wsX5_down rmX5_down [.long x, .long y] M (some (.long (nm_fdJ x y))) M := by
  refine mm_of (cc := cX5_down) (maxL := 6) (ret := some .long) (own := RX5) rfl hAD (plainFor_of_name (by decide)) rfl (Nat.le_of_ble_eq_true rfl) ⟨rfl, rfl⟩ ?_
  intro pp ee ss mm bl mth cd C hret hlk9
  show mm_G _ _ _ _ _ _ _ _ _ _ _ _ _ _ _ _ _ _ M 0 [(0, .long x), (2, .long y)] []
  refine r_lload_n C dX5_down_0 rfl 0 rfl ?_
  refine r_lload_n C dX5_down_1 rfl 1 rfl ?_
  refine r_ldiv C dX5_down_2 (nm_ne0J hy) ?_
  refine r_topl (fun v4_3 ev4_3 => ?_)
  refine r_lstore (lv' := [(4, .long v4_3), (0, .long x), (2, .long y)]) C dX5_down_3 (by decide) rfl ?_
  refine r_lload_n C dX5_down_5 rfl 1 rfl ?_
  refine r_lconst (v := 0) C dX5_down_6 rfl ?_
  refine r_lcmp C dX5_down_7 ?_
  refine r_if_ge (tgt := 27) C dX5_down_8 (by decide) (fun z8 => ?_) (fun z8 => ?_)
  · refine r_lload C dX5_down_27 0 rfl ?_
    exact r_lret C hret hlk9 dX5_down_29 ⟨by rw [ev4_3]; first | (rw [nm_fdnJ hy (nm_0le ((lg_cmp_ge _ _).mp z8))]; done) | (rw [nm_fdmJ hy (nm_0lt (fun z => z8 ((lg_cmp_ge _ _).mpr z))) (by rw [← ev4_3]; exact lg_eq0.mp z17)]; done) | rw [nm_fdkJ hy (nm_0lt (fun z => z8 ((lg_cmp_ge _ _).mpr z))) (fun z => z17 (lg_eq0.mpr (by rw [ev4_3]; exact z)))], rfl⟩
  · refine r_lload C dX5_down_11 0 rfl ?_
    refine r_lload_n C dX5_down_13 rfl 2 rfl ?_
    refine r_lmul C dX5_down_14 ?_
    refine r_lload_n C dX5_down_15 rfl 1 rfl ?_
    refine r_lcmp C dX5_down_16 ?_
    refine r_if_eq (tgt := 27) C dX5_down_17 (by decide) (fun z17 => ?_) (fun z17 => ?_)
    · refine r_lload C dX5_down_27 0 rfl ?_
      exact r_lret C hret hlk9 dX5_down_29 ⟨by rw [ev4_3]; first | (rw [nm_fdnJ hy (nm_0le ((lg_cmp_ge _ _).mp z8))]; done) | (rw [nm_fdmJ hy (nm_0lt (fun z => z8 ((lg_cmp_ge _ _).mpr z))) (by rw [← ev4_3]; exact lg_eq0.mp z17)]; done) | rw [nm_fdkJ hy (nm_0lt (fun z => z8 ((lg_cmp_ge _ _).mpr z))) (fun z => z17 (lg_eq0.mpr (by rw [ev4_3]; exact z)))], rfl⟩
    · refine r_lload C dX5_down_20 0 rfl ?_
      refine r_lconst (v := 1) C dX5_down_22 rfl ?_
      refine r_lsub C dX5_down_23 ?_
      refine r_goto (tgt := 29) C dX5_down_24 (by decide) ?_
      exact r_lret C hret hlk9 dX5_down_29 ⟨by rw [ev4_3]; first | (rw [nm_fdnJ hy (nm_0le ((lg_cmp_ge _ _).mp z8))]; done) | (rw [nm_fdmJ hy (nm_0lt (fun z => z8 ((lg_cmp_ge _ _).mpr z))) (by rw [← ev4_3]; exact lg_eq0.mp z17)]; done) | rw [nm_fdkJ hy (nm_0lt (fun z => z8 ((lg_cmp_ge _ _).mpr z))) (fun z => z17 (lg_eq0.mpr (by rw [ev4_3]; exact z)))], rfl⟩

abbrev mm_F : Type := Nat → Nat → Int32
def mr_delay (F : mm_F) (e : Nat) (b : Int32) : Int32 := (nm_fdJ (F 51 e * b).toInt64 4).toInt32
abbrev rmX5_delay : Room := { frames := 1, cells := 0, slots := 0, locals := 25 }
set_option maxHeartbeats 400000 in
set_option maxRecDepth 100000 in
theorem kX5_delay {l : Launch} {D : va_G} {ad : Nat → Nat} {q : Nat → ClassId} {A : Nat → Prop} (hAD : mm_AD ad A) {M : mm_M} {b : Int32} {x : Int32} (e : Nat) (hx : x.toInt = (e : Int)) (he : e < 8) : mm_Kd l D ad q A yX5_delay wsX5_delay rmX5_delay [.ref (ad 50), .int x, .int b] M (some (.int (mr_delay M.1 e b))) M := by
  have inX5 : ∀ w ∈ wsX50, w ∈ wsX5_delay := by decide +kernel
  have f7 : Cond.fieldLink RX5 7 "BeamrowModel" "positions" "[I" ∈ wsX5_delay := by decide +kernel
  have n68 : Cond.constantLong RX5 68 (4) ∈ wsX5_delay := by decide +kernel
  refine mm_of (cc := cX5_delay) (maxL := 3) (ret := some .int) (own := RX5) rfl hAD (plainFor_of_name (by decide)) rfl (Nat.le_of_ble_eq_true rfl) ⟨rfl, rfl⟩ ?_
  intro pp ee ss mm bl mth cd C hret hlk9
  show mm_G _ _ _ _ _ _ _ _ _ _ _ _ _ _ _ _ _ _ M 0 [(0, .ref (ad 50)), (1, .int x), (2, .int b)] []
  refine r_aload_n C dX5_delay_0 rfl 0 rfl ?_
  refine r_get5 C inX5 2 (by decide) rfl f7 rfl dX5_delay_1 ?_
  refine r_iload_n C dX5_delay_4 rfl 1 rfl ?_
  refine r_iald C mm_aI_51 (e) (hx) (he) dX5_delay_5 ?_
  refine r_iload_n C dX5_delay_6 rfl 2 rfl ?_
  refine r_imul C dX5_delay_7 ?_
  refine r_i2l C dX5_delay_8 ?_
  refine r_ldc2 C n68 dX5_delay_9 ?_
  refine r_callS2J C (kX5_down hAD (by decide)) (va_cwS 2 C.1.2.2.2.2 gX5_delay_X5_down rfl rfl rfl (by decide +kernel) ⟨Nat.le_of_ble_eq_true rfl, Nat.le_of_ble_eq_true rfl⟩) (Nat.le_of_ble_eq_true rfl) dX5_delay_12 ⟨rfl, rfl⟩ ⟨Nat.zero_le _, Nat.zero_le _⟩ ?_
  refine r_l2i C dX5_delay_15 ?_
  exact r_iret C hret hlk9 dX5_delay_16 ⟨by first | rfl | (subst_vars; rfl) | (subst_vars; simp [*]), by first | rfl | (subst_vars; rfl)⟩

def mr_isK (F : mm_F) (e : Nat) (t : Int32) : Int32 := if t < F 54 e then 0 else if nm_in t (F 50 0 - 64) (F 50 0 - 1) = 0 then 0 else if t < 0 then 0 else 1
theorem mr_isK_pos {F : mm_F} {e : Nat} {t : Int32} (h : ¬ mr_isK F e t = 0) : ¬ t < 0 := by
  unfold mr_isK at h
  intro z
  rw [if_pos z] at h
  apply h
  split
  · rfl
  · split <;> rfl
theorem nm_kx {x t : Int32} {e : Nat} (hx : x.toInt = (e : Int)) (he : e < 8) (ht : ¬ t < 0) : (64 * x + (t - t / 64 * 64)).toInt = ((64 * e + t.toInt.toNat % 64 : Nat) : Int) := by
  have h1 := nm_ix ht
  have h2 : t - t / 64 * 64 = Int32.ofInt (t.toInt % 64) := nm_fm_x1 (y := 64) (by decide) (by omega)
  have h3 : 64 * x = Int32.ofInt (64 * e) := by rw [Int32.ofInt_mul, ← hx, Int32.ofInt_toInt]; rfl
  rw [h2, h3, ← Int32.ofInt_add, nm_ofI (by omega) (by omega)]
  omega
abbrev rmX5_isKept : Room := { frames := 1, cells := 0, slots := 0, locals := 22 }
set_option maxHeartbeats 400000 in
set_option maxRecDepth 100000 in
theorem kX5_isKept {l : Launch} {D : va_G} {ad : Nat → Nat} {q : Nat → ClassId} {A : Nat → Prop} (hAD : mm_AD ad A) {M : mm_M} {t : Int32} {x : Int32} (e : Nat) (hx : x.toInt = (e : Int)) (he : e < 8) : mm_Kd l D ad q A yX5_isKept wsX5_isKept rmX5_isKept [.ref (ad 50), .int x, .int t] M (some (.int (mr_isK M.1 e t))) M := by
  have inX5 : ∀ w ∈ wsX50, w ∈ wsX5_isKept := by decide +kernel
  have f19 : Cond.fieldLink RX5 19 "BeamrowModel" "began" "[I" ∈ wsX5_isKept := by decide +kernel
  have f78 : Cond.fieldLink RX5 78 "BeamrowModel" "next" "I" ∈ wsX5_isKept := by decide +kernel
  refine mm_of (cc := cX5_isKept) (maxL := 3) (ret := some .boolean) (own := RX5) rfl hAD (plainFor_of_name (by decide)) rfl (Nat.le_of_ble_eq_true rfl) ⟨rfl, rfl⟩ ?_
  intro pp ee ss mm bl mth cd C hret hlk9
  show mm_G _ _ _ _ _ _ _ _ _ _ _ _ _ _ _ _ _ _ M 0 [(0, .ref (ad 50)), (1, .int x), (2, .int t)] []
  refine r_iload_n C dX5_isKept_0 rfl 2 rfl ?_
  refine r_aload_n C dX5_isKept_1 rfl 0 rfl ?_
  refine r_get5 C inX5 5 (by decide) rfl f19 rfl dX5_isKept_2 ?_
  refine r_iload_n C dX5_isKept_5 rfl 1 rfl ?_
  refine r_iald C mm_aI_54 (e) (hx) (he) dX5_isKept_6 ?_
  refine r_icmp_lt (tgt := 38) C dX5_isKept_7 (by decide) (fun z7 => ?_) (fun z7 => ?_)
  · refine r_iconst (v := 0) C dX5_isKept_38 rfl ?_
    exact r_zret C hret (by first | decide | assumption) hlk9 dX5_isKept_39 ⟨by simp only [mr_isK]; simp [*], by first | rfl | (subst_vars; rfl)⟩
  · refine r_iload_n C dX5_isKept_10 rfl 2 rfl ?_
    refine r_aload_n C dX5_isKept_11 rfl 0 rfl ?_
    refine r_get5 C inX5 0 (by decide) rfl f78 rfl dX5_isKept_12 ?_
    refine r_bipush (v := (64)) C dX5_isKept_15 rfl ?_
    refine r_isub C dX5_isKept_17 ?_
    refine r_aload_n C dX5_isKept_18 rfl 0 rfl ?_
    refine r_get5 C inX5 0 (by decide) rfl f78 rfl dX5_isKept_19 ?_
    refine r_iconst (v := 1) C dX5_isKept_22 rfl ?_
    refine r_isub C dX5_isKept_23 ?_
    refine r_callS3I C (kX5_isIn hAD) (va_cwS 3 C.1.2.2.2.2 gX5_isKept_X5_isIn rfl rfl rfl (by decide +kernel) ⟨Nat.le_of_ble_eq_true rfl, Nat.le_of_ble_eq_true rfl⟩) (Nat.le_of_ble_eq_true rfl) dX5_isKept_24 ⟨rfl, rfl⟩ ⟨Nat.zero_le _, Nat.zero_le _⟩ ?_
    refine r_if_eq (tgt := 38) C dX5_isKept_27 (by decide) (fun z27 => ?_) (fun z27 => ?_)
    · refine r_iconst (v := 0) C dX5_isKept_38 rfl ?_
      exact r_zret C hret (by first | decide | assumption) hlk9 dX5_isKept_39 ⟨by simp only [mr_isK]; simp [*], by first | rfl | (subst_vars; rfl)⟩
    · refine r_iload_n C dX5_isKept_30 rfl 2 rfl ?_
      refine r_if_lt (tgt := 38) C dX5_isKept_31 (by decide) (fun z31 => ?_) (fun z31 => ?_)
      · refine r_iconst (v := 0) C dX5_isKept_38 rfl ?_
        exact r_zret C hret (by first | decide | assumption) hlk9 dX5_isKept_39 ⟨by simp only [mr_isK]; simp [*], by first | rfl | (subst_vars; rfl)⟩
      · refine r_iconst (v := 1) C dX5_isKept_34 rfl ?_
        refine r_goto (tgt := 39) C dX5_isKept_35 (by decide) ?_
        exact r_zret C hret (by first | decide | assumption) hlk9 dX5_isKept_39 ⟨by simp only [mr_isK]; simp [*], by first | rfl | (subst_vars; rfl)⟩

def mr_kept (F : mm_F) (r e : Nat) (t : Int32) : Int32 := if mr_isK F e t = 0 then 0 else F r (64 * e + t.toInt.toNat % 64)
abbrev rmX5_kept : Room := { frames := 2, cells := 0, slots := 0, locals := 44 }
set_option maxHeartbeats 400000 in
set_option maxRecDepth 100000 in
theorem kX5_kept {l : Launch} {D : va_G} {ad : Nat → Nat} {q : Nat → ClassId} {A : Nat → Prop} (hAD : mm_AD ad A) {M : mm_M} {r : Nat} (hr : mm_aI r 512) {t : Int32} {x : Int32} (e : Nat) (hx : x.toInt = (e : Int)) (he : e < 8) : mm_Kd l D ad q A yX5_kept wsX5_kept rmX5_kept [.ref (ad 50), .ref (ad r), .int x, .int t] M (some (.int (mr_kept M.1 r e t))) M := by
  refine mm_of (cc := cX5_kept) (maxL := 4) (ret := some .int) (own := RX5) rfl hAD (plainFor_of_name (by decide)) rfl (Nat.le_of_ble_eq_true rfl) ⟨rfl, rfl⟩ ?_
  intro pp ee ss mm bl mth cd C hret hlk9
  show mm_G _ _ _ _ _ _ _ _ _ _ _ _ _ _ _ _ _ _ M 0 [(0, .ref (ad 50)), (1, .ref (ad r)), (2, .int x), (3, .int t)] []
  refine r_aload_n C dX5_kept_0 rfl 0 rfl ?_
  refine r_iload_n C dX5_kept_1 rfl 2 rfl ?_
  refine r_iload_n C dX5_kept_2 rfl 3 rfl ?_
  refine r_callV2I C 5 (by decide) rfl (mm_ct5 ad q _) (kX5_isKept hAD (e) (by exact hx) (by exact he)) (cwV 2 C.1.2.2.2.2 gX5_kept_X5_isKept rfl rfl rfl (by decide +kernel) ⟨Nat.le_of_ble_eq_true rfl, Nat.le_of_ble_eq_true rfl⟩) (Nat.le_of_ble_eq_true rfl) dX5_kept_3 ⟨rfl, rfl⟩ ⟨Nat.zero_le _, Nat.zero_le _⟩ ?_
  refine r_if_eq (tgt := 23) C dX5_kept_6 (by decide) (fun z6 => ?_) (fun z6 => ?_)
  · refine r_iconst (v := 0) C dX5_kept_23 rfl ?_
    exact r_iret C hret hlk9 dX5_kept_24 ⟨by simp only [mr_kept]; simp [*], by first | rfl | (subst_vars; rfl)⟩
  · refine r_aload_n C dX5_kept_9 rfl 1 rfl ?_
    refine r_bipush (v := (64)) C dX5_kept_10 rfl ?_
    refine r_iload_n C dX5_kept_12 rfl 2 rfl ?_
    refine r_imul C dX5_kept_13 ?_
    refine r_iload_n C dX5_kept_14 rfl 3 rfl ?_
    refine r_bipush (v := (64)) C dX5_kept_15 rfl ?_
    refine r_irem C dX5_kept_17 (by decide) ?_
    refine r_iadd C dX5_kept_18 ?_
    refine r_iald C (hr) (64 * e + t.toInt.toNat % 64) (nm_kx hx he (mr_isK_pos z6)) (by omega) dX5_kept_19 ?_
    refine r_goto (tgt := 24) C dX5_kept_20 (by decide) ?_
    exact r_iret C hret hlk9 dX5_kept_24 ⟨by simp only [mr_kept]; simp [*], by first | rfl | (subst_vars; rfl)⟩

def mr_ah (F : mm_F) (x : Int32) : Nat → Int32
  | 0 => 0
  | n + 1 => mr_ah F x n + (if F 55 n = 0 then 0 else if x ≤ nI n then 0 else 1)
def mr_bh (F : mm_F) (x : Int32) : Nat → Int32
  | 0 => 0
  | n + 1 => mr_bh F x n + (if F 55 n = 0 then 0 else if nI n ≤ x then 0 else 1)
def mr_least (F : mm_F) (x : Int32) (N : Nat) : Int32 := if mr_bh F x N ≤ mr_ah F x N then mr_bh F x N else mr_ah F x N
def mr_w (F : mm_F) (x : Int32) (e N : Nat) : Int32 := if F 55 e = 0 then 0 else if F 50 15 = 0 then 1 else if F 50 15 = 1 then 1 + mr_least F x N else if mr_least F x N = 0 then 3 else 1
abbrev rmX5_weight : Room := { frames := 0, cells := 0, slots := 0, locals := 0 }
set_option maxHeartbeats 400000 in
set_option maxRecDepth 100000 in
theorem kX5_weight {l : Launch} {D : va_G} {ad : Nat → Nat} {q : Nat → ClassId} {A : Nat → Prop} (hAD : mm_AD ad A) {N : Nat} {M : mm_M} (hN : M.1 50 1 = nI N) (hN8 : N ≤ 8) {x : Int32} (e : Nat) (hx : x.toInt = (e : Int)) (he : e < 8) : mm_Kd l D ad q A yX5_weight wsX5_weight rmX5_weight [.ref (ad 50), .int x] M (some (.int (mr_w M.1 x e N))) M := by
  have inX5 : ∀ w ∈ wsX50, w ∈ wsX5_weight := by decide +kernel
  have f22 : Cond.fieldLink RX5 22 "BeamrowModel" "isAlive" "[Z" ∈ wsX5_weight := by decide +kernel
  have f61 : Cond.fieldLink RX5 61 "BeamrowModel" "elements" "I" ∈ wsX5_weight := by decide +kernel
  have f108 : Cond.fieldLink RX5 108 "BeamrowModel" "window" "I" ∈ wsX5_weight := by decide +kernel
  refine mm_of (cc := cX5_weight) (maxL := 5) (ret := some .int) (own := RX5) rfl hAD (plainFor_of_name (by decide)) rfl (Nat.le_of_ble_eq_true rfl) ⟨rfl, rfl⟩ ?_
  intro pp ee ss mm bl mth cd C hret hlk9
  show mm_G _ _ _ _ _ _ _ _ _ _ _ _ _ _ _ _ _ _ M 0 [(0, .ref (ad 50)), (1, .int x)] []
  refine r_iconst (v := 0) C dX5_weight_0 rfl ?_
  refine r_istore_n (lv' := [(2, .int 0), (0, .ref (ad 50)), (1, .int x)]) C dX5_weight_1 rfl (by decide) rfl ?_
  refine r_iconst (v := 0) C dX5_weight_2 rfl ?_
  refine r_istore_n (lv' := [(3, .int 0), (2, .int 0), (0, .ref (ad 50)), (1, .int x)]) C dX5_weight_3 rfl (by decide) rfl ?_
  refine r_iconst (v := 0) C dX5_weight_4 rfl ?_
  refine r_istore (lv' := [(4, .int 0), (3, .int 0), (2, .int 0), (0, .ref (ad 50)), (1, .int x)]) C dX5_weight_5 (by decide) rfl ?_
  have L7 : ∀ (k9 : Nat) (n : Nat) (hn : n ≤ N), N - n < k9 → mm_G pp l ee rmX5_weight ss mm ([.ref (ad 50), .int x] : List Value).toArray bl mth cd 0 0 (MQ bl (mm_Q D ad q A (fun v' u => v' = some (.int (mr_w M.1 x e N)) ∧ u = M)) ([.ref (ad 50), .int x] : List Value).toArray ss 0 0 A) 5 D ad q A (M) 7 [(4, .int (nI n)), (3, .int (mr_bh M.1 x n)), (2, .int (mr_ah M.1 x n)), (0, .ref (ad 50)), (1, .int x)] [] := by
    intro k9
    induction k9 with
    | zero => intro n hn h9; exact absurd h9 (Nat.not_lt_zero _)
    | succ k9 ih7 =>
      intro n hn h9
      refine r_iload C dX5_weight_7 0 rfl ?_
      refine r_aload_n C dX5_weight_9 rfl 3 rfl ?_
      refine r_get5 C inX5 1 (by decide) rfl f61 rfl dX5_weight_10 ?_
      refine r_icmp_ge (tgt := 70) C dX5_weight_13 (by decide) (fun z13 => ?_) (fun z13 => ?_)
      · rw [hN] at z13
        obtain rfl : N = n := (nm_ge hn (by omega) z13).symm
        refine r_iload_n C dX5_weight_70 rfl 2 rfl ?_
        refine r_iload_n C dX5_weight_71 rfl 1 rfl ?_
        refine r_icmp_ge (tgt := 79) C dX5_weight_72 (by decide) (fun z72 => ?_) (fun z72 => ?_)
        · refine r_iload_n C dX5_weight_79 rfl 1 rfl ?_
          refine r_topi (fun v4_80 ev4_80 => ?_)
          refine r_istore (lv' := [(4, .int v4_80), (3, .int (mr_bh M.1 x N)), (2, .int (mr_ah M.1 x N)), (0, .ref (ad 50)), (1, .int x)]) C dX5_weight_80 (by decide) rfl ?_
          refine r_aload_n C dX5_weight_82 rfl 3 rfl ?_
          refine r_get5 C inX5 6 (by decide) rfl f22 rfl dX5_weight_83 ?_
          refine r_iload_n C dX5_weight_86 rfl 4 rfl ?_
          refine r_zald C (e) (hx) (he) dX5_weight_87 ?_
          refine r_if_ne (tgt := 95) C dX5_weight_88 (by decide) (fun z88 => ?_) (fun z88 => ?_)
          · refine r_aload_n C dX5_weight_95 rfl 3 rfl ?_
            refine r_get5 C inX5 15 (by decide) rfl f108 rfl dX5_weight_96 ?_
            refine r_if_ne (tgt := 106) C dX5_weight_99 (by decide) (fun z99 => ?_) (fun z99 => ?_)
            · refine r_aload_n C dX5_weight_106 rfl 3 rfl ?_
              refine r_get5 C inX5 15 (by decide) rfl f108 rfl dX5_weight_107 ?_
              refine r_iconst (v := 1) C dX5_weight_110 rfl ?_
              refine r_icmp_ne (tgt := 121) C dX5_weight_111 (by decide) (fun z111 => ?_) (fun z111 => ?_)
              · refine r_iload C dX5_weight_121 0 rfl ?_
                refine r_if_ne (tgt := 130) C dX5_weight_123 (by decide) (fun z123 => ?_) (fun z123 => ?_)
                · refine r_iconst (v := 1) C dX5_weight_130 rfl ?_
                  exact r_iret C hret hlk9 dX5_weight_131 ⟨by first | (have e9 : mr_least M.1 x N = v4_80 := by rw [ev4_80, mr_least]; first | exact if_pos z72 | exact if_neg z72); (simp only [mr_w, e9]; clear e9 ev4_80; simp [*]), by first | rfl | (subst_vars; rfl)⟩
                · refine r_iconst (v := 3) C dX5_weight_126 rfl ?_
                  refine r_goto (tgt := 131) C dX5_weight_127 (by decide) ?_
                  exact r_iret C hret hlk9 dX5_weight_131 ⟨by first | (have e9 : mr_least M.1 x N = v4_80 := by rw [ev4_80, mr_least]; first | exact if_pos z72 | exact if_neg z72); (simp only [mr_w, e9]; clear e9 ev4_80; simp [*]), by first | rfl | (subst_vars; rfl)⟩
              · refine r_iconst (v := 1) C dX5_weight_114 rfl ?_
                refine r_iload C dX5_weight_115 0 rfl ?_
                refine r_iadd C dX5_weight_117 ?_
                refine r_goto (tgt := 131) C dX5_weight_118 (by decide) ?_
                exact r_iret C hret hlk9 dX5_weight_131 ⟨by first | (have e9 : mr_least M.1 x N = v4_80 := by rw [ev4_80, mr_least]; first | exact if_pos z72 | exact if_neg z72); (simp only [mr_w, e9]; clear e9 ev4_80; simp [*]), by first | rfl | (subst_vars; rfl)⟩
            · refine r_iconst (v := 1) C dX5_weight_102 rfl ?_
              refine r_goto (tgt := 131) C dX5_weight_103 (by decide) ?_
              exact r_iret C hret hlk9 dX5_weight_131 ⟨by first | (have e9 : mr_least M.1 x N = v4_80 := by rw [ev4_80, mr_least]; first | exact if_pos z72 | exact if_neg z72); (simp only [mr_w, e9]; clear e9 ev4_80; simp [*]), by first | rfl | (subst_vars; rfl)⟩
          · refine r_iconst (v := 0) C dX5_weight_91 rfl ?_
            refine r_goto (tgt := 131) C dX5_weight_92 (by decide) ?_
            exact r_iret C hret hlk9 dX5_weight_131 ⟨by first | (have e9 : mr_least M.1 x N = v4_80 := by rw [ev4_80, mr_least]; first | exact if_pos z72 | exact if_neg z72); (simp only [mr_w, e9]; clear e9 ev4_80; simp [*]), by first | rfl | (subst_vars; rfl)⟩
        · refine r_iload_n C dX5_weight_75 rfl 2 rfl ?_
          refine r_goto (tgt := 80) C dX5_weight_76 (by decide) ?_
          refine r_topi (fun v4_80 ev4_80 => ?_)
          refine r_istore (lv' := [(4, .int v4_80), (3, .int (mr_bh M.1 x N)), (2, .int (mr_ah M.1 x N)), (0, .ref (ad 50)), (1, .int x)]) C dX5_weight_80 (by decide) rfl ?_
          refine r_aload_n C dX5_weight_82 rfl 3 rfl ?_
          refine r_get5 C inX5 6 (by decide) rfl f22 rfl dX5_weight_83 ?_
          refine r_iload_n C dX5_weight_86 rfl 4 rfl ?_
          refine r_zald C (e) (hx) (he) dX5_weight_87 ?_
          refine r_if_ne (tgt := 95) C dX5_weight_88 (by decide) (fun z88 => ?_) (fun z88 => ?_)
          · refine r_aload_n C dX5_weight_95 rfl 3 rfl ?_
            refine r_get5 C inX5 15 (by decide) rfl f108 rfl dX5_weight_96 ?_
            refine r_if_ne (tgt := 106) C dX5_weight_99 (by decide) (fun z99 => ?_) (fun z99 => ?_)
            · refine r_aload_n C dX5_weight_106 rfl 3 rfl ?_
              refine r_get5 C inX5 15 (by decide) rfl f108 rfl dX5_weight_107 ?_
              refine r_iconst (v := 1) C dX5_weight_110 rfl ?_
              refine r_icmp_ne (tgt := 121) C dX5_weight_111 (by decide) (fun z111 => ?_) (fun z111 => ?_)
              · refine r_iload C dX5_weight_121 0 rfl ?_
                refine r_if_ne (tgt := 130) C dX5_weight_123 (by decide) (fun z123 => ?_) (fun z123 => ?_)
                · refine r_iconst (v := 1) C dX5_weight_130 rfl ?_
                  exact r_iret C hret hlk9 dX5_weight_131 ⟨by first | (have e9 : mr_least M.1 x N = v4_80 := by rw [ev4_80, mr_least]; first | exact if_pos z72 | exact if_neg z72); (simp only [mr_w, e9]; clear e9 ev4_80; simp [*]), by first | rfl | (subst_vars; rfl)⟩
                · refine r_iconst (v := 3) C dX5_weight_126 rfl ?_
                  refine r_goto (tgt := 131) C dX5_weight_127 (by decide) ?_
                  exact r_iret C hret hlk9 dX5_weight_131 ⟨by first | (have e9 : mr_least M.1 x N = v4_80 := by rw [ev4_80, mr_least]; first | exact if_pos z72 | exact if_neg z72); (simp only [mr_w, e9]; clear e9 ev4_80; simp [*]), by first | rfl | (subst_vars; rfl)⟩
              · refine r_iconst (v := 1) C dX5_weight_114 rfl ?_
                refine r_iload C dX5_weight_115 0 rfl ?_
                refine r_iadd C dX5_weight_117 ?_
                refine r_goto (tgt := 131) C dX5_weight_118 (by decide) ?_
                exact r_iret C hret hlk9 dX5_weight_131 ⟨by first | (have e9 : mr_least M.1 x N = v4_80 := by rw [ev4_80, mr_least]; first | exact if_pos z72 | exact if_neg z72); (simp only [mr_w, e9]; clear e9 ev4_80; simp [*]), by first | rfl | (subst_vars; rfl)⟩
            · refine r_iconst (v := 1) C dX5_weight_102 rfl ?_
              refine r_goto (tgt := 131) C dX5_weight_103 (by decide) ?_
              exact r_iret C hret hlk9 dX5_weight_131 ⟨by first | (have e9 : mr_least M.1 x N = v4_80 := by rw [ev4_80, mr_least]; first | exact if_pos z72 | exact if_neg z72); (simp only [mr_w, e9]; clear e9 ev4_80; simp [*]), by first | rfl | (subst_vars; rfl)⟩
          · refine r_iconst (v := 0) C dX5_weight_91 rfl ?_
            refine r_goto (tgt := 131) C dX5_weight_92 (by decide) ?_
            exact r_iret C hret hlk9 dX5_weight_131 ⟨by first | (have e9 : mr_least M.1 x N = v4_80 := by rw [ev4_80, mr_least]; first | exact if_pos z72 | exact if_neg z72); (simp only [mr_w, e9]; clear e9 ev4_80; simp [*]), by first | rfl | (subst_vars; rfl)⟩
      · rw [hN] at z13
        have hlt : n < N := nm_lt (by omega) (by omega) z13
        refine r_iload_n C dX5_weight_16 rfl 2 rfl ?_
        refine r_aload_n C dX5_weight_17 rfl 3 rfl ?_
        refine r_get5 C inX5 6 (by decide) rfl f22 rfl dX5_weight_18 ?_
        refine r_iload C dX5_weight_21 0 rfl ?_
        refine r_zald C (n) (nI_toInt (by omega)) (by omega) dX5_weight_23 ?_
        refine r_if_eq (tgt := 37) C dX5_weight_24 (by decide) (fun z24 => ?_) (fun z24 => ?_)
        · refine r_iconst (v := 0) C dX5_weight_37 rfl ?_
          refine r_iadd C dX5_weight_38 ?_
          refine r_topi (fun v2_39 ev2_39 => ?_)
          refine r_istore_n (lv' := [(2, .int v2_39), (4, .int (nI n)), (3, .int (mr_bh M.1 x n)), (0, .ref (ad 50)), (1, .int x)]) C dX5_weight_39 rfl (by decide) rfl ?_
          refine r_iload_n C dX5_weight_40 rfl 2 rfl ?_
          refine r_aload_n C dX5_weight_41 rfl 3 rfl ?_
          refine r_get5 C inX5 6 (by decide) rfl f22 rfl dX5_weight_42 ?_
          refine r_iload C dX5_weight_45 1 rfl ?_
          refine r_zald C (n) (nI_toInt (by omega)) (by omega) dX5_weight_47 ?_
          refine r_if_eqT (tgt := 61) C dX5_weight_48 (by decide) (z24) ?_
          refine r_iconst (v := 0) C dX5_weight_61 rfl ?_
          refine r_iadd C dX5_weight_62 ?_
          refine r_topi (fun v3_63 ev3_63 => ?_)
          refine r_istore_n (lv' := [(3, .int v3_63), (2, .int v2_39), (4, .int (nI n)), (0, .ref (ad 50)), (1, .int x)]) C dX5_weight_63 rfl (by decide) rfl ?_
          obtain ⟨v4_64, ev4_64⟩ : ∃ y9 : Int32, y9 = (nI n) + 1 := ⟨_, rfl⟩
          refine r_iinc (v := v4_64) (lv' := [(4, .int v4_64), (3, .int v3_63), (2, .int v2_39), (0, .ref (ad 50)), (1, .int x)]) C dX5_weight_64 2 rfl (by rw [ev4_64]; rfl) (by decide) rfl ?_
          refine r_goto (tgt := 7) C dX5_weight_67 (by decide) ?_
          refine r_cast (M' := M) (lv' := [(4, .int (nI (n + 1))), (3, .int (mr_bh M.1 x (n + 1))), (2, .int (mr_ah M.1 x (n + 1))), (0, .ref (ad 50)), (1, .int x)]) (st' := []) rfl (by rw [ev4_64, nI_1, ev2_39, ev3_63, mr_ah, mr_bh]; first | (rw [if_pos z24, if_pos z24]; done) | (rw [if_neg z24, if_neg z24]; first | (rw [if_pos z30, if_pos z54]; done) | (rw [if_pos z30, if_neg z54]; done) | (rw [if_neg z30, if_pos z54]; done) | rw [if_neg z30, if_neg z54])) rfl (ih7 (n + 1) (by omega) (by omega))
        · refine r_iload C dX5_weight_27 0 rfl ?_
          refine r_iload_n C dX5_weight_29 rfl 4 rfl ?_
          refine r_icmp_ge (tgt := 37) C dX5_weight_30 (by decide) (fun z30 => ?_) (fun z30 => ?_)
          · refine r_iconst (v := 0) C dX5_weight_37 rfl ?_
            refine r_iadd C dX5_weight_38 ?_
            refine r_topi (fun v2_39 ev2_39 => ?_)
            refine r_istore_n (lv' := [(2, .int v2_39), (4, .int (nI n)), (3, .int (mr_bh M.1 x n)), (0, .ref (ad 50)), (1, .int x)]) C dX5_weight_39 rfl (by decide) rfl ?_
            refine r_iload_n C dX5_weight_40 rfl 2 rfl ?_
            refine r_aload_n C dX5_weight_41 rfl 3 rfl ?_
            refine r_get5 C inX5 6 (by decide) rfl f22 rfl dX5_weight_42 ?_
            refine r_iload C dX5_weight_45 1 rfl ?_
            refine r_zald C (n) (nI_toInt (by omega)) (by omega) dX5_weight_47 ?_
            refine r_if_eqF (tgt := 61) C dX5_weight_48 (by decide) (z24) ?_
            refine r_iload C dX5_weight_51 1 rfl ?_
            refine r_iload_n C dX5_weight_53 rfl 4 rfl ?_
            refine r_icmp_le (tgt := 61) C dX5_weight_54 (by decide) (fun z54 => ?_) (fun z54 => ?_)
            · refine r_iconst (v := 0) C dX5_weight_61 rfl ?_
              refine r_iadd C dX5_weight_62 ?_
              refine r_topi (fun v3_63 ev3_63 => ?_)
              refine r_istore_n (lv' := [(3, .int v3_63), (2, .int v2_39), (4, .int (nI n)), (0, .ref (ad 50)), (1, .int x)]) C dX5_weight_63 rfl (by decide) rfl ?_
              obtain ⟨v4_64, ev4_64⟩ : ∃ y9 : Int32, y9 = (nI n) + 1 := ⟨_, rfl⟩
              refine r_iinc (v := v4_64) (lv' := [(4, .int v4_64), (3, .int v3_63), (2, .int v2_39), (0, .ref (ad 50)), (1, .int x)]) C dX5_weight_64 2 rfl (by rw [ev4_64]; rfl) (by decide) rfl ?_
              refine r_goto (tgt := 7) C dX5_weight_67 (by decide) ?_
              refine r_cast (M' := M) (lv' := [(4, .int (nI (n + 1))), (3, .int (mr_bh M.1 x (n + 1))), (2, .int (mr_ah M.1 x (n + 1))), (0, .ref (ad 50)), (1, .int x)]) (st' := []) rfl (by rw [ev4_64, nI_1, ev2_39, ev3_63, mr_ah, mr_bh]; first | (rw [if_pos z24, if_pos z24]; done) | (rw [if_neg z24, if_neg z24]; first | (rw [if_pos z30, if_pos z54]; done) | (rw [if_pos z30, if_neg z54]; done) | (rw [if_neg z30, if_pos z54]; done) | rw [if_neg z30, if_neg z54])) rfl (ih7 (n + 1) (by omega) (by omega))
            · refine r_iconst (v := 1) C dX5_weight_57 rfl ?_
              refine r_goto (tgt := 62) C dX5_weight_58 (by decide) ?_
              refine r_iadd C dX5_weight_62 ?_
              refine r_topi (fun v3_63 ev3_63 => ?_)
              refine r_istore_n (lv' := [(3, .int v3_63), (2, .int v2_39), (4, .int (nI n)), (0, .ref (ad 50)), (1, .int x)]) C dX5_weight_63 rfl (by decide) rfl ?_
              obtain ⟨v4_64, ev4_64⟩ : ∃ y9 : Int32, y9 = (nI n) + 1 := ⟨_, rfl⟩
              refine r_iinc (v := v4_64) (lv' := [(4, .int v4_64), (3, .int v3_63), (2, .int v2_39), (0, .ref (ad 50)), (1, .int x)]) C dX5_weight_64 2 rfl (by rw [ev4_64]; rfl) (by decide) rfl ?_
              refine r_goto (tgt := 7) C dX5_weight_67 (by decide) ?_
              refine r_cast (M' := M) (lv' := [(4, .int (nI (n + 1))), (3, .int (mr_bh M.1 x (n + 1))), (2, .int (mr_ah M.1 x (n + 1))), (0, .ref (ad 50)), (1, .int x)]) (st' := []) rfl (by rw [ev4_64, nI_1, ev2_39, ev3_63, mr_ah, mr_bh]; first | (rw [if_pos z24, if_pos z24]; done) | (rw [if_neg z24, if_neg z24]; first | (rw [if_pos z30, if_pos z54]; done) | (rw [if_pos z30, if_neg z54]; done) | (rw [if_neg z30, if_pos z54]; done) | rw [if_neg z30, if_neg z54])) rfl (ih7 (n + 1) (by omega) (by omega))
          · refine r_iconst (v := 1) C dX5_weight_33 rfl ?_
            refine r_goto (tgt := 38) C dX5_weight_34 (by decide) ?_
            refine r_iadd C dX5_weight_38 ?_
            refine r_topi (fun v2_39 ev2_39 => ?_)
            refine r_istore_n (lv' := [(2, .int v2_39), (4, .int (nI n)), (3, .int (mr_bh M.1 x n)), (0, .ref (ad 50)), (1, .int x)]) C dX5_weight_39 rfl (by decide) rfl ?_
            refine r_iload_n C dX5_weight_40 rfl 2 rfl ?_
            refine r_aload_n C dX5_weight_41 rfl 3 rfl ?_
            refine r_get5 C inX5 6 (by decide) rfl f22 rfl dX5_weight_42 ?_
            refine r_iload C dX5_weight_45 1 rfl ?_
            refine r_zald C (n) (nI_toInt (by omega)) (by omega) dX5_weight_47 ?_
            refine r_if_eqF (tgt := 61) C dX5_weight_48 (by decide) (z24) ?_
            refine r_iload C dX5_weight_51 1 rfl ?_
            refine r_iload_n C dX5_weight_53 rfl 4 rfl ?_
            refine r_icmp_le (tgt := 61) C dX5_weight_54 (by decide) (fun z54 => ?_) (fun z54 => ?_)
            · refine r_iconst (v := 0) C dX5_weight_61 rfl ?_
              refine r_iadd C dX5_weight_62 ?_
              refine r_topi (fun v3_63 ev3_63 => ?_)
              refine r_istore_n (lv' := [(3, .int v3_63), (2, .int v2_39), (4, .int (nI n)), (0, .ref (ad 50)), (1, .int x)]) C dX5_weight_63 rfl (by decide) rfl ?_
              obtain ⟨v4_64, ev4_64⟩ : ∃ y9 : Int32, y9 = (nI n) + 1 := ⟨_, rfl⟩
              refine r_iinc (v := v4_64) (lv' := [(4, .int v4_64), (3, .int v3_63), (2, .int v2_39), (0, .ref (ad 50)), (1, .int x)]) C dX5_weight_64 2 rfl (by rw [ev4_64]; rfl) (by decide) rfl ?_
              refine r_goto (tgt := 7) C dX5_weight_67 (by decide) ?_
              refine r_cast (M' := M) (lv' := [(4, .int (nI (n + 1))), (3, .int (mr_bh M.1 x (n + 1))), (2, .int (mr_ah M.1 x (n + 1))), (0, .ref (ad 50)), (1, .int x)]) (st' := []) rfl (by rw [ev4_64, nI_1, ev2_39, ev3_63, mr_ah, mr_bh]; first | (rw [if_pos z24, if_pos z24]; done) | (rw [if_neg z24, if_neg z24]; first | (rw [if_pos z30, if_pos z54]; done) | (rw [if_pos z30, if_neg z54]; done) | (rw [if_neg z30, if_pos z54]; done) | rw [if_neg z30, if_neg z54])) rfl (ih7 (n + 1) (by omega) (by omega))
            · refine r_iconst (v := 1) C dX5_weight_57 rfl ?_
              refine r_goto (tgt := 62) C dX5_weight_58 (by decide) ?_
              refine r_iadd C dX5_weight_62 ?_
              refine r_topi (fun v3_63 ev3_63 => ?_)
              refine r_istore_n (lv' := [(3, .int v3_63), (2, .int v2_39), (4, .int (nI n)), (0, .ref (ad 50)), (1, .int x)]) C dX5_weight_63 rfl (by decide) rfl ?_
              obtain ⟨v4_64, ev4_64⟩ : ∃ y9 : Int32, y9 = (nI n) + 1 := ⟨_, rfl⟩
              refine r_iinc (v := v4_64) (lv' := [(4, .int v4_64), (3, .int v3_63), (2, .int v2_39), (0, .ref (ad 50)), (1, .int x)]) C dX5_weight_64 2 rfl (by rw [ev4_64]; rfl) (by decide) rfl ?_
              refine r_goto (tgt := 7) C dX5_weight_67 (by decide) ?_
              refine r_cast (M' := M) (lv' := [(4, .int (nI (n + 1))), (3, .int (mr_bh M.1 x (n + 1))), (2, .int (mr_ah M.1 x (n + 1))), (0, .ref (ad 50)), (1, .int x)]) (st' := []) rfl (by rw [ev4_64, nI_1, ev2_39, ev3_63, mr_ah, mr_bh]; first | (rw [if_pos z24, if_pos z24]; done) | (rw [if_neg z24, if_neg z24]; first | (rw [if_pos z30, if_pos z54]; done) | (rw [if_pos z30, if_neg z54]; done) | (rw [if_neg z30, if_pos z54]; done) | rw [if_neg z30, if_neg z54])) rfl (ih7 (n + 1) (by omega) (by omega))
  refine r_cast (M' := M) (lv' := [(4, .int (nI 0)), (3, .int (mr_bh M.1 x 0)), (2, .int (mr_ah M.1 x 0)), (0, .ref (ad 50)), (1, .int x)]) (st' := []) rfl rfl rfl (L7 (N - 0 + 1) 0 (Nat.zero_le _) (by omega))

def mr_sumN (F : mm_F) (N r : Nat) (b t : Int32) : Nat → Int64
  | 0 => 0
  | n + 1 => mr_sumN F N r b t n + (mr_w F (nI n) n N).toInt64 * nm_fdJ (64 * (mr_kept F r n (t + mr_delay F n b + F 57 n)).toInt64) (F 56 n).toInt64
abbrev rmX5_sumOf : Room := { frames := 3, cells := 0, slots := 0, locals := 67 }
set_option maxHeartbeats 400000 in
set_option maxRecDepth 100000 in
theorem kX5_sumOf {l : Launch} {D : va_G} {ad : Nat → Nat} {q : Nat → ClassId} {A : Nat → Prop} (hAD : mm_AD ad A) {N : Nat} {M : mm_M} {r : Nat} (hr : mm_aI r 512) (hN : M.1 50 1 = nI N) (hN8 : N ≤ 8) (hg : ∀ k : Nat, k < N → 0 < (M.1 56 k).toInt) {b t : Int32} : mm_Kd l D ad q A yX5_sumOf wsX5_sumOf rmX5_sumOf [.ref (ad 50), .ref (ad r), .int b, .int t] M (some (.long (mr_sumN M.1 N r b t N))) M := by
  have inX5 : ∀ w ∈ wsX50, w ∈ wsX5_sumOf := by decide +kernel
  have f26 : Cond.fieldLink RX5 26 "BeamrowModel" "byGain" "[I" ∈ wsX5_sumOf := by decide +kernel
  have f29 : Cond.fieldLink RX5 29 "BeamrowModel" "byLag" "[I" ∈ wsX5_sumOf := by decide +kernel
  have f61 : Cond.fieldLink RX5 61 "BeamrowModel" "elements" "I" ∈ wsX5_sumOf := by decide +kernel
  have n102 : Cond.constantLong RX5 102 (64) ∈ wsX5_sumOf := by decide +kernel
  refine mm_of (cc := cX5_sumOf) (maxL := 8) (ret := some .long) (own := RX5) rfl hAD (plainFor_of_name (by decide)) rfl (Nat.le_of_ble_eq_true rfl) ⟨rfl, rfl⟩ ?_
  intro pp ee ss mm bl mth cd C hret hlk9
  show mm_G _ _ _ _ _ _ _ _ _ _ _ _ _ _ _ _ _ _ M 0 [(0, .ref (ad 50)), (1, .ref (ad r)), (2, .int b), (3, .int t)] []
  refine r_lconst (v := 0) C dX5_sumOf_0 rfl ?_
  refine r_lstore (lv' := [(4, .long 0), (0, .ref (ad 50)), (1, .ref (ad r)), (2, .int b), (3, .int t)]) C dX5_sumOf_1 (by decide) rfl ?_
  refine r_iconst (v := 0) C dX5_sumOf_3 rfl ?_
  refine r_istore (lv' := [(6, .int 0), (4, .long 0), (0, .ref (ad 50)), (1, .ref (ad r)), (2, .int b), (3, .int t)]) C dX5_sumOf_4 (by decide) rfl ?_
  have L6 : ∀ (k9 : Nat) (n : Nat) (hn : n ≤ N), N - n < k9 → mm_G pp l ee rmX5_sumOf ss mm ([.ref (ad 50), .ref (ad r), .int b, .int t] : List Value).toArray bl mth cd 0 0 (MQ bl (mm_Q D ad q A (fun v' u => v' = some (.long (mr_sumN M.1 N r b t N)) ∧ u = M)) ([.ref (ad 50), .ref (ad r), .int b, .int t] : List Value).toArray ss 0 0 A) 8 D ad q A (M) 6 [(6, .int (nI n)), (4, .long (mr_sumN M.1 N r b t n)), (0, .ref (ad 50)), (1, .ref (ad r)), (2, .int b), (3, .int t)] [] := by
    intro k9
    induction k9 with
    | zero => intro n hn h9; exact absurd h9 (Nat.not_lt_zero _)
    | succ k9 ih6 =>
      intro n hn h9
      refine r_iload C dX5_sumOf_6 0 rfl ?_
      refine r_aload_n C dX5_sumOf_8 rfl 2 rfl ?_
      refine r_get5 C inX5 1 (by decide) rfl f61 rfl dX5_sumOf_9 ?_
      refine r_icmp_ge (tgt := 78) C dX5_sumOf_12 (by decide) (fun z12 => ?_) (fun z12 => ?_)
      · rw [hN] at z12
        obtain rfl : N = n := (nm_ge hn (by omega) z12).symm
        refine r_lload C dX5_sumOf_78 1 rfl ?_
        exact r_lret C hret hlk9 dX5_sumOf_80 ⟨by first | rfl | (subst_vars; rfl) | (subst_vars; simp [*]), by first | rfl | (subst_vars; rfl)⟩
      · rw [hN] at z12
        have hlt : n < N := nm_lt (by omega) (by omega) z12
        refine r_aload_n C dX5_sumOf_15 rfl 2 rfl ?_
        refine r_aload_n C dX5_sumOf_16 rfl 3 rfl ?_
        refine r_iload C dX5_sumOf_17 0 rfl ?_
        refine r_iload_n C dX5_sumOf_19 rfl 5 rfl ?_
        refine r_aload_n C dX5_sumOf_20 rfl 2 rfl ?_
        refine r_iload C dX5_sumOf_21 0 rfl ?_
        refine r_iload_n C dX5_sumOf_23 rfl 4 rfl ?_
        refine r_callV2I C 5 (by decide) rfl (mm_ct5 ad q _) (kX5_delay hAD (n) (nI_toInt (by omega)) (by omega)) (cwV 2 C.1.2.2.2.2 gX5_sumOf_X5_delay rfl rfl rfl (by decide +kernel) ⟨Nat.le_of_ble_eq_true rfl, Nat.le_of_ble_eq_true rfl⟩) (Nat.le_of_ble_eq_true rfl) dX5_sumOf_24 ⟨rfl, rfl⟩ ⟨Nat.zero_le _, Nat.zero_le _⟩ ?_
        refine r_iadd C dX5_sumOf_27 ?_
        refine r_aload_n C dX5_sumOf_28 rfl 2 rfl ?_
        refine r_get5 C inX5 8 (by decide) rfl f29 rfl dX5_sumOf_29 ?_
        refine r_iload C dX5_sumOf_32 0 rfl ?_
        refine r_iald C mm_aI_57 (n) (nI_toInt (by omega)) (by omega) dX5_sumOf_34 ?_
        refine r_iadd C dX5_sumOf_35 ?_
        refine r_callV3I C 5 (by decide) rfl (mm_ct5 ad q _) (kX5_kept hAD (by exact hr) (n) (nI_toInt (by omega)) (by omega)) (cwV 3 C.1.2.2.2.2 gX5_sumOf_X5_kept rfl rfl rfl (by decide +kernel) ⟨Nat.le_of_ble_eq_true rfl, Nat.le_of_ble_eq_true rfl⟩) (Nat.le_of_ble_eq_true rfl) dX5_sumOf_36 ⟨rfl, rfl⟩ ⟨Nat.zero_le _, Nat.zero_le _⟩ ?_
        refine r_topi (fun v7_39 ev7_39 => ?_)
        refine r_istore (lv' := [(7, .int v7_39), (6, .int (nI n)), (4, .long (mr_sumN M.1 N r b t n)), (0, .ref (ad 50)), (1, .ref (ad r)), (2, .int b), (3, .int t)]) C dX5_sumOf_39 (by decide) rfl ?_
        refine r_lload C dX5_sumOf_41 2 rfl ?_
        refine r_aload_n C dX5_sumOf_43 rfl 3 rfl ?_
        refine r_iload C dX5_sumOf_44 1 rfl ?_
        refine r_callV1I C 5 (by decide) rfl (mm_ct5 ad q _) (kX5_weight hAD (by exact hN) (by exact hN8) (n) (nI_toInt (by omega)) (by omega)) (cwV 1 C.1.2.2.2.2 gX5_sumOf_X5_weight rfl rfl rfl (by decide +kernel) ⟨Nat.le_of_ble_eq_true rfl, Nat.le_of_ble_eq_true rfl⟩) (Nat.le_of_ble_eq_true rfl) dX5_sumOf_46 ⟨rfl, rfl⟩ ⟨Nat.zero_le _, Nat.zero_le _⟩ ?_
        refine r_i2l C dX5_sumOf_49 ?_
        refine r_ldc2 C n102 dX5_sumOf_50 ?_
        refine r_iload C dX5_sumOf_53 0 rfl ?_
        refine r_i2l C dX5_sumOf_55 ?_
        refine r_lmul C dX5_sumOf_56 ?_
        refine r_aload_n C dX5_sumOf_57 rfl 3 rfl ?_
        refine r_get5 C inX5 7 (by decide) rfl f26 rfl dX5_sumOf_58 ?_
        refine r_iload C dX5_sumOf_61 1 rfl ?_
        refine r_iald C mm_aI_56 (n) (nI_toInt (by omega)) (by omega) dX5_sumOf_63 ?_
        refine r_i2l C dX5_sumOf_64 ?_
        refine r_callS2J C (kX5_down hAD (by rw [Int32.toInt_toInt64]; exact hg n (by omega))) (va_cwS 2 C.1.2.2.2.2 gX5_sumOf_X5_down rfl rfl rfl (by decide +kernel) ⟨Nat.le_of_ble_eq_true rfl, Nat.le_of_ble_eq_true rfl⟩) (Nat.le_of_ble_eq_true rfl) dX5_sumOf_65 ⟨rfl, rfl⟩ ⟨Nat.zero_le _, Nat.zero_le _⟩ ?_
        refine r_lmul C dX5_sumOf_68 ?_
        refine r_ladd C dX5_sumOf_69 ?_
        refine r_topl (fun v4_70 ev4_70 => ?_)
        refine r_lstore (lv' := [(4, .long v4_70), (7, .int v7_39), (6, .int (nI n)), (0, .ref (ad 50)), (1, .ref (ad r)), (2, .int b), (3, .int t)]) C dX5_sumOf_70 (by decide) rfl ?_
        obtain ⟨v6_72, ev6_72⟩ : ∃ y9 : Int32, y9 = (nI n) + 1 := ⟨_, rfl⟩
        refine r_iinc (v := v6_72) (lv' := [(6, .int v6_72), (4, .long v4_70), (7, .int v7_39), (0, .ref (ad 50)), (1, .ref (ad r)), (2, .int b), (3, .int t)]) C dX5_sumOf_72 2 rfl (by rw [ev6_72]; rfl) (by decide) rfl ?_
        refine r_goto (tgt := 6) C dX5_sumOf_75 (by decide) ?_
        refine r_sub (lv' := [(6, .int v6_72), (4, .long v4_70), (0, .ref (ad 50)), (1, .ref (ad r)), (2, .int b), (3, .int t)]) [0, 1, 3, 4, 5, 6] rfl ?_
        refine r_cast (M' := M) (lv' := [(6, .int (nI (n + 1))), (4, .long (mr_sumN M.1 N r b t (n + 1))), (0, .ref (ad 50)), (1, .ref (ad r)), (2, .int b), (3, .int t)]) (st' := []) rfl (by rw [ev6_72, nI_1, ev4_70, ev7_39]; rfl) rfl (ih6 (n + 1) (by omega) (by omega))
  refine r_cast (M' := M) (lv' := [(6, .int (nI 0)), (4, .long (mr_sumN M.1 N r b t 0)), (0, .ref (ad 50)), (1, .ref (ad r)), (2, .int b), (3, .int t)]) (st' := []) rfl rfl rfl (L6 (N - 0 + 1) 0 (Nat.zero_le _) (by omega))

def mr_powN (F : mm_F) (N r : Nat) (b : Int32) : Nat → Int64
  | 0 => 0
  | n + 1 => mr_powN F N r b n + mr_sumN F N r b (F 50 0 - 1 - (47 - nI n)) N * mr_sumN F N r b (F 50 0 - 1 - (47 - nI n)) N
theorem nm_dn : ∀ n : Nat, n < 33 → ((47 : Int32) - nI n < 16 ↔ n = 32) := by decide
theorem nm_dn1 : ∀ n : Nat, n < 33 → (47 : Int32) - nI n + (-1) = 47 - nI (n + 1) := by decide
abbrev rmX5_powerOf : Room := { frames := 4, cells := 0, slots := 0, locals := 94 }
set_option maxHeartbeats 400000 in
set_option maxRecDepth 100000 in
theorem kX5_powerOf {l : Launch} {D : va_G} {ad : Nat → Nat} {q : Nat → ClassId} {A : Nat → Prop} (hAD : mm_AD ad A) {N : Nat} {M : mm_M} {r : Nat} (hr : mm_aI r 512) (hN : M.1 50 1 = nI N) (hN8 : N ≤ 8) (hg : ∀ k : Nat, k < N → 0 < (M.1 56 k).toInt) {b : Int32} : mm_Kd l D ad q A yX5_powerOf wsX5_powerOf rmX5_powerOf [.ref (ad 50), .ref (ad r), .int b] M (some (.long (mr_powN M.1 N r b 32))) M := by
  have inX5 : ∀ w ∈ wsX50, w ∈ wsX5_powerOf := by decide +kernel
  have f78 : Cond.fieldLink RX5 78 "BeamrowModel" "next" "I" ∈ wsX5_powerOf := by decide +kernel
  refine mm_of (cc := cX5_powerOf) (maxL := 8) (ret := some .long) (own := RX5) rfl hAD (plainFor_of_name (by decide)) rfl (Nat.le_of_ble_eq_true rfl) ⟨rfl, rfl⟩ ?_
  intro pp ee ss mm bl mth cd C hret hlk9
  show mm_G _ _ _ _ _ _ _ _ _ _ _ _ _ _ _ _ _ _ M 0 [(0, .ref (ad 50)), (1, .ref (ad r)), (2, .int b)] []
  refine r_lconst (v := 0) C dX5_powerOf_0 rfl ?_
  refine r_lstore_n (lv' := [(3, .long 0), (0, .ref (ad 50)), (1, .ref (ad r)), (2, .int b)]) C dX5_powerOf_1 rfl (by decide) rfl ?_
  refine r_bipush (v := (47)) C dX5_powerOf_2 rfl ?_
  refine r_istore (lv' := [(5, .int 47), (3, .long 0), (0, .ref (ad 50)), (1, .ref (ad r)), (2, .int b)]) C dX5_powerOf_4 (by decide) rfl ?_
  have L6 : ∀ (k9 : Nat) (n : Nat) (hn : n ≤ 32), 32 - n < k9 → mm_G pp l ee rmX5_powerOf ss mm ([.ref (ad 50), .ref (ad r), .int b] : List Value).toArray bl mth cd 0 0 (MQ bl (mm_Q D ad q A (fun v' u => v' = some (.long (mr_powN M.1 N r b 32)) ∧ u = M)) ([.ref (ad 50), .ref (ad r), .int b] : List Value).toArray ss 0 0 A) 8 D ad q A (M) 6 [(5, .int (47 - nI n)), (3, .long (mr_powN M.1 N r b n)), (0, .ref (ad 50)), (1, .ref (ad r)), (2, .int b)] [] := by
    intro k9
    induction k9 with
    | zero => intro n hn h9; exact absurd h9 (Nat.not_lt_zero _)
    | succ k9 ih6 =>
      intro n hn h9
      refine r_iload C dX5_powerOf_6 0 rfl ?_
      refine r_bipush (v := (16)) C dX5_powerOf_8 rfl ?_
      refine r_icmp_lt (tgt := 44) C dX5_powerOf_10 (by decide) (fun z10 => ?_) (fun z10 => ?_)
      · obtain rfl : n = 32 := (nm_dn n (by omega)).mp z10
        refine r_lload_n C dX5_powerOf_44 rfl 1 rfl ?_
        exact r_lret C hret hlk9 dX5_powerOf_45 ⟨by first | rfl | (subst_vars; rfl) | (subst_vars; simp [*]), by first | rfl | (subst_vars; rfl)⟩
      · have hlt : n < 32 := by have := mt (nm_dn n (by omega)).mpr z10; omega
        refine r_aload_n C dX5_powerOf_13 rfl 2 rfl ?_
        refine r_aload_n C dX5_powerOf_14 rfl 3 rfl ?_
        refine r_iload_n C dX5_powerOf_15 rfl 4 rfl ?_
        refine r_aload_n C dX5_powerOf_16 rfl 2 rfl ?_
        refine r_get5 C inX5 0 (by decide) rfl f78 rfl dX5_powerOf_17 ?_
        refine r_iconst (v := 1) C dX5_powerOf_20 rfl ?_
        refine r_isub C dX5_powerOf_21 ?_
        refine r_iload C dX5_powerOf_22 0 rfl ?_
        refine r_isub C dX5_powerOf_24 ?_
        refine r_callV3J C 5 (by decide) rfl (mm_ct5 ad q _) (kX5_sumOf hAD (by exact hr) (by exact hN) (by exact hN8) (by exact hg)) (cwV 3 C.1.2.2.2.2 gX5_powerOf_X5_sumOf rfl rfl rfl (by decide +kernel) ⟨Nat.le_of_ble_eq_true rfl, Nat.le_of_ble_eq_true rfl⟩) (Nat.le_of_ble_eq_true rfl) dX5_powerOf_25 ⟨rfl, rfl⟩ ⟨Nat.zero_le _, Nat.zero_le _⟩ ?_
        refine r_topl (fun v6_28 ev6_28 => ?_)
        refine r_lstore (lv' := [(6, .long v6_28), (5, .int (47 - nI n)), (3, .long (mr_powN M.1 N r b n)), (0, .ref (ad 50)), (1, .ref (ad r)), (2, .int b)]) C dX5_powerOf_28 (by decide) rfl ?_
        refine r_lload_n C dX5_powerOf_30 rfl 2 rfl ?_
        refine r_lload C dX5_powerOf_31 0 rfl ?_
        refine r_lload C dX5_powerOf_33 0 rfl ?_
        refine r_lmul C dX5_powerOf_35 ?_
        refine r_ladd C dX5_powerOf_36 ?_
        refine r_topl (fun v3_37 ev3_37 => ?_)
        refine r_lstore_n (lv' := [(3, .long v3_37), (6, .long v6_28), (5, .int (47 - nI n)), (0, .ref (ad 50)), (1, .ref (ad r)), (2, .int b)]) C dX5_powerOf_37 rfl (by decide) rfl ?_
        obtain ⟨v5_38, ev5_38⟩ : ∃ y9 : Int32, y9 = (47 - nI n) + (-1) := ⟨_, rfl⟩
        refine r_iinc (v := v5_38) (lv' := [(5, .int v5_38), (3, .long v3_37), (6, .long v6_28), (0, .ref (ad 50)), (1, .ref (ad r)), (2, .int b)]) C dX5_powerOf_38 2 rfl (by rw [ev5_38]; rfl) (by decide) rfl ?_
        refine r_goto (tgt := 6) C dX5_powerOf_41 (by decide) ?_
        refine r_sub (lv' := [(5, .int v5_38), (3, .long v3_37), (0, .ref (ad 50)), (1, .ref (ad r)), (2, .int b)]) [0, 1, 3, 4, 5] rfl ?_
        refine r_cast (M' := M) (lv' := [(5, .int (47 - nI (n + 1))), (3, .long (mr_powN M.1 N r b (n + 1))), (0, .ref (ad 50)), (1, .ref (ad r)), (2, .int b)]) (st' := []) rfl (by rw [ev5_38, nm_dn1 n (by omega), ev3_37, ev6_28]; rfl) rfl (ih6 (n + 1) (by omega) (by omega))
  refine r_cast (M' := M) (lv' := [(5, .int (47 - nI 0)), (3, .long (mr_powN M.1 N r b 0)), (0, .ref (ad 50)), (1, .ref (ad r)), (2, .int b)]) (st' := []) rfl rfl rfl (L6 (32 - 0 + 1) 0 (by omega) (by omega))

def mr_low (F : mm_F) : Nat → Nat → Int32
  | 0, _ => -99
  | r + 1, k => if F 55 k = 0 then mr_low F r (k + 1) else nI k
abbrev rmX5_lowest : Room := { frames := 0, cells := 0, slots := 0, locals := 0 }
set_option maxHeartbeats 400000 in
set_option maxRecDepth 100000 in
theorem kX5_lowest {l : Launch} {D : va_G} {ad : Nat → Nat} {q : Nat → ClassId} {A : Nat → Prop} (hAD : mm_AD ad A) {N : Nat} {M : mm_M} (hN : M.1 50 1 = nI N) (hN8 : N ≤ 8) : mm_Kd l D ad q A yX5_lowest wsX5_lowest rmX5_lowest [.ref (ad 50)] M (some (.int (mr_low M.1 N 0))) M := by
  have inX5 : ∀ w ∈ wsX50, w ∈ wsX5_lowest := by decide +kernel
  have f22 : Cond.fieldLink RX5 22 "BeamrowModel" "isAlive" "[Z" ∈ wsX5_lowest := by decide +kernel
  have f61 : Cond.fieldLink RX5 61 "BeamrowModel" "elements" "I" ∈ wsX5_lowest := by decide +kernel
  refine mm_of (cc := cX5_lowest) (maxL := 2) (ret := some .int) (own := RX5) rfl hAD (plainFor_of_name (by decide)) rfl (Nat.le_of_ble_eq_true rfl) ⟨rfl, rfl⟩ ?_
  intro pp ee ss mm bl mth cd C hret hlk9
  show mm_G _ _ _ _ _ _ _ _ _ _ _ _ _ _ _ _ _ _ M 0 [(0, .ref (ad 50))] []
  refine r_iconst (v := 0) C dX5_lowest_0 rfl ?_
  refine r_istore_n (lv' := [(1, .int 0), (0, .ref (ad 50))]) C dX5_lowest_1 rfl (by decide) rfl ?_
  have L2 : ∀ (k9 : Nat) (n : Nat) (hn : n ≤ N) (hf : mr_low M.1 N 0 = mr_low M.1 (N - n) n), N - n < k9 → mm_G pp l ee rmX5_lowest ss mm ([.ref (ad 50)] : List Value).toArray bl mth cd 0 0 (MQ bl (mm_Q D ad q A (fun v' u => v' = some (.int (mr_low M.1 N 0)) ∧ u = M)) ([.ref (ad 50)] : List Value).toArray ss 0 0 A) 2 D ad q A (M) 2 [(1, .int (nI n)), (0, .ref (ad 50))] [] := by
    intro k9
    induction k9 with
    | zero => intro n hn hf h9; exact absurd h9 (Nat.not_lt_zero _)
    | succ k9 ih2 =>
      intro n hn hf h9
      refine r_iload_n C dX5_lowest_2 rfl 0 rfl ?_
      refine r_aload_n C dX5_lowest_3 rfl 1 rfl ?_
      refine r_get5 C inX5 1 (by decide) rfl f61 rfl dX5_lowest_4 ?_
      refine r_icmp_ge (tgt := 27) C dX5_lowest_7 (by decide) (fun z7 => ?_) (fun z7 => ?_)
      · rw [hN] at z7
        obtain rfl : N = n := (nm_ge hn (by omega) z7).symm
        refine r_bipush (v := (-99)) C dX5_lowest_27 rfl ?_
        exact r_iret C hret hlk9 dX5_lowest_29 ⟨by rw [hf, Nat.sub_self]; rfl, rfl⟩
      · rw [hN] at z7
        have hlt : n < N := nm_lt (by omega) (by omega) z7
        refine r_aload_n C dX5_lowest_10 rfl 1 rfl ?_
        refine r_get5 C inX5 6 (by decide) rfl f22 rfl dX5_lowest_11 ?_
        refine r_iload_n C dX5_lowest_14 rfl 0 rfl ?_
        refine r_zald C (n) (nI_toInt (by omega)) (by omega) dX5_lowest_15 ?_
        refine r_if_eq (tgt := 21) C dX5_lowest_16 (by decide) (fun z16 => ?_) (fun z16 => ?_)
        · obtain ⟨v1_21, ev1_21⟩ : ∃ y9 : Int32, y9 = (nI n) + 1 := ⟨_, rfl⟩
          refine r_iinc (v := v1_21) (lv' := [(1, .int v1_21), (0, .ref (ad 50))]) C dX5_lowest_21 0 rfl (by rw [ev1_21]; rfl) (by decide) rfl ?_
          refine r_goto (tgt := 2) C dX5_lowest_24 (by decide) ?_
          refine r_cast (M' := M) (lv' := [(1, .int (nI (n + 1))), (0, .ref (ad 50))]) (st' := []) rfl (by rw [ev1_21, nI_1]; first | done | rfl) rfl (ih2 (n + 1) (by omega) (by rw [hf, show N - n = (N - (n + 1)) + 1 from by omega, mr_low, if_pos z16]) (by omega))
        · refine r_iload_n C dX5_lowest_19 rfl 0 rfl ?_
          exact r_iret C hret hlk9 dX5_lowest_20 ⟨by rw [hf, show N - n = (N - (n + 1)) + 1 from by omega, mr_low, if_neg z16], rfl⟩
  refine r_cast (M' := M) (lv' := [(1, .int (nI 0)), (0, .ref (ad 50))]) (st' := []) rfl rfl rfl (L2 (N - 0 + 1) 0 (Nat.zero_le _) (rfl) (by omega))

def mr_agN (F : mm_F) (e : Nat) (t : Int32) (o : Nat) (b : Int32) : Nat → Int64
  | 0 => 0
  | n + 1 => mr_agN F e t o b n + (mr_kept F 61 e (F 50 0 - 1 - (47 - nI n) + mr_delay F e b + t)).toInt64 * (mr_kept F 61 o (F 50 0 - 1 - (47 - nI n) + mr_delay F o b)).toInt64
abbrev rmX5_agreement : Room := { frames := 3, cells := 0, slots := 0, locals := 67 }
set_option maxHeartbeats 400000 in
set_option maxRecDepth 100000 in
theorem kX5_agreement {l : Launch} {D : va_G} {ad : Nat → Nat} {q : Nat → ClassId} {A : Nat → Prop} (hAD : mm_AD ad A) {M : mm_M} {t b : Int32} {x z : Int32} (e o : Nat) (hx : x.toInt = (e : Int)) (he : e < 8) (hz : z.toInt = (o : Int)) (ho : o < 8) : mm_Kd l D ad q A yX5_agreement wsX5_agreement rmX5_agreement [.ref (ad 50), .int x, .int t, .int z, .int b] M (some (.long (mr_agN M.1 e t o b 32))) M := by
  have inX5 : ∀ w ∈ wsX50, w ∈ wsX5_agreement := by decide +kernel
  have f41 : Cond.fieldLink RX5 41 "BeamrowModel" "samples" "[I" ∈ wsX5_agreement := by decide +kernel
  have f78 : Cond.fieldLink RX5 78 "BeamrowModel" "next" "I" ∈ wsX5_agreement := by decide +kernel
  refine mm_of (cc := cX5_agreement) (maxL := 9) (ret := some .long) (own := RX5) rfl hAD (plainFor_of_name (by decide)) rfl (Nat.le_of_ble_eq_true rfl) ⟨rfl, rfl⟩ ?_
  intro pp ee ss mm bl mth cd C hret hlk9
  show mm_G _ _ _ _ _ _ _ _ _ _ _ _ _ _ _ _ _ _ M 0 [(0, .ref (ad 50)), (1, .int x), (2, .int t), (3, .int z), (4, .int b)] []
  refine r_lconst (v := 0) C dX5_agreement_0 rfl ?_
  refine r_lstore (lv' := [(5, .long 0), (0, .ref (ad 50)), (1, .int x), (2, .int t), (3, .int z), (4, .int b)]) C dX5_agreement_1 (by decide) rfl ?_
  refine r_bipush (v := (47)) C dX5_agreement_3 rfl ?_
  refine r_istore (lv' := [(7, .int 47), (5, .long 0), (0, .ref (ad 50)), (1, .int x), (2, .int t), (3, .int z), (4, .int b)]) C dX5_agreement_5 (by decide) rfl ?_
  have L7 : ∀ (k9 : Nat) (n : Nat) (hn : n ≤ 32), 32 - n < k9 → mm_G pp l ee rmX5_agreement ss mm ([.ref (ad 50), .int x, .int t, .int z, .int b] : List Value).toArray bl mth cd 0 0 (MQ bl (mm_Q D ad q A (fun v' u => v' = some (.long (mr_agN M.1 e t o b 32)) ∧ u = M)) ([.ref (ad 50), .int x, .int t, .int z, .int b] : List Value).toArray ss 0 0 A) 9 D ad q A (M) 7 [(7, .int (47 - nI n)), (5, .long (mr_agN M.1 e t o b n)), (0, .ref (ad 50)), (1, .int x), (2, .int t), (3, .int z), (4, .int b)] [] := by
    intro k9
    induction k9 with
    | zero => intro n hn h9; exact absurd h9 (Nat.not_lt_zero _)
    | succ k9 ih7 =>
      intro n hn h9
      refine r_iload C dX5_agreement_7 0 rfl ?_
      refine r_bipush (v := (16)) C dX5_agreement_9 rfl ?_
      refine r_icmp_lt (tgt := 79) C dX5_agreement_11 (by decide) (fun z11 => ?_) (fun z11 => ?_)
      · obtain rfl : n = 32 := (nm_dn n (by omega)).mp z11
        refine r_lload C dX5_agreement_79 1 rfl ?_
        exact r_lret C hret hlk9 dX5_agreement_81 ⟨by first | rfl | (subst_vars; rfl) | (subst_vars; simp [*]), by first | rfl | (subst_vars; rfl)⟩
      · have hlt : n < 32 := by have := mt (nm_dn n (by omega)).mpr z11; omega
        refine r_aload_n C dX5_agreement_14 rfl 2 rfl ?_
        refine r_get5 C inX5 0 (by decide) rfl f78 rfl dX5_agreement_15 ?_
        refine r_iconst (v := 1) C dX5_agreement_18 rfl ?_
        refine r_isub C dX5_agreement_19 ?_
        refine r_iload C dX5_agreement_20 0 rfl ?_
        refine r_isub C dX5_agreement_22 ?_
        refine r_topi (fun v8_23 ev8_23 => ?_)
        refine r_istore (lv' := [(8, .int v8_23), (7, .int (47 - nI n)), (5, .long (mr_agN M.1 e t o b n)), (0, .ref (ad 50)), (1, .int x), (2, .int t), (3, .int z), (4, .int b)]) C dX5_agreement_23 (by decide) rfl ?_
        refine r_lload C dX5_agreement_25 2 rfl ?_
        refine r_aload_n C dX5_agreement_27 rfl 3 rfl ?_
        refine r_aload_n C dX5_agreement_28 rfl 3 rfl ?_
        refine r_get5 C inX5 16 (by decide) rfl f41 rfl dX5_agreement_29 ?_
        refine r_iload_n C dX5_agreement_32 rfl 4 rfl ?_
        refine r_iload C dX5_agreement_33 0 rfl ?_
        refine r_aload_n C dX5_agreement_35 rfl 3 rfl ?_
        refine r_iload_n C dX5_agreement_36 rfl 4 rfl ?_
        refine r_iload C dX5_agreement_37 7 rfl ?_
        refine r_callV2I C 5 (by decide) rfl (mm_ct5 ad q _) (kX5_delay hAD (e) (by exact hx) (by exact he)) (cwV 2 C.1.2.2.2.2 gX5_agreement_X5_delay rfl rfl rfl (by decide +kernel) ⟨Nat.le_of_ble_eq_true rfl, Nat.le_of_ble_eq_true rfl⟩) (Nat.le_of_ble_eq_true rfl) dX5_agreement_39 ⟨rfl, rfl⟩ ⟨Nat.zero_le _, Nat.zero_le _⟩ ?_
        refine r_iadd C dX5_agreement_42 ?_
        refine r_iload_n C dX5_agreement_43 rfl 5 rfl ?_
        refine r_iadd C dX5_agreement_44 ?_
        refine r_callV3I C 5 (by decide) rfl (mm_ct5 ad q _) (kX5_kept hAD (by exact mm_aI_61) (e) (by exact hx) (by exact he)) (cwV 3 C.1.2.2.2.2 gX5_agreement_X5_kept rfl rfl rfl (by decide +kernel) ⟨Nat.le_of_ble_eq_true rfl, Nat.le_of_ble_eq_true rfl⟩) (Nat.le_of_ble_eq_true rfl) dX5_agreement_45 ⟨rfl, rfl⟩ ⟨Nat.zero_le _, Nat.zero_le _⟩ ?_
        refine r_i2l C dX5_agreement_48 ?_
        refine r_aload_n C dX5_agreement_49 rfl 3 rfl ?_
        refine r_aload_n C dX5_agreement_50 rfl 3 rfl ?_
        refine r_get5 C inX5 16 (by decide) rfl f41 rfl dX5_agreement_51 ?_
        refine r_iload_n C dX5_agreement_54 rfl 6 rfl ?_
        refine r_iload C dX5_agreement_55 0 rfl ?_
        refine r_aload_n C dX5_agreement_57 rfl 3 rfl ?_
        refine r_iload_n C dX5_agreement_58 rfl 6 rfl ?_
        refine r_iload C dX5_agreement_59 7 rfl ?_
        refine r_callV2I C 5 (by decide) rfl (mm_ct5 ad q _) (kX5_delay hAD (o) (by exact hz) (by exact ho)) (cwV 2 C.1.2.2.2.2 gX5_agreement_X5_delay rfl rfl rfl (by decide +kernel) ⟨Nat.le_of_ble_eq_true rfl, Nat.le_of_ble_eq_true rfl⟩) (Nat.le_of_ble_eq_true rfl) dX5_agreement_61 ⟨rfl, rfl⟩ ⟨Nat.zero_le _, Nat.zero_le _⟩ ?_
        refine r_iadd C dX5_agreement_64 ?_
        refine r_callV3I C 5 (by decide) rfl (mm_ct5 ad q _) (kX5_kept hAD (by exact mm_aI_61) (o) (by exact hz) (by exact ho)) (cwV 3 C.1.2.2.2.2 gX5_agreement_X5_kept rfl rfl rfl (by decide +kernel) ⟨Nat.le_of_ble_eq_true rfl, Nat.le_of_ble_eq_true rfl⟩) (Nat.le_of_ble_eq_true rfl) dX5_agreement_65 ⟨rfl, rfl⟩ ⟨Nat.zero_le _, Nat.zero_le _⟩ ?_
        refine r_i2l C dX5_agreement_68 ?_
        refine r_lmul C dX5_agreement_69 ?_
        refine r_ladd C dX5_agreement_70 ?_
        refine r_topl (fun v5_71 ev5_71 => ?_)
        refine r_lstore (lv' := [(5, .long v5_71), (8, .int v8_23), (7, .int (47 - nI n)), (0, .ref (ad 50)), (1, .int x), (2, .int t), (3, .int z), (4, .int b)]) C dX5_agreement_71 (by decide) rfl ?_
        obtain ⟨v7_73, ev7_73⟩ : ∃ y9 : Int32, y9 = (47 - nI n) + (-1) := ⟨_, rfl⟩
        refine r_iinc (v := v7_73) (lv' := [(7, .int v7_73), (5, .long v5_71), (8, .int v8_23), (0, .ref (ad 50)), (1, .int x), (2, .int t), (3, .int z), (4, .int b)]) C dX5_agreement_73 2 rfl (by rw [ev7_73]; rfl) (by decide) rfl ?_
        refine r_goto (tgt := 7) C dX5_agreement_76 (by decide) ?_
        refine r_sub (lv' := [(7, .int v7_73), (5, .long v5_71), (0, .ref (ad 50)), (1, .int x), (2, .int t), (3, .int z), (4, .int b)]) [0, 1, 3, 4, 5, 6, 7] rfl ?_
        refine r_cast (M' := M) (lv' := [(7, .int (47 - nI (n + 1))), (5, .long (mr_agN M.1 e t o b (n + 1))), (0, .ref (ad 50)), (1, .int x), (2, .int t), (3, .int z), (4, .int b)]) (st' := []) rfl (by rw [ev7_73, nm_dn1 n (by omega), ev5_71, ev8_23]; rfl) rfl (ih7 (n + 1) (by omega) (by omega))
  refine r_cast (M' := M) (lv' := [(7, .int (47 - nI 0)), (5, .long (mr_agN M.1 e t o b 0)), (0, .ref (ad 50)), (1, .int x), (2, .int t), (3, .int z), (4, .int b)]) (st' := []) rfl rfl rfl (L7 (32 - 0 + 1) 0 (by omega) (by omega))

def mr_becV (F : mm_F) (e : Nat) (g t : Int32) : Int32 := if ¬ F 56 e = g then 1 else if F 57 e = t then 0 else 1
theorem mr_becV_z (F : mm_F) (e : Nat) (g t : Int32) : mr_becV F e g t &&& 1 = mr_becV F e g t := by unfold mr_becV; split; decide; split <;> decide
abbrev rmX5_becomes : Room := { frames := 0, cells := 0, slots := 0, locals := 0 }
set_option maxHeartbeats 400000 in
set_option maxRecDepth 100000 in
theorem kX5_becomes {l : Launch} {D : va_G} {ad : Nat → Nat} {q : Nat → ClassId} {A : Nat → Prop} (hAD : mm_AD ad A) {M : mm_M} {g t : Int32} {x : Int32} (e : Nat) (hx : x.toInt = (e : Int)) (he : e < 8) : mm_Kd l D ad q A yX5_becomes wsX5_becomes rmX5_becomes [.ref (ad 50), .int x, .int g, .int t] M (some (.int (mr_becV M.1 e g t))) (mm_sI (mm_sI M 56 e g) 57 e t) := by
  have inX5 : ∀ w ∈ wsX50, w ∈ wsX5_becomes := by decide +kernel
  have f26 : Cond.fieldLink RX5 26 "BeamrowModel" "byGain" "[I" ∈ wsX5_becomes := by decide +kernel
  have f29 : Cond.fieldLink RX5 29 "BeamrowModel" "byLag" "[I" ∈ wsX5_becomes := by decide +kernel
  refine mm_of (cc := cX5_becomes) (maxL := 5) (ret := some .boolean) (own := RX5) rfl hAD (plainFor_of_name (by decide)) rfl (Nat.le_of_ble_eq_true rfl) ⟨rfl, rfl⟩ ?_
  intro pp ee ss mm bl mth cd C hret hlk9
  show mm_G _ _ _ _ _ _ _ _ _ _ _ _ _ _ _ _ _ _ M 0 [(0, .ref (ad 50)), (1, .int x), (2, .int g), (3, .int t)] []
  refine r_aload_n C dX5_becomes_0 rfl 0 rfl ?_
  refine r_get5 C inX5 7 (by decide) rfl f26 rfl dX5_becomes_1 ?_
  refine r_iload_n C dX5_becomes_4 rfl 1 rfl ?_
  refine r_iald C mm_aI_56 (e) (hx) (he) dX5_becomes_5 ?_
  refine r_iload_n C dX5_becomes_6 rfl 2 rfl ?_
  refine r_icmp_ne (tgt := 20) C dX5_becomes_7 (by decide) (fun z7 => ?_) (fun z7 => ?_)
  · refine r_iconst (v := 1) C dX5_becomes_20 rfl ?_
    refine r_goto (tgt := 25) C dX5_becomes_21 (by decide) ?_
    refine r_istore (lv' := [(4, .int 1), (0, .ref (ad 50)), (1, .int x), (2, .int g), (3, .int t)]) C dX5_becomes_25 (by decide) rfl ?_
    refine r_aload_n C dX5_becomes_27 rfl 1 rfl ?_
    refine r_get5 C inX5 7 (by decide) rfl f26 rfl dX5_becomes_28 ?_
    refine r_iload_n C dX5_becomes_31 rfl 2 rfl ?_
    refine r_iload_n C dX5_becomes_32 rfl 3 rfl ?_
    refine r_iast C mm_aI_56 (e) (hx) (he) dX5_becomes_33 ?_
    refine r_aload_n C dX5_becomes_34 rfl 1 rfl ?_
    refine r_get5 C inX5 8 (by decide) rfl f29 rfl dX5_becomes_35 ?_
    refine r_iload_n C dX5_becomes_38 rfl 2 rfl ?_
    refine r_iload_n C dX5_becomes_39 rfl 4 rfl ?_
    refine r_iast C mm_aI_57 (e) (hx) (he) dX5_becomes_40 ?_
    refine r_iload C dX5_becomes_41 0 rfl ?_
    exact r_zret C hret (by first | decide | assumption) hlk9 dX5_becomes_43 ⟨by simp only [mr_becV]; simp [*], by first | rfl | (subst_vars; rfl)⟩
  · refine r_aload_n C dX5_becomes_10 rfl 0 rfl ?_
    refine r_get5 C inX5 8 (by decide) rfl f29 rfl dX5_becomes_11 ?_
    refine r_iload_n C dX5_becomes_14 rfl 1 rfl ?_
    refine r_iald C mm_aI_57 (e) (hx) (he) dX5_becomes_15 ?_
    refine r_iload_n C dX5_becomes_16 rfl 3 rfl ?_
    refine r_icmp_eq (tgt := 24) C dX5_becomes_17 (by decide) (fun z17 => ?_) (fun z17 => ?_)
    · refine r_iconst (v := 0) C dX5_becomes_24 rfl ?_
      refine r_istore (lv' := [(4, .int 0), (0, .ref (ad 50)), (1, .int x), (2, .int g), (3, .int t)]) C dX5_becomes_25 (by decide) rfl ?_
      refine r_aload_n C dX5_becomes_27 rfl 1 rfl ?_
      refine r_get5 C inX5 7 (by decide) rfl f26 rfl dX5_becomes_28 ?_
      refine r_iload_n C dX5_becomes_31 rfl 2 rfl ?_
      refine r_iload_n C dX5_becomes_32 rfl 3 rfl ?_
      refine r_iast C mm_aI_56 (e) (hx) (he) dX5_becomes_33 ?_
      refine r_aload_n C dX5_becomes_34 rfl 1 rfl ?_
      refine r_get5 C inX5 8 (by decide) rfl f29 rfl dX5_becomes_35 ?_
      refine r_iload_n C dX5_becomes_38 rfl 2 rfl ?_
      refine r_iload_n C dX5_becomes_39 rfl 4 rfl ?_
      refine r_iast C mm_aI_57 (e) (hx) (he) dX5_becomes_40 ?_
      refine r_iload C dX5_becomes_41 0 rfl ?_
      exact r_zret C hret (by first | decide | assumption) hlk9 dX5_becomes_43 ⟨by simp only [mr_becV]; simp [*], by first | rfl | (subst_vars; rfl)⟩
    · refine r_iconst (v := 1) C dX5_becomes_20 rfl ?_
      refine r_goto (tgt := 25) C dX5_becomes_21 (by decide) ?_
      refine r_istore (lv' := [(4, .int 1), (0, .ref (ad 50)), (1, .int x), (2, .int g), (3, .int t)]) C dX5_becomes_25 (by decide) rfl ?_
      refine r_aload_n C dX5_becomes_27 rfl 1 rfl ?_
      refine r_get5 C inX5 7 (by decide) rfl f26 rfl dX5_becomes_28 ?_
      refine r_iload_n C dX5_becomes_31 rfl 2 rfl ?_
      refine r_iload_n C dX5_becomes_32 rfl 3 rfl ?_
      refine r_iast C mm_aI_56 (e) (hx) (he) dX5_becomes_33 ?_
      refine r_aload_n C dX5_becomes_34 rfl 1 rfl ?_
      refine r_get5 C inX5 8 (by decide) rfl f29 rfl dX5_becomes_35 ?_
      refine r_iload_n C dX5_becomes_38 rfl 2 rfl ?_
      refine r_iload_n C dX5_becomes_39 rfl 4 rfl ?_
      refine r_iast C mm_aI_57 (e) (hx) (he) dX5_becomes_40 ?_
      refine r_iload C dX5_becomes_41 0 rfl ?_
      exact r_zret C hret (by first | decide | assumption) hlk9 dX5_becomes_43 ⟨by simp only [mr_becV]; simp [*], by first | rfl | (subst_vars; rfl)⟩

def mr_bL (F : mm_F) (e o : Nat) (b : Int32) : Nat → Int32
  | 0 => -3
  | n + 1 => if lg_cmp (mr_agN F e (nI n - 2) o b 32) (mr_agN F e (mr_bL F e o b n) o b 32) ≤ 0 then mr_bL F e o b n else nI n - 2
def mr_gn (z : Int64) : Int32 := if 0 ≤ lg_cmp z 16 then (if lg_cmp z 255 ≤ 0 then z.toInt32 else 255) else 16
def mr_fitG (F : mm_F) (e o : Nat) (b : Int32) (y : Int64) : Int32 := mr_gn (nm_fdJ (64 * mr_agN F e (mr_bL F e o b 6) o b 32) y)
abbrev rmX5_isFitted : Room := { frames := 4, cells := 0, slots := 0, locals := 95 }
set_option maxHeartbeats 400000 in
set_option maxRecDepth 100000 in
theorem kX5_isFitted {l : Launch} {D : va_G} {ad : Nat → Nat} {q : Nat → ClassId} {A : Nat → Prop} (hAD : mm_AD ad A) {M : mm_M} {b : Int32} {y : Int64} (hy : 0 < y.toInt) {x z : Int32} (e o : Nat) (hx : x.toInt = (e : Int)) (he : e < 8) (hz : z.toInt = (o : Int)) (ho : o < 8) : mm_Kd l D ad q A yX5_isFitted wsX5_isFitted rmX5_isFitted [.ref (ad 50), .int x, .int z, .int b, .long y] M (some (.int (mr_becV M.1 e (mr_fitG M.1 e o b y) (mr_bL M.1 e o b 6)))) (mm_sI (mm_sI M 56 e (mr_fitG M.1 e o b y)) 57 e (mr_bL M.1 e o b 6)) := by
  have n102 : Cond.constantLong RX5 102 (64) ∈ wsX5_isFitted := by decide +kernel
  have n131 : Cond.constantLong RX5 131 (16) ∈ wsX5_isFitted := by decide +kernel
  have n133 : Cond.constantLong RX5 133 (255) ∈ wsX5_isFitted := by decide +kernel
  refine mm_of (cc := cX5_isFitted) (maxL := 9) (ret := some .boolean) (own := RX5) rfl hAD (plainFor_of_name (by decide)) rfl (Nat.le_of_ble_eq_true rfl) ⟨rfl, rfl⟩ ?_
  intro pp ee ss mm bl mth cd C hret hlk9
  show mm_G _ _ _ _ _ _ _ _ _ _ _ _ _ _ _ _ _ _ M 0 [(0, .ref (ad 50)), (1, .int x), (2, .int z), (3, .int b), (4, .long y)] []
  refine r_bipush (v := (-3)) C dX5_isFitted_0 rfl ?_
  refine r_istore (lv' := [(6, .int (-3)), (0, .ref (ad 50)), (1, .int x), (2, .int z), (3, .int b), (4, .long y)]) C dX5_isFitted_2 (by decide) rfl ?_
  refine r_bipush (v := (-2)) C dX5_isFitted_4 rfl ?_
  refine r_istore (lv' := [(7, .int (-2)), (6, .int (-3)), (0, .ref (ad 50)), (1, .int x), (2, .int z), (3, .int b), (4, .long y)]) C dX5_isFitted_6 (by decide) rfl ?_
  have L8 : ∀ (k9 : Nat) (n : Nat) (hn : n ≤ 6), 6 - n < k9 → mm_G pp l ee rmX5_isFitted ss mm ([.ref (ad 50), .int x, .int z, .int b, .long y] : List Value).toArray bl mth cd 0 0 (MQ bl (mm_Q D ad q A (fun v' u => v' = some (.int (mr_becV M.1 e (mr_fitG M.1 e o b y) (mr_bL M.1 e o b 6))) ∧ u = mm_sI (mm_sI M 56 e (mr_fitG M.1 e o b y)) 57 e (mr_bL M.1 e o b 6))) ([.ref (ad 50), .int x, .int z, .int b, .long y] : List Value).toArray ss 0 0 A) 9 D ad q A (M) 8 [(7, .int (nI n - 2)), (6, .int (mr_bL M.1 e o b n)), (0, .ref (ad 50)), (1, .int x), (2, .int z), (3, .int b), (4, .long y)] [] := by
    intro k9
    induction k9 with
    | zero => intro n hn h9; exact absurd h9 (Nat.not_lt_zero _)
    | succ k9 ih8 =>
      intro n hn h9
      refine r_iload C dX5_isFitted_8 0 rfl ?_
      refine r_iconst (v := 3) C dX5_isFitted_10 rfl ?_
      refine r_icmp_gt (tgt := 51) C dX5_isFitted_11 (by decide) (fun z11 => ?_) (fun z11 => ?_)
      · obtain rfl : n = 6 := (nm_lag n (by omega)).mp z11
        refine r_ldc2 C n102 dX5_isFitted_51 ?_
        refine r_aload_n C dX5_isFitted_54 rfl 2 rfl ?_
        refine r_iload_n C dX5_isFitted_55 rfl 3 rfl ?_
        refine r_iload C dX5_isFitted_56 1 rfl ?_
        refine r_iload_n C dX5_isFitted_58 rfl 4 rfl ?_
        refine r_iload_n C dX5_isFitted_59 rfl 5 rfl ?_
        refine r_callV4J C 5 (by decide) rfl (mm_ct5 ad q _) (kX5_agreement hAD (e) (o) (by exact hx) (by exact he) (by exact hz) (by exact ho)) (cwV 4 C.1.2.2.2.2 gX5_isFitted_X5_agreement rfl rfl rfl (by decide +kernel) ⟨Nat.le_of_ble_eq_true rfl, Nat.le_of_ble_eq_true rfl⟩) (Nat.le_of_ble_eq_true rfl) dX5_isFitted_60 ⟨rfl, rfl⟩ ⟨Nat.zero_le _, Nat.zero_le _⟩ ?_
        refine r_lmul C dX5_isFitted_63 ?_
        refine r_lload C dX5_isFitted_64 6 rfl ?_
        refine r_callS2J C (kX5_down hAD (by exact hy)) (va_cwS 2 C.1.2.2.2.2 gX5_isFitted_X5_down rfl rfl rfl (by decide +kernel) ⟨Nat.le_of_ble_eq_true rfl, Nat.le_of_ble_eq_true rfl⟩) (Nat.le_of_ble_eq_true rfl) dX5_isFitted_66 ⟨rfl, rfl⟩ ⟨Nat.zero_le _, Nat.zero_le _⟩ ?_
        refine r_topl (fun v7_69 ev7_69 => ?_)
        refine r_lstore (lv' := [(7, .long v7_69), (6, .int (mr_bL M.1 e o b 6)), (0, .ref (ad 50)), (1, .int x), (2, .int z), (3, .int b), (4, .long y)]) C dX5_isFitted_69 (by decide) rfl ?_
        refine r_aload_n C dX5_isFitted_71 rfl 2 rfl ?_
        refine r_iload_n C dX5_isFitted_72 rfl 3 rfl ?_
        refine r_lload C dX5_isFitted_73 0 rfl ?_
        refine r_ldc2 C n131 dX5_isFitted_75 ?_
        refine r_lcmp C dX5_isFitted_78 ?_
        refine r_if_ge (tgt := 87) C dX5_isFitted_79 (by decide) (fun z79 => ?_) (fun z79 => ?_)
        · refine r_lload C dX5_isFitted_87 0 rfl ?_
          refine r_ldc2 C n133 dX5_isFitted_89 ?_
          refine r_lcmp C dX5_isFitted_92 ?_
          refine r_if_le (tgt := 102) C dX5_isFitted_93 (by decide) (fun z93 => ?_) (fun z93 => ?_)
          · refine r_lload C dX5_isFitted_102 0 rfl ?_
            refine r_l2i C dX5_isFitted_104 ?_
            refine r_iload C dX5_isFitted_105 1 rfl ?_
            refine r_callV3I C 5 (by decide) rfl (mm_ct5 ad q _) (kX5_becomes hAD (e) (by exact hx) (by exact he)) (cwV 3 C.1.2.2.2.2 gX5_isFitted_X5_becomes rfl rfl rfl (by decide +kernel) ⟨Nat.le_of_ble_eq_true rfl, Nat.le_of_ble_eq_true rfl⟩) (Nat.le_of_ble_eq_true rfl) dX5_isFitted_107 ⟨rfl, rfl⟩ ⟨Nat.zero_le _, Nat.zero_le _⟩ ?_
            exact r_zret C hret (mr_becV_z _ _ _ _) hlk9 dX5_isFitted_110 ⟨by rw [mr_fitG, mr_gn, ← ev7_69]; first | (rw [if_pos z79, if_neg z93]; done) | (rw [if_pos z79, if_pos z93]; done) | rw [if_neg z79], by rw [mr_fitG, mr_gn, ← ev7_69]; first | (rw [if_pos z79, if_neg z93]; done) | (rw [if_pos z79, if_pos z93]; done) | rw [if_neg z79]⟩
          · refine r_sipush (v := (255)) C dX5_isFitted_96 rfl ?_
            refine r_goto (tgt := 105) C dX5_isFitted_99 (by decide) ?_
            refine r_iload C dX5_isFitted_105 1 rfl ?_
            refine r_callV3I C 5 (by decide) rfl (mm_ct5 ad q _) (kX5_becomes hAD (e) (by exact hx) (by exact he)) (cwV 3 C.1.2.2.2.2 gX5_isFitted_X5_becomes rfl rfl rfl (by decide +kernel) ⟨Nat.le_of_ble_eq_true rfl, Nat.le_of_ble_eq_true rfl⟩) (Nat.le_of_ble_eq_true rfl) dX5_isFitted_107 ⟨rfl, rfl⟩ ⟨Nat.zero_le _, Nat.zero_le _⟩ ?_
            exact r_zret C hret (mr_becV_z _ _ _ _) hlk9 dX5_isFitted_110 ⟨by rw [mr_fitG, mr_gn, ← ev7_69]; first | (rw [if_pos z79, if_neg z93]; done) | (rw [if_pos z79, if_pos z93]; done) | rw [if_neg z79], by rw [mr_fitG, mr_gn, ← ev7_69]; first | (rw [if_pos z79, if_neg z93]; done) | (rw [if_pos z79, if_pos z93]; done) | rw [if_neg z79]⟩
        · refine r_bipush (v := (16)) C dX5_isFitted_82 rfl ?_
          refine r_goto (tgt := 105) C dX5_isFitted_84 (by decide) ?_
          refine r_iload C dX5_isFitted_105 1 rfl ?_
          refine r_callV3I C 5 (by decide) rfl (mm_ct5 ad q _) (kX5_becomes hAD (e) (by exact hx) (by exact he)) (cwV 3 C.1.2.2.2.2 gX5_isFitted_X5_becomes rfl rfl rfl (by decide +kernel) ⟨Nat.le_of_ble_eq_true rfl, Nat.le_of_ble_eq_true rfl⟩) (Nat.le_of_ble_eq_true rfl) dX5_isFitted_107 ⟨rfl, rfl⟩ ⟨Nat.zero_le _, Nat.zero_le _⟩ ?_
          exact r_zret C hret (mr_becV_z _ _ _ _) hlk9 dX5_isFitted_110 ⟨by rw [mr_fitG, mr_gn, ← ev7_69]; first | (rw [if_pos z79, if_neg z93]; done) | (rw [if_pos z79, if_pos z93]; done) | rw [if_neg z79], by rw [mr_fitG, mr_gn, ← ev7_69]; first | (rw [if_pos z79, if_neg z93]; done) | (rw [if_pos z79, if_pos z93]; done) | rw [if_neg z79]⟩
      · have hlt : n < 6 := by have := mt (nm_lag n (by omega)).mpr z11; omega
        refine r_aload_n C dX5_isFitted_14 rfl 2 rfl ?_
        refine r_iload_n C dX5_isFitted_15 rfl 3 rfl ?_
        refine r_iload C dX5_isFitted_16 0 rfl ?_
        refine r_iload_n C dX5_isFitted_18 rfl 4 rfl ?_
        refine r_iload_n C dX5_isFitted_19 rfl 5 rfl ?_
        refine r_callV4J C 5 (by decide) rfl (mm_ct5 ad q _) (kX5_agreement hAD (e) (o) (by exact hx) (by exact he) (by exact hz) (by exact ho)) (cwV 4 C.1.2.2.2.2 gX5_isFitted_X5_agreement rfl rfl rfl (by decide +kernel) ⟨Nat.le_of_ble_eq_true rfl, Nat.le_of_ble_eq_true rfl⟩) (Nat.le_of_ble_eq_true rfl) dX5_isFitted_20 ⟨rfl, rfl⟩ ⟨Nat.zero_le _, Nat.zero_le _⟩ ?_
        refine r_aload_n C dX5_isFitted_23 rfl 2 rfl ?_
        refine r_iload_n C dX5_isFitted_24 rfl 3 rfl ?_
        refine r_iload C dX5_isFitted_25 1 rfl ?_
        refine r_iload_n C dX5_isFitted_27 rfl 4 rfl ?_
        refine r_iload_n C dX5_isFitted_28 rfl 5 rfl ?_
        refine r_callV4J C 5 (by decide) rfl (mm_ct5 ad q _) (kX5_agreement hAD (e) (o) (by exact hx) (by exact he) (by exact hz) (by exact ho)) (cwV 4 C.1.2.2.2.2 gX5_isFitted_X5_agreement rfl rfl rfl (by decide +kernel) ⟨Nat.le_of_ble_eq_true rfl, Nat.le_of_ble_eq_true rfl⟩) (Nat.le_of_ble_eq_true rfl) dX5_isFitted_29 ⟨rfl, rfl⟩ ⟨Nat.zero_le _, Nat.zero_le _⟩ ?_
        refine r_lcmp C dX5_isFitted_32 ?_
        refine r_if_le (tgt := 41) C dX5_isFitted_33 (by decide) (fun z33 => ?_) (fun z33 => ?_)
        · refine r_iload C dX5_isFitted_41 1 rfl ?_
          refine r_topi (fun v6_43 ev6_43 => ?_)
          refine r_istore (lv' := [(6, .int v6_43), (7, .int (nI n - 2)), (0, .ref (ad 50)), (1, .int x), (2, .int z), (3, .int b), (4, .long y)]) C dX5_isFitted_43 (by decide) rfl ?_
          obtain ⟨v7_45, ev7_45⟩ : ∃ y9 : Int32, y9 = (nI n - 2) + 1 := ⟨_, rfl⟩
          refine r_iinc (v := v7_45) (lv' := [(7, .int v7_45), (6, .int v6_43), (0, .ref (ad 50)), (1, .int x), (2, .int z), (3, .int b), (4, .long y)]) C dX5_isFitted_45 1 rfl (by rw [ev7_45]; rfl) (by decide) rfl ?_
          refine r_goto (tgt := 8) C dX5_isFitted_48 (by decide) ?_
          refine r_cast (M' := M) (lv' := [(7, .int (nI (n + 1) - 2)), (6, .int (mr_bL M.1 e o b (n + 1))), (0, .ref (ad 50)), (1, .int x), (2, .int z), (3, .int b), (4, .long y)]) (st' := []) rfl (by rw [ev7_45, nm_lag1 n (by omega), ev6_43, mr_bL]; first | rw [if_pos z33] | rw [if_neg z33]) rfl (ih8 (n + 1) (by omega) (by omega))
        · refine r_iload C dX5_isFitted_36 0 rfl ?_
          refine r_goto (tgt := 43) C dX5_isFitted_38 (by decide) ?_
          refine r_topi (fun v6_43 ev6_43 => ?_)
          refine r_istore (lv' := [(6, .int v6_43), (7, .int (nI n - 2)), (0, .ref (ad 50)), (1, .int x), (2, .int z), (3, .int b), (4, .long y)]) C dX5_isFitted_43 (by decide) rfl ?_
          obtain ⟨v7_45, ev7_45⟩ : ∃ y9 : Int32, y9 = (nI n - 2) + 1 := ⟨_, rfl⟩
          refine r_iinc (v := v7_45) (lv' := [(7, .int v7_45), (6, .int v6_43), (0, .ref (ad 50)), (1, .int x), (2, .int z), (3, .int b), (4, .long y)]) C dX5_isFitted_45 1 rfl (by rw [ev7_45]; rfl) (by decide) rfl ?_
          refine r_goto (tgt := 8) C dX5_isFitted_48 (by decide) ?_
          refine r_cast (M' := M) (lv' := [(7, .int (nI (n + 1) - 2)), (6, .int (mr_bL M.1 e o b (n + 1))), (0, .ref (ad 50)), (1, .int x), (2, .int z), (3, .int b), (4, .long y)]) (st' := []) rfl (by rw [ev7_45, nm_lag1 n (by omega), ev6_43, mr_bL]; first | rw [if_pos z33] | rw [if_neg z33]) rfl (ih8 (n + 1) (by omega) (by omega))
  refine r_cast (M' := M) (lv' := [(7, .int (nI 0 - 2)), (6, .int (mr_bL M.1 e o b 0)), (0, .ref (ad 50)), (1, .int x), (2, .int z), (3, .int b), (4, .long y)]) (st' := []) rfl rfl rfl (L8 (6 - 0 + 1) 0 (by omega) (by omega))

def mr_wr (F : mm_F) (e : Nat) (t : Int32) : Int32 := t - t / F 60 e * F 60 e + (if 0 ≤ t - t / F 60 e * F 60 e then 0 else F 60 e)
def mr_wave (F : mm_F) (e : Nat) (t : Int32) : Int32 := if F 60 e / 2 ≤ mr_wr F e t then -F 59 e else F 59 e
abbrev rmX5_wave : Room := { frames := 0, cells := 0, slots := 0, locals := 0 }
set_option maxHeartbeats 400000 in
set_option maxRecDepth 100000 in
theorem kX5_wave {l : Launch} {D : va_G} {ad : Nat → Nat} {q : Nat → ClassId} {A : Nat → Prop} (hAD : mm_AD ad A) {M : mm_M} {t : Int32} {x : Int32} (e : Nat) (hx : x.toInt = (e : Int)) (he : e < 4) (hp : ¬ M.1 60 e = 0) : mm_Kd l D ad q A yX5_wave wsX5_wave rmX5_wave [.ref (ad 50), .int x, .int t] M (some (.int (mr_wave M.1 e t))) M := by
  have inX5 : ∀ w ∈ wsX50, w ∈ wsX5_wave := by decide +kernel
  have f35 : Cond.fieldLink RX5 35 "BeamrowModel" "strengths" "[I" ∈ wsX5_wave := by decide +kernel
  have f38 : Cond.fieldLink RX5 38 "BeamrowModel" "periods" "[I" ∈ wsX5_wave := by decide +kernel
  refine mm_of (cc := cX5_wave) (maxL := 4) (ret := some .int) (own := RX5) rfl hAD (plainFor_of_name (by decide)) rfl (Nat.le_of_ble_eq_true rfl) ⟨rfl, rfl⟩ ?_
  intro pp ee ss mm bl mth cd C hret hlk9
  show mm_G _ _ _ _ _ _ _ _ _ _ _ _ _ _ _ _ _ _ M 0 [(0, .ref (ad 50)), (1, .int x), (2, .int t)] []
  refine r_iload_n C dX5_wave_0 rfl 2 rfl ?_
  refine r_aload_n C dX5_wave_1 rfl 0 rfl ?_
  refine r_get5 C inX5 12 (by decide) rfl f38 rfl dX5_wave_2 ?_
  refine r_iload_n C dX5_wave_5 rfl 1 rfl ?_
  refine r_iald C mm_aI_60 (e) (hx) (he) dX5_wave_6 ?_
  refine r_irem C dX5_wave_7 (hp) ?_
  refine r_topi (fun v3_8 ev3_8 => ?_)
  refine r_istore_n (lv' := [(3, .int v3_8), (0, .ref (ad 50)), (1, .int x), (2, .int t)]) C dX5_wave_8 rfl (by decide) rfl ?_
  refine r_iload_n C dX5_wave_9 rfl 0 rfl ?_
  refine r_iload_n C dX5_wave_10 rfl 0 rfl ?_
  refine r_if_ge (tgt := 23) C dX5_wave_11 (by decide) (fun z11 => ?_) (fun z11 => ?_)
  · refine r_iconst (v := 0) C dX5_wave_23 rfl ?_
    refine r_iadd C dX5_wave_24 ?_
    refine r_topi (fun v3_25 ev3_25 => ?_)
    refine r_istore_n (lv' := [(3, .int v3_25), (0, .ref (ad 50)), (1, .int x), (2, .int t)]) C dX5_wave_25 rfl (by decide) rfl ?_
    refine r_iload_n C dX5_wave_26 rfl 0 rfl ?_
    refine r_aload_n C dX5_wave_27 rfl 1 rfl ?_
    refine r_get5 C inX5 12 (by decide) rfl f38 rfl dX5_wave_28 ?_
    refine r_iload_n C dX5_wave_31 rfl 2 rfl ?_
    refine r_iald C mm_aI_60 (e) (hx) (he) dX5_wave_32 ?_
    refine r_iconst (v := 2) C dX5_wave_33 rfl ?_
    refine r_idiv C dX5_wave_34 (by decide) ?_
    refine r_icmp_ge (tgt := 47) C dX5_wave_35 (by decide) (fun z35 => ?_) (fun z35 => ?_)
    · refine r_aload_n C dX5_wave_47 rfl 1 rfl ?_
      refine r_get5 C inX5 11 (by decide) rfl f35 rfl dX5_wave_48 ?_
      refine r_iload_n C dX5_wave_51 rfl 2 rfl ?_
      refine r_iald C mm_aI_59 (e) (hx) (he) dX5_wave_52 ?_
      refine r_ineg C dX5_wave_53 ?_
      exact r_iret C hret hlk9 dX5_wave_54 ⟨by rw [ev3_25, ev3_8] at z35; rw [ev3_8] at z11; rw [mr_wave, mr_wr]; first | rw [if_pos z11, if_pos z35] | rw [if_pos z11, if_neg z35] | rw [if_neg z11, if_pos z35] | rw [if_neg z11, if_neg z35], by first | rfl | (subst_vars; rfl)⟩
    · refine r_aload_n C dX5_wave_38 rfl 1 rfl ?_
      refine r_get5 C inX5 11 (by decide) rfl f35 rfl dX5_wave_39 ?_
      refine r_iload_n C dX5_wave_42 rfl 2 rfl ?_
      refine r_iald C mm_aI_59 (e) (hx) (he) dX5_wave_43 ?_
      refine r_goto (tgt := 54) C dX5_wave_44 (by decide) ?_
      exact r_iret C hret hlk9 dX5_wave_54 ⟨by rw [ev3_25, ev3_8] at z35; rw [ev3_8] at z11; rw [mr_wave, mr_wr]; first | rw [if_pos z11, if_pos z35] | rw [if_pos z11, if_neg z35] | rw [if_neg z11, if_pos z35] | rw [if_neg z11, if_neg z35], by first | rfl | (subst_vars; rfl)⟩
  · refine r_aload_n C dX5_wave_14 rfl 1 rfl ?_
    refine r_get5 C inX5 12 (by decide) rfl f38 rfl dX5_wave_15 ?_
    refine r_iload_n C dX5_wave_18 rfl 2 rfl ?_
    refine r_iald C mm_aI_60 (e) (hx) (he) dX5_wave_19 ?_
    refine r_goto (tgt := 24) C dX5_wave_20 (by decide) ?_
    refine r_iadd C dX5_wave_24 ?_
    refine r_topi (fun v3_25 ev3_25 => ?_)
    refine r_istore_n (lv' := [(3, .int v3_25), (0, .ref (ad 50)), (1, .int x), (2, .int t)]) C dX5_wave_25 rfl (by decide) rfl ?_
    refine r_iload_n C dX5_wave_26 rfl 0 rfl ?_
    refine r_aload_n C dX5_wave_27 rfl 1 rfl ?_
    refine r_get5 C inX5 12 (by decide) rfl f38 rfl dX5_wave_28 ?_
    refine r_iload_n C dX5_wave_31 rfl 2 rfl ?_
    refine r_iald C mm_aI_60 (e) (hx) (he) dX5_wave_32 ?_
    refine r_iconst (v := 2) C dX5_wave_33 rfl ?_
    refine r_idiv C dX5_wave_34 (by decide) ?_
    refine r_icmp_ge (tgt := 47) C dX5_wave_35 (by decide) (fun z35 => ?_) (fun z35 => ?_)
    · refine r_aload_n C dX5_wave_47 rfl 1 rfl ?_
      refine r_get5 C inX5 11 (by decide) rfl f35 rfl dX5_wave_48 ?_
      refine r_iload_n C dX5_wave_51 rfl 2 rfl ?_
      refine r_iald C mm_aI_59 (e) (hx) (he) dX5_wave_52 ?_
      refine r_ineg C dX5_wave_53 ?_
      exact r_iret C hret hlk9 dX5_wave_54 ⟨by rw [ev3_25, ev3_8] at z35; rw [ev3_8] at z11; rw [mr_wave, mr_wr]; first | rw [if_pos z11, if_pos z35] | rw [if_pos z11, if_neg z35] | rw [if_neg z11, if_pos z35] | rw [if_neg z11, if_neg z35], by first | rfl | (subst_vars; rfl)⟩
    · refine r_aload_n C dX5_wave_38 rfl 1 rfl ?_
      refine r_get5 C inX5 11 (by decide) rfl f35 rfl dX5_wave_39 ?_
      refine r_iload_n C dX5_wave_42 rfl 2 rfl ?_
      refine r_iald C mm_aI_59 (e) (hx) (he) dX5_wave_43 ?_
      refine r_goto (tgt := 54) C dX5_wave_44 (by decide) ?_
      exact r_iret C hret hlk9 dX5_wave_54 ⟨by rw [ev3_25, ev3_8] at z35; rw [ev3_8] at z11; rw [mr_wave, mr_wr]; first | rw [if_pos z11, if_pos z35] | rw [if_pos z11, if_neg z35] | rw [if_neg z11, if_pos z35] | rw [if_neg z11, if_neg z35], by first | rfl | (subst_vars; rfl)⟩

abbrev rmX5_silence : Room := { frames := 0, cells := 0, slots := 0, locals := 0 }
set_option maxHeartbeats 400000 in
set_option maxRecDepth 100000 in
theorem kX5_silence {l : Launch} {D : va_G} {ad : Nat → Nat} {q : Nat → ClassId} {A : Nat → Prop} (hAD : mm_AD ad A) {M : mm_M} : mm_Kd l D ad q A yX5_silence wsX5_silence rmX5_silence [.ref (ad 50)] M (some (.int (M.1 50 9))) (mm_sI (mm_sI M 50 20 0) 50 9 0) := by
  have inX5 : ∀ w ∈ wsX50, w ∈ wsX5_silence := by decide +kernel
  have f58 : Cond.fieldLink RX5 58 "BeamrowModel" "thrown" "I" ∈ wsX5_silence := by decide +kernel
  have f87 : Cond.fieldLink RX5 87 "BeamrowModel" "sources" "I" ∈ wsX5_silence := by decide +kernel
  refine mm_of (cc := cX5_silence) (maxL := 2) (ret := some .int) (own := RX5) rfl hAD (plainFor_of_name (by decide)) rfl (Nat.le_of_ble_eq_true rfl) ⟨rfl, rfl⟩ ?_
  intro pp ee ss mm bl mth cd C hret hlk9
  show mm_G _ _ _ _ _ _ _ _ _ _ _ _ _ _ _ _ _ _ M 0 [(0, .ref (ad 50))] []
  refine r_aload_n C dX5_silence_0 rfl 0 rfl ?_
  refine r_iconst (v := 0) C dX5_silence_1 rfl ?_
  refine r_put5 C inX5 (ty := .int) 20 (by decide) mm_set5_20 f58 rfl rfl (by decide +kernel) rfl rfl dX5_silence_2 ?_
  refine r_aload_n C dX5_silence_5 rfl 0 rfl ?_
  refine r_get5 C inX5 9 (by decide) rfl f87 rfl dX5_silence_6 ?_
  refine r_topi (fun v1_9 ev1_9 => ?_)
  refine r_istore_n (lv' := [(1, .int v1_9), (0, .ref (ad 50))]) C dX5_silence_9 rfl (by decide) rfl ?_
  refine r_aload_n C dX5_silence_10 rfl 1 rfl ?_
  refine r_iconst (v := 0) C dX5_silence_11 rfl ?_
  refine r_put5 C inX5 (ty := .int) 9 (by decide) mm_set5_9 f87 rfl rfl (by decide +kernel) rfl rfl dX5_silence_12 ?_
  refine r_iload_n C dX5_silence_15 rfl 0 rfl ?_
  exact r_iret C hret hlk9 dX5_silence_16 ⟨by subst_vars; rfl, by first | rfl | (subst_vars; rfl)⟩

abbrev rmX5_tick : Room := { frames := 0, cells := 0, slots := 0, locals := 0 }
set_option maxHeartbeats 400000 in
set_option maxRecDepth 100000 in
theorem kX5_tick {l : Launch} {D : va_G} {ad : Nat → Nat} {q : Nat → ClassId} {A : Nat → Prop} (hAD : mm_AD ad A) {M : mm_M} : mm_Kd l D ad q A yX5_tick wsX5_tick rmX5_tick [.ref (ad 50)] M (some (.int (M.1 50 0))) (mm_sI M 50 20 0) := by
  have inX5 : ∀ w ∈ wsX50, w ∈ wsX5_tick := by decide +kernel
  have f58 : Cond.fieldLink RX5 58 "BeamrowModel" "thrown" "I" ∈ wsX5_tick := by decide +kernel
  have f78 : Cond.fieldLink RX5 78 "BeamrowModel" "next" "I" ∈ wsX5_tick := by decide +kernel
  refine mm_of (cc := cX5_tick) (maxL := 1) (ret := some .int) (own := RX5) rfl hAD (plainFor_of_name (by decide)) rfl (Nat.le_of_ble_eq_true rfl) ⟨rfl, rfl⟩ ?_
  intro pp ee ss mm bl mth cd C hret hlk9
  show mm_G _ _ _ _ _ _ _ _ _ _ _ _ _ _ _ _ _ _ M 0 [(0, .ref (ad 50))] []
  refine r_aload_n C dX5_tick_0 rfl 0 rfl ?_
  refine r_iconst (v := 0) C dX5_tick_1 rfl ?_
  refine r_put5 C inX5 (ty := .int) 20 (by decide) mm_set5_20 f58 rfl rfl (by decide +kernel) rfl rfl dX5_tick_2 ?_
  refine r_aload_n C dX5_tick_5 rfl 0 rfl ?_
  refine r_get5 C inX5 0 (by decide) rfl f78 rfl dX5_tick_6 ?_
  exact r_iret C hret hlk9 dX5_tick_9 ⟨by first | rfl | (subst_vars; rfl) | (subst_vars; simp [*]), by first | rfl | (subst_vars; rfl)⟩

abbrev rmX5_window : Room := { frames := 1, cells := 0, slots := 0, locals := 22 }
set_option maxHeartbeats 400000 in
set_option maxRecDepth 100000 in
theorem kX5_window {l : Launch} {D : va_G} {ad : Nat → Nat} {q : Nat → ClassId} {A : Nat → Prop} (hAD : mm_AD ad A) {M : mm_M} {x : Int32} : mm_Kd l D ad q A yX5_window wsX5_window rmX5_window [.ref (ad 50), .int x] M (some (.int (if nm_in x 0 2 = 0 then 0 else M.1 50 15))) (if nm_in x 0 2 = 0 then mm_sI M 50 20 1 else mm_sI (mm_sI M 50 20 0) 50 15 x) := by
  have inX5 : ∀ w ∈ wsX50, w ∈ wsX5_window := by decide +kernel
  have f108 : Cond.fieldLink RX5 108 "BeamrowModel" "window" "I" ∈ wsX5_window := by decide +kernel
  refine mm_of (cc := cX5_window) (maxL := 3) (ret := some .int) (own := RX5) rfl hAD (plainFor_of_name (by decide)) rfl (Nat.le_of_ble_eq_true rfl) ⟨rfl, rfl⟩ ?_
  intro pp ee ss mm bl mth cd C hret hlk9
  show mm_G _ _ _ _ _ _ _ _ _ _ _ _ _ _ _ _ _ _ M 0 [(0, .ref (ad 50)), (1, .int x)] []
  refine r_aload_n C dX5_window_0 rfl 0 rfl ?_
  refine r_iload_n C dX5_window_1 rfl 1 rfl ?_
  refine r_iconst (v := 0) C dX5_window_2 rfl ?_
  refine r_iconst (v := 2) C dX5_window_3 rfl ?_
  refine r_callS3I C (kX5_isIn hAD) (va_cwS 3 C.1.2.2.2.2 gX5_window_X5_isIn rfl rfl rfl (by decide +kernel) ⟨Nat.le_of_ble_eq_true rfl, Nat.le_of_ble_eq_true rfl⟩) (Nat.le_of_ble_eq_true rfl) dX5_window_4 ⟨rfl, rfl⟩ ⟨Nat.zero_le _, Nat.zero_le _⟩ ?_
  refine r_if_eq (tgt := 14) C dX5_window_7 (by decide) (fun z7 => ?_) (fun z7 => ?_)
  · refine r_iconst (v := 1) C dX5_window_14 rfl ?_
    refine r_callV1I C 5 (by decide) rfl (mm_ct5 ad q _) (kX5_goes hAD) (cwV 1 C.1.2.2.2.2 gX5_window_X5_goes rfl rfl rfl (by decide +kernel) ⟨Nat.le_of_ble_eq_true rfl, Nat.le_of_ble_eq_true rfl⟩) (Nat.le_of_ble_eq_true rfl) dX5_window_15 ⟨rfl, rfl⟩ ⟨Nat.zero_le _, Nat.zero_le _⟩ ?_
    refine r_topc (y := 0) (by decide) ?_
    refine r_if_neF (tgt := 23) C dX5_window_18 (by decide) (by decide) ?_
    refine r_iconst (v := 0) C dX5_window_21 rfl ?_
    exact r_iret C hret hlk9 dX5_window_22 ⟨by rw [if_pos z7], by rw [if_pos z7]⟩
  · refine r_iconst (v := 0) C dX5_window_10 rfl ?_
    refine r_goto (tgt := 15) C dX5_window_11 (by decide) ?_
    refine r_callV1I C 5 (by decide) rfl (mm_ct5 ad q _) (kX5_goes hAD) (cwV 1 C.1.2.2.2.2 gX5_window_X5_goes rfl rfl rfl (by decide +kernel) ⟨Nat.le_of_ble_eq_true rfl, Nat.le_of_ble_eq_true rfl⟩) (Nat.le_of_ble_eq_true rfl) dX5_window_15 ⟨rfl, rfl⟩ ⟨Nat.zero_le _, Nat.zero_le _⟩ ?_
    refine r_topc (y := 1) (by decide) ?_
    refine r_if_neT (tgt := 23) C dX5_window_18 (by decide) (by decide) ?_
    refine r_aload_n C dX5_window_23 rfl 0 rfl ?_
    refine r_get5 C inX5 15 (by decide) rfl f108 rfl dX5_window_24 ?_
    refine r_topi (fun v2_27 ev2_27 => ?_)
    refine r_istore_n (lv' := [(2, .int v2_27), (0, .ref (ad 50)), (1, .int x)]) C dX5_window_27 rfl (by decide) rfl ?_
    refine r_aload_n C dX5_window_28 rfl 1 rfl ?_
    refine r_iload_n C dX5_window_29 rfl 2 rfl ?_
    refine r_put5 C inX5 (ty := .int) 15 (by decide) mm_set5_15 f108 rfl rfl (by decide +kernel) rfl rfl dX5_window_30 ?_
    refine r_iload_n C dX5_window_33 rfl 0 rfl ?_
    exact r_iret C hret hlk9 dX5_window_34 ⟨by rw [if_neg z7, ev2_27]; rfl, by rw [if_neg z7]⟩
