theorem mm_cast {A : Nat → Prop} {s : State} {args : Array Value} (hX : mm_XP A s) {E : String} (h : Cond.castable E E ∈ mm_NG) : (Cond.castable E E).before args s = true := va_tabs rfl rfl (hX.2.2.2.1 _ h)
theorem mm_ps1 {P : ExceptionTableEntry → Prop} {a : ExceptionTableEntry} (ha : P a) : ∀ z ∈ [a], P z := fun z hz => by rcases List.mem_cons.mp hz with rfl | h; exact ha; exact absurd h List.not_mem_nil
theorem mm_ps2 {P : ExceptionTableEntry → Prop} {a b : ExceptionTableEntry} (ha : P a) (hb : P b) : ∀ z ∈ [a, b], P z := fun z hz => by
  rcases List.mem_cons.mp hz with rfl | h
  · exact ha
  · exact mm_ps1 hb z h
abbrev rmL_element : Room := { frames := 7, cells := 1, slots := 6, locals := 114 }
set_option maxHeartbeats 400000 in
set_option maxRecDepth 100000 in
theorem kL_element {l : Launch} {D : va_G} {ad : Nat → Nat} {q : Nat → ClassId} {A : Nat → Prop} (hAD : mm_AD ad A) (hl0 : l.stackTraces = false) {N : Nat} {M : mm_M} (hN : M.1 0 5 = nI N) (hN8 : N ≤ 8) {x y z : Int32} : mm_Kw l D ad q A yL_element wsL_element rmL_element [.ref (ad 0), .int x, .int y, .int z, .ref (ad 65)] M (some (.int (mc_elk M x y z))) (if mc_elk M x y z = 0 then mm_sL (mc_elS M N x y z) 65 0 ((M.1 0 5)).toInt64 else (M)) := by
  have t13 : Cond.classLink RL 13 "java/lang/IllegalArgumentException" ∈ wsL_element := by decide +kernel
  have t15 : Cond.classLink RL 15 "java/lang/IllegalStateException" ∈ wsL_element := by decide +kernel
  refine mm_ofL (cc := cL_element) (maxL := 6) (ret := some .int) (own := RL) (hh := [(0, 12, 15, 13), (0, 12, 19, 15)]) rfl hAD (by decide) rfl (Nat.le_of_ble_eq_true rfl) ?_
  intro pp ee ss mm bl mth cd C hX9 hT9 hret hlk9
  show mm_G _ _ _ _ _ _ _ _ _ _ _ _ _ _ _ _ _ _ M 0 [(0, .ref (ad 0)), (1, .int x), (2, .int y), (3, .int z), (4, .ref (ad 65))] []
  refine r_aload C dL_element_0 4 rfl ?_
  refine r_iconst (v := 0) C dL_element_2 rfl ?_
  refine r_aload_n C dL_element_3 rfl 0 rfl ?_
  refine r_iload_n C dL_element_4 rfl 1 rfl ?_
  refine r_iload_n C dL_element_5 rfl 2 rfl ?_
  refine r_iload_n C dL_element_6 rfl 3 rfl ?_
  refine r_callX3 C hX9 4 (by decide) rfl (mm_ct4 ad q _) (kX4_element hAD hl0 hN hN8) (cwV 3 C.1.2.2.2.2 gL_element_X4_element rfl rfl rfl (by decide +kernel) ⟨Nat.le_of_ble_eq_true rfl, Nat.le_of_ble_eq_true rfl⟩) (Nat.le_of_ble_eq_true rfl) dL_element_7 ⟨Nat.le_of_ble_eq_true rfl, Nat.le_of_ble_eq_true rfl⟩ ?_ ?_
  · rintro v u ⟨h1, h2, h3⟩
    rw [h2, h3]
    show mm_G _ _ _ _ _ _ _ _ _ _ _ _ _ _ _ _ _ _ (mc_elS M N x y z) 10 [(0, .ref (ad 0)), (1, .int x), (2, .int y), (3, .int z), (4, .ref (ad 65))] [.int ((M.1 0 5)), .int 0, .ref (ad 65)]
    refine r_i2l C dL_element_10 ?_
    refine r_last C mm_aJ_65 0 rfl (by decide) dL_element_11 ?_
    refine r_goto (tgt := 23) C dL_element_12 (by decide) ?_
    refine r_iconst (v := 0) C dL_element_23 rfl ?_
    exact r_wiret C hret hlk9 (Nat.le_of_ble_eq_true rfl) (Nat.le_of_ble_eq_true rfl) dL_element_24 ⟨by rw [h1], by rw [if_pos h1]⟩
  · rintro E u ⟨h1, rfl⟩
    rcases h1 with ⟨h1, rfl⟩ | ⟨h1, rfl⟩
    · refine ⟨15, ⟨tableOf [], tableOf [(0, 12, 19, 15)], ⟨0, 12, 15, 13⟩, E_arg, hT9, fun z hz => absurd hz List.not_mem_nil, by decide, by decide, C.1.2.2.2.2 _ t13, mm_cast hX9 (by decide), rfl⟩, fun zz => ?_⟩
      refine r_astore (lv' := [(5, .ref zz), (0, .ref (ad 0)), (1, .int x), (2, .int y), (3, .int z), (4, .ref (ad 65))]) C dL_element_15 (by decide) rfl ?_
      refine r_iconst (v := 1) C dL_element_17 rfl ?_
      exact r_wiret C hret hlk9 (Nat.le_of_ble_eq_true rfl) (Nat.le_of_ble_eq_true rfl) dL_element_18 ⟨by rw [h1], (if_neg (by rw [h1]; decide)).symm⟩
    · refine ⟨19, ⟨tableOf [(0, 12, 15, 13)], tableOf [], ⟨0, 12, 19, 15⟩, E_sta, hT9, mm_ps1 (Or.inr ⟨by decide, "java/lang/IllegalArgumentException", C.1.2.2.2.2 _ t13, hX9.2.2.2.2.1⟩), by decide, by decide, C.1.2.2.2.2 _ t15, mm_cast hX9 (by decide), rfl⟩, fun zz => ?_⟩
      refine r_astore (lv' := [(5, .ref zz), (0, .ref (ad 0)), (1, .int x), (2, .int y), (3, .int z), (4, .ref (ad 65))]) C dL_element_19 (by decide) rfl ?_
      refine r_iconst (v := 2) C dL_element_21 rfl ?_
      exact r_wiret C hret hlk9 (Nat.le_of_ble_eq_true rfl) (Nat.le_of_ble_eq_true rfl) dL_element_22 ⟨by rw [h1], (if_neg (by rw [h1]; decide)).symm⟩

abbrev rmL_alive : Room := { frames := 7, cells := 1, slots := 6, locals := 113 }
set_option maxHeartbeats 400000 in
set_option maxRecDepth 100000 in
theorem kL_alive {l : Launch} {D : va_G} {ad : Nat → Nat} {q : Nat → ClassId} {A : Nat → Prop} (hAD : mm_AD ad A) (hl0 : l.stackTraces = false) {M : mm_M} (hb : ∀ i : Nat, i < 8 → M.1 (10 + i) 4 &&& 1 = M.1 (10 + i) 4) {x y : Int32} (hy : y &&& 1 = y) : mm_Kw l D ad q A yL_alive wsL_alive rmL_alive [.ref (ad 0), .int x, .int y, .ref (ad 65)] M (some (.int (mc_alk M x))) (if mc_alk M x = 0 then mm_sL (mm_sI M (10 + x.toInt.toNat) 4 y) 65 0 (if (M.1 (10 + x.toInt.toNat) 4) = 0 then 0 else 1) else (M)) := by
  have t21 : Cond.classLink RL 21 "java/lang/IndexOutOfBoundsException" ∈ wsL_alive := by decide +kernel
  refine mm_ofL (cc := cL_alive) (maxL := 5) (ret := some .int) (own := RL) (hh := [(0, 17, 20, 21)]) rfl hAD (by decide) rfl (Nat.le_of_ble_eq_true rfl) ?_
  intro pp ee ss mm bl mth cd C hX9 hT9 hret hlk9
  show mm_G _ _ _ _ _ _ _ _ _ _ _ _ _ _ _ _ _ _ M 0 [(0, .ref (ad 0)), (1, .int x), (2, .int y), (3, .ref (ad 65))] []
  refine r_aload_n C dL_alive_0 rfl 3 rfl ?_
  refine r_iconst (v := 0) C dL_alive_1 rfl ?_
  refine r_aload_n C dL_alive_2 rfl 0 rfl ?_
  refine r_iload_n C dL_alive_3 rfl 1 rfl ?_
  refine r_iload_n C dL_alive_4 rfl 2 rfl ?_
  refine r_callX2 C hX9 4 (by decide) rfl (mm_ct4 ad q _) (kX4_alive hAD hl0 hb hy) (cwV 2 C.1.2.2.2.2 gL_alive_X4_alive rfl rfl rfl (by decide +kernel) ⟨Nat.le_of_ble_eq_true rfl, Nat.le_of_ble_eq_true rfl⟩) (Nat.le_of_ble_eq_true rfl) dL_alive_5 ⟨Nat.le_of_ble_eq_true rfl, Nat.le_of_ble_eq_true rfl⟩ ?_ ?_
  · rintro v u ⟨h1, h2, h3⟩
    rw [h2, h3]
    show mm_G _ _ _ _ _ _ _ _ _ _ _ _ _ _ _ _ _ _ (mm_sI M (10 + x.toInt.toNat) 4 y) 8 [(0, .ref (ad 0)), (1, .int x), (2, .int y), (3, .ref (ad 65))] [.int ((M.1 (10 + x.toInt.toNat) 4)), .int 0, .ref (ad 65)]
    refine r_if_eq (tgt := 15) C dL_alive_8 (by decide) (fun z8 => ?_) (fun z8 => ?_)
    · refine r_lconst (v := 0) C dL_alive_15 rfl ?_
      refine r_last C mm_aJ_65 0 rfl (by decide) dL_alive_16 ?_
      refine r_goto (tgt := 24) C dL_alive_17 (by decide) ?_
      refine r_iconst (v := 0) C dL_alive_24 rfl ?_
      exact r_wiret C hret hlk9 (Nat.le_of_ble_eq_true rfl) (Nat.le_of_ble_eq_true rfl) dL_alive_25 ⟨by rw [h1], by rw [if_pos h1, if_pos z8]⟩
    · refine r_lconst (v := 1) C dL_alive_11 rfl ?_
      refine r_goto (tgt := 16) C dL_alive_12 (by decide) ?_
      refine r_last C mm_aJ_65 0 rfl (by decide) dL_alive_16 ?_
      refine r_goto (tgt := 24) C dL_alive_17 (by decide) ?_
      refine r_iconst (v := 0) C dL_alive_24 rfl ?_
      exact r_wiret C hret hlk9 (Nat.le_of_ble_eq_true rfl) (Nat.le_of_ble_eq_true rfl) dL_alive_25 ⟨by rw [h1], by rw [if_pos h1, if_neg z8]⟩
  · rintro E u ⟨h1, rfl⟩
    rcases h1 with ⟨h1, rfl⟩
    · refine ⟨20, ⟨tableOf [], tableOf [], ⟨0, 17, 20, 21⟩, E_idx, hT9, fun z hz => absurd hz List.not_mem_nil, by decide, by decide, C.1.2.2.2.2 _ t21, mm_cast hX9 (by decide), rfl⟩, fun zz => ?_⟩
      refine r_astore (lv' := [(4, .ref zz), (0, .ref (ad 0)), (1, .int x), (2, .int y), (3, .ref (ad 65))]) C dL_alive_20 (by decide) rfl ?_
      refine r_iconst (v := 1) C dL_alive_22 rfl ?_
      exact r_wiret C hret hlk9 (Nat.le_of_ble_eq_true rfl) (Nat.le_of_ble_eq_true rfl) dL_alive_23 ⟨by rw [h1], (if_neg (by rw [h1]; decide)).symm⟩

abbrev rmL_source : Room := { frames := 7, cells := 1, slots := 6, locals := 114 }
set_option maxHeartbeats 400000 in
set_option maxRecDepth 100000 in
theorem kL_source {l : Launch} {D : va_G} {ad : Nat → Nat} {q : Nat → ClassId} {A : Nat → Prop} (hAD : mm_AD ad A) (hl0 : l.stackTraces = false) {S : Nat} {M : mm_M} (hS : M.1 0 6 = nI S) (hS4 : S ≤ 4) {x y z : Int32} : mm_Kw l D ad q A yL_source wsL_source rmL_source [.ref (ad 0), .int x, .int y, .int z, .ref (ad 65)] M (some (.int (mc_sok M x y z))) (if mc_sok M x y z = 0 then mm_sL (mc_soS M S x y z) 65 0 ((M.1 0 6)).toInt64 else (M)) := by
  have t13 : Cond.classLink RL 13 "java/lang/IllegalArgumentException" ∈ wsL_source := by decide +kernel
  have t15 : Cond.classLink RL 15 "java/lang/IllegalStateException" ∈ wsL_source := by decide +kernel
  have t21 : Cond.classLink RL 21 "java/lang/IndexOutOfBoundsException" ∈ wsL_source := by decide +kernel
  refine mm_ofL (cc := cL_source) (maxL := 6) (ret := some .int) (own := RL) (hh := [(0, 12, 15, 21), (0, 12, 19, 13), (0, 12, 23, 15)]) rfl hAD (by decide) rfl (Nat.le_of_ble_eq_true rfl) ?_
  intro pp ee ss mm bl mth cd C hX9 hT9 hret hlk9
  show mm_G _ _ _ _ _ _ _ _ _ _ _ _ _ _ _ _ _ _ M 0 [(0, .ref (ad 0)), (1, .int x), (2, .int y), (3, .int z), (4, .ref (ad 65))] []
  refine r_aload C dL_source_0 4 rfl ?_
  refine r_iconst (v := 0) C dL_source_2 rfl ?_
  refine r_aload_n C dL_source_3 rfl 0 rfl ?_
  refine r_iload_n C dL_source_4 rfl 1 rfl ?_
  refine r_iload_n C dL_source_5 rfl 2 rfl ?_
  refine r_iload_n C dL_source_6 rfl 3 rfl ?_
  refine r_callX3 C hX9 4 (by decide) rfl (mm_ct4 ad q _) (kX4_source hAD hl0 hS hS4) (cwV 3 C.1.2.2.2.2 gL_source_X4_source rfl rfl rfl (by decide +kernel) ⟨Nat.le_of_ble_eq_true rfl, Nat.le_of_ble_eq_true rfl⟩) (Nat.le_of_ble_eq_true rfl) dL_source_7 ⟨Nat.le_of_ble_eq_true rfl, Nat.le_of_ble_eq_true rfl⟩ ?_ ?_
  · rintro v u ⟨h1, h2, h3⟩
    rw [h2, h3]
    show mm_G _ _ _ _ _ _ _ _ _ _ _ _ _ _ _ _ _ _ (mc_soS M S x y z) 10 [(0, .ref (ad 0)), (1, .int x), (2, .int y), (3, .int z), (4, .ref (ad 65))] [.int ((M.1 0 6)), .int 0, .ref (ad 65)]
    refine r_i2l C dL_source_10 ?_
    refine r_last C mm_aJ_65 0 rfl (by decide) dL_source_11 ?_
    refine r_goto (tgt := 27) C dL_source_12 (by decide) ?_
    refine r_iconst (v := 0) C dL_source_27 rfl ?_
    exact r_wiret C hret hlk9 (Nat.le_of_ble_eq_true rfl) (Nat.le_of_ble_eq_true rfl) dL_source_28 ⟨by rw [h1], by rw [if_pos h1]⟩
  · rintro E u ⟨h1, rfl⟩
    rcases h1 with ⟨h1, rfl⟩ | ⟨h1, rfl⟩ | ⟨h1, rfl⟩
    · refine ⟨15, ⟨tableOf [], tableOf [(0, 12, 19, 13), (0, 12, 23, 15)], ⟨0, 12, 15, 21⟩, E_idx, hT9, fun z hz => absurd hz List.not_mem_nil, by decide, by decide, C.1.2.2.2.2 _ t21, mm_cast hX9 (by decide), rfl⟩, fun zz => ?_⟩
      refine r_astore (lv' := [(5, .ref zz), (0, .ref (ad 0)), (1, .int x), (2, .int y), (3, .int z), (4, .ref (ad 65))]) C dL_source_15 (by decide) rfl ?_
      refine r_iconst (v := 1) C dL_source_17 rfl ?_
      exact r_wiret C hret hlk9 (Nat.le_of_ble_eq_true rfl) (Nat.le_of_ble_eq_true rfl) dL_source_18 ⟨by rw [h1], (if_neg (by rw [h1]; decide)).symm⟩
    · refine ⟨19, ⟨tableOf [(0, 12, 15, 21)], tableOf [(0, 12, 23, 15)], ⟨0, 12, 19, 13⟩, E_arg, hT9, mm_ps1 (Or.inr ⟨by decide, "java/lang/IndexOutOfBoundsException", C.1.2.2.2.2 _ t21, hX9.2.2.2.2.2.1⟩), by decide, by decide, C.1.2.2.2.2 _ t13, mm_cast hX9 (by decide), rfl⟩, fun zz => ?_⟩
      refine r_astore (lv' := [(5, .ref zz), (0, .ref (ad 0)), (1, .int x), (2, .int y), (3, .int z), (4, .ref (ad 65))]) C dL_source_19 (by decide) rfl ?_
      refine r_iconst (v := 2) C dL_source_21 rfl ?_
      exact r_wiret C hret hlk9 (Nat.le_of_ble_eq_true rfl) (Nat.le_of_ble_eq_true rfl) dL_source_22 ⟨by rw [h1], (if_neg (by rw [h1]; decide)).symm⟩
    · refine ⟨23, ⟨tableOf [(0, 12, 15, 21), (0, 12, 19, 13)], tableOf [], ⟨0, 12, 23, 15⟩, E_sta, hT9, mm_ps2 (Or.inr ⟨by decide, "java/lang/IndexOutOfBoundsException", C.1.2.2.2.2 _ t21, hX9.2.2.2.2.2.2⟩) (Or.inr ⟨by decide, "java/lang/IllegalArgumentException", C.1.2.2.2.2 _ t13, hX9.2.2.2.2.1⟩), by decide, by decide, C.1.2.2.2.2 _ t15, mm_cast hX9 (by decide), rfl⟩, fun zz => ?_⟩
      refine r_astore (lv' := [(5, .ref zz), (0, .ref (ad 0)), (1, .int x), (2, .int y), (3, .int z), (4, .ref (ad 65))]) C dL_source_23 (by decide) rfl ?_
      refine r_iconst (v := 3) C dL_source_25 rfl ?_
      exact r_wiret C hret hlk9 (Nat.le_of_ble_eq_true rfl) (Nat.le_of_ble_eq_true rfl) dL_source_26 ⟨by rw [h1], (if_neg (by rw [h1]; decide)).symm⟩

abbrev rmL_noise : Room := { frames := 7, cells := 1, slots := 6, locals := 113 }
set_option maxHeartbeats 400000 in
set_option maxRecDepth 100000 in
theorem kL_noise {l : Launch} {D : va_G} {ad : Nat → Nat} {q : Nat → ClassId} {A : Nat → Prop} (hAD : mm_AD ad A) (hl0 : l.stackTraces = false) {M : mm_M} {x y : Int32} : mm_Kw l D ad q A yL_noise wsL_noise rmL_noise [.ref (ad 0), .int x, .int y, .ref (ad 65)] M (some (.int (mr_nok x y))) (if mr_nok x y = 0 then mm_sL (mm_sI (mm_sI M 3 0 x) 3 1 y) 65 0 ((M.1 3 0)).toInt64 else (M)) := by
  have t13 : Cond.classLink RL 13 "java/lang/IllegalArgumentException" ∈ wsL_noise := by decide +kernel
  refine mm_ofL (cc := cL_noise) (maxL := 5) (ret := some .int) (own := RL) (hh := [(0, 10, 13, 13)]) rfl hAD (by decide) rfl (Nat.le_of_ble_eq_true rfl) ?_
  intro pp ee ss mm bl mth cd C hX9 hT9 hret hlk9
  show mm_G _ _ _ _ _ _ _ _ _ _ _ _ _ _ _ _ _ _ M 0 [(0, .ref (ad 0)), (1, .int x), (2, .int y), (3, .ref (ad 65))] []
  refine r_aload_n C dL_noise_0 rfl 3 rfl ?_
  refine r_iconst (v := 0) C dL_noise_1 rfl ?_
  refine r_aload_n C dL_noise_2 rfl 0 rfl ?_
  refine r_iload_n C dL_noise_3 rfl 1 rfl ?_
  refine r_iload_n C dL_noise_4 rfl 2 rfl ?_
  refine r_callX2 C hX9 4 (by decide) rfl (mm_ct4 ad q _) (kX4_noise hAD hl0) (cwV 2 C.1.2.2.2.2 gL_noise_X4_noise rfl rfl rfl (by decide +kernel) ⟨Nat.le_of_ble_eq_true rfl, Nat.le_of_ble_eq_true rfl⟩) (Nat.le_of_ble_eq_true rfl) dL_noise_5 ⟨Nat.le_of_ble_eq_true rfl, Nat.le_of_ble_eq_true rfl⟩ ?_ ?_
  · rintro v u ⟨h1, h2, h3⟩
    rw [h2, h3]
    show mm_G _ _ _ _ _ _ _ _ _ _ _ _ _ _ _ _ _ _ (mm_sI (mm_sI M 3 0 x) 3 1 y) 8 [(0, .ref (ad 0)), (1, .int x), (2, .int y), (3, .ref (ad 65))] [.int ((M.1 3 0)), .int 0, .ref (ad 65)]
    refine r_i2l C dL_noise_8 ?_
    refine r_last C mm_aJ_65 0 rfl (by decide) dL_noise_9 ?_
    refine r_goto (tgt := 17) C dL_noise_10 (by decide) ?_
    refine r_iconst (v := 0) C dL_noise_17 rfl ?_
    exact r_wiret C hret hlk9 (Nat.le_of_ble_eq_true rfl) (Nat.le_of_ble_eq_true rfl) dL_noise_18 ⟨by rw [h1], by rw [if_pos h1]⟩
  · rintro E u ⟨h1, rfl⟩
    rcases h1 with ⟨h1, rfl⟩
    · refine ⟨13, ⟨tableOf [], tableOf [], ⟨0, 10, 13, 13⟩, E_arg, hT9, fun z hz => absurd hz List.not_mem_nil, by decide, by decide, C.1.2.2.2.2 _ t13, mm_cast hX9 (by decide), rfl⟩, fun zz => ?_⟩
      refine r_astore (lv' := [(4, .ref zz), (0, .ref (ad 0)), (1, .int x), (2, .int y), (3, .ref (ad 65))]) C dL_noise_13 (by decide) rfl ?_
      refine r_iconst (v := 1) C dL_noise_15 rfl ?_
      exact r_wiret C hret hlk9 (Nat.le_of_ble_eq_true rfl) (Nat.le_of_ble_eq_true rfl) dL_noise_16 ⟨by rw [h1], (if_neg (by rw [h1]; decide)).symm⟩

abbrev rmL_hear : Room := { frames := 7, cells := 1, slots := 6, locals := 114 }
set_option maxHeartbeats 400000 in
set_option maxRecDepth 100000 in
theorem kL_hear {l : Launch} {D : va_G} {ad : Nat → Nat} {q : Nat → ClassId} {A : Nat → Prop} (hAD : mm_AD ad A) (hl0 : l.stackTraces = false) {S : Nat} {M : mm_M} (hb : ∀ i : Nat, i < 8 → M.1 (10 + i) 4 &&& 1 = M.1 (10 + i) 4) (hu : ∀ i : Nat, i < 8 → M.1 (10 + i) 3 &&& 1 = M.1 (10 + i) 3) (hS : M.1 0 6 = nI S) (hS4 : S ≤ 4) {x : Int32} : mm_Kw l D ad q A yL_hear wsL_hear rmL_hear [.ref (ad 0), .int x, .ref (ad 65)] M (some (.int (mc_hek x))) (if mc_hek x = 0 then mm_sL (mc_hrN M S x.toInt.toNat) 65 0 (((mc_hrN M S x.toInt.toNat).1 0 8)).toInt64 else (M)) := by
  have t13 : Cond.classLink RL 13 "java/lang/IllegalArgumentException" ∈ wsL_hear := by decide +kernel
  refine mm_ofL (cc := cL_hear) (maxL := 4) (ret := some .int) (own := RL) (hh := [(0, 9, 12, 13)]) rfl hAD (by decide) rfl (Nat.le_of_ble_eq_true rfl) ?_
  intro pp ee ss mm bl mth cd C hX9 hT9 hret hlk9
  show mm_G _ _ _ _ _ _ _ _ _ _ _ _ _ _ _ _ _ _ M 0 [(0, .ref (ad 0)), (1, .int x), (2, .ref (ad 65))] []
  refine r_aload_n C dL_hear_0 rfl 2 rfl ?_
  refine r_iconst (v := 0) C dL_hear_1 rfl ?_
  refine r_aload_n C dL_hear_2 rfl 0 rfl ?_
  refine r_iload_n C dL_hear_3 rfl 1 rfl ?_
  refine r_callX1 C hX9 4 (by decide) rfl (mm_ct4 ad q _) (kX4_hear hAD hl0 hb hu hS hS4) (cwV 1 C.1.2.2.2.2 gL_hear_X4_hear rfl rfl rfl (by decide +kernel) ⟨Nat.le_of_ble_eq_true rfl, Nat.le_of_ble_eq_true rfl⟩) (Nat.le_of_ble_eq_true rfl) dL_hear_4 ⟨Nat.le_of_ble_eq_true rfl, Nat.le_of_ble_eq_true rfl⟩ ?_ ?_
  · rintro v u ⟨h1, h2, h3⟩
    rw [h2, h3]
    show mm_G _ _ _ _ _ _ _ _ _ _ _ _ _ _ _ _ _ _ (mc_hrN M S x.toInt.toNat) 7 [(0, .ref (ad 0)), (1, .int x), (2, .ref (ad 65))] [.int (((mc_hrN M S x.toInt.toNat).1 0 8)), .int 0, .ref (ad 65)]
    refine r_i2l C dL_hear_7 ?_
    refine r_last C mm_aJ_65 0 rfl (by decide) dL_hear_8 ?_
    refine r_goto (tgt := 15) C dL_hear_9 (by decide) ?_
    refine r_iconst (v := 0) C dL_hear_15 rfl ?_
    exact r_wiret C hret hlk9 (Nat.le_of_ble_eq_true rfl) (Nat.le_of_ble_eq_true rfl) dL_hear_16 ⟨by rw [h1], by rw [if_pos h1]⟩
  · rintro E u ⟨h1, rfl⟩
    rcases h1 with ⟨h1, rfl⟩
    · refine ⟨12, ⟨tableOf [], tableOf [], ⟨0, 9, 12, 13⟩, E_arg, hT9, fun z hz => absurd hz List.not_mem_nil, by decide, by decide, C.1.2.2.2.2 _ t13, mm_cast hX9 (by decide), rfl⟩, fun zz => ?_⟩
      refine r_astore_n (lv' := [(3, .ref zz), (0, .ref (ad 0)), (1, .int x), (2, .ref (ad 65))]) C dL_hear_12 rfl (by decide) rfl ?_
      refine r_iconst (v := 1) C dL_hear_13 rfl ?_
      exact r_wiret C hret hlk9 (Nat.le_of_ble_eq_true rfl) (Nat.le_of_ble_eq_true rfl) dL_hear_14 ⟨by rw [h1], (if_neg (by rw [h1]; decide)).symm⟩

abbrev rmL_window : Room := { frames := 7, cells := 1, slots := 6, locals := 112 }
set_option maxHeartbeats 400000 in
set_option maxRecDepth 100000 in
theorem kL_window {l : Launch} {D : va_G} {ad : Nat → Nat} {q : Nat → ClassId} {A : Nat → Prop} (hAD : mm_AD ad A) (hl0 : l.stackTraces = false) {M : mm_M} {x : Int32} : mm_Kw l D ad q A yL_window wsL_window rmL_window [.ref (ad 0), .int x, .ref (ad 65)] M (some (.int (mc_wik x))) (if mc_wik x = 0 then mm_sL (mm_sI M 0 7 x) 65 0 ((M.1 0 7)).toInt64 else (M)) := by
  have t13 : Cond.classLink RL 13 "java/lang/IllegalArgumentException" ∈ wsL_window := by decide +kernel
  refine mm_ofL (cc := cL_window) (maxL := 4) (ret := some .int) (own := RL) (hh := [(0, 9, 12, 13)]) rfl hAD (by decide) rfl (Nat.le_of_ble_eq_true rfl) ?_
  intro pp ee ss mm bl mth cd C hX9 hT9 hret hlk9
  show mm_G _ _ _ _ _ _ _ _ _ _ _ _ _ _ _ _ _ _ M 0 [(0, .ref (ad 0)), (1, .int x), (2, .ref (ad 65))] []
  refine r_aload_n C dL_window_0 rfl 2 rfl ?_
  refine r_iconst (v := 0) C dL_window_1 rfl ?_
  refine r_aload_n C dL_window_2 rfl 0 rfl ?_
  refine r_iload_n C dL_window_3 rfl 1 rfl ?_
  refine r_callX1 C hX9 4 (by decide) rfl (mm_ct4 ad q _) (kX4_window hAD hl0) (cwV 1 C.1.2.2.2.2 gL_window_X4_window rfl rfl rfl (by decide +kernel) ⟨Nat.le_of_ble_eq_true rfl, Nat.le_of_ble_eq_true rfl⟩) (Nat.le_of_ble_eq_true rfl) dL_window_4 ⟨Nat.le_of_ble_eq_true rfl, Nat.le_of_ble_eq_true rfl⟩ ?_ ?_
  · rintro v u ⟨h1, h2, h3⟩
    rw [h2, h3]
    show mm_G _ _ _ _ _ _ _ _ _ _ _ _ _ _ _ _ _ _ (mm_sI M 0 7 x) 7 [(0, .ref (ad 0)), (1, .int x), (2, .ref (ad 65))] [.int ((M.1 0 7)), .int 0, .ref (ad 65)]
    refine r_i2l C dL_window_7 ?_
    refine r_last C mm_aJ_65 0 rfl (by decide) dL_window_8 ?_
    refine r_goto (tgt := 15) C dL_window_9 (by decide) ?_
    refine r_iconst (v := 0) C dL_window_15 rfl ?_
    exact r_wiret C hret hlk9 (Nat.le_of_ble_eq_true rfl) (Nat.le_of_ble_eq_true rfl) dL_window_16 ⟨by rw [h1], by rw [if_pos h1]⟩
  · rintro E u ⟨h1, rfl⟩
    rcases h1 with ⟨h1, rfl⟩
    · refine ⟨12, ⟨tableOf [], tableOf [], ⟨0, 9, 12, 13⟩, E_arg, hT9, fun z hz => absurd hz List.not_mem_nil, by decide, by decide, C.1.2.2.2.2 _ t13, mm_cast hX9 (by decide), rfl⟩, fun zz => ?_⟩
      refine r_astore_n (lv' := [(3, .ref zz), (0, .ref (ad 0)), (1, .int x), (2, .ref (ad 65))]) C dL_window_12 rfl (by decide) rfl ?_
      refine r_iconst (v := 1) C dL_window_13 rfl ?_
      exact r_wiret C hret hlk9 (Nat.le_of_ble_eq_true rfl) (Nat.le_of_ble_eq_true rfl) dL_window_14 ⟨by rw [h1], (if_neg (by rw [h1]; decide)).symm⟩

abbrev rmL_calibrate : Room := { frames := 7, cells := 1, slots := 6, locals := 154 }
set_option maxHeartbeats 400000 in
set_option maxRecDepth 100000 in
theorem kL_calibrate {l : Launch} {D : va_G} {ad : Nat → Nat} {q : Nat → ClassId} {A : Nat → Prop} (hAD : mm_AD ad A) (hl0 : l.stackTraces = false) {M : mm_M} (hb : ∀ i : Nat, i < 8 → M.1 (10 + i) 4 &&& 1 = M.1 (10 + i) 4) {x : Int32} : mm_Kw l D ad q A yL_calibrate wsL_calibrate rmL_calibrate [.ref (ad 0), .int x, .ref (ad 65)] M (some (.int (mc_cak M x))) (if mc_cak M x = 0 then mm_sL (mc_hoM (mc_laM M 8) (mc_lowI M 8 0) (mc_sq M x) x 8) 65 0 ((mc_hoV (mc_laM M 8) (mc_lowI M 8 0) (mc_sq M x) x 8)).toInt64 else ((if nm_in x (-4) 4 = 0 then M else if mc_lowI M 8 0 = 8 then M else mc_laM M 8))) := by
  have t15 : Cond.classLink RL 15 "java/lang/IllegalStateException" ∈ wsL_calibrate := by decide +kernel
  have t21 : Cond.classLink RL 21 "java/lang/IndexOutOfBoundsException" ∈ wsL_calibrate := by decide +kernel
  refine mm_ofL (cc := cL_calibrate) (maxL := 4) (ret := some .int) (own := RL) (hh := [(0, 9, 12, 21), (0, 9, 15, 15)]) rfl hAD (by decide) rfl (Nat.le_of_ble_eq_true rfl) ?_
  intro pp ee ss mm bl mth cd C hX9 hT9 hret hlk9
  show mm_G _ _ _ _ _ _ _ _ _ _ _ _ _ _ _ _ _ _ M 0 [(0, .ref (ad 0)), (1, .int x), (2, .ref (ad 65))] []
  refine r_aload_n C dL_calibrate_0 rfl 2 rfl ?_
  refine r_iconst (v := 0) C dL_calibrate_1 rfl ?_
  refine r_aload_n C dL_calibrate_2 rfl 0 rfl ?_
  refine r_iload_n C dL_calibrate_3 rfl 1 rfl ?_
  refine r_callX1 C hX9 4 (by decide) rfl (mm_ct4 ad q _) (kX4_calibrate hAD hl0 hb) (cwV 1 C.1.2.2.2.2 gL_calibrate_X4_calibrate rfl rfl rfl (by decide +kernel) ⟨Nat.le_of_ble_eq_true rfl, Nat.le_of_ble_eq_true rfl⟩) (Nat.le_of_ble_eq_true rfl) dL_calibrate_4 ⟨Nat.le_of_ble_eq_true rfl, Nat.le_of_ble_eq_true rfl⟩ ?_ ?_
  · rintro v u ⟨h1, h2, h3⟩
    rw [h2, h3]
    show mm_G _ _ _ _ _ _ _ _ _ _ _ _ _ _ _ _ _ _ (mc_hoM (mc_laM M 8) (mc_lowI M 8 0) (mc_sq M x) x 8) 7 [(0, .ref (ad 0)), (1, .int x), (2, .ref (ad 65))] [.int ((mc_hoV (mc_laM M 8) (mc_lowI M 8 0) (mc_sq M x) x 8)), .int 0, .ref (ad 65)]
    refine r_i2l C dL_calibrate_7 ?_
    refine r_last C mm_aJ_65 0 rfl (by decide) dL_calibrate_8 ?_
    refine r_goto (tgt := 18) C dL_calibrate_9 (by decide) ?_
    refine r_iconst (v := 0) C dL_calibrate_18 rfl ?_
    exact r_wiret C hret hlk9 (Nat.le_of_ble_eq_true rfl) (Nat.le_of_ble_eq_true rfl) dL_calibrate_19 ⟨by rw [h1], by rw [if_pos h1]⟩
  · rintro E u ⟨h1, rfl⟩
    rcases h1 with ⟨h1, rfl⟩ | ⟨h1, rfl⟩
    · refine ⟨12, ⟨tableOf [], tableOf [(0, 9, 15, 15)], ⟨0, 9, 12, 21⟩, E_idx, hT9, fun z hz => absurd hz List.not_mem_nil, by decide, by decide, C.1.2.2.2.2 _ t21, mm_cast hX9 (by decide), rfl⟩, fun zz => ?_⟩
      refine r_astore_n (lv' := [(3, .ref zz), (0, .ref (ad 0)), (1, .int x), (2, .ref (ad 65))]) C dL_calibrate_12 rfl (by decide) rfl ?_
      refine r_iconst (v := 1) C dL_calibrate_13 rfl ?_
      exact r_wiret C hret hlk9 (Nat.le_of_ble_eq_true rfl) (Nat.le_of_ble_eq_true rfl) dL_calibrate_14 ⟨by rw [h1], (if_neg (by rw [h1]; decide)).symm⟩
    · refine ⟨15, ⟨tableOf [(0, 9, 12, 21)], tableOf [], ⟨0, 9, 15, 15⟩, E_sta, hT9, mm_ps1 (Or.inr ⟨by decide, "java/lang/IndexOutOfBoundsException", C.1.2.2.2.2 _ t21, hX9.2.2.2.2.2.2⟩), by decide, by decide, C.1.2.2.2.2 _ t15, mm_cast hX9 (by decide), rfl⟩, fun zz => ?_⟩
      refine r_astore_n (lv' := [(3, .ref zz), (0, .ref (ad 0)), (1, .int x), (2, .ref (ad 65))]) C dL_calibrate_15 rfl (by decide) rfl ?_
      refine r_iconst (v := 2) C dL_calibrate_16 rfl ?_
      exact r_wiret C hret hlk9 (Nat.le_of_ble_eq_true rfl) (Nat.le_of_ble_eq_true rfl) dL_calibrate_17 ⟨by rw [h1], (if_neg (by rw [h1]; decide)).symm⟩

abbrev rmL_sample : Room := { frames := 7, cells := 1, slots := 6, locals := 112 }
set_option maxHeartbeats 400000 in
set_option maxRecDepth 100000 in
theorem kL_sample {l : Launch} {D : va_G} {ad : Nat → Nat} {q : Nat → ClassId} {A : Nat → Prop} (hAD : mm_AD ad A) (hl0 : l.stackTraces = false) {M : mm_M} {x y : Int32} : mm_Kw l D ad q A yL_sample wsL_sample rmL_sample [.ref (ad 0), .int x, .int y, .ref (ad 65)] M (some (.int (mc_smk M x y))) (if mc_smk M x y = 0 then mm_sL (M) 65 0 ((mc_at M x.toInt.toNat (63 - y))).toInt64 else (M)) := by
  have t21 : Cond.classLink RL 21 "java/lang/IndexOutOfBoundsException" ∈ wsL_sample := by decide +kernel
  refine mm_ofL (cc := cL_sample) (maxL := 5) (ret := some .int) (own := RL) (hh := [(0, 10, 13, 21)]) rfl hAD (by decide) rfl (Nat.le_of_ble_eq_true rfl) ?_
  intro pp ee ss mm bl mth cd C hX9 hT9 hret hlk9
  show mm_G _ _ _ _ _ _ _ _ _ _ _ _ _ _ _ _ _ _ M 0 [(0, .ref (ad 0)), (1, .int x), (2, .int y), (3, .ref (ad 65))] []
  refine r_aload_n C dL_sample_0 rfl 3 rfl ?_
  refine r_iconst (v := 0) C dL_sample_1 rfl ?_
  refine r_aload_n C dL_sample_2 rfl 0 rfl ?_
  refine r_iload_n C dL_sample_3 rfl 1 rfl ?_
  refine r_iload_n C dL_sample_4 rfl 2 rfl ?_
  refine r_callX2 C hX9 4 (by decide) rfl (mm_ct4 ad q _) (kX4_sample hAD hl0) (cwV 2 C.1.2.2.2.2 gL_sample_X4_sample rfl rfl rfl (by decide +kernel) ⟨Nat.le_of_ble_eq_true rfl, Nat.le_of_ble_eq_true rfl⟩) (Nat.le_of_ble_eq_true rfl) dL_sample_5 ⟨Nat.le_of_ble_eq_true rfl, Nat.le_of_ble_eq_true rfl⟩ ?_ ?_
  · rintro v u ⟨h1, h2, h3⟩
    rw [h2, h3]
    show mm_G _ _ _ _ _ _ _ _ _ _ _ _ _ _ _ _ _ _ (M) 8 [(0, .ref (ad 0)), (1, .int x), (2, .int y), (3, .ref (ad 65))] [.int ((mc_at M x.toInt.toNat (63 - y))), .int 0, .ref (ad 65)]
    refine r_i2l C dL_sample_8 ?_
    refine r_last C mm_aJ_65 0 rfl (by decide) dL_sample_9 ?_
    refine r_goto (tgt := 17) C dL_sample_10 (by decide) ?_
    refine r_iconst (v := 0) C dL_sample_17 rfl ?_
    exact r_wiret C hret hlk9 (Nat.le_of_ble_eq_true rfl) (Nat.le_of_ble_eq_true rfl) dL_sample_18 ⟨by rw [h1], by rw [if_pos h1]⟩
  · rintro E u ⟨h1, rfl⟩
    rcases h1 with ⟨h1, rfl⟩
    · refine ⟨13, ⟨tableOf [], tableOf [], ⟨0, 10, 13, 21⟩, E_idx, hT9, fun z hz => absurd hz List.not_mem_nil, by decide, by decide, C.1.2.2.2.2 _ t21, mm_cast hX9 (by decide), rfl⟩, fun zz => ?_⟩
      refine r_astore (lv' := [(4, .ref zz), (0, .ref (ad 0)), (1, .int x), (2, .int y), (3, .ref (ad 65))]) C dL_sample_13 (by decide) rfl ?_
      refine r_iconst (v := 1) C dL_sample_15 rfl ?_
      exact r_wiret C hret hlk9 (Nat.le_of_ble_eq_true rfl) (Nat.le_of_ble_eq_true rfl) dL_sample_16 ⟨by rw [h1], (if_neg (by rw [h1]; decide)).symm⟩

abbrev rmL_sum : Room := { frames := 7, cells := 1, slots := 6, locals := 136 }
set_option maxHeartbeats 400000 in
set_option maxRecDepth 100000 in
theorem kL_sum {l : Launch} {D : va_G} {ad : Nat → Nat} {q : Nat → ClassId} {A : Nat → Prop} (hAD : mm_AD ad A) (hl0 : l.stackTraces = false) {M : mm_M} (hb : ∀ i : Nat, i < 8 → M.1 (10 + i) 4 &&& 1 = M.1 (10 + i) 4) {x y : Int32} : mm_Kw l D ad q A yL_sum wsL_sum rmL_sum [.ref (ad 0), .int x, .int y, .ref (ad 65)] M (some (.int (mr_suk x y))) (if mr_suk x y = 0 then mm_sL (mc_steer (mc_laM M 8) x) 65 0 (((mc_steer (mc_laM M 8) x).2 4 (47 - y.toInt).toNat)) else (M)) := by
  have t21 : Cond.classLink RL 21 "java/lang/IndexOutOfBoundsException" ∈ wsL_sum := by decide +kernel
  refine mm_ofL (cc := cL_sum) (maxL := 5) (ret := some .int) (own := RL) (hh := [(0, 9, 12, 21)]) rfl hAD (by decide) rfl (Nat.le_of_ble_eq_true rfl) ?_
  intro pp ee ss mm bl mth cd C hX9 hT9 hret hlk9
  show mm_G _ _ _ _ _ _ _ _ _ _ _ _ _ _ _ _ _ _ M 0 [(0, .ref (ad 0)), (1, .int x), (2, .int y), (3, .ref (ad 65))] []
  refine r_aload_n C dL_sum_0 rfl 3 rfl ?_
  refine r_iconst (v := 0) C dL_sum_1 rfl ?_
  refine r_aload_n C dL_sum_2 rfl 0 rfl ?_
  refine r_iload_n C dL_sum_3 rfl 1 rfl ?_
  refine r_iload_n C dL_sum_4 rfl 2 rfl ?_
  refine r_callX2 C hX9 4 (by decide) rfl (mm_ct4 ad q _) (kX4_sum hAD hl0 hb) (cwV 2 C.1.2.2.2.2 gL_sum_X4_sum rfl rfl rfl (by decide +kernel) ⟨Nat.le_of_ble_eq_true rfl, Nat.le_of_ble_eq_true rfl⟩) (Nat.le_of_ble_eq_true rfl) dL_sum_5 ⟨Nat.le_of_ble_eq_true rfl, Nat.le_of_ble_eq_true rfl⟩ ?_ ?_
  · rintro v u ⟨h1, h2, h3⟩
    rw [h2, h3]
    show mm_G _ _ _ _ _ _ _ _ _ _ _ _ _ _ _ _ _ _ (mc_steer (mc_laM M 8) x) 8 [(0, .ref (ad 0)), (1, .int x), (2, .int y), (3, .ref (ad 65))] [.long (((mc_steer (mc_laM M 8) x).2 4 (47 - y.toInt).toNat)), .int 0, .ref (ad 65)]
    refine r_last C mm_aJ_65 0 rfl (by decide) dL_sum_8 ?_
    refine r_goto (tgt := 16) C dL_sum_9 (by decide) ?_
    refine r_iconst (v := 0) C dL_sum_16 rfl ?_
    exact r_wiret C hret hlk9 (Nat.le_of_ble_eq_true rfl) (Nat.le_of_ble_eq_true rfl) dL_sum_17 ⟨by rw [h1], by rw [if_pos h1]⟩
  · rintro E u ⟨h1, rfl⟩
    rcases h1 with ⟨h1, rfl⟩
    · refine ⟨12, ⟨tableOf [], tableOf [], ⟨0, 9, 12, 21⟩, E_idx, hT9, fun z hz => absurd hz List.not_mem_nil, by decide, by decide, C.1.2.2.2.2 _ t21, mm_cast hX9 (by decide), rfl⟩, fun zz => ?_⟩
      refine r_astore (lv' := [(4, .ref zz), (0, .ref (ad 0)), (1, .int x), (2, .int y), (3, .ref (ad 65))]) C dL_sum_12 (by decide) rfl ?_
      refine r_iconst (v := 1) C dL_sum_14 rfl ?_
      exact r_wiret C hret hlk9 (Nat.le_of_ble_eq_true rfl) (Nat.le_of_ble_eq_true rfl) dL_sum_15 ⟨by rw [h1], (if_neg (by rw [h1]; decide)).symm⟩

abbrev rmL_power : Room := { frames := 7, cells := 1, slots := 6, locals := 155 }
set_option maxHeartbeats 400000 in
set_option maxRecDepth 100000 in
theorem kL_power {l : Launch} {D : va_G} {ad : Nat → Nat} {q : Nat → ClassId} {A : Nat → Prop} (hAD : mm_AD ad A) (hl0 : l.stackTraces = false) {M : mm_M} (hb : ∀ i : Nat, i < 8 → M.1 (10 + i) 4 &&& 1 = M.1 (10 + i) 4) {x : Int32} : mm_Kw l D ad q A yL_power wsL_power rmL_power [.ref (ad 0), .int x, .ref (ad 65)] M (some (.int (mc_bek x))) (if mc_bek x = 0 then mm_sL (mc_steer (mc_laM M 8) x) 65 0 ((mc_pwN (mc_steer (mc_laM M 8) x) 32)) else (M)) := by
  have t21 : Cond.classLink RL 21 "java/lang/IndexOutOfBoundsException" ∈ wsL_power := by decide +kernel
  refine mm_ofL (cc := cL_power) (maxL := 4) (ret := some .int) (own := RL) (hh := [(0, 8, 11, 21)]) rfl hAD (by decide) rfl (Nat.le_of_ble_eq_true rfl) ?_
  intro pp ee ss mm bl mth cd C hX9 hT9 hret hlk9
  show mm_G _ _ _ _ _ _ _ _ _ _ _ _ _ _ _ _ _ _ M 0 [(0, .ref (ad 0)), (1, .int x), (2, .ref (ad 65))] []
  refine r_aload_n C dL_power_0 rfl 2 rfl ?_
  refine r_iconst (v := 0) C dL_power_1 rfl ?_
  refine r_aload_n C dL_power_2 rfl 0 rfl ?_
  refine r_iload_n C dL_power_3 rfl 1 rfl ?_
  refine r_callX1 C hX9 4 (by decide) rfl (mm_ct4 ad q _) (kX4_power hAD hl0 hb) (cwV 1 C.1.2.2.2.2 gL_power_X4_power rfl rfl rfl (by decide +kernel) ⟨Nat.le_of_ble_eq_true rfl, Nat.le_of_ble_eq_true rfl⟩) (Nat.le_of_ble_eq_true rfl) dL_power_4 ⟨Nat.le_of_ble_eq_true rfl, Nat.le_of_ble_eq_true rfl⟩ ?_ ?_
  · rintro v u ⟨h1, h2, h3⟩
    rw [h2, h3]
    show mm_G _ _ _ _ _ _ _ _ _ _ _ _ _ _ _ _ _ _ (mc_steer (mc_laM M 8) x) 7 [(0, .ref (ad 0)), (1, .int x), (2, .ref (ad 65))] [.long ((mc_pwN (mc_steer (mc_laM M 8) x) 32)), .int 0, .ref (ad 65)]
    refine r_last C mm_aJ_65 0 rfl (by decide) dL_power_7 ?_
    refine r_goto (tgt := 14) C dL_power_8 (by decide) ?_
    refine r_iconst (v := 0) C dL_power_14 rfl ?_
    exact r_wiret C hret hlk9 (Nat.le_of_ble_eq_true rfl) (Nat.le_of_ble_eq_true rfl) dL_power_15 ⟨by rw [h1], by rw [if_pos h1]⟩
  · rintro E u ⟨h1, rfl⟩
    rcases h1 with ⟨h1, rfl⟩
    · refine ⟨11, ⟨tableOf [], tableOf [], ⟨0, 8, 11, 21⟩, E_idx, hT9, fun z hz => absurd hz List.not_mem_nil, by decide, by decide, C.1.2.2.2.2 _ t21, mm_cast hX9 (by decide), rfl⟩, fun zz => ?_⟩
      refine r_astore_n (lv' := [(3, .ref zz), (0, .ref (ad 0)), (1, .int x), (2, .ref (ad 65))]) C dL_power_11 rfl (by decide) rfl ?_
      refine r_iconst (v := 1) C dL_power_12 rfl ?_
      exact r_wiret C hret hlk9 (Nat.le_of_ble_eq_true rfl) (Nat.le_of_ble_eq_true rfl) dL_power_13 ⟨by rw [h1], (if_neg (by rw [h1]; decide)).symm⟩

abbrev rmL_powerAnew : Room := { frames := 7, cells := 1, slots := 6, locals := 143 }
set_option maxHeartbeats 400000 in
set_option maxRecDepth 100000 in
theorem kL_powerAnew {l : Launch} {D : va_G} {ad : Nat → Nat} {q : Nat → ClassId} {A : Nat → Prop} (hAD : mm_AD ad A) (hl0 : l.stackTraces = false) {M : mm_M} (hb : ∀ i : Nat, i < 8 → M.1 (10 + i) 4 &&& 1 = M.1 (10 + i) 4) {x : Int32} : mm_Kw l D ad q A yL_powerAnew wsL_powerAnew rmL_powerAnew [.ref (ad 0), .int x, .ref (ad 65)] M (some (.int (mc_bek x))) (if mc_bek x = 0 then mm_sL (mc_laM M 8) 65 0 ((mc_ppO (mc_laM M 8) x 8)) else (M)) := by
  have t21 : Cond.classLink RL 21 "java/lang/IndexOutOfBoundsException" ∈ wsL_powerAnew := by decide +kernel
  refine mm_ofL (cc := cL_powerAnew) (maxL := 4) (ret := some .int) (own := RL) (hh := [(0, 8, 11, 21)]) rfl hAD (by decide) rfl (Nat.le_of_ble_eq_true rfl) ?_
  intro pp ee ss mm bl mth cd C hX9 hT9 hret hlk9
  show mm_G _ _ _ _ _ _ _ _ _ _ _ _ _ _ _ _ _ _ M 0 [(0, .ref (ad 0)), (1, .int x), (2, .ref (ad 65))] []
  refine r_aload_n C dL_powerAnew_0 rfl 2 rfl ?_
  refine r_iconst (v := 0) C dL_powerAnew_1 rfl ?_
  refine r_aload_n C dL_powerAnew_2 rfl 0 rfl ?_
  refine r_iload_n C dL_powerAnew_3 rfl 1 rfl ?_
  refine r_callX1 C hX9 4 (by decide) rfl (mm_ct4 ad q _) (kX4_powerAnew hAD hl0 hb) (cwV 1 C.1.2.2.2.2 gL_powerAnew_X4_powerAnew rfl rfl rfl (by decide +kernel) ⟨Nat.le_of_ble_eq_true rfl, Nat.le_of_ble_eq_true rfl⟩) (Nat.le_of_ble_eq_true rfl) dL_powerAnew_4 ⟨Nat.le_of_ble_eq_true rfl, Nat.le_of_ble_eq_true rfl⟩ ?_ ?_
  · rintro v u ⟨h1, h2, h3⟩
    rw [h2, h3]
    show mm_G _ _ _ _ _ _ _ _ _ _ _ _ _ _ _ _ _ _ (mc_laM M 8) 7 [(0, .ref (ad 0)), (1, .int x), (2, .ref (ad 65))] [.long ((mc_ppO (mc_laM M 8) x 8)), .int 0, .ref (ad 65)]
    refine r_last C mm_aJ_65 0 rfl (by decide) dL_powerAnew_7 ?_
    refine r_goto (tgt := 14) C dL_powerAnew_8 (by decide) ?_
    refine r_iconst (v := 0) C dL_powerAnew_14 rfl ?_
    exact r_wiret C hret hlk9 (Nat.le_of_ble_eq_true rfl) (Nat.le_of_ble_eq_true rfl) dL_powerAnew_15 ⟨by rw [h1], by rw [if_pos h1]⟩
  · rintro E u ⟨h1, rfl⟩
    rcases h1 with ⟨h1, rfl⟩
    · refine ⟨11, ⟨tableOf [], tableOf [], ⟨0, 8, 11, 21⟩, E_idx, hT9, fun z hz => absurd hz List.not_mem_nil, by decide, by decide, C.1.2.2.2.2 _ t21, mm_cast hX9 (by decide), rfl⟩, fun zz => ?_⟩
      refine r_astore_n (lv' := [(3, .ref zz), (0, .ref (ad 0)), (1, .int x), (2, .ref (ad 65))]) C dL_powerAnew_11 rfl (by decide) rfl ?_
      refine r_iconst (v := 1) C dL_powerAnew_12 rfl ?_
      exact r_wiret C hret hlk9 (Nat.le_of_ble_eq_true rfl) (Nat.le_of_ble_eq_true rfl) dL_powerAnew_13 ⟨by rw [h1], (if_neg (by rw [h1]; decide)).symm⟩

abbrev rmL_peaks : Room := { frames := 7, cells := 1, slots := 6, locals := 161 }
set_option maxHeartbeats 400000 in
set_option maxRecDepth 100000 in
theorem kL_peaks {l : Launch} {D : va_G} {ad : Nat → Nat} {q : Nat → ClassId} {A : Nat → Prop} (hAD : mm_AD ad A) (hl0 : l.stackTraces = false) {M : mm_M} (hb : ∀ i : Nat, i < 8 → M.1 (10 + i) 4 &&& 1 = M.1 (10 + i) 4) {x : Int32} : mm_Kw l D ad q A yL_peaks wsL_peaks rmL_peaks [.ref (ad 0), .int x, .ref (ad 65)] M (some (.int (mc_hek x))) (if mc_hek x = 0 then mm_sL (mc_fpM (mc_laM M 8) 9) 65 0 ((mc_pkN (mc_fpM (mc_laM M 8) 9) (mc_fpG (mc_laM M 8) 9) x 9)).toInt64 else (M)) := by
  have t13 : Cond.classLink RL 13 "java/lang/IllegalArgumentException" ∈ wsL_peaks := by decide +kernel
  refine mm_ofL (cc := cL_peaks) (maxL := 4) (ret := some .int) (own := RL) (hh := [(0, 9, 12, 13)]) rfl hAD (by decide) rfl (Nat.le_of_ble_eq_true rfl) ?_
  intro pp ee ss mm bl mth cd C hX9 hT9 hret hlk9
  show mm_G _ _ _ _ _ _ _ _ _ _ _ _ _ _ _ _ _ _ M 0 [(0, .ref (ad 0)), (1, .int x), (2, .ref (ad 65))] []
  refine r_aload_n C dL_peaks_0 rfl 2 rfl ?_
  refine r_iconst (v := 0) C dL_peaks_1 rfl ?_
  refine r_aload_n C dL_peaks_2 rfl 0 rfl ?_
  refine r_iload_n C dL_peaks_3 rfl 1 rfl ?_
  refine r_callX1 C hX9 4 (by decide) rfl (mm_ct4 ad q _) (kX4_peaks hAD hl0 hb) (cwV 1 C.1.2.2.2.2 gL_peaks_X4_peaks rfl rfl rfl (by decide +kernel) ⟨Nat.le_of_ble_eq_true rfl, Nat.le_of_ble_eq_true rfl⟩) (Nat.le_of_ble_eq_true rfl) dL_peaks_4 ⟨Nat.le_of_ble_eq_true rfl, Nat.le_of_ble_eq_true rfl⟩ ?_ ?_
  · rintro v u ⟨h1, h2, h3⟩
    rw [h2, h3]
    show mm_G _ _ _ _ _ _ _ _ _ _ _ _ _ _ _ _ _ _ (mc_fpM (mc_laM M 8) 9) 7 [(0, .ref (ad 0)), (1, .int x), (2, .ref (ad 65))] [.int ((mc_pkN (mc_fpM (mc_laM M 8) 9) (mc_fpG (mc_laM M 8) 9) x 9)), .int 0, .ref (ad 65)]
    refine r_i2l C dL_peaks_7 ?_
    refine r_last C mm_aJ_65 0 rfl (by decide) dL_peaks_8 ?_
    refine r_goto (tgt := 15) C dL_peaks_9 (by decide) ?_
    refine r_iconst (v := 0) C dL_peaks_15 rfl ?_
    exact r_wiret C hret hlk9 (Nat.le_of_ble_eq_true rfl) (Nat.le_of_ble_eq_true rfl) dL_peaks_16 ⟨by rw [h1], by rw [if_pos h1]⟩
  · rintro E u ⟨h1, rfl⟩
    rcases h1 with ⟨h1, rfl⟩
    · refine ⟨12, ⟨tableOf [], tableOf [], ⟨0, 9, 12, 13⟩, E_arg, hT9, fun z hz => absurd hz List.not_mem_nil, by decide, by decide, C.1.2.2.2.2 _ t13, mm_cast hX9 (by decide), rfl⟩, fun zz => ?_⟩
      refine r_astore_n (lv' := [(3, .ref zz), (0, .ref (ad 0)), (1, .int x), (2, .ref (ad 65))]) C dL_peaks_12 rfl (by decide) rfl ?_
      refine r_iconst (v := 1) C dL_peaks_13 rfl ?_
      exact r_wiret C hret hlk9 (Nat.le_of_ble_eq_true rfl) (Nat.le_of_ble_eq_true rfl) dL_peaks_14 ⟨by rw [h1], (if_neg (by rw [h1]; decide)).symm⟩

abbrev rmL_found : Room := { frames := 8, cells := 1, slots := 6, locals := 184 }
set_option maxHeartbeats 400000 in
set_option maxRecDepth 100000 in
theorem kL_found {l : Launch} {D : va_G} {ad : Nat → Nat} {q : Nat → ClassId} {A : Nat → Prop} (hAD : mm_AD ad A) (hl0 : l.stackTraces = false) {M : mm_M} (hb : ∀ i : Nat, i < 8 → M.1 (10 + i) 4 &&& 1 = M.1 (10 + i) 4) {x : Int32} : mm_Kw l D ad q A yL_found wsL_found rmL_found [.ref (ad 0), .int x, .ref (ad 65)] M (some (.int (mc_fok x))) (if mc_fok x = 0 then mm_sL ((mc_fd (mc_laA M 8) x.toInt.toNat (mc_fpM (mc_laM M 8) 9) (mc_strong (mc_laM M 8))).2) 65 0 ((mc_fd (mc_laA M 8) x.toInt.toNat (mc_fpM (mc_laM M 8) 9) (mc_strong (mc_laM M 8))).1).toInt64 else (M)) := by
  have t21 : Cond.classLink RL 21 "java/lang/IndexOutOfBoundsException" ∈ wsL_found := by decide +kernel
  refine mm_ofL (cc := cL_found) (maxL := 4) (ret := some .int) (own := RL) (hh := [(0, 9, 12, 21)]) rfl hAD (by decide) rfl (Nat.le_of_ble_eq_true rfl) ?_
  intro pp ee ss mm bl mth cd C hX9 hT9 hret hlk9
  show mm_G _ _ _ _ _ _ _ _ _ _ _ _ _ _ _ _ _ _ M 0 [(0, .ref (ad 0)), (1, .int x), (2, .ref (ad 65))] []
  refine r_aload_n C dL_found_0 rfl 2 rfl ?_
  refine r_iconst (v := 0) C dL_found_1 rfl ?_
  refine r_aload_n C dL_found_2 rfl 0 rfl ?_
  refine r_iload_n C dL_found_3 rfl 1 rfl ?_
  refine r_callX1 C hX9 4 (by decide) rfl (mm_ct4 ad q _) (kX4_found hAD hl0 hb) (cwV 1 C.1.2.2.2.2 gL_found_X4_found rfl rfl rfl (by decide +kernel) ⟨Nat.le_of_ble_eq_true rfl, Nat.le_of_ble_eq_true rfl⟩) (Nat.le_of_ble_eq_true rfl) dL_found_4 ⟨Nat.le_of_ble_eq_true rfl, Nat.le_of_ble_eq_true rfl⟩ ?_ ?_
  · rintro v u ⟨h1, h2, h3⟩
    rw [h2, h3]
    show mm_G _ _ _ _ _ _ _ _ _ _ _ _ _ _ _ _ _ _ ((mc_fd (mc_laA M 8) x.toInt.toNat (mc_fpM (mc_laM M 8) 9) (mc_strong (mc_laM M 8))).2) 7 [(0, .ref (ad 0)), (1, .int x), (2, .ref (ad 65))] [.int ((mc_fd (mc_laA M 8) x.toInt.toNat (mc_fpM (mc_laM M 8) 9) (mc_strong (mc_laM M 8))).1), .int 0, .ref (ad 65)]
    refine r_i2l C dL_found_7 ?_
    refine r_last C mm_aJ_65 0 rfl (by decide) dL_found_8 ?_
    refine r_goto (tgt := 15) C dL_found_9 (by decide) ?_
    refine r_iconst (v := 0) C dL_found_15 rfl ?_
    exact r_wiret C hret hlk9 (Nat.le_of_ble_eq_true rfl) (Nat.le_of_ble_eq_true rfl) dL_found_16 ⟨by rw [h1], by rw [if_pos h1]⟩
  · rintro E u ⟨h1, rfl⟩
    rcases h1 with ⟨h1, rfl⟩
    · refine ⟨12, ⟨tableOf [], tableOf [], ⟨0, 9, 12, 21⟩, E_idx, hT9, fun z hz => absurd hz List.not_mem_nil, by decide, by decide, C.1.2.2.2.2 _ t21, mm_cast hX9 (by decide), rfl⟩, fun zz => ?_⟩
      refine r_astore_n (lv' := [(3, .ref zz), (0, .ref (ad 0)), (1, .int x), (2, .ref (ad 65))]) C dL_found_12 rfl (by decide) rfl ?_
      refine r_iconst (v := 1) C dL_found_13 rfl ?_
      exact r_wiret C hret hlk9 (Nat.le_of_ble_eq_true rfl) (Nat.le_of_ble_eq_true rfl) dL_found_14 ⟨by rw [h1], (if_neg (by rw [h1]; decide)).symm⟩

abbrev rmL_calibrated : Room := { frames := 7, cells := 1, slots := 6, locals := 112 }
set_option maxHeartbeats 400000 in
set_option maxRecDepth 100000 in
theorem kL_calibrated {l : Launch} {D : va_G} {ad : Nat → Nat} {q : Nat → ClassId} {A : Nat → Prop} (hAD : mm_AD ad A) (hl0 : l.stackTraces = false) {M : mm_M} {x y : Int32} : mm_Kw l D ad q A yL_calibrated wsL_calibrated rmL_calibrated [.ref (ad 0), .int x, .int y, .ref (ad 65)] M (some (.int (mc_alk M x))) (if mc_alk M x = 0 then mm_sL (M) 65 0 ((if y = 0 then M.1 (10 + x.toInt.toNat) 8 else M.1 (10 + x.toInt.toNat) 9)).toInt64 else (M)) := by
  have t21 : Cond.classLink RL 21 "java/lang/IndexOutOfBoundsException" ∈ wsL_calibrated := by decide +kernel
  refine mm_ofL (cc := cL_calibrated) (maxL := 5) (ret := some .int) (own := RL) (hh := [(0, 10, 13, 21)]) rfl hAD (by decide) rfl (Nat.le_of_ble_eq_true rfl) ?_
  intro pp ee ss mm bl mth cd C hX9 hT9 hret hlk9
  show mm_G _ _ _ _ _ _ _ _ _ _ _ _ _ _ _ _ _ _ M 0 [(0, .ref (ad 0)), (1, .int x), (2, .int y), (3, .ref (ad 65))] []
  refine r_aload_n C dL_calibrated_0 rfl 3 rfl ?_
  refine r_iconst (v := 0) C dL_calibrated_1 rfl ?_
  refine r_aload_n C dL_calibrated_2 rfl 0 rfl ?_
  refine r_iload_n C dL_calibrated_3 rfl 1 rfl ?_
  refine r_iload_n C dL_calibrated_4 rfl 2 rfl ?_
  refine r_callX2 C hX9 4 (by decide) rfl (mm_ct4 ad q _) (kX4_calibrated hAD hl0) (cwV 2 C.1.2.2.2.2 gL_calibrated_X4_calibrated rfl rfl rfl (by decide +kernel) ⟨Nat.le_of_ble_eq_true rfl, Nat.le_of_ble_eq_true rfl⟩) (Nat.le_of_ble_eq_true rfl) dL_calibrated_5 ⟨Nat.le_of_ble_eq_true rfl, Nat.le_of_ble_eq_true rfl⟩ ?_ ?_
  · rintro v u ⟨h1, h2, h3⟩
    rw [h2, h3]
    show mm_G _ _ _ _ _ _ _ _ _ _ _ _ _ _ _ _ _ _ (M) 8 [(0, .ref (ad 0)), (1, .int x), (2, .int y), (3, .ref (ad 65))] [.int ((if y = 0 then M.1 (10 + x.toInt.toNat) 8 else M.1 (10 + x.toInt.toNat) 9)), .int 0, .ref (ad 65)]
    refine r_i2l C dL_calibrated_8 ?_
    refine r_last C mm_aJ_65 0 rfl (by decide) dL_calibrated_9 ?_
    refine r_goto (tgt := 17) C dL_calibrated_10 (by decide) ?_
    refine r_iconst (v := 0) C dL_calibrated_17 rfl ?_
    exact r_wiret C hret hlk9 (Nat.le_of_ble_eq_true rfl) (Nat.le_of_ble_eq_true rfl) dL_calibrated_18 ⟨by rw [h1], by rw [if_pos h1]⟩
  · rintro E u ⟨h1, rfl⟩
    rcases h1 with ⟨h1, rfl⟩
    · refine ⟨13, ⟨tableOf [], tableOf [], ⟨0, 10, 13, 21⟩, E_idx, hT9, fun z hz => absurd hz List.not_mem_nil, by decide, by decide, C.1.2.2.2.2 _ t21, mm_cast hX9 (by decide), rfl⟩, fun zz => ?_⟩
      refine r_astore (lv' := [(4, .ref zz), (0, .ref (ad 0)), (1, .int x), (2, .int y), (3, .ref (ad 65))]) C dL_calibrated_13 (by decide) rfl ?_
      refine r_iconst (v := 1) C dL_calibrated_15 rfl ?_
      exact r_wiret C hret hlk9 (Nat.le_of_ble_eq_true rfl) (Nat.le_of_ble_eq_true rfl) dL_calibrated_16 ⟨by rw [h1], (if_neg (by rw [h1]; decide)).symm⟩
