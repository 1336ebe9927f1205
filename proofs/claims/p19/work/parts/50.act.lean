theorem mm_cast {A : Nat → Prop} {s : State} {args : Array Value} (hX : mm_XP A s) {E : String} (h : Cond.castable E E ∈ mm_NG) : (Cond.castable E E).before args s = true := va_tabs rfl rfl (hX.2.2.2.1 _ h)
theorem mm_ps1 {P : ExceptionTableEntry → Prop} {a : ExceptionTableEntry} (ha : P a) : ∀ z ∈ [a], P z := fun z hz => by rcases List.mem_cons.mp hz with rfl | h; exact ha; exact absurd h List.not_mem_nil
theorem mm_ps2 {P : ExceptionTableEntry → Prop} {a b : ExceptionTableEntry} (ha : P a) (hb : P b) : ∀ z ∈ [a, b], P z := fun z hz => by
  rcases List.mem_cons.mp hz with rfl | h
  · exact ha
  · exact mm_ps1 hb z h
abbrev rmL_act : Room := { frames := 8, cells := 1, slots := 6, locals := 184 }
abbrev rmL_tells : Room := { frames := 7, cells := 1, slots := 6, locals := 155 }
set_option maxHeartbeats 400000 in
set_option maxRecDepth 100000 in
theorem kL_act_0 {l : Launch} {D : va_G} {ad : Nat → Nat} {q : Nat → ClassId} {A : Nat → Prop} (hAD : mm_AD ad A) (hl0 : l.stackTraces = false) {N : Nat} {M : mm_M} (hN : M.1 0 5 = nI N) (hN8 : N ≤ 8) {x y z : Int32} : mm_Kw l D ad q A yL_act wsL_act rmL_act [.ref (ad 0), .int 0, .int x, .int y, .int z] M (some (.int (mz_rv (mc_elk M x y z) (-16220000) (-16230000) (0) ((M.1 0 5))))) (if mc_elk M x y z = 0 then (mc_elS M N x y z) else (M)) := by
  have t49 : Cond.classLink RL 49 "java/lang/IndexOutOfBoundsException" ∈ wsL_act := by decide +kernel
  have t52 : Cond.classLink RL 52 "java/lang/IllegalArgumentException" ∈ wsL_act := by decide +kernel
  have t55 : Cond.classLink RL 55 "java/lang/IllegalStateException" ∈ wsL_act := by decide +kernel
  refine mm_ofL (cc := cL_act) (maxL := 6) (ret := some .int) (own := RL) (hh := [(0, 174, 175, 49), (0, 174, 180, 52), (0, 174, 185, 55)]) rfl hAD (by decide) rfl (Nat.le_of_ble_eq_true rfl) ?_
  intro pp ee ss mm bl mth cd C hX9 hT9 hret hlk9
  show mm_G _ _ _ _ _ _ _ _ _ _ _ _ _ _ _ _ _ _ M 0 [(0, .ref (ad 0)), (1, .int 0), (2, .int x), (3, .int y), (4, .int z)] []
  refine r_iload_n C dL_act_0 rfl 1 rfl ?_
  refine r_if_neF (tgt := 15) C dL_act_1 (by decide) (by decide) ?_
  refine r_aload_n C dL_act_4 rfl 0 rfl ?_
  refine r_iload_n C dL_act_5 rfl 2 rfl ?_
  refine r_iload_n C dL_act_6 rfl 3 rfl ?_
  refine r_iload C dL_act_7 4 rfl ?_
  refine r_callX3 C hX9 4 (by decide) rfl (mm_ct4 ad q _) (kX4_element hAD hl0 hN hN8) (cwV 3 C.1.2.2.2.2 gL_act_X4_element rfl rfl rfl (by decide +kernel) ⟨Nat.le_of_ble_eq_true rfl, Nat.le_of_ble_eq_true rfl⟩) (Nat.le_of_ble_eq_true rfl) dL_act_9 ⟨Nat.le_of_ble_eq_true rfl, Nat.le_of_ble_eq_true rfl⟩ ?_ ?_
  · rintro v u ⟨h1, h2, h3⟩
    rw [h2, h3]
    show mm_G _ _ _ _ _ _ _ _ _ _ _ _ _ _ _ _ _ _ (mc_elS M N x y z) 12 [(0, .ref (ad 0)), (1, .int 0), (2, .int x), (3, .int y), (4, .int z)] [.int ((M.1 0 5))]
    refine r_goto (tgt := 174) C dL_act_12 (by decide) ?_
    exact r_wiret C hret hlk9 (Nat.le_of_ble_eq_true rfl) (Nat.le_of_ble_eq_true rfl) dL_act_174 ⟨by rw [mz_rv0 h1], by rw [if_pos h1]⟩
  · rintro E u ⟨h1, rfl⟩
    rcases h1 with ⟨h1, rfl⟩ | ⟨h1, rfl⟩
    · refine ⟨180, ⟨tableOf [(0, 174, 175, 49)], tableOf [(0, 174, 185, 55)], ⟨0, 174, 180, 52⟩, E_arg, hT9, mm_ps1 (Or.inr ⟨by decide, "java/lang/IndexOutOfBoundsException", C.1.2.2.2.2 _ t49, hX9.2.2.2.2.2.1⟩), by decide, by decide, C.1.2.2.2.2 _ t52, mm_cast hX9 (by decide), rfl⟩, fun zz => ?_⟩
      refine r_astore (lv' := [(5, .ref zz), (0, .ref (ad 0)), (1, .int 0), (2, .int x), (3, .int y), (4, .int z)]) C dL_act_180 (by decide) rfl ?_
      refine r_ldc C (by decide +kernel : Cond.constant RL 54 (-16220000) ∈ wsL_act) dL_act_182 ?_
      exact r_wiret C hret hlk9 (Nat.le_of_ble_eq_true rfl) (Nat.le_of_ble_eq_true rfl) dL_act_184 ⟨by rw [mz_rv1 h1], (if_neg (by rw [h1]; decide)).symm⟩
    · refine ⟨185, ⟨tableOf [(0, 174, 175, 49), (0, 174, 180, 52)], tableOf [], ⟨0, 174, 185, 55⟩, E_sta, hT9, mm_ps2 (Or.inr ⟨by decide, "java/lang/IndexOutOfBoundsException", C.1.2.2.2.2 _ t49, hX9.2.2.2.2.2.2⟩) (Or.inr ⟨by decide, "java/lang/IllegalArgumentException", C.1.2.2.2.2 _ t52, hX9.2.2.2.2.1⟩), by decide, by decide, C.1.2.2.2.2 _ t55, mm_cast hX9 (by decide), rfl⟩, fun zz => ?_⟩
      refine r_astore (lv' := [(5, .ref zz), (0, .ref (ad 0)), (1, .int 0), (2, .int x), (3, .int y), (4, .int z)]) C dL_act_185 (by decide) rfl ?_
      refine r_ldc C (by decide +kernel : Cond.constant RL 57 (-16230000) ∈ wsL_act) dL_act_187 ?_
      exact r_wiret C hret hlk9 (Nat.le_of_ble_eq_true rfl) (Nat.le_of_ble_eq_true rfl) dL_act_189 ⟨by rw [mz_rv2 h1], (if_neg (by rw [h1]; decide)).symm⟩

set_option maxHeartbeats 400000 in
set_option maxRecDepth 100000 in
theorem kL_act_1_0 {l : Launch} {D : va_G} {ad : Nat → Nat} {q : Nat → ClassId} {A : Nat → Prop} (hAD : mm_AD ad A) (hl0 : l.stackTraces = false) {M : mm_M} (hb : ∀ i : Nat, i < 8 → M.1 (10 + i) 4 &&& 1 = M.1 (10 + i) 4) {x : Int32} {z : Int32} : mm_Kw l D ad q A yL_act wsL_act rmL_act [.ref (ad 0), .int 1, .int x, .int 0, .int z] M (some (.int (mz_rv (mc_alk M x) (-16210000) (0) (0) (if (M.1 (10 + x.toInt.toNat) 4) = 0 then 0 else 1)))) (if mc_alk M x = 0 then (mm_sI M (10 + x.toInt.toNat) 4 (0 : Int32)) else (M)) := by
  have hy : (0 : Int32) &&& 1 = 0 := by decide
  have t49 : Cond.classLink RL 49 "java/lang/IndexOutOfBoundsException" ∈ wsL_act := by decide +kernel
  have t52 : Cond.classLink RL 52 "java/lang/IllegalArgumentException" ∈ wsL_act := by decide +kernel
  have t55 : Cond.classLink RL 55 "java/lang/IllegalStateException" ∈ wsL_act := by decide +kernel
  refine mm_ofL (cc := cL_act) (maxL := 6) (ret := some .int) (own := RL) (hh := [(0, 174, 175, 49), (0, 174, 180, 52), (0, 174, 185, 55)]) rfl hAD (by decide) rfl (Nat.le_of_ble_eq_true rfl) ?_
  intro pp ee ss mm bl mth cd C hX9 hT9 hret hlk9
  show mm_G _ _ _ _ _ _ _ _ _ _ _ _ _ _ _ _ _ _ M 0 [(0, .ref (ad 0)), (1, .int 1), (2, .int x), (3, .int 0), (4, .int z)] []
  refine r_iload_n C dL_act_0 rfl 1 rfl ?_
  refine r_if_neT (tgt := 15) C dL_act_1 (by decide) (by decide) ?_
  refine r_iload_n C dL_act_15 rfl 1 rfl ?_
  refine r_iconst (v := 1) C dL_act_16 rfl ?_
  refine r_icmp_neF (tgt := 46) C dL_act_17 (by decide) (by decide) ?_
  refine r_aload_n C dL_act_20 rfl 0 rfl ?_
  refine r_iload_n C dL_act_21 rfl 2 rfl ?_
  refine r_iload_n C dL_act_22 rfl 3 rfl ?_
  refine r_iconst (v := 1) C dL_act_23 rfl ?_
  refine r_icmp_neT (tgt := 31) C dL_act_24 (by decide) (by decide) ?_
  refine r_iconst (v := 0) C dL_act_31 rfl ?_
  refine r_callX2 C hX9 4 (by decide) rfl (mm_ct4 ad q _) (kX4_alive hAD hl0 hb hy) (cwV 2 C.1.2.2.2.2 gL_act_X4_alive rfl rfl rfl (by decide +kernel) ⟨Nat.le_of_ble_eq_true rfl, Nat.le_of_ble_eq_true rfl⟩) (Nat.le_of_ble_eq_true rfl) dL_act_32 ⟨Nat.le_of_ble_eq_true rfl, Nat.le_of_ble_eq_true rfl⟩ ?_ ?_
  · rintro v u ⟨h1, h2, h3⟩
    rw [h2, h3]
    show mm_G _ _ _ _ _ _ _ _ _ _ _ _ _ _ _ _ _ _ (mm_sI M (10 + x.toInt.toNat) 4 (0 : Int32)) 35 [(0, .ref (ad 0)), (1, .int 1), (2, .int x), (3, .int 0), (4, .int z)] [.int ((M.1 (10 + x.toInt.toNat) 4))]
    refine r_if_eq (tgt := 42) C dL_act_35 (by decide) (fun z8 => ?_) (fun z8 => ?_)
    · refine r_iconst (v := 0) C dL_act_42 rfl ?_
      refine r_goto (tgt := 174) C dL_act_43 (by decide) ?_
      exact r_wiret C hret hlk9 (Nat.le_of_ble_eq_true rfl) (Nat.le_of_ble_eq_true rfl) dL_act_174 ⟨by rw [mz_rv0 h1, if_pos z8], by rw [if_pos h1]⟩
    · refine r_iconst (v := 1) C dL_act_38 rfl ?_
      refine r_goto (tgt := 174) C dL_act_39 (by decide) ?_
      exact r_wiret C hret hlk9 (Nat.le_of_ble_eq_true rfl) (Nat.le_of_ble_eq_true rfl) dL_act_174 ⟨by rw [mz_rv0 h1, if_neg z8], by rw [if_pos h1]⟩
  · rintro E u ⟨h1, rfl⟩
    rcases h1 with ⟨h1, rfl⟩
    · refine ⟨175, ⟨tableOf [], tableOf [(0, 174, 180, 52), (0, 174, 185, 55)], ⟨0, 174, 175, 49⟩, E_idx, hT9, fun z hz => absurd hz List.not_mem_nil, by decide, by decide, C.1.2.2.2.2 _ t49, mm_cast hX9 (by decide), rfl⟩, fun zz => ?_⟩
      refine r_astore (lv' := [(5, .ref zz), (0, .ref (ad 0)), (1, .int 1), (2, .int x), (3, .int 0), (4, .int z)]) C dL_act_175 (by decide) rfl ?_
      refine r_ldc C (by decide +kernel : Cond.constant RL 51 (-16210000) ∈ wsL_act) dL_act_177 ?_
      exact r_wiret C hret hlk9 (Nat.le_of_ble_eq_true rfl) (Nat.le_of_ble_eq_true rfl) dL_act_179 ⟨by rw [mz_rv1 h1], (if_neg (by rw [h1]; decide)).symm⟩

set_option maxHeartbeats 400000 in
set_option maxRecDepth 100000 in
theorem kL_act_1_1 {l : Launch} {D : va_G} {ad : Nat → Nat} {q : Nat → ClassId} {A : Nat → Prop} (hAD : mm_AD ad A) (hl0 : l.stackTraces = false) {M : mm_M} (hb : ∀ i : Nat, i < 8 → M.1 (10 + i) 4 &&& 1 = M.1 (10 + i) 4) {x : Int32} {z : Int32} : mm_Kw l D ad q A yL_act wsL_act rmL_act [.ref (ad 0), .int 1, .int x, .int 1, .int z] M (some (.int (mz_rv (mc_alk M x) (-16210000) (0) (0) (if (M.1 (10 + x.toInt.toNat) 4) = 0 then 0 else 1)))) (if mc_alk M x = 0 then (mm_sI M (10 + x.toInt.toNat) 4 (1 : Int32)) else (M)) := by
  have hy : (1 : Int32) &&& 1 = 1 := by decide
  have t49 : Cond.classLink RL 49 "java/lang/IndexOutOfBoundsException" ∈ wsL_act := by decide +kernel
  have t52 : Cond.classLink RL 52 "java/lang/IllegalArgumentException" ∈ wsL_act := by decide +kernel
  have t55 : Cond.classLink RL 55 "java/lang/IllegalStateException" ∈ wsL_act := by decide +kernel
  refine mm_ofL (cc := cL_act) (maxL := 6) (ret := some .int) (own := RL) (hh := [(0, 174, 175, 49), (0, 174, 180, 52), (0, 174, 185, 55)]) rfl hAD (by decide) rfl (Nat.le_of_ble_eq_true rfl) ?_
  intro pp ee ss mm bl mth cd C hX9 hT9 hret hlk9
  show mm_G _ _ _ _ _ _ _ _ _ _ _ _ _ _ _ _ _ _ M 0 [(0, .ref (ad 0)), (1, .int 1), (2, .int x), (3, .int 1), (4, .int z)] []
  refine r_iload_n C dL_act_0 rfl 1 rfl ?_
  refine r_if_neT (tgt := 15) C dL_act_1 (by decide) (by decide) ?_
  refine r_iload_n C dL_act_15 rfl 1 rfl ?_
  refine r_iconst (v := 1) C dL_act_16 rfl ?_
  refine r_icmp_neF (tgt := 46) C dL_act_17 (by decide) (by decide) ?_
  refine r_aload_n C dL_act_20 rfl 0 rfl ?_
  refine r_iload_n C dL_act_21 rfl 2 rfl ?_
  refine r_iload_n C dL_act_22 rfl 3 rfl ?_
  refine r_iconst (v := 1) C dL_act_23 rfl ?_
  refine r_icmp_neF (tgt := 31) C dL_act_24 (by decide) (by decide) ?_
  refine r_iconst (v := 1) C dL_act_27 rfl ?_
  refine r_goto (tgt := 32) C dL_act_28 (by decide) ?_
  refine r_callX2 C hX9 4 (by decide) rfl (mm_ct4 ad q _) (kX4_alive hAD hl0 hb hy) (cwV 2 C.1.2.2.2.2 gL_act_X4_alive rfl rfl rfl (by decide +kernel) ⟨Nat.le_of_ble_eq_true rfl, Nat.le_of_ble_eq_true rfl⟩) (Nat.le_of_ble_eq_true rfl) dL_act_32 ⟨Nat.le_of_ble_eq_true rfl, Nat.le_of_ble_eq_true rfl⟩ ?_ ?_
  · rintro v u ⟨h1, h2, h3⟩
    rw [h2, h3]
    show mm_G _ _ _ _ _ _ _ _ _ _ _ _ _ _ _ _ _ _ (mm_sI M (10 + x.toInt.toNat) 4 (1 : Int32)) 35 [(0, .ref (ad 0)), (1, .int 1), (2, .int x), (3, .int 1), (4, .int z)] [.int ((M.1 (10 + x.toInt.toNat) 4))]
    refine r_if_eq (tgt := 42) C dL_act_35 (by decide) (fun z8 => ?_) (fun z8 => ?_)
    · refine r_iconst (v := 0) C dL_act_42 rfl ?_
      refine r_goto (tgt := 174) C dL_act_43 (by decide) ?_
      exact r_wiret C hret hlk9 (Nat.le_of_ble_eq_true rfl) (Nat.le_of_ble_eq_true rfl) dL_act_174 ⟨by rw [mz_rv0 h1, if_pos z8], by rw [if_pos h1]⟩
    · refine r_iconst (v := 1) C dL_act_38 rfl ?_
      refine r_goto (tgt := 174) C dL_act_39 (by decide) ?_
      exact r_wiret C hret hlk9 (Nat.le_of_ble_eq_true rfl) (Nat.le_of_ble_eq_true rfl) dL_act_174 ⟨by rw [mz_rv0 h1, if_neg z8], by rw [if_pos h1]⟩
  · rintro E u ⟨h1, rfl⟩
    rcases h1 with ⟨h1, rfl⟩
    · refine ⟨175, ⟨tableOf [], tableOf [(0, 174, 180, 52), (0, 174, 185, 55)], ⟨0, 174, 175, 49⟩, E_idx, hT9, fun z hz => absurd hz List.not_mem_nil, by decide, by decide, C.1.2.2.2.2 _ t49, mm_cast hX9 (by decide), rfl⟩, fun zz => ?_⟩
      refine r_astore (lv' := [(5, .ref zz), (0, .ref (ad 0)), (1, .int 1), (2, .int x), (3, .int 1), (4, .int z)]) C dL_act_175 (by decide) rfl ?_
      refine r_ldc C (by decide +kernel : Cond.constant RL 51 (-16210000) ∈ wsL_act) dL_act_177 ?_
      exact r_wiret C hret hlk9 (Nat.le_of_ble_eq_true rfl) (Nat.le_of_ble_eq_true rfl) dL_act_179 ⟨by rw [mz_rv1 h1], (if_neg (by rw [h1]; decide)).symm⟩

set_option maxHeartbeats 400000 in
set_option maxRecDepth 100000 in
theorem kL_act_2 {l : Launch} {D : va_G} {ad : Nat → Nat} {q : Nat → ClassId} {A : Nat → Prop} (hAD : mm_AD ad A) (hl0 : l.stackTraces = false) {S : Nat} {M : mm_M} (hS : M.1 0 6 = nI S) (hS4 : S ≤ 4) {x y z : Int32} : mm_Kw l D ad q A yL_act wsL_act rmL_act [.ref (ad 0), .int 2, .int x, .int y, .int z] M (some (.int (mz_rv (mc_sok M x y z) (-16210000) (-16220000) (-16230000) ((M.1 0 6))))) (if mc_sok M x y z = 0 then (mc_soS M S x y z) else (M)) := by
  have t49 : Cond.classLink RL 49 "java/lang/IndexOutOfBoundsException" ∈ wsL_act := by decide +kernel
  have t52 : Cond.classLink RL 52 "java/lang/IllegalArgumentException" ∈ wsL_act := by decide +kernel
  have t55 : Cond.classLink RL 55 "java/lang/IllegalStateException" ∈ wsL_act := by decide +kernel
  refine mm_ofL (cc := cL_act) (maxL := 6) (ret := some .int) (own := RL) (hh := [(0, 174, 175, 49), (0, 174, 180, 52), (0, 174, 185, 55)]) rfl hAD (by decide) rfl (Nat.le_of_ble_eq_true rfl) ?_
  intro pp ee ss mm bl mth cd C hX9 hT9 hret hlk9
  show mm_G _ _ _ _ _ _ _ _ _ _ _ _ _ _ _ _ _ _ M 0 [(0, .ref (ad 0)), (1, .int 2), (2, .int x), (3, .int y), (4, .int z)] []
  refine r_iload_n C dL_act_0 rfl 1 rfl ?_
  refine r_if_neT (tgt := 15) C dL_act_1 (by decide) (by decide) ?_
  refine r_iload_n C dL_act_15 rfl 1 rfl ?_
  refine r_iconst (v := 1) C dL_act_16 rfl ?_
  refine r_icmp_neT (tgt := 46) C dL_act_17 (by decide) (by decide) ?_
  refine r_iload_n C dL_act_46 rfl 1 rfl ?_
  refine r_iconst (v := 2) C dL_act_47 rfl ?_
  refine r_icmp_neF (tgt := 62) C dL_act_48 (by decide) (by decide) ?_
  refine r_aload_n C dL_act_51 rfl 0 rfl ?_
  refine r_iload_n C dL_act_52 rfl 2 rfl ?_
  refine r_iload_n C dL_act_53 rfl 3 rfl ?_
  refine r_iload C dL_act_54 4 rfl ?_
  refine r_callX3 C hX9 4 (by decide) rfl (mm_ct4 ad q _) (kX4_source hAD hl0 hS hS4) (cwV 3 C.1.2.2.2.2 gL_act_X4_source rfl rfl rfl (by decide +kernel) ⟨Nat.le_of_ble_eq_true rfl, Nat.le_of_ble_eq_true rfl⟩) (Nat.le_of_ble_eq_true rfl) dL_act_56 ⟨Nat.le_of_ble_eq_true rfl, Nat.le_of_ble_eq_true rfl⟩ ?_ ?_
  · rintro v u ⟨h1, h2, h3⟩
    rw [h2, h3]
    show mm_G _ _ _ _ _ _ _ _ _ _ _ _ _ _ _ _ _ _ (mc_soS M S x y z) 59 [(0, .ref (ad 0)), (1, .int 2), (2, .int x), (3, .int y), (4, .int z)] [.int ((M.1 0 6))]
    refine r_goto (tgt := 174) C dL_act_59 (by decide) ?_
    exact r_wiret C hret hlk9 (Nat.le_of_ble_eq_true rfl) (Nat.le_of_ble_eq_true rfl) dL_act_174 ⟨by rw [mz_rv0 h1], by rw [if_pos h1]⟩
  · rintro E u ⟨h1, rfl⟩
    rcases h1 with ⟨h1, rfl⟩ | ⟨h1, rfl⟩ | ⟨h1, rfl⟩
    · refine ⟨175, ⟨tableOf [], tableOf [(0, 174, 180, 52), (0, 174, 185, 55)], ⟨0, 174, 175, 49⟩, E_idx, hT9, fun z hz => absurd hz List.not_mem_nil, by decide, by decide, C.1.2.2.2.2 _ t49, mm_cast hX9 (by decide), rfl⟩, fun zz => ?_⟩
      refine r_astore (lv' := [(5, .ref zz), (0, .ref (ad 0)), (1, .int 2), (2, .int x), (3, .int y), (4, .int z)]) C dL_act_175 (by decide) rfl ?_
      refine r_ldc C (by decide +kernel : Cond.constant RL 51 (-16210000) ∈ wsL_act) dL_act_177 ?_
      exact r_wiret C hret hlk9 (Nat.le_of_ble_eq_true rfl) (Nat.le_of_ble_eq_true rfl) dL_act_179 ⟨by rw [mz_rv1 h1], (if_neg (by rw [h1]; decide)).symm⟩
    · refine ⟨180, ⟨tableOf [(0, 174, 175, 49)], tableOf [(0, 174, 185, 55)], ⟨0, 174, 180, 52⟩, E_arg, hT9, mm_ps1 (Or.inr ⟨by decide, "java/lang/IndexOutOfBoundsException", C.1.2.2.2.2 _ t49, hX9.2.2.2.2.2.1⟩), by decide, by decide, C.1.2.2.2.2 _ t52, mm_cast hX9 (by decide), rfl⟩, fun zz => ?_⟩
      refine r_astore (lv' := [(5, .ref zz), (0, .ref (ad 0)), (1, .int 2), (2, .int x), (3, .int y), (4, .int z)]) C dL_act_180 (by decide) rfl ?_
      refine r_ldc C (by decide +kernel : Cond.constant RL 54 (-16220000) ∈ wsL_act) dL_act_182 ?_
      exact r_wiret C hret hlk9 (Nat.le_of_ble_eq_true rfl) (Nat.le_of_ble_eq_true rfl) dL_act_184 ⟨by rw [mz_rv2 h1], (if_neg (by rw [h1]; decide)).symm⟩
    · refine ⟨185, ⟨tableOf [(0, 174, 175, 49), (0, 174, 180, 52)], tableOf [], ⟨0, 174, 185, 55⟩, E_sta, hT9, mm_ps2 (Or.inr ⟨by decide, "java/lang/IndexOutOfBoundsException", C.1.2.2.2.2 _ t49, hX9.2.2.2.2.2.2⟩) (Or.inr ⟨by decide, "java/lang/IllegalArgumentException", C.1.2.2.2.2 _ t52, hX9.2.2.2.2.1⟩), by decide, by decide, C.1.2.2.2.2 _ t55, mm_cast hX9 (by decide), rfl⟩, fun zz => ?_⟩
      refine r_astore (lv' := [(5, .ref zz), (0, .ref (ad 0)), (1, .int 2), (2, .int x), (3, .int y), (4, .int z)]) C dL_act_185 (by decide) rfl ?_
      refine r_ldc C (by decide +kernel : Cond.constant RL 57 (-16230000) ∈ wsL_act) dL_act_187 ?_
      exact r_wiret C hret hlk9 (Nat.le_of_ble_eq_true rfl) (Nat.le_of_ble_eq_true rfl) dL_act_189 ⟨by rw [mz_rv3 h1], (if_neg (by rw [h1]; decide)).symm⟩

set_option maxHeartbeats 400000 in
set_option maxRecDepth 100000 in
theorem kL_act_3 {l : Launch} {D : va_G} {ad : Nat → Nat} {q : Nat → ClassId} {A : Nat → Prop} (hAD : mm_AD ad A) (hl0 : l.stackTraces = false) {M : mm_M} {x y : Int32} {z : Int32} : mm_Kw l D ad q A yL_act wsL_act rmL_act [.ref (ad 0), .int 3, .int x, .int y, .int z] M (some (.int (mz_rv (mr_nok x y) (-16220000) (0) (0) ((M.1 3 0))))) (if mr_nok x y = 0 then (mm_sI (mm_sI M 3 0 x) 3 1 y) else (M)) := by
  have t49 : Cond.classLink RL 49 "java/lang/IndexOutOfBoundsException" ∈ wsL_act := by decide +kernel
  have t52 : Cond.classLink RL 52 "java/lang/IllegalArgumentException" ∈ wsL_act := by decide +kernel
  have t55 : Cond.classLink RL 55 "java/lang/IllegalStateException" ∈ wsL_act := by decide +kernel
  refine mm_ofL (cc := cL_act) (maxL := 6) (ret := some .int) (own := RL) (hh := [(0, 174, 175, 49), (0, 174, 180, 52), (0, 174, 185, 55)]) rfl hAD (by decide) rfl (Nat.le_of_ble_eq_true rfl) ?_
  intro pp ee ss mm bl mth cd C hX9 hT9 hret hlk9
  show mm_G _ _ _ _ _ _ _ _ _ _ _ _ _ _ _ _ _ _ M 0 [(0, .ref (ad 0)), (1, .int 3), (2, .int x), (3, .int y), (4, .int z)] []
  refine r_iload_n C dL_act_0 rfl 1 rfl ?_
  refine r_if_neT (tgt := 15) C dL_act_1 (by decide) (by decide) ?_
  refine r_iload_n C dL_act_15 rfl 1 rfl ?_
  refine r_iconst (v := 1) C dL_act_16 rfl ?_
  refine r_icmp_neT (tgt := 46) C dL_act_17 (by decide) (by decide) ?_
  refine r_iload_n C dL_act_46 rfl 1 rfl ?_
  refine r_iconst (v := 2) C dL_act_47 rfl ?_
  refine r_icmp_neT (tgt := 62) C dL_act_48 (by decide) (by decide) ?_
  refine r_iload_n C dL_act_62 rfl 1 rfl ?_
  refine r_iconst (v := 3) C dL_act_63 rfl ?_
  refine r_icmp_neF (tgt := 76) C dL_act_64 (by decide) (by decide) ?_
  refine r_aload_n C dL_act_67 rfl 0 rfl ?_
  refine r_iload_n C dL_act_68 rfl 2 rfl ?_
  refine r_iload_n C dL_act_69 rfl 3 rfl ?_
  refine r_callX2 C hX9 4 (by decide) rfl (mm_ct4 ad q _) (kX4_noise hAD hl0) (cwV 2 C.1.2.2.2.2 gL_act_X4_noise rfl rfl rfl (by decide +kernel) ⟨Nat.le_of_ble_eq_true rfl, Nat.le_of_ble_eq_true rfl⟩) (Nat.le_of_ble_eq_true rfl) dL_act_70 ⟨Nat.le_of_ble_eq_true rfl, Nat.le_of_ble_eq_true rfl⟩ ?_ ?_
  · rintro v u ⟨h1, h2, h3⟩
    rw [h2, h3]
    show mm_G _ _ _ _ _ _ _ _ _ _ _ _ _ _ _ _ _ _ (mm_sI (mm_sI M 3 0 x) 3 1 y) 73 [(0, .ref (ad 0)), (1, .int 3), (2, .int x), (3, .int y), (4, .int z)] [.int ((M.1 3 0))]
    refine r_goto (tgt := 174) C dL_act_73 (by decide) ?_
    exact r_wiret C hret hlk9 (Nat.le_of_ble_eq_true rfl) (Nat.le_of_ble_eq_true rfl) dL_act_174 ⟨by rw [mz_rv0 h1], by rw [if_pos h1]⟩
  · rintro E u ⟨h1, rfl⟩
    rcases h1 with ⟨h1, rfl⟩
    · refine ⟨180, ⟨tableOf [(0, 174, 175, 49)], tableOf [(0, 174, 185, 55)], ⟨0, 174, 180, 52⟩, E_arg, hT9, mm_ps1 (Or.inr ⟨by decide, "java/lang/IndexOutOfBoundsException", C.1.2.2.2.2 _ t49, hX9.2.2.2.2.2.1⟩), by decide, by decide, C.1.2.2.2.2 _ t52, mm_cast hX9 (by decide), rfl⟩, fun zz => ?_⟩
      refine r_astore (lv' := [(5, .ref zz), (0, .ref (ad 0)), (1, .int 3), (2, .int x), (3, .int y), (4, .int z)]) C dL_act_180 (by decide) rfl ?_
      refine r_ldc C (by decide +kernel : Cond.constant RL 54 (-16220000) ∈ wsL_act) dL_act_182 ?_
      exact r_wiret C hret hlk9 (Nat.le_of_ble_eq_true rfl) (Nat.le_of_ble_eq_true rfl) dL_act_184 ⟨by rw [mz_rv1 h1], (if_neg (by rw [h1]; decide)).symm⟩

set_option maxHeartbeats 400000 in
set_option maxRecDepth 100000 in
theorem kL_act_4 {l : Launch} {D : va_G} {ad : Nat → Nat} {q : Nat → ClassId} {A : Nat → Prop} (hAD : mm_AD ad A) (hl0 : l.stackTraces = false) {S : Nat} {M : mm_M} (hb : ∀ i : Nat, i < 8 → M.1 (10 + i) 4 &&& 1 = M.1 (10 + i) 4) (hu : ∀ i : Nat, i < 8 → M.1 (10 + i) 3 &&& 1 = M.1 (10 + i) 3) (hS : M.1 0 6 = nI S) (hS4 : S ≤ 4) {x : Int32} {y z : Int32} : mm_Kw l D ad q A yL_act wsL_act rmL_act [.ref (ad 0), .int 4, .int x, .int y, .int z] M (some (.int (mz_rv (mc_hek x) (-16220000) (0) (0) (((mc_hrN M S x.toInt.toNat).1 0 8))))) (if mc_hek x = 0 then (mc_hrN M S x.toInt.toNat) else (M)) := by
  have t49 : Cond.classLink RL 49 "java/lang/IndexOutOfBoundsException" ∈ wsL_act := by decide +kernel
  have t52 : Cond.classLink RL 52 "java/lang/IllegalArgumentException" ∈ wsL_act := by decide +kernel
  have t55 : Cond.classLink RL 55 "java/lang/IllegalStateException" ∈ wsL_act := by decide +kernel
  refine mm_ofL (cc := cL_act) (maxL := 6) (ret := some .int) (own := RL) (hh := [(0, 174, 175, 49), (0, 174, 180, 52), (0, 174, 185, 55)]) rfl hAD (by decide) rfl (Nat.le_of_ble_eq_true rfl) ?_
  intro pp ee ss mm bl mth cd C hX9 hT9 hret hlk9
  show mm_G _ _ _ _ _ _ _ _ _ _ _ _ _ _ _ _ _ _ M 0 [(0, .ref (ad 0)), (1, .int 4), (2, .int x), (3, .int y), (4, .int z)] []
  refine r_iload_n C dL_act_0 rfl 1 rfl ?_
  refine r_if_neT (tgt := 15) C dL_act_1 (by decide) (by decide) ?_
  refine r_iload_n C dL_act_15 rfl 1 rfl ?_
  refine r_iconst (v := 1) C dL_act_16 rfl ?_
  refine r_icmp_neT (tgt := 46) C dL_act_17 (by decide) (by decide) ?_
  refine r_iload_n C dL_act_46 rfl 1 rfl ?_
  refine r_iconst (v := 2) C dL_act_47 rfl ?_
  refine r_icmp_neT (tgt := 62) C dL_act_48 (by decide) (by decide) ?_
  refine r_iload_n C dL_act_62 rfl 1 rfl ?_
  refine r_iconst (v := 3) C dL_act_63 rfl ?_
  refine r_icmp_neT (tgt := 76) C dL_act_64 (by decide) (by decide) ?_
  refine r_iload_n C dL_act_76 rfl 1 rfl ?_
  refine r_iconst (v := 4) C dL_act_77 rfl ?_
  refine r_icmp_neF (tgt := 89) C dL_act_78 (by decide) (by decide) ?_
  refine r_aload_n C dL_act_81 rfl 0 rfl ?_
  refine r_iload_n C dL_act_82 rfl 2 rfl ?_
  refine r_callX1 C hX9 4 (by decide) rfl (mm_ct4 ad q _) (kX4_hear hAD hl0 hb hu hS hS4) (cwV 1 C.1.2.2.2.2 gL_act_X4_hear rfl rfl rfl (by decide +kernel) ⟨Nat.le_of_ble_eq_true rfl, Nat.le_of_ble_eq_true rfl⟩) (Nat.le_of_ble_eq_true rfl) dL_act_83 ⟨Nat.le_of_ble_eq_true rfl, Nat.le_of_ble_eq_true rfl⟩ ?_ ?_
  · rintro v u ⟨h1, h2, h3⟩
    rw [h2, h3]
    show mm_G _ _ _ _ _ _ _ _ _ _ _ _ _ _ _ _ _ _ (mc_hrN M S x.toInt.toNat) 86 [(0, .ref (ad 0)), (1, .int 4), (2, .int x), (3, .int y), (4, .int z)] [.int (((mc_hrN M S x.toInt.toNat).1 0 8))]
    refine r_goto (tgt := 174) C dL_act_86 (by decide) ?_
    exact r_wiret C hret hlk9 (Nat.le_of_ble_eq_true rfl) (Nat.le_of_ble_eq_true rfl) dL_act_174 ⟨by rw [mz_rv0 h1], by rw [if_pos h1]⟩
  · rintro E u ⟨h1, rfl⟩
    rcases h1 with ⟨h1, rfl⟩
    · refine ⟨180, ⟨tableOf [(0, 174, 175, 49)], tableOf [(0, 174, 185, 55)], ⟨0, 174, 180, 52⟩, E_arg, hT9, mm_ps1 (Or.inr ⟨by decide, "java/lang/IndexOutOfBoundsException", C.1.2.2.2.2 _ t49, hX9.2.2.2.2.2.1⟩), by decide, by decide, C.1.2.2.2.2 _ t52, mm_cast hX9 (by decide), rfl⟩, fun zz => ?_⟩
      refine r_astore (lv' := [(5, .ref zz), (0, .ref (ad 0)), (1, .int 4), (2, .int x), (3, .int y), (4, .int z)]) C dL_act_180 (by decide) rfl ?_
      refine r_ldc C (by decide +kernel : Cond.constant RL 54 (-16220000) ∈ wsL_act) dL_act_182 ?_
      exact r_wiret C hret hlk9 (Nat.le_of_ble_eq_true rfl) (Nat.le_of_ble_eq_true rfl) dL_act_184 ⟨by rw [mz_rv1 h1], (if_neg (by rw [h1]; decide)).symm⟩

set_option maxHeartbeats 400000 in
set_option maxRecDepth 100000 in
theorem kL_act_5 {l : Launch} {D : va_G} {ad : Nat → Nat} {q : Nat → ClassId} {A : Nat → Prop} (hAD : mm_AD ad A) (hl0 : l.stackTraces = false) {M : mm_M} {x : Int32} {y z : Int32} : mm_Kw l D ad q A yL_act wsL_act rmL_act [.ref (ad 0), .int 5, .int x, .int y, .int z] M (some (.int (mz_rv (mc_wik x) (-16220000) (0) (0) ((M.1 0 7))))) (if mc_wik x = 0 then (mm_sI M 0 7 x) else (M)) := by
  have t49 : Cond.classLink RL 49 "java/lang/IndexOutOfBoundsException" ∈ wsL_act := by decide +kernel
  have t52 : Cond.classLink RL 52 "java/lang/IllegalArgumentException" ∈ wsL_act := by decide +kernel
  have t55 : Cond.classLink RL 55 "java/lang/IllegalStateException" ∈ wsL_act := by decide +kernel
  refine mm_ofL (cc := cL_act) (maxL := 6) (ret := some .int) (own := RL) (hh := [(0, 174, 175, 49), (0, 174, 180, 52), (0, 174, 185, 55)]) rfl hAD (by decide) rfl (Nat.le_of_ble_eq_true rfl) ?_
  intro pp ee ss mm bl mth cd C hX9 hT9 hret hlk9
  show mm_G _ _ _ _ _ _ _ _ _ _ _ _ _ _ _ _ _ _ M 0 [(0, .ref (ad 0)), (1, .int 5), (2, .int x), (3, .int y), (4, .int z)] []
  refine r_iload_n C dL_act_0 rfl 1 rfl ?_
  refine r_if_neT (tgt := 15) C dL_act_1 (by decide) (by decide) ?_
  refine r_iload_n C dL_act_15 rfl 1 rfl ?_
  refine r_iconst (v := 1) C dL_act_16 rfl ?_
  refine r_icmp_neT (tgt := 46) C dL_act_17 (by decide) (by decide) ?_
  refine r_iload_n C dL_act_46 rfl 1 rfl ?_
  refine r_iconst (v := 2) C dL_act_47 rfl ?_
  refine r_icmp_neT (tgt := 62) C dL_act_48 (by decide) (by decide) ?_
  refine r_iload_n C dL_act_62 rfl 1 rfl ?_
  refine r_iconst (v := 3) C dL_act_63 rfl ?_
  refine r_icmp_neT (tgt := 76) C dL_act_64 (by decide) (by decide) ?_
  refine r_iload_n C dL_act_76 rfl 1 rfl ?_
  refine r_iconst (v := 4) C dL_act_77 rfl ?_
  refine r_icmp_neT (tgt := 89) C dL_act_78 (by decide) (by decide) ?_
  refine r_iload_n C dL_act_89 rfl 1 rfl ?_
  refine r_iconst (v := 5) C dL_act_90 rfl ?_
  refine r_icmp_neF (tgt := 102) C dL_act_91 (by decide) (by decide) ?_
  refine r_aload_n C dL_act_94 rfl 0 rfl ?_
  refine r_iload_n C dL_act_95 rfl 2 rfl ?_
  refine r_callX1 C hX9 4 (by decide) rfl (mm_ct4 ad q _) (kX4_window hAD hl0) (cwV 1 C.1.2.2.2.2 gL_act_X4_window rfl rfl rfl (by decide +kernel) ⟨Nat.le_of_ble_eq_true rfl, Nat.le_of_ble_eq_true rfl⟩) (Nat.le_of_ble_eq_true rfl) dL_act_96 ⟨Nat.le_of_ble_eq_true rfl, Nat.le_of_ble_eq_true rfl⟩ ?_ ?_
  · rintro v u ⟨h1, h2, h3⟩
    rw [h2, h3]
    show mm_G _ _ _ _ _ _ _ _ _ _ _ _ _ _ _ _ _ _ (mm_sI M 0 7 x) 99 [(0, .ref (ad 0)), (1, .int 5), (2, .int x), (3, .int y), (4, .int z)] [.int ((M.1 0 7))]
    refine r_goto (tgt := 174) C dL_act_99 (by decide) ?_
    exact r_wiret C hret hlk9 (Nat.le_of_ble_eq_true rfl) (Nat.le_of_ble_eq_true rfl) dL_act_174 ⟨by rw [mz_rv0 h1], by rw [if_pos h1]⟩
  · rintro E u ⟨h1, rfl⟩
    rcases h1 with ⟨h1, rfl⟩
    · refine ⟨180, ⟨tableOf [(0, 174, 175, 49)], tableOf [(0, 174, 185, 55)], ⟨0, 174, 180, 52⟩, E_arg, hT9, mm_ps1 (Or.inr ⟨by decide, "java/lang/IndexOutOfBoundsException", C.1.2.2.2.2 _ t49, hX9.2.2.2.2.2.1⟩), by decide, by decide, C.1.2.2.2.2 _ t52, mm_cast hX9 (by decide), rfl⟩, fun zz => ?_⟩
      refine r_astore (lv' := [(5, .ref zz), (0, .ref (ad 0)), (1, .int 5), (2, .int x), (3, .int y), (4, .int z)]) C dL_act_180 (by decide) rfl ?_
      refine r_ldc C (by decide +kernel : Cond.constant RL 54 (-16220000) ∈ wsL_act) dL_act_182 ?_
      exact r_wiret C hret hlk9 (Nat.le_of_ble_eq_true rfl) (Nat.le_of_ble_eq_true rfl) dL_act_184 ⟨by rw [mz_rv1 h1], (if_neg (by rw [h1]; decide)).symm⟩
