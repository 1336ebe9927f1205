abbrev rmJ9_floorDiv_7cf53 : Room := { frames := 0, cells := 0, slots := 0, locals := 0 }
set_option maxHeartbeats 400000 in
set_option maxRecDepth 100000 in
theorem kJ9_floorDiv_7cf53 {l : Launch} {D : va_G} {ad : Nat → Nat} {q : Nat → ClassId} {A : Nat → Prop} (hAD : mm_AD ad A) {M : mm_M} {x y : Int32} (hy : 0 < y.toInt) : mm_Kd l D ad q A yJ9_floorDiv_7cf53 wsJ9_floorDiv_7cf53 rmJ9_floorDiv_7cf53 [.int x, .int y] M (some (.int (nm_fdI x y))) M := by
  refine mm_of (cc := cJ9_floorDiv_7cf53) (maxL := 3) (ret := some .int) (own := RJ9) rfl hAD (by decide +kernel) rfl (Nat.le_of_ble_eq_true rfl) ⟨rfl, rfl⟩ ?_
  intro pp ee ss mm bl mth cd C hret hlk9
  show mm_G _ _ _ _ _ _ _ _ _ _ _ _ _ _ _ _ _ _ M 0 [(0, .int x), (1, .int y)] []
  refine r_iload_n C dJ9_floorDiv_7cf53_0 rfl 0 rfl ?_
  refine r_iload_n C dJ9_floorDiv_7cf53_1 rfl 1 rfl ?_
  refine r_idiv C dJ9_floorDiv_7cf53_2 (nm_ne0I hy) ?_
  refine r_topi (fun v2_3 ev2_3 => ?_)
  refine r_istore_n (lv' := [(2, .int v2_3), (0, .int x), (1, .int y)]) C dJ9_floorDiv_7cf53_3 rfl (by decide) rfl ?_
  refine r_iload_n C dJ9_floorDiv_7cf53_4 rfl 1 rfl ?_
  refine r_iload_n C dJ9_floorDiv_7cf53_5 rfl 2 rfl ?_
  refine r_ixor C dJ9_floorDiv_7cf53_6 ?_
  refine r_if_ge (tgt := 21) C dJ9_floorDiv_7cf53_7 (by decide) (fun z7 => ?_) (fun z7 => ?_)
  · refine r_iload_n C dJ9_floorDiv_7cf53_21 rfl 0 rfl ?_
    exact r_iret C hret hlk9 dJ9_floorDiv_7cf53_22 ⟨by rw [ev2_3]; first | rw [nm_fdI_x1 hy z7] | rw [nm_fdI_x2 hy z7 (by rw [← ev2_3]; exact z14)], rfl⟩
  · refine r_iload_n C dJ9_floorDiv_7cf53_10 rfl 0 rfl ?_
    refine r_iload_n C dJ9_floorDiv_7cf53_11 rfl 2 rfl ?_
    refine r_imul C dJ9_floorDiv_7cf53_12 ?_
    refine r_iload_n C dJ9_floorDiv_7cf53_13 rfl 1 rfl ?_
    refine r_icmp_eq (tgt := 21) C dJ9_floorDiv_7cf53_14 (by decide) (fun z14 => ?_) (fun z14 => ?_)
    · refine r_iload_n C dJ9_floorDiv_7cf53_21 rfl 0 rfl ?_
      exact r_iret C hret hlk9 dJ9_floorDiv_7cf53_22 ⟨by rw [ev2_3]; first | rw [nm_fdI_x1 hy z7] | rw [nm_fdI_x2 hy z7 (by rw [← ev2_3]; exact z14)], rfl⟩
    · refine r_iload_n C dJ9_floorDiv_7cf53_17 rfl 0 rfl ?_
      refine r_iconst (v := 1) C dJ9_floorDiv_7cf53_18 rfl ?_
      refine r_isub C dJ9_floorDiv_7cf53_19 ?_
      exact r_iret C hret hlk9 dJ9_floorDiv_7cf53_20 ⟨by rw [ev2_3, nm_fdI_x3 hy z7 (by rw [← ev2_3]; exact z14)], rfl⟩

abbrev rmJ9_floorMod_7cf53 : Room := { frames := 0, cells := 0, slots := 0, locals := 0 }
set_option maxHeartbeats 400000 in
set_option maxRecDepth 100000 in
theorem kJ9_floorMod_7cf53 {l : Launch} {D : va_G} {ad : Nat → Nat} {q : Nat → ClassId} {A : Nat → Prop} (hAD : mm_AD ad A) {M : mm_M} {x y : Int32} (hy : 0 < y.toInt) : mm_Kd l D ad q A yJ9_floorMod_7cf53 wsJ9_floorMod_7cf53 rmJ9_floorMod_7cf53 [.int x, .int y] M (some (.int (nm_fmI x y))) M := by
  refine mm_of (cc := cJ9_floorMod_7cf53) (maxL := 3) (ret := some .int) (own := RJ9) rfl hAD (by decide +kernel) rfl (Nat.le_of_ble_eq_true rfl) ⟨rfl, rfl⟩ ?_
  intro pp ee ss mm bl mth cd C hret hlk9
  show mm_G _ _ _ _ _ _ _ _ _ _ _ _ _ _ _ _ _ _ M 0 [(0, .int x), (1, .int y)] []
  refine r_iload_n C dJ9_floorMod_7cf53_0 rfl 0 rfl ?_
  refine r_iload_n C dJ9_floorMod_7cf53_1 rfl 1 rfl ?_
  refine r_irem C dJ9_floorMod_7cf53_2 (nm_ne0I hy) ?_
  refine r_topi (fun v2_3 ev2_3 => ?_)
  refine r_istore_n (lv' := [(2, .int v2_3), (0, .int x), (1, .int y)]) C dJ9_floorMod_7cf53_3 rfl (by decide) rfl ?_
  refine r_iload_n C dJ9_floorMod_7cf53_4 rfl 1 rfl ?_
  refine r_iload_n C dJ9_floorMod_7cf53_5 rfl 2 rfl ?_
  refine r_ixor C dJ9_floorMod_7cf53_6 ?_
  refine r_if_ge (tgt := 18) C dJ9_floorMod_7cf53_7 (by decide) (fun z7 => ?_) (fun z7 => ?_)
  · refine r_iload_n C dJ9_floorMod_7cf53_18 rfl 0 rfl ?_
    exact r_iret C hret hlk9 dJ9_floorMod_7cf53_19 ⟨by first | rw [ev2_3, nm_fm_x1 hy (nm_xpos hy z7)] | rw [ev2_3, nm_fm_x2 hy (nm_xneg hy z7) (by rw [← ev2_3]; exact z11)], rfl⟩
  · refine r_iload_n C dJ9_floorMod_7cf53_10 rfl 0 rfl ?_
    refine r_if_eq (tgt := 18) C dJ9_floorMod_7cf53_11 (by decide) (fun z11 => ?_) (fun z11 => ?_)
    · refine r_iload_n C dJ9_floorMod_7cf53_18 rfl 0 rfl ?_
      exact r_iret C hret hlk9 dJ9_floorMod_7cf53_19 ⟨by first | rw [ev2_3, nm_fm_x1 hy (nm_xpos hy z7)] | rw [ev2_3, nm_fm_x2 hy (nm_xneg hy z7) (by rw [← ev2_3]; exact z11)], rfl⟩
    · refine r_iload_n C dJ9_floorMod_7cf53_14 rfl 0 rfl ?_
      refine r_iload_n C dJ9_floorMod_7cf53_15 rfl 2 rfl ?_
      refine r_iadd C dJ9_floorMod_7cf53_16 ?_
      exact r_iret C hret hlk9 dJ9_floorMod_7cf53_17 ⟨by rw [ev2_3, nm_fm_x3 hy (nm_xneg hy z7) (by rw [← ev2_3]; exact z11)], rfl⟩

abbrev rmJ9_floorDiv_f86c9 : Room := { frames := 0, cells := 0, slots := 0, locals := 0 }
set_option maxHeartbeats 400000 in
set_option maxRecDepth 100000 in
theorem kJ9_floorDiv_f86c9 {l : Launch} {D : va_G} {ad : Nat → Nat} {q : Nat → ClassId} {A : Nat → Prop} (hAD : mm_AD ad A) {M : mm_M} {x y : Int64} (hy : 0 < y.toInt) : mm_Kd l D ad q A yJ9_floorDiv_f86c9 wsJ9_floorDiv_f86c9 rmJ9_floorDiv_f86c9 [.long x, .long y] M (some (.long (nm_fdJ x y))) M := by
  refine mm_of (cc := cJ9_floorDiv_f86c9) (maxL := 6) (ret := some .long) (own := RJ9) rfl hAD (by decide +kernel) rfl (Nat.le_of_ble_eq_true rfl) ⟨rfl, rfl⟩ ?_
  intro pp ee ss mm bl mth cd C hret hlk9
  show mm_G _ _ _ _ _ _ _ _ _ _ _ _ _ _ _ _ _ _ M 0 [(0, .long x), (2, .long y)] []
  refine r_lload_n C dJ9_floorDiv_f86c9_0 rfl 0 rfl ?_
  refine r_lload_n C dJ9_floorDiv_f86c9_1 rfl 1 rfl ?_
  refine r_ldiv C dJ9_floorDiv_f86c9_2 (nm_ne0J hy) ?_
  refine r_topl (fun v4_3 ev4_3 => ?_)
  refine r_lstore (lv' := [(4, .long v4_3), (0, .long x), (2, .long y)]) C dJ9_floorDiv_f86c9_3 (by decide) rfl ?_
  refine r_lload_n C dJ9_floorDiv_f86c9_5 rfl 1 rfl ?_
  refine r_lload_n C dJ9_floorDiv_f86c9_6 rfl 2 rfl ?_
  refine r_lxor C dJ9_floorDiv_f86c9_7 ?_
  refine r_lconst (v := 0) C dJ9_floorDiv_f86c9_8 rfl ?_
  refine r_lcmp C dJ9_floorDiv_f86c9_9 ?_
  refine r_if_ge (tgt := 27) C dJ9_floorDiv_f86c9_10 (by decide) (fun z10 => ?_) (fun z10 => ?_)
  · refine r_lload C dJ9_floorDiv_f86c9_27 0 rfl ?_
    exact r_lret C hret hlk9 dJ9_floorDiv_f86c9_29 ⟨by first | rw [ev4_3, nm_fdJ_x1 hy ((lg_cmp_ge _ _).mp z10)] | rw [ev4_3, nm_fdJ_x2 hy (fun z => z10 ((lg_cmp_ge _ _).mpr z)) (by rw [← ev4_3]; exact lg_eq0.mp z19)], rfl⟩
  · refine r_lload C dJ9_floorDiv_f86c9_13 0 rfl ?_
    refine r_lload_n C dJ9_floorDiv_f86c9_15 rfl 2 rfl ?_
    refine r_lmul C dJ9_floorDiv_f86c9_16 ?_
    refine r_lload_n C dJ9_floorDiv_f86c9_17 rfl 1 rfl ?_
    refine r_lcmp C dJ9_floorDiv_f86c9_18 ?_
    refine r_if_eq (tgt := 27) C dJ9_floorDiv_f86c9_19 (by decide) (fun z19 => ?_) (fun z19 => ?_)
    · refine r_lload C dJ9_floorDiv_f86c9_27 0 rfl ?_
      exact r_lret C hret hlk9 dJ9_floorDiv_f86c9_29 ⟨by first | rw [ev4_3, nm_fdJ_x1 hy ((lg_cmp_ge _ _).mp z10)] | rw [ev4_3, nm_fdJ_x2 hy (fun z => z10 ((lg_cmp_ge _ _).mpr z)) (by rw [← ev4_3]; exact lg_eq0.mp z19)], rfl⟩
    · refine r_lload C dJ9_floorDiv_f86c9_22 0 rfl ?_
      refine r_lconst (v := 1) C dJ9_floorDiv_f86c9_24 rfl ?_
      refine r_lsub C dJ9_floorDiv_f86c9_25 ?_
      exact r_lret C hret hlk9 dJ9_floorDiv_f86c9_26 ⟨by rw [ev4_3, nm_fdJ_x3 hy (fun z => z10 ((lg_cmp_ge _ _).mpr z)) (fun z => z19 (lg_eq0.mpr (by rw [ev4_3]; exact z)))], rfl⟩

abbrev rmJ9_max_f86c9 : Room := { frames := 0, cells := 0, slots := 0, locals := 0 }
set_option maxHeartbeats 400000 in
set_option maxRecDepth 100000 in
theorem kJ9_max_f86c9 {l : Launch} {D : va_G} {ad : Nat → Nat} {q : Nat → ClassId} {A : Nat → Prop} (hAD : mm_AD ad A) {M : mm_M} {x y : Int64} : mm_Kd l D ad q A yJ9_max_f86c9 wsJ9_max_f86c9 rmJ9_max_f86c9 [.long x, .long y] M (some (.long (if x < y then y else x))) M := by
  refine mm_of (cc := cJ9_max_f86c9) (maxL := 4) (ret := some .long) (own := RJ9) rfl hAD (by decide +kernel) rfl (Nat.le_of_ble_eq_true rfl) ⟨rfl, rfl⟩ ?_
  intro pp ee ss mm bl mth cd C hret hlk9
  show mm_G _ _ _ _ _ _ _ _ _ _ _ _ _ _ _ _ _ _ M 0 [(0, .long x), (2, .long y)] []
  refine r_lload_n C dJ9_max_f86c9_0 rfl 0 rfl ?_
  refine r_lload_n C dJ9_max_f86c9_1 rfl 1 rfl ?_
  refine r_lcmp C dJ9_max_f86c9_2 ?_
  refine r_if_lt (tgt := 10) C dJ9_max_f86c9_3 (by decide) (fun z3 => ?_) (fun z3 => ?_)
  · refine r_lload_n C dJ9_max_f86c9_10 rfl 1 rfl ?_
    exact r_lret C hret hlk9 dJ9_max_f86c9_11 ⟨by first | rw [if_pos (lg_lt0.mp z3)] | rw [if_neg (fun z => z3 (lg_lt0.mpr z))], rfl⟩
  · refine r_lload_n C dJ9_max_f86c9_6 rfl 0 rfl ?_
    refine r_goto (tgt := 11) C dJ9_max_f86c9_7 (by decide) ?_
    exact r_lret C hret hlk9 dJ9_max_f86c9_11 ⟨by first | rw [if_pos (lg_lt0.mp z3)] | rw [if_neg (fun z => z3 (lg_lt0.mpr z))], rfl⟩

abbrev rmJ9_min_f86c9 : Room := { frames := 0, cells := 0, slots := 0, locals := 0 }
set_option maxHeartbeats 400000 in
set_option maxRecDepth 100000 in
theorem kJ9_min_f86c9 {l : Launch} {D : va_G} {ad : Nat → Nat} {q : Nat → ClassId} {A : Nat → Prop} (hAD : mm_AD ad A) {M : mm_M} {x y : Int64} : mm_Kd l D ad q A yJ9_min_f86c9 wsJ9_min_f86c9 rmJ9_min_f86c9 [.long x, .long y] M (some (.long (if y < x then y else x))) M := by
  refine mm_of (cc := cJ9_min_f86c9) (maxL := 4) (ret := some .long) (own := RJ9) rfl hAD (by decide +kernel) rfl (Nat.le_of_ble_eq_true rfl) ⟨rfl, rfl⟩ ?_
  intro pp ee ss mm bl mth cd C hret hlk9
  show mm_G _ _ _ _ _ _ _ _ _ _ _ _ _ _ _ _ _ _ M 0 [(0, .long x), (2, .long y)] []
  refine r_lload_n C dJ9_min_f86c9_0 rfl 0 rfl ?_
  refine r_lload_n C dJ9_min_f86c9_1 rfl 1 rfl ?_
  refine r_lcmp C dJ9_min_f86c9_2 ?_
  refine r_if_gt (tgt := 10) C dJ9_min_f86c9_3 (by decide) (fun z3 => ?_) (fun z3 => ?_)
  · refine r_lload_n C dJ9_min_f86c9_10 rfl 1 rfl ?_
    exact r_lret C hret hlk9 dJ9_min_f86c9_11 ⟨by first | rw [if_pos (lg_gt0.mp z3)] | rw [if_neg (fun z => z3 (lg_gt0.mpr z))], rfl⟩
  · refine r_lload_n C dJ9_min_f86c9_6 rfl 0 rfl ?_
    refine r_goto (tgt := 11) C dJ9_min_f86c9_7 (by decide) ?_
    exact r_lret C hret hlk9 dJ9_min_f86c9_11 ⟨by first | rw [if_pos (lg_gt0.mp z3)] | rw [if_neg (fun z => z3 (lg_gt0.mpr z))], rfl⟩

abbrev rmJ9_min_7cf53 : Room := { frames := 0, cells := 0, slots := 0, locals := 0 }
set_option maxHeartbeats 400000 in
set_option maxRecDepth 100000 in
theorem kJ9_min_7cf53 {l : Launch} {D : va_G} {ad : Nat → Nat} {q : Nat → ClassId} {A : Nat → Prop} (hAD : mm_AD ad A) {M : mm_M} {x y : Int32} : mm_Kd l D ad q A yJ9_min_7cf53 wsJ9_min_7cf53 rmJ9_min_7cf53 [.int x, .int y] M (some (.int (if y < x then y else x))) M := by
  refine mm_of (cc := cJ9_min_7cf53) (maxL := 2) (ret := some .int) (own := RJ9) rfl hAD (by decide +kernel) rfl (Nat.le_of_ble_eq_true rfl) ⟨rfl, rfl⟩ ?_
  intro pp ee ss mm bl mth cd C hret hlk9
  show mm_G _ _ _ _ _ _ _ _ _ _ _ _ _ _ _ _ _ _ M 0 [(0, .int x), (1, .int y)] []
  refine r_iload_n C dJ9_min_7cf53_0 rfl 0 rfl ?_
  refine r_iload_n C dJ9_min_7cf53_1 rfl 1 rfl ?_
  refine r_icmp_gt (tgt := 9) C dJ9_min_7cf53_2 (by decide) (fun z2 => ?_) (fun z2 => ?_)
  · refine r_iload_n C dJ9_min_7cf53_9 rfl 1 rfl ?_
    exact r_iret C hret hlk9 dJ9_min_7cf53_10 ⟨by simp [*], by first | rfl | (subst_vars; rfl)⟩
  · refine r_iload_n C dJ9_min_7cf53_5 rfl 0 rfl ?_
    refine r_goto (tgt := 10) C dJ9_min_7cf53_6 (by decide) ?_
    exact r_iret C hret hlk9 dJ9_min_7cf53_10 ⟨by simp [*], by first | rfl | (subst_vars; rfl)⟩

def mc_fill (M : mm_M) (x : Int64) (n : Nat) : mm_M := mm_row M 4 n (fun _ => x)
abbrev rmJ7_fill_d0a16 : Room := { frames := 0, cells := 0, slots := 0, locals := 0 }
set_option maxHeartbeats 400000 in
set_option maxRecDepth 100000 in
theorem kJ7_fill_d0a16 {l : Launch} {D : va_G} {ad : Nat → Nat} {q : Nat → ClassId} {A : Nat → Prop} (hAD : mm_AD ad A) {M : mm_M} {x : Int64} : mm_Kd l D ad q A yJ7_fill_d0a16 wsJ7_fill_d0a16 rmJ7_fill_d0a16 [.ref (ad 4), .long x] M none (mc_fill M x 32) := by
  refine mm_of (cc := cJ7_fill_d0a16) (maxL := 5) (ret := none) (own := RJ7) rfl hAD (by decide +kernel) rfl (Nat.le_of_ble_eq_true rfl) ⟨rfl, rfl⟩ ?_
  intro pp ee ss mm bl mth cd C hret hlk9
  show mm_G _ _ _ _ _ _ _ _ _ _ _ _ _ _ _ _ _ _ M 0 [(0, .ref (ad 4)), (1, .long x)] []
  refine r_iconst (v := 0) C dJ7_fill_d0a16_0 rfl ?_
  refine r_istore_n (lv' := [(3, .int 0), (0, .ref (ad 4)), (1, .long x)]) C dJ7_fill_d0a16_1 rfl (by decide) rfl ?_
  refine r_aload_n C dJ7_fill_d0a16_2 rfl 1 rfl ?_
  refine r_alenJ C mm_aJ_4 dJ7_fill_d0a16_3 ?_
  refine r_topi (fun v4_4 ev4_4 => ?_)
  refine r_istore (lv' := [(4, .int v4_4), (3, .int 0), (0, .ref (ad 4)), (1, .long x)]) C dJ7_fill_d0a16_4 (by decide) rfl ?_
  have L6 : ∀ (k9 : Nat) (n : Nat) (hn : n ≤ 32), 32 - n < k9 → mm_G pp l ee rmJ7_fill_d0a16 ss mm ([.ref (ad 4), .long x] : List Value).toArray bl mth cd 0 0 (MQ bl (mm_Q D ad q A (fun v' u => v' = none ∧ u = mc_fill M x 32)) ([.ref (ad 4), .long x] : List Value).toArray ss 0 0 A) 5 D ad q A (mc_fill M x n) 6 [(3, .int (nI n)), (4, .int (nI 32)), (0, .ref (ad 4)), (1, .long x)] [] := by
    intro k9
    induction k9 with
    | zero => intro n hn h9; exact absurd h9 (Nat.not_lt_zero _)
    | succ k9 ih6 =>
      intro n hn h9
      refine r_iload_n C dJ7_fill_d0a16_6 rfl 0 rfl ?_
      refine r_iload C dJ7_fill_d0a16_7 1 rfl ?_
      refine r_icmp_ge (tgt := 22) C dJ7_fill_d0a16_9 (by decide) (fun z9 => ?_) (fun z9 => ?_)
      · obtain rfl : n = 32 := nm_ge hn (by decide) z9
        exact r_vret C hret hlk9 dJ7_fill_d0a16_22 ⟨by first | rfl | (subst_vars; rfl) | (subst_vars; simp [*]), by first | rfl | (subst_vars; rfl)⟩
      · have hlt : n < 32 := nm_lt (by omega) (by decide) z9
        refine r_aload_n C dJ7_fill_d0a16_12 rfl 2 rfl ?_
        refine r_iload_n C dJ7_fill_d0a16_13 rfl 0 rfl ?_
        refine r_lload_n C dJ7_fill_d0a16_14 rfl 3 rfl ?_
        refine r_last C mm_aJ_4 (n) (nI_toInt (by omega)) (hlt) dJ7_fill_d0a16_15 ?_
        obtain ⟨v3_16, ev3_16⟩ : ∃ y9 : Int32, y9 = (nI n) + 1 := ⟨_, rfl⟩
        refine r_iinc (v := v3_16) (lv' := [(3, .int v3_16), (4, .int (nI 32)), (0, .ref (ad 4)), (1, .long x)]) C dJ7_fill_d0a16_16 0 rfl (by rw [ev3_16]; rfl) (by decide) rfl ?_
        refine r_goto (tgt := 6) C dJ7_fill_d0a16_19 (by decide) ?_
        refine r_cast (M' := mc_fill M x (n + 1)) (lv' := [(3, .int (nI (n + 1))), (4, .int (nI 32)), (0, .ref (ad 4)), (1, .long x)]) (st' := []) mm_row_s (by rw [ev3_16, nI_1]) rfl (ih6 (n + 1) (by omega) (by omega))
  refine r_sub (lv' := [(3, .int 0), (4, .int v4_4), (0, .ref (ad 4)), (1, .long x)]) [1, 0, 2, 3] rfl ?_
  refine r_cast (M' := mc_fill M x 0) (lv' := [(3, .int (nI 0)), (4, .int (nI 32)), (0, .ref (ad 4)), (1, .long x)]) (st' := []) mm_row_0 (by rw [ev4_4]; rfl) rfl (L6 (32 - 0 + 1) 0 (by omega) (by omega))

abbrev rmX3_slotOf : Room := { frames := 0, cells := 0, slots := 0, locals := 0 }
set_option maxHeartbeats 400000 in
set_option maxRecDepth 100000 in
theorem kX3_slotOf {l : Launch} {D : va_G} {ad : Nat → Nat} {q : Nat → ClassId} {A : Nat → Prop} (hAD : mm_AD ad A) {M : mm_M} {x : Int32} : mm_Kd l D ad q A yX3_slotOf wsX3_slotOf rmX3_slotOf [.int x] M (some (.int (x &&& 63))) M := by
  refine mm_of (cc := cX3_slotOf) (maxL := 1) (ret := some .int) (own := RX3) rfl hAD (plainFor_of_name (by decide)) rfl (Nat.le_of_ble_eq_true rfl) ⟨rfl, rfl⟩ ?_
  intro pp ee ss mm bl mth cd C hret hlk9
  show mm_G _ _ _ _ _ _ _ _ _ _ _ _ _ _ _ _ _ _ M 0 [(0, .int x)] []
  refine r_iload_n C dX3_slotOf_0 rfl 0 rfl ?_
  refine r_bipush (v := (63)) C dX3_slotOf_1 rfl ?_
  refine r_iand C dX3_slotOf_3 ?_
  exact r_iret C hret hlk9 dX3_slotOf_4 ⟨by first | rfl | (subst_vars; rfl) | (subst_vars; simp [*]), by first | rfl | (subst_vars; rfl)⟩

abbrev rmX3_beginAt : Room := { frames := 0, cells := 0, slots := 0, locals := 0 }
set_option maxHeartbeats 400000 in
set_option maxRecDepth 100000 in
theorem kX3_beginAt {l : Launch} {D : va_G} {ad : Nat → Nat} {q : Nat → ClassId} {A : Nat → Prop} (hAD : mm_AD ad A) {i : Nat} (hi : i < 8) {M : mm_M} {x : Int32} : mm_Kd l D ad q A yX3_beginAt wsX3_beginAt rmX3_beginAt [.ref (ad (18 + i)), .int x] M none (mm_sI (mm_sI M (18 + i) 1 x) (18 + i) 2 x) := by
  have inX3 : ∀ w ∈ wsX30, w ∈ wsX3_beginAt := by decide +kernel
  have f15 : Cond.fieldLink RX3 15 "Beamrow$Tape" "begin" "I" ∈ wsX3_beginAt := by decide +kernel
  have f19 : Cond.fieldLink RX3 19 "Beamrow$Tape" "end" "I" ∈ wsX3_beginAt := by decide +kernel
  refine mm_of (cc := cX3_beginAt) (maxL := 2) (ret := none) (own := RX3) rfl hAD (plainFor_of_name (by decide)) rfl (Nat.le_of_ble_eq_true rfl) ⟨rfl, rfl⟩ ?_
  intro pp ee ss mm bl mth cd C hret hlk9
  show mm_G _ _ _ _ _ _ _ _ _ _ _ _ _ _ _ _ _ _ M 0 [(0, .ref (ad (18 + i))), (1, .int x)] []
  refine r_aload_n C dX3_beginAt_0 rfl 0 rfl ?_
  refine r_iload_n C dX3_beginAt_1 rfl 1 rfl ?_
  refine r_put3 C hi inX3 (ty := .int) 1 (by decide) mm_set3_1 f15 rfl rfl (by decide +kernel) rfl rfl dX3_beginAt_2 ?_
  refine r_aload_n C dX3_beginAt_5 rfl 0 rfl ?_
  refine r_iload_n C dX3_beginAt_6 rfl 1 rfl ?_
  refine r_put3 C hi inX3 (ty := .int) 2 (by decide) mm_set3_2 f19 rfl rfl (by decide +kernel) rfl rfl dX3_beginAt_7 ?_
  exact r_vret C hret hlk9 dX3_beginAt_10 ⟨by first | rfl | (subst_vars; rfl) | (subst_vars; simp [*]), by first | rfl | (subst_vars; rfl)⟩

def mc_keeps (M : mm_M) (i : Nat) (x : Int32) : Int32 := if x < 0 then 0 else if 64 ≤ x then 0 else if M.1 (18 + i) 2 - 64 + x < M.1 (18 + i) 1 then 0 else 1
abbrev rmX3_keeps : Room := { frames := 0, cells := 0, slots := 0, locals := 0 }
set_option maxHeartbeats 400000 in
set_option maxRecDepth 100000 in
theorem kX3_keeps {l : Launch} {D : va_G} {ad : Nat → Nat} {q : Nat → ClassId} {A : Nat → Prop} (hAD : mm_AD ad A) {i : Nat} (hi : i < 8) {M : mm_M} {x : Int32} : mm_Kd l D ad q A yX3_keeps wsX3_keeps rmX3_keeps [.ref (ad (18 + i)), .int x] M (some (.int (mc_keeps M i x))) M := by
  have inX3 : ∀ w ∈ wsX30, w ∈ wsX3_keeps := by decide +kernel
  have f15 : Cond.fieldLink RX3 15 "Beamrow$Tape" "begin" "I" ∈ wsX3_keeps := by decide +kernel
  have f19 : Cond.fieldLink RX3 19 "Beamrow$Tape" "end" "I" ∈ wsX3_keeps := by decide +kernel
  refine mm_of (cc := cX3_keeps) (maxL := 2) (ret := some .boolean) (own := RX3) rfl hAD (plainFor_of_name (by decide)) rfl (Nat.le_of_ble_eq_true rfl) ⟨rfl, rfl⟩ ?_
  intro pp ee ss mm bl mth cd C hret hlk9
  show mm_G _ _ _ _ _ _ _ _ _ _ _ _ _ _ _ _ _ _ M 0 [(0, .ref (ad (18 + i))), (1, .int x)] []
  refine r_iload_n C dX3_keeps_0 rfl 1 rfl ?_
  refine r_if_lt (tgt := 30) C dX3_keeps_1 (by decide) (fun z1 => ?_) (fun z1 => ?_)
  · refine r_iconst (v := 0) C dX3_keeps_30 rfl ?_
    exact r_zret C hret (by first | decide | assumption) hlk9 dX3_keeps_31 ⟨by simp only [mc_keeps]; simp [*], by first | rfl | (subst_vars; rfl)⟩
  · refine r_iload_n C dX3_keeps_4 rfl 1 rfl ?_
    refine r_bipush (v := (64)) C dX3_keeps_5 rfl ?_
    refine r_icmp_ge (tgt := 30) C dX3_keeps_7 (by decide) (fun z7 => ?_) (fun z7 => ?_)
    · refine r_iconst (v := 0) C dX3_keeps_30 rfl ?_
      exact r_zret C hret (by first | decide | assumption) hlk9 dX3_keeps_31 ⟨by simp only [mc_keeps]; simp [*], by first | rfl | (subst_vars; rfl)⟩
    · refine r_aload_n C dX3_keeps_10 rfl 0 rfl ?_
      refine r_get3 C hi inX3 2 (by decide) rfl f19 rfl dX3_keeps_11 ?_
      refine r_bipush (v := (64)) C dX3_keeps_14 rfl ?_
      refine r_isub C dX3_keeps_16 ?_
      refine r_iload_n C dX3_keeps_17 rfl 1 rfl ?_
      refine r_iadd C dX3_keeps_18 ?_
      refine r_aload_n C dX3_keeps_19 rfl 0 rfl ?_
      refine r_get3 C hi inX3 1 (by decide) rfl f15 rfl dX3_keeps_20 ?_
      refine r_icmp_lt (tgt := 30) C dX3_keeps_23 (by decide) (fun z23 => ?_) (fun z23 => ?_)
      · refine r_iconst (v := 0) C dX3_keeps_30 rfl ?_
        exact r_zret C hret (by first | decide | assumption) hlk9 dX3_keeps_31 ⟨by simp only [mc_keeps]; simp [*], by first | rfl | (subst_vars; rfl)⟩
      · refine r_iconst (v := 1) C dX3_keeps_26 rfl ?_
        refine r_goto (tgt := 31) C dX3_keeps_27 (by decide) ?_
        exact r_zret C hret (by first | decide | assumption) hlk9 dX3_keeps_31 ⟨by simp only [mc_keeps]; simp [*], by first | rfl | (subst_vars; rfl)⟩

def mc_at (M : mm_M) (i : Nat) (x : Int32) : Int32 := if mc_keeps M i x = 0 then 0 else M.1 (26 + i) (nm_sl (M.1 (18 + i) 2 - 64 + x))
abbrev rmX3_at : Room := { frames := 1, cells := 0, slots := 0, locals := 21 }
set_option maxHeartbeats 400000 in
set_option maxRecDepth 100000 in
theorem kX3_at {l : Launch} {D : va_G} {ad : Nat → Nat} {q : Nat → ClassId} {A : Nat → Prop} (hAD : mm_AD ad A) {i : Nat} (hi : i < 8) {M : mm_M} {x : Int32} : mm_Kd l D ad q A yX3_at wsX3_at rmX3_at [.ref (ad (18 + i)), .int x] M (some (.int (mc_at M i x))) M := by
  have inX3 : ∀ w ∈ wsX30, w ∈ wsX3_at := by decide +kernel
  have f9 : Cond.fieldLink RX3 9 "Beamrow$Tape" "slots" "[I" ∈ wsX3_at := by decide +kernel
  have f19 : Cond.fieldLink RX3 19 "Beamrow$Tape" "end" "I" ∈ wsX3_at := by decide +kernel
  refine mm_of (cc := cX3_at) (maxL := 3) (ret := some .int) (own := RX3) rfl hAD (plainFor_of_name (by decide)) rfl (Nat.le_of_ble_eq_true rfl) ⟨rfl, rfl⟩ ?_
  intro pp ee ss mm bl mth cd C hret hlk9
  show mm_G _ _ _ _ _ _ _ _ _ _ _ _ _ _ _ _ _ _ M 0 [(0, .ref (ad (18 + i))), (1, .int x)] []
  refine r_aload_n C dX3_at_0 rfl 0 rfl ?_
  refine r_get3 C hi inX3 2 (by decide) rfl f19 rfl dX3_at_1 ?_
  refine r_bipush (v := (64)) C dX3_at_4 rfl ?_
  refine r_isub C dX3_at_6 ?_
  refine r_iload_n C dX3_at_7 rfl 1 rfl ?_
  refine r_iadd C dX3_at_8 ?_
  refine r_callS1I C (kX3_slotOf hAD) (va_cwS 1 C.1.2.2.2.2 gX3_at_X3_slotOf rfl rfl rfl (by decide +kernel) ⟨Nat.le_of_ble_eq_true rfl, Nat.le_of_ble_eq_true rfl⟩) (Nat.le_of_ble_eq_true rfl) dX3_at_9 ⟨rfl, rfl⟩ ⟨Nat.zero_le _, Nat.zero_le _⟩ ?_
  refine r_topi (fun v2_12 ev2_12 => ?_)
  refine r_istore_n (lv' := [(2, .int v2_12), (0, .ref (ad (18 + i))), (1, .int x)]) C dX3_at_12 rfl (by decide) rfl ?_
  refine r_aload_n C dX3_at_13 rfl 1 rfl ?_
  refine r_iload_n C dX3_at_14 rfl 2 rfl ?_
  refine r_callV1I C 3 (by have := hi; omega) rfl (mm_ct3 ad q _ hi) (kX3_keeps hAD hi) (cwV 1 C.1.2.2.2.2 gX3_at_X3_keeps rfl rfl rfl (by decide +kernel) ⟨Nat.le_of_ble_eq_true rfl, Nat.le_of_ble_eq_true rfl⟩) (Nat.le_of_ble_eq_true rfl) dX3_at_15 ⟨rfl, rfl⟩ ⟨Nat.zero_le _, Nat.zero_le _⟩ ?_
  refine r_if_eq (tgt := 39) C dX3_at_18 (by decide) (fun z18 => ?_) (fun z18 => ?_)
  · refine r_iconst (v := 0) C dX3_at_39 rfl ?_
    exact r_iret C hret hlk9 dX3_at_40 ⟨by simp only [mc_at]; simp [*], by first | rfl | (subst_vars; rfl)⟩
  · refine r_iload_n C dX3_at_21 rfl 0 rfl ?_
    refine r_aload_n C dX3_at_22 rfl 1 rfl ?_
    refine r_get3 C hi inX3 0 (by decide) rfl f9 rfl dX3_at_23 ?_
    refine r_alenI C (mm_aI_slots hi) dX3_at_26 ?_
    refine r_icmp_geF (tgt := 39) C dX3_at_27 (by decide) (by rw [ev2_12]; exact nm_sl_nge) ?_
    refine r_aload_n C dX3_at_30 rfl 1 rfl ?_
    refine r_get3 C hi inX3 0 (by decide) rfl f9 rfl dX3_at_31 ?_
    refine r_iload_n C dX3_at_34 rfl 0 rfl ?_
    refine r_iald C (mm_aI_slots hi) (nm_sl (M.1 (18 + i) 2 - 64 + x)) (by rw [ev2_12]; exact nm_sl_i) (nm_sl_lt) dX3_at_35 ?_
    refine r_goto (tgt := 40) C dX3_at_36 (by decide) ?_
    exact r_iret C hret hlk9 dX3_at_40 ⟨by simp only [mc_at]; simp [*], by first | rfl | (subst_vars; rfl)⟩

def mc_add (M : mm_M) (i : Nat) (x : Int32) : mm_M := mm_sI (mm_sI M (26 + i) (nm_sl (M.1 (18 + i) 2)) x) (18 + i) 2 ((mm_sI M (26 + i) (nm_sl (M.1 (18 + i) 2)) x).1 (18 + i) 2 + 1)
abbrev rmX3_add : Room := { frames := 1, cells := 0, slots := 0, locals := 20 }
set_option maxHeartbeats 400000 in
set_option maxRecDepth 100000 in
theorem kX3_add {l : Launch} {D : va_G} {ad : Nat → Nat} {q : Nat → ClassId} {A : Nat → Prop} (hAD : mm_AD ad A) {i : Nat} (hi : i < 8) {M : mm_M} {x : Int32} : mm_Kd l D ad q A yX3_add wsX3_add rmX3_add [.ref (ad (18 + i)), .int x] M none (mc_add M i x) := by
  have inX3 : ∀ w ∈ wsX30, w ∈ wsX3_add := by decide +kernel
  have f9 : Cond.fieldLink RX3 9 "Beamrow$Tape" "slots" "[I" ∈ wsX3_add := by decide +kernel
  have f19 : Cond.fieldLink RX3 19 "Beamrow$Tape" "end" "I" ∈ wsX3_add := by decide +kernel
  refine mm_of (cc := cX3_add) (maxL := 3) (ret := none) (own := RX3) rfl hAD (plainFor_of_name (by decide)) rfl (Nat.le_of_ble_eq_true rfl) ⟨rfl, rfl⟩ ?_
  intro pp ee ss mm bl mth cd C hret hlk9
  show mm_G _ _ _ _ _ _ _ _ _ _ _ _ _ _ _ _ _ _ M 0 [(0, .ref (ad (18 + i))), (1, .int x)] []
  refine r_aload_n C dX3_add_0 rfl 0 rfl ?_
  refine r_get3 C hi inX3 2 (by decide) rfl f19 rfl dX3_add_1 ?_
  refine r_callS1I C (kX3_slotOf hAD) (va_cwS 1 C.1.2.2.2.2 gX3_add_X3_slotOf rfl rfl rfl (by decide +kernel) ⟨Nat.le_of_ble_eq_true rfl, Nat.le_of_ble_eq_true rfl⟩) (Nat.le_of_ble_eq_true rfl) dX3_add_4 ⟨rfl, rfl⟩ ⟨Nat.zero_le _, Nat.zero_le _⟩ ?_
  refine r_topi (fun v2_7 ev2_7 => ?_)
  refine r_istore_n (lv' := [(2, .int v2_7), (0, .ref (ad (18 + i))), (1, .int x)]) C dX3_add_7 rfl (by decide) rfl ?_
  refine r_iload_n C dX3_add_8 rfl 0 rfl ?_
  refine r_aload_n C dX3_add_9 rfl 1 rfl ?_
  refine r_get3 C hi inX3 0 (by decide) rfl f9 rfl dX3_add_10 ?_
  refine r_alenI C (mm_aI_slots hi) dX3_add_13 ?_
  refine r_icmp_geF (tgt := 24) C dX3_add_14 (by decide) (by rw [ev2_7]; exact nm_sl_nge) ?_
  refine r_aload_n C dX3_add_17 rfl 1 rfl ?_
  refine r_get3 C hi inX3 0 (by decide) rfl f9 rfl dX3_add_18 ?_
  refine r_iload_n C dX3_add_21 rfl 0 rfl ?_
  refine r_iload_n C dX3_add_22 rfl 2 rfl ?_
  refine r_iast C (mm_aI_slots hi) (nm_sl (M.1 (18 + i) 2)) (by rw [ev2_7]; exact nm_sl_i) (nm_sl_lt) dX3_add_23 ?_
  refine r_aload_n C dX3_add_24 rfl 1 rfl ?_
  refine r_dup C dX3_add_25 rfl ?_
  refine r_get3 C hi inX3 2 (by decide) rfl f19 rfl dX3_add_26 ?_
  refine r_iconst (v := 1) C dX3_add_29 rfl ?_
  refine r_iadd C dX3_add_30 ?_
  refine r_put3 C hi inX3 (ty := .int) 2 (by decide) mm_set3_2 f19 rfl rfl (by decide +kernel) rfl rfl dX3_add_31 ?_
  exact r_vret C hret hlk9 dX3_add_34 ⟨by first | rfl | (subst_vars; rfl) | (subst_vars; simp [*]), by first | rfl | (subst_vars; rfl)⟩
