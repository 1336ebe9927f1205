def mc_pAt (M : mm_M) (x : Int32) : Int64 := if x < 0 then 0 else if nI 9 ≤ x then 0 else M.2 5 x.toInt.toNat
abbrev rmX4_powerAt : Room := { frames := 0, cells := 0, slots := 0, locals := 0 }
set_option maxHeartbeats 400000 in
set_option maxRecDepth 100000 in
theorem kX4_powerAt {l : Launch} {D : va_G} {ad : Nat → Nat} {q : Nat → ClassId} {A : Nat → Prop} (hAD : mm_AD ad A) {M : mm_M} {x : Int32} : mm_Kd l D ad q A yX4_powerAt wsX4_powerAt rmX4_powerAt [.ref (ad 0), .int x] M (some (.long (mc_pAt M x))) M := by
  have inX4 : ∀ w ∈ wsX40, w ∈ wsX4_powerAt := by decide +kernel
  have f32 : Cond.fieldLink RX4 32 "Beamrow" "powers" "[J" ∈ wsX4_powerAt := by decide +kernel
  refine mm_of (cc := cX4_powerAt) (maxL := 2) (ret := some .long) (own := RX4) rfl hAD (plainFor_of_name (by decide)) rfl (Nat.le_of_ble_eq_true rfl) ⟨rfl, rfl⟩ ?_
  intro pp ee ss mm bl mth cd C hret hlk9
  show mm_G _ _ _ _ _ _ _ _ _ _ _ _ _ _ _ _ _ _ M 0 [(0, .ref (ad 0)), (1, .int x)] []
  refine r_iload_n C dX4_powerAt_0 rfl 1 rfl ?_
  refine r_if_lt (tgt := 22) C dX4_powerAt_1 (by decide) (fun z1 => ?_) (fun z1 => ?_)
  · refine r_lconst (v := 0) C dX4_powerAt_22 rfl ?_
    exact r_lret C hret hlk9 dX4_powerAt_23 ⟨by simp only [mc_pAt]; simp [*], by first | rfl | (subst_vars; rfl)⟩
  · refine r_iload_n C dX4_powerAt_4 rfl 1 rfl ?_
    refine r_aload_n C dX4_powerAt_5 rfl 0 rfl ?_
    refine r_get4 C inX4 4 (by decide) rfl f32 rfl dX4_powerAt_6 ?_
    refine r_alenJ C mm_aJ_5 dX4_powerAt_9 ?_
    refine r_icmp_ge (tgt := 22) C dX4_powerAt_10 (by decide) (fun z10 => ?_) (fun z10 => ?_)
    · refine r_lconst (v := 0) C dX4_powerAt_22 rfl ?_
      exact r_lret C hret hlk9 dX4_powerAt_23 ⟨by simp only [mc_pAt]; simp [*], by first | rfl | (subst_vars; rfl)⟩
    · refine r_aload_n C dX4_powerAt_13 rfl 0 rfl ?_
      refine r_get4 C inX4 4 (by decide) rfl f32 rfl dX4_powerAt_14 ?_
      refine r_iload_n C dX4_powerAt_17 rfl 1 rfl ?_
      refine r_lald C mm_aJ_5 (x.toInt.toNat) (nm_ix z1) (nm_ixlt z1 (by decide) z10) dX4_powerAt_18 ?_
      refine r_goto (tgt := 23) C dX4_powerAt_19 (by decide) ?_
      exact r_lret C hret hlk9 dX4_powerAt_23 ⟨by simp only [mc_pAt]; simp [*], by first | rfl | (subst_vars; rfl)⟩

def mc_peak (M : mm_M) (x : Int32) : Int32 := if lg_cmp (mc_pAt M x) 0 ≤ 0 then 0 else if lg_cmp (mc_pAt M x) (mc_pAt M (x - 1)) ≤ 0 then 0 else if lg_cmp (mc_pAt M x) (mc_pAt M (x + 1)) ≤ 0 then 0 else 1
theorem mc_peak_z (M : mm_M) (x : Int32) : mc_peak M x &&& 1 = mc_peak M x := by unfold mc_peak; split; decide; split; decide; split <;> decide
abbrev rmX4_isPeak : Room := { frames := 1, cells := 0, slots := 0, locals := 21 }
set_option maxHeartbeats 400000 in
set_option maxRecDepth 100000 in
theorem kX4_isPeak {l : Launch} {D : va_G} {ad : Nat → Nat} {q : Nat → ClassId} {A : Nat → Prop} (hAD : mm_AD ad A) {M : mm_M} {x : Int32} : mm_Kd l D ad q A yX4_isPeak wsX4_isPeak rmX4_isPeak [.ref (ad 0), .int x] M (some (.int (mc_peak M x))) M := by
  refine mm_of (cc := cX4_isPeak) (maxL := 4) (ret := some .boolean) (own := RX4) rfl hAD (plainFor_of_name (by decide)) rfl (Nat.le_of_ble_eq_true rfl) ⟨rfl, rfl⟩ ?_
  intro pp ee ss mm bl mth cd C hret hlk9
  show mm_G _ _ _ _ _ _ _ _ _ _ _ _ _ _ _ _ _ _ M 0 [(0, .ref (ad 0)), (1, .int x)] []
  refine r_aload_n C dX4_isPeak_0 rfl 0 rfl ?_
  refine r_iload_n C dX4_isPeak_1 rfl 1 rfl ?_
  refine r_callV1J C 4 (by decide) rfl (mm_ct4 ad q _) (kX4_powerAt hAD) (cwV 1 C.1.2.2.2.2 gX4_isPeak_X4_powerAt rfl rfl rfl (by decide +kernel) ⟨Nat.le_of_ble_eq_true rfl, Nat.le_of_ble_eq_true rfl⟩) (Nat.le_of_ble_eq_true rfl) dX4_isPeak_2 ⟨rfl, rfl⟩ ⟨Nat.zero_le _, Nat.zero_le _⟩ ?_
  refine r_topl (fun v2_5 ev2_5 => ?_)
  refine r_lstore_n (lv' := [(2, .long v2_5), (0, .ref (ad 0)), (1, .int x)]) C dX4_isPeak_5 rfl (by decide) rfl ?_
  refine r_lload_n C dX4_isPeak_6 rfl 0 rfl ?_
  refine r_lconst (v := 0) C dX4_isPeak_7 rfl ?_
  refine r_lcmp C dX4_isPeak_8 ?_
  refine r_if_le (tgt := 40) C dX4_isPeak_9 (by decide) (fun z9 => ?_) (fun z9 => ?_)
  · refine r_iconst (v := 0) C dX4_isPeak_40 rfl ?_
    exact r_zret C hret (by first | decide | assumption) hlk9 dX4_isPeak_41 ⟨by subst_vars; simp only [mc_peak]; simp [*], by first | rfl | (subst_vars; rfl)⟩
  · refine r_lload_n C dX4_isPeak_12 rfl 0 rfl ?_
    refine r_aload_n C dX4_isPeak_13 rfl 1 rfl ?_
    refine r_iload_n C dX4_isPeak_14 rfl 2 rfl ?_
    refine r_iconst (v := 1) C dX4_isPeak_15 rfl ?_
    refine r_isub C dX4_isPeak_16 ?_
    refine r_callV1J C 4 (by decide) rfl (mm_ct4 ad q _) (kX4_powerAt hAD) (cwV 1 C.1.2.2.2.2 gX4_isPeak_X4_powerAt rfl rfl rfl (by decide +kernel) ⟨Nat.le_of_ble_eq_true rfl, Nat.le_of_ble_eq_true rfl⟩) (Nat.le_of_ble_eq_true rfl) dX4_isPeak_17 ⟨rfl, rfl⟩ ⟨Nat.zero_le _, Nat.zero_le _⟩ ?_
    refine r_lcmp C dX4_isPeak_20 ?_
    refine r_if_le (tgt := 40) C dX4_isPeak_21 (by decide) (fun z21 => ?_) (fun z21 => ?_)
    · refine r_iconst (v := 0) C dX4_isPeak_40 rfl ?_
      exact r_zret C hret (by first | decide | assumption) hlk9 dX4_isPeak_41 ⟨by subst_vars; simp only [mc_peak]; simp [*], by first | rfl | (subst_vars; rfl)⟩
    · refine r_lload_n C dX4_isPeak_24 rfl 0 rfl ?_
      refine r_aload_n C dX4_isPeak_25 rfl 1 rfl ?_
      refine r_iload_n C dX4_isPeak_26 rfl 2 rfl ?_
      refine r_iconst (v := 1) C dX4_isPeak_27 rfl ?_
      refine r_iadd C dX4_isPeak_28 ?_
      refine r_callV1J C 4 (by decide) rfl (mm_ct4 ad q _) (kX4_powerAt hAD) (cwV 1 C.1.2.2.2.2 gX4_isPeak_X4_powerAt rfl rfl rfl (by decide +kernel) ⟨Nat.le_of_ble_eq_true rfl, Nat.le_of_ble_eq_true rfl⟩) (Nat.le_of_ble_eq_true rfl) dX4_isPeak_29 ⟨rfl, rfl⟩ ⟨Nat.zero_le _, Nat.zero_le _⟩ ?_
      refine r_lcmp C dX4_isPeak_32 ?_
      refine r_if_le (tgt := 40) C dX4_isPeak_33 (by decide) (fun z33 => ?_) (fun z33 => ?_)
      · refine r_iconst (v := 0) C dX4_isPeak_40 rfl ?_
        exact r_zret C hret (by first | decide | assumption) hlk9 dX4_isPeak_41 ⟨by subst_vars; simp only [mc_peak]; simp [*], by first | rfl | (subst_vars; rfl)⟩
      · refine r_iconst (v := 1) C dX4_isPeak_36 rfl ?_
        refine r_goto (tgt := 41) C dX4_isPeak_37 (by decide) ?_
        exact r_zret C hret (by first | decide | assumption) hlk9 dX4_isPeak_41 ⟨by subst_vars; simp only [mc_peak]; simp [*], by first | rfl | (subst_vars; rfl)⟩

def mc_fs (M : mm_M) (g : Int64) : Nat → Nat → Int32
  | 0, _ => -99
  | r + 1, k => if lg_cmp (M.2 5 k) g = 0 then nI k - 4 else mc_fs M g r (k + 1)
def mc_strong (M : mm_M) : Int32 := if 0 < lg_cmp (mc_fpG M 9) 0 then mc_fs (mc_fpM M 9) (mc_fpG M 9) 9 0 else -99
abbrev rmX4_strongest : Room := { frames := 6, cells := 0, slots := 0, locals := 136 }
set_option maxHeartbeats 400000 in
set_option maxRecDepth 100000 in
theorem kX4_strongest {l : Launch} {D : va_G} {ad : Nat → Nat} {q : Nat → ClassId} {A : Nat → Prop} (hAD : mm_AD ad A) {M : mm_M} : mm_Kd l D ad q A yX4_strongest wsX4_strongest rmX4_strongest [.ref (ad 0)] M (some (.int (mc_strong M))) (mc_fpM M 9) := by
  have inX4 : ∀ w ∈ wsX40, w ∈ wsX4_strongest := by decide +kernel
  have f32 : Cond.fieldLink RX4 32 "Beamrow" "powers" "[J" ∈ wsX4_strongest := by decide +kernel
  refine mm_of (cc := cX4_strongest) (maxL := 4) (ret := some .int) (own := RX4) rfl hAD (plainFor_of_name (by decide)) rfl (Nat.le_of_ble_eq_true rfl) ⟨rfl, rfl⟩ ?_
  intro pp ee ss mm bl mth cd C hret hlk9
  show mm_G _ _ _ _ _ _ _ _ _ _ _ _ _ _ _ _ _ _ M 0 [(0, .ref (ad 0))] []
  refine r_aload_n C dX4_strongest_0 rfl 0 rfl ?_
  refine r_callV0J C 4 (by decide) rfl (mm_ct4 ad q _) (kX4_fillPowers hAD) (cwV 0 C.1.2.2.2.2 gX4_strongest_X4_fillPowers rfl rfl rfl (by decide +kernel) ⟨Nat.le_of_ble_eq_true rfl, Nat.le_of_ble_eq_true rfl⟩) (Nat.le_of_ble_eq_true rfl) dX4_strongest_1 ⟨rfl, rfl⟩ ⟨Nat.zero_le _, Nat.zero_le _⟩ ?_
  refine r_topl (fun v1_4 ev1_4 => ?_)
  refine r_lstore_n (lv' := [(1, .long v1_4), (0, .ref (ad 0))]) C dX4_strongest_4 rfl (by decide) rfl ?_
  refine r_lload_n C dX4_strongest_5 rfl 0 rfl ?_
  refine r_lconst (v := 0) C dX4_strongest_6 rfl ?_
  refine r_lcmp C dX4_strongest_7 ?_
  refine r_if_gt (tgt := 14) C dX4_strongest_8 (by decide) (fun z8 => ?_) (fun z8 => ?_)
  · refine r_iconst (v := 0) C dX4_strongest_14 rfl ?_
    refine r_istore_n (lv' := [(3, .int 0), (1, .long v1_4), (0, .ref (ad 0))]) C dX4_strongest_15 rfl (by decide) rfl ?_
    have L16 : ∀ (k9 : Nat) (n : Nat) (hn : n ≤ 9) (hf : mc_strong M = mc_fs (mc_fpM M 9) (mc_fpG M 9) (9 - n) n), 9 - n < k9 → mm_G pp l ee rmX4_strongest ss mm ([.ref (ad 0)] : List Value).toArray bl mth cd 0 0 (MQ bl (mm_Q D ad q A (fun v' u => v' = some (.int (mc_strong M)) ∧ u = mc_fpM M 9)) ([.ref (ad 0)] : List Value).toArray ss 0 0 A) 4 D ad q A (mc_fpM M 9) 16 [(3, .int (nI n)), (1, .long v1_4), (0, .ref (ad 0))] [] := by
      intro k9
      induction k9 with
      | zero => intro n hn hf h9; exact absurd h9 (Nat.not_lt_zero _)
      | succ k9 ih16 =>
        intro n hn hf h9
        refine r_iload_n C dX4_strongest_16 rfl 0 rfl ?_
        refine r_aload_n C dX4_strongest_17 rfl 2 rfl ?_
        refine r_get4 C inX4 4 (by decide) rfl f32 rfl dX4_strongest_18 ?_
        refine r_alenJ C mm_aJ_5 dX4_strongest_21 ?_
        refine r_icmp_ge (tgt := 46) C dX4_strongest_22 (by decide) (fun z22 => ?_) (fun z22 => ?_)
        · obtain rfl : n = 9 := nm_ge hn (by decide) z22
          refine r_bipush (v := (-99)) C dX4_strongest_46 rfl ?_
          exact r_iret C hret hlk9 dX4_strongest_48 ⟨by rw [hf]; rfl, rfl⟩
        · have hlt : n < 9 := nm_lt (by omega) (by decide) z22
          refine r_aload_n C dX4_strongest_25 rfl 2 rfl ?_
          refine r_get4 C inX4 4 (by decide) rfl f32 rfl dX4_strongest_26 ?_
          refine r_iload_n C dX4_strongest_29 rfl 0 rfl ?_
          refine r_lald C mm_aJ_5 (n) (nI_toInt (by omega)) (hlt) dX4_strongest_30 ?_
          refine r_lload_n C dX4_strongest_31 rfl 1 rfl ?_
          refine r_lcmp C dX4_strongest_32 ?_
          refine r_if_ne (tgt := 40) C dX4_strongest_33 (by decide) (fun z33 => ?_) (fun z33 => ?_)
          · obtain ⟨v3_40, ev3_40⟩ : ∃ y9 : Int32, y9 = (nI n) + 1 := ⟨_, rfl⟩
            refine r_iinc (v := v3_40) (lv' := [(3, .int v3_40), (1, .long v1_4), (0, .ref (ad 0))]) C dX4_strongest_40 0 rfl (by rw [ev3_40]; rfl) (by decide) rfl ?_
            refine r_goto (tgt := 16) C dX4_strongest_43 (by decide) ?_
            refine r_cast (M' := mc_fpM M 9) (lv' := [(3, .int (nI (n + 1))), (1, .long v1_4), (0, .ref (ad 0))]) (st' := []) rfl (by rw [ev3_40, nI_1]; first | done | rfl) rfl (ih16 (n + 1) (by omega) (by rw [hf, show 9 - n = (9 - (n + 1)) + 1 from by omega, mc_fs, if_neg (by rw [← ev1_4]; exact z33)]) (by omega))
          · refine r_iload_n C dX4_strongest_36 rfl 0 rfl ?_
            refine r_iconst (v := 4) C dX4_strongest_37 rfl ?_
            refine r_isub C dX4_strongest_38 ?_
            exact r_iret C hret hlk9 dX4_strongest_39 ⟨by rw [hf, show 9 - n = (9 - (n + 1)) + 1 from by omega, mc_fs, if_pos (by rw [← ev1_4]; exact z33)], rfl⟩
    refine r_cast (M' := mc_fpM M 9) (lv' := [(3, .int (nI 0)), (1, .long v1_4), (0, .ref (ad 0))]) (st' := []) rfl rfl rfl (L16 (9 - 0 + 1) 0 (by omega) (by rw [mc_strong, if_pos (by rw [← ev1_4]; exact z8)]) (by omega))
  · refine r_bipush (v := (-99)) C dX4_strongest_11 rfl ?_
    exact r_iret C hret hlk9 dX4_strongest_13 ⟨by rw [mc_strong, if_neg (by rw [← ev1_4]; exact z8)], rfl⟩

def mc_taI (M : mm_M) (n : Nat) (b : Int32) (y : Int64) : Nat → mm_M
  | 0 => M
  | k + 1 => mc_take (mc_taI M n b y k) k (nI n) b y
def mc_taO (M : mm_M) (b : Int32) (y : Int64) : Nat → mm_M
  | 0 => M
  | n + 1 => mc_taI (mc_taO M b y n) n b (nm_fdJ ((mc_taO M b y n).2 4 n) y) 8
def mc_tuN (M : mm_M) : Nat → mm_M
  | 0 => M
  | k + 1 => mc_turn (mc_tuN M k) k
def mc_takeAll (M : mm_M) (b : Int32) (y : Int64) : mm_M := if 0 < lg_cmp y 0 then mc_tuN (mc_taO (mc_steer M b) b y 32) 8 else M
abbrev rmX4_takeAway : Room := { frames := 5, cells := 0, slots := 0, locals := 113 }
set_option maxHeartbeats 400000 in
set_option maxRecDepth 100000 in
theorem kX4_takeAway {l : Launch} {D : va_G} {ad : Nat → Nat} {q : Nat → ClassId} {A : Nat → Prop} (hAD : mm_AD ad A) {M : mm_M} {b : Int32} {y : Int64} : mm_Kd l D ad q A yX4_takeAway wsX4_takeAway rmX4_takeAway [.ref (ad 0), .int b, .long y] M none (mc_takeAll M b y) := by
  have inX4 : ∀ w ∈ wsX40, w ∈ wsX4_takeAway := by decide +kernel
  have f11 : Cond.fieldLink RX4 11 "Beamrow" "elements" "[LBeamrow$Element;" ∈ wsX4_takeAway := by decide +kernel
  have f28 : Cond.fieldLink RX4 28 "Beamrow" "sums" "[J" ∈ wsX4_takeAway := by decide +kernel
  refine mm_of (cc := cX4_takeAway) (maxL := 11) (ret := none) (own := RX4) rfl hAD (plainFor_of_name (by decide)) rfl (Nat.le_of_ble_eq_true rfl) ⟨rfl, rfl⟩ ?_
  intro pp ee ss mm bl mth cd C hret hlk9
  show mm_G _ _ _ _ _ _ _ _ _ _ _ _ _ _ _ _ _ _ M 0 [(0, .ref (ad 0)), (1, .int b), (2, .long y)] []
  refine r_lload_n C dX4_takeAway_0 rfl 2 rfl ?_
  refine r_lconst (v := 0) C dX4_takeAway_1 rfl ?_
  refine r_lcmp C dX4_takeAway_2 ?_
  refine r_if_gt (tgt := 7) C dX4_takeAway_3 (by decide) (fun z3 => ?_) (fun z3 => ?_)
  · refine r_aload_n C dX4_takeAway_7 rfl 0 rfl ?_
    refine r_iload_n C dX4_takeAway_8 rfl 1 rfl ?_
    refine r_callV1V C 4 (by decide) rfl (mm_ct4 ad q _) (kX4_steer hAD) (cwV 1 C.1.2.2.2.2 gX4_takeAway_X4_steer rfl rfl rfl (by decide +kernel) ⟨Nat.le_of_ble_eq_true rfl, Nat.le_of_ble_eq_true rfl⟩) (Nat.le_of_ble_eq_true rfl) dX4_takeAway_9 ⟨rfl, rfl⟩ ⟨Nat.zero_le _, Nat.zero_le _⟩ ?_
    refine r_iconst (v := 0) C dX4_takeAway_12 rfl ?_
    refine r_istore (lv' := [(4, .int 0), (0, .ref (ad 0)), (1, .int b), (2, .long y)]) C dX4_takeAway_13 (by decide) rfl ?_
    have L15 : ∀ (k9 : Nat) (n : Nat) (hn : n ≤ 32), 32 - n < k9 → mm_G pp l ee rmX4_takeAway ss mm ([.ref (ad 0), .int b, .long y] : List Value).toArray bl mth cd 0 0 (MQ bl (mm_Q D ad q A (fun v' u => v' = none ∧ u = mc_takeAll M b y)) ([.ref (ad 0), .int b, .long y] : List Value).toArray ss 0 0 A) 11 D ad q A (mc_taO (mc_steer M b) b y n) 15 [(4, .int (nI n)), (0, .ref (ad 0)), (1, .int b), (2, .long y)] [] := by
      intro k9
      induction k9 with
      | zero => intro n hn h9; exact absurd h9 (Nat.not_lt_zero _)
      | succ k9 ih15 =>
        intro n hn h9
        refine r_iload C dX4_takeAway_15 0 rfl ?_
        refine r_aload_n C dX4_takeAway_17 rfl 1 rfl ?_
        refine r_get4 C inX4 3 (by decide) rfl f28 rfl dX4_takeAway_18 ?_
        refine r_alenJ C mm_aJ_4 dX4_takeAway_21 ?_
        refine r_icmp_ge (tgt := 88) C dX4_takeAway_22 (by decide) (fun z22 => ?_) (fun z22 => ?_)
        · obtain rfl : n = 32 := nm_ge hn (by decide) z22
          refine r_aload_n C dX4_takeAway_88 rfl 1 rfl ?_
          refine r_get4 C inX4 0 (by decide) rfl f11 rfl dX4_takeAway_89 ?_
          refine r_astore (lv' := [(4, .ref (ad 1)), (0, .ref (ad 0)), (1, .int b), (2, .long y)]) C dX4_takeAway_92 (by decide) rfl ?_
          refine r_aload C dX4_takeAway_94 0 rfl ?_
          refine r_alenE C dX4_takeAway_96 ?_
          refine r_topi (fun v5_97 ev5_97 => ?_)
          refine r_istore (lv' := [(5, .int v5_97), (4, .ref (ad 1)), (0, .ref (ad 0)), (1, .int b), (2, .long y)]) C dX4_takeAway_97 (by decide) rfl ?_
          refine r_iconst (v := 0) C dX4_takeAway_99 rfl ?_
          refine r_istore (lv' := [(6, .int 0), (5, .int v5_97), (4, .ref (ad 1)), (0, .ref (ad 0)), (1, .int b), (2, .long y)]) C dX4_takeAway_100 (by decide) rfl ?_
          have L102 : ∀ (k9 : Nat) (k : Nat) (hk : k ≤ 8), 8 - k < k9 → mm_G pp l ee rmX4_takeAway ss mm ([.ref (ad 0), .int b, .long y] : List Value).toArray bl mth cd 0 0 (MQ bl (mm_Q D ad q A (fun v' u => v' = none ∧ u = mc_takeAll M b y)) ([.ref (ad 0), .int b, .long y] : List Value).toArray ss 0 0 A) 11 D ad q A (mc_tuN (mc_taO (mc_steer M b) b y 32) k) 102 [(6, .int (nI k)), (5, .int (nI 8)), (4, .ref (ad 1)), (0, .ref (ad 0)), (1, .int b), (2, .long y)] [] := by
            intro k9
            induction k9 with
            | zero => intro k hk h9; exact absurd h9 (Nat.not_lt_zero _)
            | succ k9 ih102 =>
              intro k hk h9
              refine r_iload C dX4_takeAway_102 0 rfl ?_
              refine r_iload C dX4_takeAway_104 1 rfl ?_
              refine r_icmp_ge (tgt := 127) C dX4_takeAway_106 (by decide) (fun z106 => ?_) (fun z106 => ?_)
              · obtain rfl : k = 8 := nm_ge hk (by decide) z106
                exact r_vret C hret hlk9 dX4_takeAway_127 ⟨rfl, (if_pos z3).symm⟩
              · have hltk : k < 8 := nm_lt (by omega) (by decide) z106
                refine r_aload C dX4_takeAway_109 2 rfl ?_
                refine r_iload C dX4_takeAway_111 0 rfl ?_
                refine r_aaldE C (k) (nI_toInt (by omega)) (hltk) dX4_takeAway_113 ?_
                refine r_astore (lv' := [(7, .ref (ad (10 + k))), (6, .int (nI k)), (5, .int (nI 8)), (4, .ref (ad 1)), (0, .ref (ad 0)), (1, .int b), (2, .long y)]) C dX4_takeAway_114 (by decide) rfl ?_
                refine r_aload C dX4_takeAway_116 0 rfl ?_
                refine r_callV0V C 0 (by have := (hltk); omega) rfl (mm_ct0 ad q _ (hltk)) (kX0_turnAll hAD (hltk)) (cwV 0 C.1.2.2.2.2 gX4_takeAway_X0_turnAll rfl rfl rfl (by decide +kernel) ⟨Nat.le_of_ble_eq_true rfl, Nat.le_of_ble_eq_true rfl⟩) (Nat.le_of_ble_eq_true rfl) dX4_takeAway_118 ⟨rfl, rfl⟩ ⟨Nat.zero_le _, Nat.zero_le _⟩ ?_
                obtain ⟨v6_121, ev6_121⟩ : ∃ y9 : Int32, y9 = (nI k) + 1 := ⟨_, rfl⟩
                refine r_iinc (v := v6_121) (lv' := [(6, .int v6_121), (7, .ref (ad (10 + k))), (5, .int (nI 8)), (4, .ref (ad 1)), (0, .ref (ad 0)), (1, .int b), (2, .long y)]) C dX4_takeAway_121 1 rfl (by rw [ev6_121]; rfl) (by decide) rfl ?_
                refine r_goto (tgt := 102) C dX4_takeAway_124 (by decide) ?_
                refine r_sub (lv' := [(6, .int v6_121), (5, .int (nI 8)), (4, .ref (ad 1)), (0, .ref (ad 0)), (1, .int b), (2, .long y)]) [0, 2, 3, 4, 5, 6] rfl ?_
                refine r_cast (M' := mc_tuN (mc_taO (mc_steer M b) b y 32) (k + 1)) (lv' := [(6, .int (nI (k + 1))), (5, .int (nI 8)), (4, .ref (ad 1)), (0, .ref (ad 0)), (1, .int b), (2, .long y)]) (st' := []) rfl (by rw [ev6_121, nI_1]; first | done | rfl) rfl (ih102 (k + 1) (by omega) (by omega))
          refine r_cast (M' := mc_tuN (mc_taO (mc_steer M b) b y 32) 0) (lv' := [(6, .int (nI 0)), (5, .int (nI 8)), (4, .ref (ad 1)), (0, .ref (ad 0)), (1, .int b), (2, .long y)]) (st' := []) rfl (by rw [ev5_97]; rfl) rfl (L102 (8 - 0 + 1) 0 (by omega) (by omega))
        · have hlt : n < 32 := nm_lt (by omega) (by decide) z22
          refine r_aload_n C dX4_takeAway_25 rfl 1 rfl ?_
          refine r_get4 C inX4 3 (by decide) rfl f28 rfl dX4_takeAway_26 ?_
          refine r_iload C dX4_takeAway_29 0 rfl ?_
          refine r_lald C mm_aJ_4 (n) (nI_toInt (by omega)) (hlt) dX4_takeAway_31 ?_
          refine r_lload_n C dX4_takeAway_32 rfl 3 rfl ?_
          refine r_callS2J C (kJ9_floorDiv_f86c9 hAD (by have := lg_gt0.mp z3; exact Int64.lt_iff_toInt_lt.mp this)) (va_cwS 2 C.1.2.2.2.2 gX4_takeAway_J9_floorDiv_f86c9 rfl rfl rfl (by decide +kernel) ⟨Nat.le_of_ble_eq_true rfl, Nat.le_of_ble_eq_true rfl⟩) (Nat.le_of_ble_eq_true rfl) dX4_takeAway_33 ⟨rfl, rfl⟩ ⟨Nat.zero_le _, Nat.zero_le _⟩ ?_
          refine r_topl (fun v5_36 ev5_36 => ?_)
          refine r_lstore (lv' := [(5, .long v5_36), (4, .int (nI n)), (0, .ref (ad 0)), (1, .int b), (2, .long y)]) C dX4_takeAway_36 (by decide) rfl ?_
          refine r_aload_n C dX4_takeAway_38 rfl 2 rfl ?_
          refine r_get4 C inX4 0 (by decide) rfl f11 rfl dX4_takeAway_39 ?_
          refine r_astore (lv' := [(7, .ref (ad 1)), (5, .long v5_36), (4, .int (nI n)), (0, .ref (ad 0)), (1, .int b), (2, .long y)]) C dX4_takeAway_42 (by decide) rfl ?_
          refine r_aload C dX4_takeAway_44 0 rfl ?_
          refine r_alenE C dX4_takeAway_46 ?_
          refine r_topi (fun v8_47 ev8_47 => ?_)
          refine r_istore (lv' := [(8, .int v8_47), (7, .ref (ad 1)), (5, .long v5_36), (4, .int (nI n)), (0, .ref (ad 0)), (1, .int b), (2, .long y)]) C dX4_takeAway_47 (by decide) rfl ?_
          refine r_iconst (v := 0) C dX4_takeAway_49 rfl ?_
          refine r_istore (lv' := [(9, .int 0), (8, .int v8_47), (7, .ref (ad 1)), (5, .long v5_36), (4, .int (nI n)), (0, .ref (ad 0)), (1, .int b), (2, .long y)]) C dX4_takeAway_50 (by decide) rfl ?_
          have L52 : ∀ (k9 : Nat) (k : Nat) (hk : k ≤ 8), 8 - k < k9 → mm_G pp l ee rmX4_takeAway ss mm ([.ref (ad 0), .int b, .long y] : List Value).toArray bl mth cd 0 0 (MQ bl (mm_Q D ad q A (fun v' u => v' = none ∧ u = mc_takeAll M b y)) ([.ref (ad 0), .int b, .long y] : List Value).toArray ss 0 0 A) 11 D ad q A (mc_taI (mc_taO (mc_steer M b) b y n) n b v5_36 k) 52 [(9, .int (nI k)), (8, .int (nI 8)), (7, .ref (ad 1)), (5, .long v5_36), (4, .int (nI n)), (0, .ref (ad 0)), (1, .int b), (2, .long y)] [] := by
            intro k9
            induction k9 with
            | zero => intro k hk h9; exact absurd h9 (Nat.not_lt_zero _)
            | succ k9 ih52 =>
              intro k hk h9
              refine r_iload C dX4_takeAway_52 0 rfl ?_
              refine r_iload C dX4_takeAway_54 1 rfl ?_
              refine r_icmp_ge (tgt := 82) C dX4_takeAway_56 (by decide) (fun z56 => ?_) (fun z56 => ?_)
              · obtain rfl : k = 8 := nm_ge hk (by decide) z56
                obtain ⟨v4_82, ev4_82⟩ : ∃ y9 : Int32, y9 = (nI n) + 1 := ⟨_, rfl⟩
                refine r_iinc (v := v4_82) (lv' := [(4, .int v4_82), (9, .int (nI 8)), (8, .int (nI 8)), (7, .ref (ad 1)), (5, .long v5_36), (0, .ref (ad 0)), (1, .int b), (2, .long y)]) C dX4_takeAway_82 4 rfl (by rw [ev4_82]; rfl) (by decide) rfl ?_
                refine r_goto (tgt := 15) C dX4_takeAway_85 (by decide) ?_
                refine r_sub (lv' := [(4, .int v4_82), (0, .ref (ad 0)), (1, .int b), (2, .long y)]) [0, 5, 6, 7] rfl ?_
                refine r_cast (M' := mc_taO (mc_steer M b) b y (n + 1)) (lv' := [(4, .int (nI (n + 1))), (0, .ref (ad 0)), (1, .int b), (2, .long y)]) (st' := []) (by rw [ev5_36]; rfl) (by rw [ev4_82, nI_1]; first | done | rfl) rfl (ih15 (n + 1) (by omega) (by omega))
              · have hltk : k < 8 := nm_lt (by omega) (by decide) z56
                refine r_aload C dX4_takeAway_59 2 rfl ?_
                refine r_iload C dX4_takeAway_61 0 rfl ?_
                refine r_aaldE C (k) (nI_toInt (by omega)) (hltk) dX4_takeAway_63 ?_
                refine r_astore (lv' := [(10, .ref (ad (10 + k))), (9, .int (nI k)), (8, .int (nI 8)), (7, .ref (ad 1)), (5, .long v5_36), (4, .int (nI n)), (0, .ref (ad 0)), (1, .int b), (2, .long y)]) C dX4_takeAway_64 (by decide) rfl ?_
                refine r_aload C dX4_takeAway_66 0 rfl ?_
                refine r_iload C dX4_takeAway_68 5 rfl ?_
                refine r_iload_n C dX4_takeAway_70 rfl 7 rfl ?_
                refine r_lload C dX4_takeAway_71 4 rfl ?_
                refine r_callV3V C 0 (by have := (hltk); omega) rfl (mm_ct0 ad q _ (hltk)) (kX0_takeAway hAD (hltk)) (cwV 3 C.1.2.2.2.2 gX4_takeAway_X0_takeAway rfl rfl rfl (by decide +kernel) ⟨Nat.le_of_ble_eq_true rfl, Nat.le_of_ble_eq_true rfl⟩) (Nat.le_of_ble_eq_true rfl) dX4_takeAway_73 ⟨rfl, rfl⟩ ⟨Nat.zero_le _, Nat.zero_le _⟩ ?_
                obtain ⟨v9_76, ev9_76⟩ : ∃ y9 : Int32, y9 = (nI k) + 1 := ⟨_, rfl⟩
                refine r_iinc (v := v9_76) (lv' := [(9, .int v9_76), (10, .ref (ad (10 + k))), (8, .int (nI 8)), (7, .ref (ad 1)), (5, .long v5_36), (4, .int (nI n)), (0, .ref (ad 0)), (1, .int b), (2, .long y)]) C dX4_takeAway_76 1 rfl (by rw [ev9_76]; rfl) (by decide) rfl ?_
                refine r_goto (tgt := 52) C dX4_takeAway_79 (by decide) ?_
                refine r_sub (lv' := [(9, .int v9_76), (8, .int (nI 8)), (7, .ref (ad 1)), (5, .long v5_36), (4, .int (nI n)), (0, .ref (ad 0)), (1, .int b), (2, .long y)]) [0, 2, 3, 4, 5, 6, 7, 8] rfl ?_
                refine r_cast (M' := mc_taI (mc_taO (mc_steer M b) b y n) n b v5_36 (k + 1)) (lv' := [(9, .int (nI (k + 1))), (8, .int (nI 8)), (7, .ref (ad 1)), (5, .long v5_36), (4, .int (nI n)), (0, .ref (ad 0)), (1, .int b), (2, .long y)]) (st' := []) rfl (by rw [ev9_76, nI_1]; first | done | rfl) rfl (ih52 (k + 1) (by omega) (by omega))
          refine r_cast (M' := mc_taI (mc_taO (mc_steer M b) b y n) n b v5_36 0) (lv' := [(9, .int (nI 0)), (8, .int (nI 8)), (7, .ref (ad 1)), (5, .long v5_36), (4, .int (nI n)), (0, .ref (ad 0)), (1, .int b), (2, .long y)]) (st' := []) rfl (by rw [ev8_47]; rfl) rfl (L52 (8 - 0 + 1) 0 (by omega) (by omega))
    refine r_cast (M' := mc_taO (mc_steer M b) b y 0) (lv' := [(4, .int (nI 0)), (0, .ref (ad 0)), (1, .int b), (2, .long y)]) (st' := []) rfl rfl rfl (L15 (32 - 0 + 1) 0 (by omega) (by omega))
  · exact r_vret C hret hlk9 dX4_takeAway_6 ⟨rfl, (if_neg z3).symm⟩

def mc_lowV (ad : Nat → Nat) (M : mm_M) : Nat → Nat → Value
  | 0, _ => .null
  | r + 1, k => if M.1 (10 + k) 4 = 0 then mc_lowV ad M r (k + 1) else .ref (ad (10 + k))
abbrev rmX4_lowestLiving : Room := { frames := 1, cells := 0, slots := 0, locals := 20 }
set_option maxHeartbeats 400000 in
set_option maxRecDepth 100000 in
theorem kX4_lowestLiving {l : Launch} {D : va_G} {ad : Nat → Nat} {q : Nat → ClassId} {A : Nat → Prop} (hAD : mm_AD ad A) {M : mm_M} (hb : ∀ i : Nat, i < 8 → M.1 (10 + i) 4 &&& 1 = M.1 (10 + i) 4) : mm_Kd l D ad q A yX4_lowestLiving wsX4_lowestLiving rmX4_lowestLiving [.ref (ad 0)] M (some (mc_lowV ad M 8 0)) M := by
  have inX4 : ∀ w ∈ wsX40, w ∈ wsX4_lowestLiving := by decide +kernel
  have f11 : Cond.fieldLink RX4 11 "Beamrow" "elements" "[LBeamrow$Element;" ∈ wsX4_lowestLiving := by decide +kernel
  refine mm_of (cc := cX4_lowestLiving) (maxL := 5) (ret := some (.object "Beamrow$Element")) (own := RX4) rfl hAD (plainFor_of_name (by decide)) rfl (Nat.le_of_ble_eq_true rfl) ⟨rfl, rfl⟩ ?_
  intro pp ee ss mm bl mth cd C hret hlk9
  show mm_G _ _ _ _ _ _ _ _ _ _ _ _ _ _ _ _ _ _ M 0 [(0, .ref (ad 0))] []
  refine r_aload_n C dX4_lowestLiving_0 rfl 0 rfl ?_
  refine r_get4 C inX4 0 (by decide) rfl f11 rfl dX4_lowestLiving_1 ?_
  refine r_astore_n (lv' := [(1, .ref (ad 1)), (0, .ref (ad 0))]) C dX4_lowestLiving_4 rfl (by decide) rfl ?_
  refine r_aload_n C dX4_lowestLiving_5 rfl 0 rfl ?_
  refine r_alenE C dX4_lowestLiving_6 ?_
  refine r_topi (fun v2_7 ev2_7 => ?_)
  refine r_istore_n (lv' := [(2, .int v2_7), (1, .ref (ad 1)), (0, .ref (ad 0))]) C dX4_lowestLiving_7 rfl (by decide) rfl ?_
  refine r_iconst (v := 0) C dX4_lowestLiving_8 rfl ?_
  refine r_istore_n (lv' := [(3, .int 0), (2, .int v2_7), (1, .ref (ad 1)), (0, .ref (ad 0))]) C dX4_lowestLiving_9 rfl (by decide) rfl ?_
  have L10 : ∀ (k9 : Nat) (n : Nat) (hn : n ≤ 8) (hf : mc_lowV ad M 8 0 = mc_lowV ad M (8 - n) n), 8 - n < k9 → mm_G pp l ee rmX4_lowestLiving ss mm ([.ref (ad 0)] : List Value).toArray bl mth cd 0 0 (MQ bl (mm_Q D ad q A (fun v' u => v' = some (mc_lowV ad M 8 0) ∧ u = M)) ([.ref (ad 0)] : List Value).toArray ss 0 0 A) 5 D ad q A (M) 10 [(3, .int (nI n)), (2, .int (nI 8)), (1, .ref (ad 1)), (0, .ref (ad 0))] [] := by
    intro k9
    induction k9 with
    | zero => intro n hn hf h9; exact absurd h9 (Nat.not_lt_zero _)
    | succ k9 ih10 =>
      intro n hn hf h9
      refine r_iload_n C dX4_lowestLiving_10 rfl 0 rfl ?_
      refine r_iload_n C dX4_lowestLiving_11 rfl 1 rfl ?_
      refine r_icmp_ge (tgt := 37) C dX4_lowestLiving_12 (by decide) (fun z12 => ?_) (fun z12 => ?_)
      · obtain rfl : n = 8 := nm_ge hn (by decide) z12
        refine r_null C dX4_lowestLiving_37 ?_
        exact r_aret C hret (Or.inl rfl) hlk9 dX4_lowestLiving_38 ⟨by rw [hf]; rfl, rfl⟩
      · have hlt : n < 8 := nm_lt (by omega) (by decide) z12
        refine r_aload_n C dX4_lowestLiving_15 rfl 2 rfl ?_
        refine r_iload_n C dX4_lowestLiving_16 rfl 0 rfl ?_
        refine r_aaldE C (n) (nI_toInt (by omega)) (hlt) dX4_lowestLiving_17 ?_
        refine r_astore (lv' := [(4, .ref (ad (10 + n))), (3, .int (nI n)), (2, .int (nI 8)), (1, .ref (ad 1)), (0, .ref (ad 0))]) C dX4_lowestLiving_18 (by decide) rfl ?_
        refine r_aload C dX4_lowestLiving_20 0 rfl ?_
        refine r_callV0I C 0 (by have := (hlt); omega) rfl (mm_ct0 ad q _ (hlt)) (kX0_isLiving hAD (hlt) (by exact hb n hlt)) (cwV 0 C.1.2.2.2.2 gX4_lowestLiving_X0_isLiving rfl rfl rfl (by decide +kernel) ⟨Nat.le_of_ble_eq_true rfl, Nat.le_of_ble_eq_true rfl⟩) (Nat.le_of_ble_eq_true rfl) dX4_lowestLiving_22 ⟨rfl, rfl⟩ ⟨Nat.zero_le _, Nat.zero_le _⟩ ?_
        refine r_if_eq (tgt := 31) C dX4_lowestLiving_25 (by decide) (fun z25 => ?_) (fun z25 => ?_)
        · obtain ⟨v3_31, ev3_31⟩ : ∃ y9 : Int32, y9 = (nI n) + 1 := ⟨_, rfl⟩
          refine r_iinc (v := v3_31) (lv' := [(3, .int v3_31), (4, .ref (ad (10 + n))), (2, .int (nI 8)), (1, .ref (ad 1)), (0, .ref (ad 0))]) C dX4_lowestLiving_31 1 rfl (by rw [ev3_31]; rfl) (by decide) rfl ?_
          refine r_goto (tgt := 10) C dX4_lowestLiving_34 (by decide) ?_
          refine r_sub (lv' := [(3, .int v3_31), (2, .int (nI 8)), (1, .ref (ad 1)), (0, .ref (ad 0))]) [0, 2, 3, 4] rfl ?_
          refine r_cast (M' := M) (lv' := [(3, .int (nI (n + 1))), (2, .int (nI 8)), (1, .ref (ad 1)), (0, .ref (ad 0))]) (st' := []) rfl (by rw [ev3_31, nI_1]; first | done | rfl) rfl (ih10 (n + 1) (by omega) (by rw [hf, show 8 - n = (8 - (n + 1)) + 1 from by omega, mc_lowV, if_pos z25]) (by omega))
        · refine r_aload C dX4_lowestLiving_28 0 rfl ?_
          exact r_aret C hret (Or.inr ⟨_, rfl⟩) hlk9 dX4_lowestLiving_30 ⟨by rw [hf, show 8 - n = (8 - (n + 1)) + 1 from by omega, mc_lowV, if_neg z25], rfl⟩
  refine r_cast (M' := M) (lv' := [(3, .int (nI 0)), (2, .int (nI 8)), (1, .ref (ad 1)), (0, .ref (ad 0))]) (st' := []) rfl (by rw [ev2_7]; rfl) rfl (L10 (8 - 0 + 1) 0 (by omega) (rfl) (by omega))

def mc_bL (M : mm_M) (i k : Nat) (b : Int32) : Nat → Int32
  | 0 => -3
  | n + 1 => if lg_cmp (mc_agN M i k b (nI n - 2) 32) (mc_agN M i k b (mc_bL M i k b n) 32) ≤ 0 then mc_bL M i k b n else nI n - 2
def mc_gn (y z : Int64) : Int32 := (if (if z < 255 then z else 255) < 16 then 16 else (if z < 255 then z else 255)).toInt32
def mc_fitG (M : mm_M) (i k : Nat) (y : Int64) (b : Int32) : Int32 := mc_gn y (nm_fdJ (64 * mc_agN M i k b (mc_bL M i k b 6) 32) y)
def mc_fitV (M : mm_M) (i k : Nat) (y : Int64) (b : Int32) : Int32 := if 0 < lg_cmp y 0 then mc_trimv M i (mc_fitG M i k y b) (mc_bL M i k b 6) else 0
def mc_fitM (M : mm_M) (i k : Nat) (y : Int64) (b : Int32) : mm_M := if 0 < lg_cmp y 0 then mm_sI (mm_sI M (10 + i) 8 (mc_fitG M i k y b)) (10 + i) 9 (mc_bL M i k b 6) else M
theorem nm_lag : ∀ n : Nat, n < 7 → ((3 : Int32) < nI n - 2 ↔ n = 6) := by decide
theorem nm_lag1 : ∀ n : Nat, n < 7 → nI n - 2 + 1 = nI (n + 1) - 2 := by decide
theorem mc_trimv_z (M : mm_M) (i : Nat) (g t : Int32) : mc_trimv M i g t &&& 1 = mc_trimv M i g t := by unfold mc_trimv; split; decide; split <;> decide
abbrev rmX4_fit : Room := { frames := 3, cells := 0, slots := 0, locals := 71 }
set_option maxHeartbeats 400000 in
set_option maxRecDepth 100000 in
theorem kX4_fit {l : Launch} {D : va_G} {ad : Nat → Nat} {q : Nat → ClassId} {A : Nat → Prop} (hAD : mm_AD ad A) {i k : Nat} (hi : i < 8) (hk : k < 8) {M : mm_M} {y : Int64} {b : Int32} : mm_Kd l D ad q A yX4_fit wsX4_fit rmX4_fit [.ref (ad (10 + i)), .ref (ad (10 + k)), .long y, .int b] M (some (.int (mc_fitV M i k y b))) (mc_fitM M i k y b) := by
  have n263 : Cond.constantLong RX4 263 (64) ∈ wsX4_fit := by decide +kernel
  have n265 : Cond.constantLong RX4 265 (16) ∈ wsX4_fit := by decide +kernel
  have n267 : Cond.constantLong RX4 267 (255) ∈ wsX4_fit := by decide +kernel
  have h239_1 : Cond.methodLink RX4 239 Lib.MathLoose.max_long.x ∈ wsX4_fit := by decide +kernel
  have h239_2 : Cond.static Lib.MathLoose.max_long.x ∈ wsX4_fit := by decide +kernel
  have h239_3 : Cond.initialized "java/lang/Math" ∈ wsX4_fit := by decide +kernel
  have h239_4 : Cond.code Lib.MathLoose.max_long.x Lib.MathLoose.max_long.code 4 (some .long) ∈ wsX4_fit := by decide +kernel
  have h269_1 : Cond.methodLink RX4 269 Lib.MathLoose.min_long.x ∈ wsX4_fit := by decide +kernel
  have h269_2 : Cond.static Lib.MathLoose.min_long.x ∈ wsX4_fit := by decide +kernel
  have h269_3 : Cond.initialized "java/lang/Math" ∈ wsX4_fit := by decide +kernel
  have h269_4 : Cond.code Lib.MathLoose.min_long.x Lib.MathLoose.min_long.code 4 (some .long) ∈ wsX4_fit := by decide +kernel
  refine mm_of (cc := cX4_fit) (maxL := 11) (ret := some .boolean) (own := RX4) rfl hAD (plainFor_of_name (by decide)) rfl (Nat.le_of_ble_eq_true rfl) ⟨rfl, rfl⟩ ?_
  intro pp ee ss mm bl mth cd C hret hlk9
  show mm_G _ _ _ _ _ _ _ _ _ _ _ _ _ _ _ _ _ _ M 0 [(0, .ref (ad (10 + i))), (1, .ref (ad (10 + k))), (2, .long y), (4, .int b)] []
  refine r_lload_n C dX4_fit_0 rfl 2 rfl ?_
  refine r_lconst (v := 0) C dX4_fit_1 rfl ?_
  refine r_lcmp C dX4_fit_2 ?_
  refine r_if_gt (tgt := 8) C dX4_fit_3 (by decide) (fun z3 => ?_) (fun z3 => ?_)
  · refine r_bipush (v := (-3)) C dX4_fit_8 rfl ?_
    refine r_istore (lv' := [(5, .int (-3)), (0, .ref (ad (10 + i))), (1, .ref (ad (10 + k))), (2, .long y), (4, .int b)]) C dX4_fit_10 (by decide) rfl ?_
    refine r_aload_n C dX4_fit_12 rfl 1 rfl ?_
    refine r_aload_n C dX4_fit_13 rfl 2 rfl ?_
    refine r_iload C dX4_fit_14 4 rfl ?_
    refine r_iload C dX4_fit_16 0 rfl ?_
    refine r_callV3J C 0 (by have := hi; omega) rfl (mm_ct0 ad q _ hi) (kX0_agreement hAD hi hk) (cwV 3 C.1.2.2.2.2 gX4_fit_X0_agreement rfl rfl rfl (by decide +kernel) ⟨Nat.le_of_ble_eq_true rfl, Nat.le_of_ble_eq_true rfl⟩) (Nat.le_of_ble_eq_true rfl) dX4_fit_18 ⟨rfl, rfl⟩ ⟨Nat.zero_le _, Nat.zero_le _⟩ ?_
    refine r_topl (fun v6_21 ev6_21 => ?_)
    refine r_lstore (lv' := [(6, .long v6_21), (5, .int (-3)), (0, .ref (ad (10 + i))), (1, .ref (ad (10 + k))), (2, .long y), (4, .int b)]) C dX4_fit_21 (by decide) rfl ?_
    refine r_iload C dX4_fit_23 1 rfl ?_
    refine r_iconst (v := 1) C dX4_fit_25 rfl ?_
    refine r_iadd C dX4_fit_26 ?_
    refine r_topi (fun v8_27 ev8_27 => ?_)
    refine r_istore (lv' := [(8, .int v8_27), (6, .long v6_21), (5, .int (-3)), (0, .ref (ad (10 + i))), (1, .ref (ad (10 + k))), (2, .long y), (4, .int b)]) C dX4_fit_27 (by decide) rfl ?_
    have L29 : ∀ (k9 : Nat) (n : Nat) (hn : n ≤ 6), 6 - n < k9 → mm_G pp l ee rmX4_fit ss mm ([.ref (ad (10 + i)), .ref (ad (10 + k)), .long y, .int b] : List Value).toArray bl mth cd 0 0 (MQ bl (mm_Q D ad q A (fun v' u => v' = some (.int (mc_fitV M i k y b)) ∧ u = mc_fitM M i k y b)) ([.ref (ad (10 + i)), .ref (ad (10 + k)), .long y, .int b] : List Value).toArray ss 0 0 A) 11 D ad q A (M) 29 [(8, .int (nI n - 2)), (6, .long (mc_agN M i k b (mc_bL M i k b n) 32)), (5, .int (mc_bL M i k b n)), (0, .ref (ad (10 + i))), (1, .ref (ad (10 + k))), (2, .long y), (4, .int b)] [] := by
      intro k9
      induction k9 with
      | zero => intro n hn h9; exact absurd h9 (Nat.not_lt_zero _)
      | succ k9 ih29 =>
        intro n hn h9
        refine r_iload C dX4_fit_29 0 rfl ?_
        refine r_iconst (v := 3) C dX4_fit_31 rfl ?_
        refine r_icmp_gt (tgt := 68) C dX4_fit_32 (by decide) (fun z32 => ?_) (fun z32 => ?_)
        · obtain rfl : n = 6 := (nm_lag n (by omega)).mp z32
          refine r_ldc2 C n263 dX4_fit_68 ?_
          refine r_lload C dX4_fit_71 1 rfl ?_
          refine r_lmul C dX4_fit_73 ?_
          refine r_lload_n C dX4_fit_74 rfl 5 rfl ?_
          refine r_callS2J C (kJ9_floorDiv_f86c9 hAD (by have := lg_gt0.mp z3; exact Int64.lt_iff_toInt_lt.mp this)) (va_cwS 2 C.1.2.2.2.2 gX4_fit_J9_floorDiv_f86c9 rfl rfl rfl (by decide +kernel) ⟨Nat.le_of_ble_eq_true rfl, Nat.le_of_ble_eq_true rfl⟩) (Nat.le_of_ble_eq_true rfl) dX4_fit_75 ⟨rfl, rfl⟩ ⟨Nat.zero_le _, Nat.zero_le _⟩ ?_
          refine r_topl (fun v8_78 ev8_78 => ?_)
          refine r_lstore (lv' := [(8, .long v8_78), (6, .long (mc_agN M i k b (mc_bL M i k b 6) 32)), (5, .int (mc_bL M i k b 6)), (0, .ref (ad (10 + i))), (1, .ref (ad (10 + k))), (2, .long y), (4, .int b)]) C dX4_fit_78 (by decide) rfl ?_
          refine r_aload_n C dX4_fit_80 rfl 3 rfl ?_
          refine r_ldc2 C n265 dX4_fit_81 ?_
          refine r_ldc2 C n267 dX4_fit_84 ?_
          refine r_lload C dX4_fit_87 0 rfl ?_
          refine r_mminJ C h269_1 h269_2 h269_3 h269_4 (Nat.le_of_ble_eq_true rfl) (Nat.le_of_ble_eq_true rfl) (Nat.zero_le _) (Nat.zero_le _) dX4_fit_89 ?_
          refine r_mmaxJ C h239_1 h239_2 h239_3 h239_4 (Nat.le_of_ble_eq_true rfl) (Nat.le_of_ble_eq_true rfl) (Nat.zero_le _) (Nat.zero_le _) dX4_fit_92 ?_
          refine r_l2i C dX4_fit_95 ?_
          refine r_iload C dX4_fit_96 2 rfl ?_
          refine r_callV2I C 0 (by have := hi; omega) rfl (mm_ct0 ad q _ hi) (kX0_trim hAD hi) (cwV 2 C.1.2.2.2.2 gX4_fit_X0_trim rfl rfl rfl (by decide +kernel) ⟨Nat.le_of_ble_eq_true rfl, Nat.le_of_ble_eq_true rfl⟩) (Nat.le_of_ble_eq_true rfl) dX4_fit_98 ⟨rfl, rfl⟩ ⟨Nat.zero_le _, Nat.zero_le _⟩ ?_
          exact r_zret C hret (mc_trimv_z _ _ _ _) hlk9 dX4_fit_101 ⟨by rw [mc_fitV, if_pos z3, ev8_78]; rfl, by rw [mc_fitM, if_pos z3, ev8_78]; rfl⟩
        · have hlt : n < 6 := by have := mt (nm_lag n (by omega)).mpr z32; omega
          refine r_aload_n C dX4_fit_35 rfl 3 rfl ?_
          refine r_aload_n C dX4_fit_36 rfl 4 rfl ?_
          refine r_iload C dX4_fit_37 6 rfl ?_
          refine r_iload C dX4_fit_39 0 rfl ?_
          refine r_callV3J C 0 (by have := hi; omega) rfl (mm_ct0 ad q _ hi) (kX0_agreement hAD hi hk) (cwV 3 C.1.2.2.2.2 gX4_fit_X0_agreement rfl rfl rfl (by decide +kernel) ⟨Nat.le_of_ble_eq_true rfl, Nat.le_of_ble_eq_true rfl⟩) (Nat.le_of_ble_eq_true rfl) dX4_fit_41 ⟨rfl, rfl⟩ ⟨Nat.zero_le _, Nat.zero_le _⟩ ?_
          refine r_topl (fun v9_44 ev9_44 => ?_)
          refine r_lstore (lv' := [(9, .long v9_44), (8, .int (nI n - 2)), (6, .long (mc_agN M i k b (mc_bL M i k b n) 32)), (5, .int (mc_bL M i k b n)), (0, .ref (ad (10 + i))), (1, .ref (ad (10 + k))), (2, .long y), (4, .int b)]) C dX4_fit_44 (by decide) rfl ?_
          refine r_lload C dX4_fit_46 0 rfl ?_
          refine r_lload C dX4_fit_48 2 rfl ?_
          refine r_lcmp C dX4_fit_50 ?_
          refine r_if_le (tgt := 62) C dX4_fit_51 (by decide) (fun z51 => ?_) (fun z51 => ?_)
          · obtain ⟨v8_62, ev8_62⟩ : ∃ y9 : Int32, y9 = (nI n - 2) + 1 := ⟨_, rfl⟩
            refine r_iinc (v := v8_62) (lv' := [(8, .int v8_62), (9, .long v9_44), (6, .long (mc_agN M i k b (mc_bL M i k b n) 32)), (5, .int (mc_bL M i k b n)), (0, .ref (ad (10 + i))), (1, .ref (ad (10 + k))), (2, .long y), (4, .int b)]) C dX4_fit_62 1 rfl (by rw [ev8_62]; rfl) (by decide) rfl ?_
            refine r_goto (tgt := 29) C dX4_fit_65 (by decide) ?_
            refine r_sub (lv' := [(8, .int v8_62), (6, .long (mc_agN M i k b (mc_bL M i k b n) 32)), (5, .int (mc_bL M i k b n)), (0, .ref (ad (10 + i))), (1, .ref (ad (10 + k))), (2, .long y), (4, .int b)]) [0, 2, 3, 4, 5, 6, 7] rfl ?_
            refine r_cast (M' := M) (lv' := [(8, .int (nI (n + 1) - 2)), (6, .long (mc_agN M i k b (mc_bL M i k b (n + 1)) 32)), (5, .int (mc_bL M i k b (n + 1))), (0, .ref (ad (10 + i))), (1, .ref (ad (10 + k))), (2, .long y), (4, .int b)]) (st' := []) rfl (by rw [ev8_62, nm_lag1 n (by omega), mc_bL]; first | (rw [if_pos (by rw [← ev9_44]; exact z51)]; done) | rw [if_neg (by rw [← ev9_44]; exact z51), ev9_44, ev5_60]) rfl (ih29 (n + 1) (by omega) (by omega))
          · refine r_lload C dX4_fit_54 0 rfl ?_
            refine r_lstore (lv' := [(6, .long v9_44), (9, .long v9_44), (8, .int (nI n - 2)), (5, .int (mc_bL M i k b n)), (0, .ref (ad (10 + i))), (1, .ref (ad (10 + k))), (2, .long y), (4, .int b)]) C dX4_fit_56 (by decide) rfl ?_
            refine r_iload C dX4_fit_58 2 rfl ?_
            refine r_topi (fun v5_60 ev5_60 => ?_)
            refine r_istore (lv' := [(5, .int v5_60), (6, .long v9_44), (9, .long v9_44), (8, .int (nI n - 2)), (0, .ref (ad (10 + i))), (1, .ref (ad (10 + k))), (2, .long y), (4, .int b)]) C dX4_fit_60 (by decide) rfl ?_
            obtain ⟨v8_62, ev8_62⟩ : ∃ y9 : Int32, y9 = (nI n - 2) + 1 := ⟨_, rfl⟩
            refine r_iinc (v := v8_62) (lv' := [(8, .int v8_62), (5, .int v5_60), (6, .long v9_44), (9, .long v9_44), (0, .ref (ad (10 + i))), (1, .ref (ad (10 + k))), (2, .long y), (4, .int b)]) C dX4_fit_62 3 rfl (by rw [ev8_62]; rfl) (by decide) rfl ?_
            refine r_goto (tgt := 29) C dX4_fit_65 (by decide) ?_
            refine r_sub (lv' := [(8, .int v8_62), (6, .long v9_44), (5, .int v5_60), (0, .ref (ad (10 + i))), (1, .ref (ad (10 + k))), (2, .long y), (4, .int b)]) [0, 2, 1, 4, 5, 6, 7] rfl ?_
            refine r_cast (M' := M) (lv' := [(8, .int (nI (n + 1) - 2)), (6, .long (mc_agN M i k b (mc_bL M i k b (n + 1)) 32)), (5, .int (mc_bL M i k b (n + 1))), (0, .ref (ad (10 + i))), (1, .ref (ad (10 + k))), (2, .long y), (4, .int b)]) (st' := []) rfl (by rw [ev8_62, nm_lag1 n (by omega), mc_bL]; first | (rw [if_pos (by rw [← ev9_44]; exact z51)]; done) | rw [if_neg (by rw [← ev9_44]; exact z51), ev9_44, ev5_60]) rfl (ih29 (n + 1) (by omega) (by omega))
    refine r_cast (M' := M) (lv' := [(8, .int (nI 0 - 2)), (6, .long (mc_agN M i k b (mc_bL M i k b 0) 32)), (5, .int (mc_bL M i k b 0)), (0, .ref (ad (10 + i))), (1, .ref (ad (10 + k))), (2, .long y), (4, .int b)]) (st' := []) rfl (by rw [ev8_27, ev6_21]; rfl) rfl (L29 (6 - 0 + 1) 0 (by omega) (by omega))
  · refine r_iconst (v := 0) C dX4_fit_6 rfl ?_
    exact r_zret C hret (by first | decide | assumption) hlk9 dX4_fit_7 ⟨by rw [mc_fitV, if_neg z3], by rw [mc_fitM, if_neg z3]⟩

def mc_hoM (M : mm_M) (k : Nat) (y : Int64) (b : Int32) : Nat → mm_M
  | 0 => mm_sI (mm_sI M (10 + k) 8 64) (10 + k) 9 0
  | n + 1 => if n = k then mc_hoM M k y b n else if M.1 (10 + n) 4 = 0 then mc_hoM M k y b n else mc_fitM (mc_hoM M k y b n) n k y b
def mc_hoV (M : mm_M) (k : Nat) (y : Int64) (b : Int32) : Nat → Int32
  | 0 => if mc_trimv M k 64 0 = 0 then 0 else 1
  | n + 1 => if n = k then mc_hoV M k y b n else if M.1 (10 + n) 4 = 0 then mc_hoV M k y b n else if mc_fitV (mc_hoM M k y b n) n k y b = 0 then mc_hoV M k y b n else mc_hoV M k y b n + 1
theorem mc_fitM_4 {M : mm_M} {i k j : Nat} {y : Int64} {b : Int32} : (mc_fitM M i k y b).1 j 4 = M.1 j 4 := by
  unfold mc_fitM
  split
  · rw [mm_sI_j (by decide), mm_sI_j (by decide)]
  · rfl
theorem mc_hoM_4 {M : mm_M} {k j : Nat} {y : Int64} {b : Int32} : ∀ n, (mc_hoM M k y b n).1 j 4 = M.1 j 4
  | 0 => by rw [mc_hoM, mm_sI_j (by decide), mm_sI_j (by decide)]
  | n + 1 => by
    rw [mc_hoM]
    split
    · exact mc_hoM_4 n
    · split
      · exact mc_hoM_4 n
      · rw [mc_fitM_4, mc_hoM_4 n]
abbrev rmX4_holdTo : Room := { frames := 4, cells := 0, slots := 0, locals := 101 }
set_option maxHeartbeats 400000 in
set_option maxRecDepth 100000 in
theorem kX4_holdTo {l : Launch} {D : va_G} {ad : Nat → Nat} {q : Nat → ClassId} {A : Nat → Prop} (hAD : mm_AD ad A) {k : Nat} (hk : k < 8) {M : mm_M} {y : Int64} {b : Int32} (hb : ∀ i : Nat, i < 8 → M.1 (10 + i) 4 &&& 1 = M.1 (10 + i) 4) : mm_Kd l D ad q A yX4_holdTo wsX4_holdTo rmX4_holdTo [.ref (ad 0), .ref (ad (10 + k)), .long y, .int b] M (some (.int (mc_hoV M k y b 8))) (mc_hoM M k y b 8) := by
  have inX4 : ∀ w ∈ wsX40, w ∈ wsX4_holdTo := by decide +kernel
  have f11 : Cond.fieldLink RX4 11 "Beamrow" "elements" "[LBeamrow$Element;" ∈ wsX4_holdTo := by decide +kernel
  refine mm_of (cc := cX4_holdTo) (maxL := 10) (ret := some .int) (own := RX4) rfl hAD (plainFor_of_name (by decide)) rfl (Nat.le_of_ble_eq_true rfl) ⟨rfl, rfl⟩ ?_
  intro pp ee ss mm bl mth cd C hret hlk9
  show mm_G _ _ _ _ _ _ _ _ _ _ _ _ _ _ _ _ _ _ M 0 [(0, .ref (ad 0)), (1, .ref (ad (10 + k))), (2, .long y), (4, .int b)] []
  refine r_aload_n C dX4_holdTo_0 rfl 1 rfl ?_
  refine r_bipush (v := (64)) C dX4_holdTo_1 rfl ?_
  refine r_iconst (v := 0) C dX4_holdTo_3 rfl ?_
  refine r_callV2I C 0 (by have := hk; omega) rfl (mm_ct0 ad q _ hk) (kX0_trim hAD hk) (cwV 2 C.1.2.2.2.2 gX4_holdTo_X0_trim rfl rfl rfl (by decide +kernel) ⟨Nat.le_of_ble_eq_true rfl, Nat.le_of_ble_eq_true rfl⟩) (Nat.le_of_ble_eq_true rfl) dX4_holdTo_4 ⟨rfl, rfl⟩ ⟨Nat.zero_le _, Nat.zero_le _⟩ ?_
  refine r_if_eq (tgt := 14) C dX4_holdTo_7 (by decide) (fun z7 => ?_) (fun z7 => ?_)
  · refine r_iconst (v := 0) C dX4_holdTo_14 rfl ?_
    refine r_istore (lv' := [(5, .int 0), (0, .ref (ad 0)), (1, .ref (ad (10 + k))), (2, .long y), (4, .int b)]) C dX4_holdTo_15 (by decide) rfl ?_
    refine r_aload_n C dX4_holdTo_17 rfl 1 rfl ?_
    refine r_get4 C inX4 0 (by decide) rfl f11 rfl dX4_holdTo_18 ?_
    refine r_astore (lv' := [(6, .ref (ad 1)), (5, .int 0), (0, .ref (ad 0)), (1, .ref (ad (10 + k))), (2, .long y), (4, .int b)]) C dX4_holdTo_21 (by decide) rfl ?_
    refine r_aload C dX4_holdTo_23 0 rfl ?_
    refine r_alenE C dX4_holdTo_25 ?_
    refine r_topi (fun v7_26 ev7_26 => ?_)
    refine r_istore (lv' := [(7, .int v7_26), (6, .ref (ad 1)), (5, .int 0), (0, .ref (ad 0)), (1, .ref (ad (10 + k))), (2, .long y), (4, .int b)]) C dX4_holdTo_26 (by decide) rfl ?_
    refine r_iconst (v := 0) C dX4_holdTo_28 rfl ?_
    refine r_istore (lv' := [(8, .int 0), (7, .int v7_26), (6, .ref (ad 1)), (5, .int 0), (0, .ref (ad 0)), (1, .ref (ad (10 + k))), (2, .long y), (4, .int b)]) C dX4_holdTo_29 (by decide) rfl ?_
    have L31 : ∀ (k9 : Nat) (n : Nat) (hn : n ≤ 8), 8 - n < k9 → mm_G pp l ee rmX4_holdTo ss mm ([.ref (ad 0), .ref (ad (10 + k)), .long y, .int b] : List Value).toArray bl mth cd 0 0 (MQ bl (mm_Q D ad q A (fun v' u => v' = some (.int (mc_hoV M k y b 8)) ∧ u = mc_hoM M k y b 8)) ([.ref (ad 0), .ref (ad (10 + k)), .long y, .int b] : List Value).toArray ss 0 0 A) 10 D ad q A (mc_hoM M k y b n) 31 [(8, .int (nI n)), (7, .int (nI 8)), (6, .ref (ad 1)), (5, .int (mc_hoV M k y b n)), (0, .ref (ad 0)), (1, .ref (ad (10 + k))), (2, .long y), (4, .int b)] [] := by
      intro k9
      induction k9 with
      | zero => intro n hn h9; exact absurd h9 (Nat.not_lt_zero _)
      | succ k9 ih31 =>
        intro n hn h9
        refine r_iload C dX4_holdTo_31 0 rfl ?_
        refine r_iload C dX4_holdTo_33 1 rfl ?_
        refine r_icmp_ge (tgt := 80) C dX4_holdTo_35 (by decide) (fun z35 => ?_) (fun z35 => ?_)
        · obtain rfl : n = 8 := nm_ge hn (by decide) z35
          refine r_iload C dX4_holdTo_80 3 rfl ?_
          exact r_iret C hret hlk9 dX4_holdTo_82 ⟨by first | rfl | (subst_vars; rfl) | (subst_vars; simp [*]), by first | rfl | (subst_vars; rfl)⟩
        · have hlt : n < 8 := nm_lt (by omega) (by decide) z35
          refine r_aload C dX4_holdTo_38 2 rfl ?_
          refine r_iload C dX4_holdTo_40 0 rfl ?_
          refine r_aaldE C (n) (nI_toInt (by omega)) (hlt) dX4_holdTo_42 ?_
          refine r_astore (lv' := [(9, .ref (ad (10 + n))), (8, .int (nI n)), (7, .int (nI 8)), (6, .ref (ad 1)), (5, .int (mc_hoV M k y b n)), (0, .ref (ad 0)), (1, .ref (ad (10 + k))), (2, .long y), (4, .int b)]) C dX4_holdTo_43 (by decide) rfl ?_
          refine r_aload C dX4_holdTo_45 0 rfl ?_
          refine r_aload_n C dX4_holdTo_47 rfl 6 rfl ?_
          refine r_acmp_eq (tgt := 74) C dX4_holdTo_48 (by decide) (fun z48 => ?_) (fun z48 => ?_)
          · have hnk : n = k := by have := hAD.1 (10 + n) (10 + k) (by omega) (by omega) z48; omega
            obtain ⟨v8_74, ev8_74⟩ : ∃ y9 : Int32, y9 = (nI n) + 1 := ⟨_, rfl⟩
            refine r_iinc (v := v8_74) (lv' := [(8, .int v8_74), (9, .ref (ad (10 + n))), (7, .int (nI 8)), (6, .ref (ad 1)), (5, .int (mc_hoV M k y b n)), (0, .ref (ad 0)), (1, .ref (ad (10 + k))), (2, .long y), (4, .int b)]) C dX4_holdTo_74 1 rfl (by rw [ev8_74]; rfl) (by decide) rfl ?_
            refine r_goto (tgt := 31) C dX4_holdTo_77 (by decide) ?_
            refine r_sub (lv' := [(8, .int v8_74), (7, .int (nI 8)), (6, .ref (ad 1)), (5, .int (mc_hoV M k y b n)), (0, .ref (ad 0)), (1, .ref (ad (10 + k))), (2, .long y), (4, .int b)]) [0, 2, 3, 4, 5, 6, 7, 8] rfl ?_
            refine r_cast (M' := mc_hoM M k y b (n + 1)) (lv' := [(8, .int (nI (n + 1))), (7, .int (nI 8)), (6, .ref (ad 1)), (5, .int (mc_hoV M k y b (n + 1))), (0, .ref (ad 0)), (1, .ref (ad (10 + k))), (2, .long y), (4, .int b)]) (st' := []) (by rw [mc_hoM]; first | (rw [if_pos hnk]; done) | (rw [if_neg hnk, if_pos z56]; done) | (rw [if_neg hnk, if_neg z56]; done)) (by rw [ev8_74, nI_1, mc_hoV]; first | (rw [if_pos hnk]; done) | (rw [if_neg hnk, if_pos z56]; done) | (rw [if_neg hnk, if_neg z56, if_pos z68]; done) | rw [if_neg hnk, if_neg z56, if_neg z68, ev5_71]) rfl (ih31 (n + 1) (by omega) (by omega))
          · have hnk : ¬ n = k := fun h => z48 (by rw [h])
            refine r_aload C dX4_holdTo_51 0 rfl ?_
            refine r_callV0I C 0 (by have := (hlt); omega) rfl (mm_ct0 ad q _ (hlt)) (kX0_isLiving hAD (hlt) (by rw [mc_hoM_4]; exact hb n hlt)) (cwV 0 C.1.2.2.2.2 gX4_holdTo_X0_isLiving rfl rfl rfl (by decide +kernel) ⟨Nat.le_of_ble_eq_true rfl, Nat.le_of_ble_eq_true rfl⟩) (Nat.le_of_ble_eq_true rfl) dX4_holdTo_53 ⟨rfl, rfl⟩ ⟨Nat.zero_le _, Nat.zero_le _⟩ ?_
            refine r_if_eq (tgt := 74) C dX4_holdTo_56 (by decide) (fun z56 => ?_) (fun z56 => ?_)
            · rw [mc_hoM_4] at z56
              obtain ⟨v8_74, ev8_74⟩ : ∃ y9 : Int32, y9 = (nI n) + 1 := ⟨_, rfl⟩
              refine r_iinc (v := v8_74) (lv' := [(8, .int v8_74), (9, .ref (ad (10 + n))), (7, .int (nI 8)), (6, .ref (ad 1)), (5, .int (mc_hoV M k y b n)), (0, .ref (ad 0)), (1, .ref (ad (10 + k))), (2, .long y), (4, .int b)]) C dX4_holdTo_74 1 rfl (by rw [ev8_74]; rfl) (by decide) rfl ?_
              refine r_goto (tgt := 31) C dX4_holdTo_77 (by decide) ?_
              refine r_sub (lv' := [(8, .int v8_74), (7, .int (nI 8)), (6, .ref (ad 1)), (5, .int (mc_hoV M k y b n)), (0, .ref (ad 0)), (1, .ref (ad (10 + k))), (2, .long y), (4, .int b)]) [0, 2, 3, 4, 5, 6, 7, 8] rfl ?_
              refine r_cast (M' := mc_hoM M k y b (n + 1)) (lv' := [(8, .int (nI (n + 1))), (7, .int (nI 8)), (6, .ref (ad 1)), (5, .int (mc_hoV M k y b (n + 1))), (0, .ref (ad 0)), (1, .ref (ad (10 + k))), (2, .long y), (4, .int b)]) (st' := []) (by rw [mc_hoM]; first | (rw [if_pos hnk]; done) | (rw [if_neg hnk, if_pos z56]; done) | (rw [if_neg hnk, if_neg z56]; done)) (by rw [ev8_74, nI_1, mc_hoV]; first | (rw [if_pos hnk]; done) | (rw [if_neg hnk, if_pos z56]; done) | (rw [if_neg hnk, if_neg z56, if_pos z68]; done) | rw [if_neg hnk, if_neg z56, if_neg z68, ev5_71]) rfl (ih31 (n + 1) (by omega) (by omega))
            · rw [mc_hoM_4] at z56
              refine r_aload C dX4_holdTo_59 0 rfl ?_
              refine r_aload_n C dX4_holdTo_61 rfl 6 rfl ?_
              refine r_lload_n C dX4_holdTo_62 rfl 7 rfl ?_
              refine r_iload C dX4_holdTo_63 8 rfl ?_
              refine r_callS4I C (kX4_fit hAD (hlt) hk) (va_cwS 4 C.1.2.2.2.2 gX4_holdTo_X4_fit rfl rfl rfl (by decide +kernel) ⟨Nat.le_of_ble_eq_true rfl, Nat.le_of_ble_eq_true rfl⟩) (Nat.le_of_ble_eq_true rfl) dX4_holdTo_65 ⟨rfl, rfl⟩ ⟨Nat.zero_le _, Nat.zero_le _⟩ ?_
              refine r_if_eq (tgt := 74) C dX4_holdTo_68 (by decide) (fun z68 => ?_) (fun z68 => ?_)
              · obtain ⟨v8_74, ev8_74⟩ : ∃ y9 : Int32, y9 = (nI n) + 1 := ⟨_, rfl⟩
                refine r_iinc (v := v8_74) (lv' := [(8, .int v8_74), (9, .ref (ad (10 + n))), (7, .int (nI 8)), (6, .ref (ad 1)), (5, .int (mc_hoV M k y b n)), (0, .ref (ad 0)), (1, .ref (ad (10 + k))), (2, .long y), (4, .int b)]) C dX4_holdTo_74 1 rfl (by rw [ev8_74]; rfl) (by decide) rfl ?_
                refine r_goto (tgt := 31) C dX4_holdTo_77 (by decide) ?_
                refine r_sub (lv' := [(8, .int v8_74), (7, .int (nI 8)), (6, .ref (ad 1)), (5, .int (mc_hoV M k y b n)), (0, .ref (ad 0)), (1, .ref (ad (10 + k))), (2, .long y), (4, .int b)]) [0, 2, 3, 4, 5, 6, 7, 8] rfl ?_
                refine r_cast (M' := mc_hoM M k y b (n + 1)) (lv' := [(8, .int (nI (n + 1))), (7, .int (nI 8)), (6, .ref (ad 1)), (5, .int (mc_hoV M k y b (n + 1))), (0, .ref (ad 0)), (1, .ref (ad (10 + k))), (2, .long y), (4, .int b)]) (st' := []) (by rw [mc_hoM]; first | (rw [if_pos hnk]; done) | (rw [if_neg hnk, if_pos z56]; done) | (rw [if_neg hnk, if_neg z56]; done)) (by rw [ev8_74, nI_1, mc_hoV]; first | (rw [if_pos hnk]; done) | (rw [if_neg hnk, if_pos z56]; done) | (rw [if_neg hnk, if_neg z56, if_pos z68]; done) | rw [if_neg hnk, if_neg z56, if_neg z68, ev5_71]) rfl (ih31 (n + 1) (by omega) (by omega))
              · obtain ⟨v5_71, ev5_71⟩ : ∃ y9 : Int32, y9 = (mc_hoV M k y b n) + 1 := ⟨_, rfl⟩
                refine r_iinc (v := v5_71) (lv' := [(5, .int v5_71), (9, .ref (ad (10 + n))), (8, .int (nI n)), (7, .int (nI 8)), (6, .ref (ad 1)), (0, .ref (ad 0)), (1, .ref (ad (10 + k))), (2, .long y), (4, .int b)]) C dX4_holdTo_71 4 rfl (by rw [ev5_71]; rfl) (by decide) rfl ?_
                obtain ⟨v8_74, ev8_74⟩ : ∃ y9 : Int32, y9 = (nI n) + 1 := ⟨_, rfl⟩
                refine r_iinc (v := v8_74) (lv' := [(8, .int v8_74), (5, .int v5_71), (9, .ref (ad (10 + n))), (7, .int (nI 8)), (6, .ref (ad 1)), (0, .ref (ad 0)), (1, .ref (ad (10 + k))), (2, .long y), (4, .int b)]) C dX4_holdTo_74 2 rfl (by rw [ev8_74]; rfl) (by decide) rfl ?_
                refine r_goto (tgt := 31) C dX4_holdTo_77 (by decide) ?_
                refine r_sub (lv' := [(8, .int v8_74), (7, .int (nI 8)), (6, .ref (ad 1)), (5, .int v5_71), (0, .ref (ad 0)), (1, .ref (ad (10 + k))), (2, .long y), (4, .int b)]) [0, 3, 4, 1, 5, 6, 7, 8] rfl ?_
                refine r_cast (M' := mc_hoM M k y b (n + 1)) (lv' := [(8, .int (nI (n + 1))), (7, .int (nI 8)), (6, .ref (ad 1)), (5, .int (mc_hoV M k y b (n + 1))), (0, .ref (ad 0)), (1, .ref (ad (10 + k))), (2, .long y), (4, .int b)]) (st' := []) (by rw [mc_hoM]; first | (rw [if_pos hnk]; done) | (rw [if_neg hnk, if_pos z56]; done) | (rw [if_neg hnk, if_neg z56]; done)) (by rw [ev8_74, nI_1, mc_hoV]; first | (rw [if_pos hnk]; done) | (rw [if_neg hnk, if_pos z56]; done) | (rw [if_neg hnk, if_neg z56, if_pos z68]; done) | rw [if_neg hnk, if_neg z56, if_neg z68, ev5_71]) rfl (ih31 (n + 1) (by omega) (by omega))
    refine r_cast (M' := mc_hoM M k y b 0) (lv' := [(8, .int (nI 0)), (7, .int (nI 8)), (6, .ref (ad 1)), (5, .int (mc_hoV M k y b 0)), (0, .ref (ad 0)), (1, .ref (ad (10 + k))), (2, .long y), (4, .int b)]) (st' := []) rfl (by rw [ev7_26, mc_hoV]; first | (rw [if_pos z7]; rfl) | (rw [if_neg z7]; rfl)) rfl (L31 (8 - 0 + 1) 0 (by omega) (by omega))
  · refine r_iconst (v := 1) C dX4_holdTo_10 rfl ?_
    refine r_goto (tgt := 15) C dX4_holdTo_11 (by decide) ?_
    refine r_istore (lv' := [(5, .int 1), (0, .ref (ad 0)), (1, .ref (ad (10 + k))), (2, .long y), (4, .int b)]) C dX4_holdTo_15 (by decide) rfl ?_
    refine r_aload_n C dX4_holdTo_17 rfl 1 rfl ?_
    refine r_get4 C inX4 0 (by decide) rfl f11 rfl dX4_holdTo_18 ?_
    refine r_astore (lv' := [(6, .ref (ad 1)), (5, .int 1), (0, .ref (ad 0)), (1, .ref (ad (10 + k))), (2, .long y), (4, .int b)]) C dX4_holdTo_21 (by decide) rfl ?_
    refine r_aload C dX4_holdTo_23 0 rfl ?_
    refine r_alenE C dX4_holdTo_25 ?_
    refine r_topi (fun v7_26 ev7_26 => ?_)
    refine r_istore (lv' := [(7, .int v7_26), (6, .ref (ad 1)), (5, .int 1), (0, .ref (ad 0)), (1, .ref (ad (10 + k))), (2, .long y), (4, .int b)]) C dX4_holdTo_26 (by decide) rfl ?_
    refine r_iconst (v := 0) C dX4_holdTo_28 rfl ?_
    refine r_istore (lv' := [(8, .int 0), (7, .int v7_26), (6, .ref (ad 1)), (5, .int 1), (0, .ref (ad 0)), (1, .ref (ad (10 + k))), (2, .long y), (4, .int b)]) C dX4_holdTo_29 (by decide) rfl ?_
    have L31 : ∀ (k9 : Nat) (n : Nat) (hn : n ≤ 8), 8 - n < k9 → mm_G pp l ee rmX4_holdTo ss mm ([.ref (ad 0), .ref (ad (10 + k)), .long y, .int b] : List Value).toArray bl mth cd 0 0 (MQ bl (mm_Q D ad q A (fun v' u => v' = some (.int (mc_hoV M k y b 8)) ∧ u = mc_hoM M k y b 8)) ([.ref (ad 0), .ref (ad (10 + k)), .long y, .int b] : List Value).toArray ss 0 0 A) 10 D ad q A (mc_hoM M k y b n) 31 [(8, .int (nI n)), (7, .int (nI 8)), (6, .ref (ad 1)), (5, .int (mc_hoV M k y b n)), (0, .ref (ad 0)), (1, .ref (ad (10 + k))), (2, .long y), (4, .int b)] [] := by
      intro k9
      induction k9 with
      | zero => intro n hn h9; exact absurd h9 (Nat.not_lt_zero _)
      | succ k9 ih31 =>
        intro n hn h9
        refine r_iload C dX4_holdTo_31 0 rfl ?_
        refine r_iload C dX4_holdTo_33 1 rfl ?_
        refine r_icmp_ge (tgt := 80) C dX4_holdTo_35 (by decide) (fun z35 => ?_) (fun z35 => ?_)
        · obtain rfl : n = 8 := nm_ge hn (by decide) z35
          refine r_iload C dX4_holdTo_80 3 rfl ?_
          exact r_iret C hret hlk9 dX4_holdTo_82 ⟨by first | rfl | (subst_vars; rfl) | (subst_vars; simp [*]), by first | rfl | (subst_vars; rfl)⟩
        · have hlt : n < 8 := nm_lt (by omega) (by decide) z35
          refine r_aload C dX4_holdTo_38 2 rfl ?_
          refine r_iload C dX4_holdTo_40 0 rfl ?_
          refine r_aaldE C (n) (nI_toInt (by omega)) (hlt) dX4_holdTo_42 ?_
          refine r_astore (lv' := [(9, .ref (ad (10 + n))), (8, .int (nI n)), (7, .int (nI 8)), (6, .ref (ad 1)), (5, .int (mc_hoV M k y b n)), (0, .ref (ad 0)), (1, .ref (ad (10 + k))), (2, .long y), (4, .int b)]) C dX4_holdTo_43 (by decide) rfl ?_
          refine r_aload C dX4_holdTo_45 0 rfl ?_
          refine r_aload_n C dX4_holdTo_47 rfl 6 rfl ?_
          refine r_acmp_eq (tgt := 74) C dX4_holdTo_48 (by decide) (fun z48 => ?_) (fun z48 => ?_)
          · have hnk : n = k := by have := hAD.1 (10 + n) (10 + k) (by omega) (by omega) z48; omega
            obtain ⟨v8_74, ev8_74⟩ : ∃ y9 : Int32, y9 = (nI n) + 1 := ⟨_, rfl⟩
            refine r_iinc (v := v8_74) (lv' := [(8, .int v8_74), (9, .ref (ad (10 + n))), (7, .int (nI 8)), (6, .ref (ad 1)), (5, .int (mc_hoV M k y b n)), (0, .ref (ad 0)), (1, .ref (ad (10 + k))), (2, .long y), (4, .int b)]) C dX4_holdTo_74 1 rfl (by rw [ev8_74]; rfl) (by decide) rfl ?_
            refine r_goto (tgt := 31) C dX4_holdTo_77 (by decide) ?_
            refine r_sub (lv' := [(8, .int v8_74), (7, .int (nI 8)), (6, .ref (ad 1)), (5, .int (mc_hoV M k y b n)), (0, .ref (ad 0)), (1, .ref (ad (10 + k))), (2, .long y), (4, .int b)]) [0, 2, 3, 4, 5, 6, 7, 8] rfl ?_
            refine r_cast (M' := mc_hoM M k y b (n + 1)) (lv' := [(8, .int (nI (n + 1))), (7, .int (nI 8)), (6, .ref (ad 1)), (5, .int (mc_hoV M k y b (n + 1))), (0, .ref (ad 0)), (1, .ref (ad (10 + k))), (2, .long y), (4, .int b)]) (st' := []) (by rw [mc_hoM]; first | (rw [if_pos hnk]; done) | (rw [if_neg hnk, if_pos z56]; done) | (rw [if_neg hnk, if_neg z56]; done)) (by rw [ev8_74, nI_1, mc_hoV]; first | (rw [if_pos hnk]; done) | (rw [if_neg hnk, if_pos z56]; done) | (rw [if_neg hnk, if_neg z56, if_pos z68]; done) | rw [if_neg hnk, if_neg z56, if_neg z68, ev5_71]) rfl (ih31 (n + 1) (by omega) (by omega))
          · have hnk : ¬ n = k := fun h => z48 (by rw [h])
            refine r_aload C dX4_holdTo_51 0 rfl ?_
            refine r_callV0I C 0 (by have := (hlt); omega) rfl (mm_ct0 ad q _ (hlt)) (kX0_isLiving hAD (hlt) (by rw [mc_hoM_4]; exact hb n hlt)) (cwV 0 C.1.2.2.2.2 gX4_holdTo_X0_isLiving rfl rfl rfl (by decide +kernel) ⟨Nat.le_of_ble_eq_true rfl, Nat.le_of_ble_eq_true rfl⟩) (Nat.le_of_ble_eq_true rfl) dX4_holdTo_53 ⟨rfl, rfl⟩ ⟨Nat.zero_le _, Nat.zero_le _⟩ ?_
            refine r_if_eq (tgt := 74) C dX4_holdTo_56 (by decide) (fun z56 => ?_) (fun z56 => ?_)
            · rw [mc_hoM_4] at z56
              obtain ⟨v8_74, ev8_74⟩ : ∃ y9 : Int32, y9 = (nI n) + 1 := ⟨_, rfl⟩
              refine r_iinc (v := v8_74) (lv' := [(8, .int v8_74), (9, .ref (ad (10 + n))), (7, .int (nI 8)), (6, .ref (ad 1)), (5, .int (mc_hoV M k y b n)), (0, .ref (ad 0)), (1, .ref (ad (10 + k))), (2, .long y), (4, .int b)]) C dX4_holdTo_74 1 rfl (by rw [ev8_74]; rfl) (by decide) rfl ?_
              refine r_goto (tgt := 31) C dX4_holdTo_77 (by decide) ?_
              refine r_sub (lv' := [(8, .int v8_74), (7, .int (nI 8)), (6, .ref (ad 1)), (5, .int (mc_hoV M k y b n)), (0, .ref (ad 0)), (1, .ref (ad (10 + k))), (2, .long y), (4, .int b)]) [0, 2, 3, 4, 5, 6, 7, 8] rfl ?_
              refine r_cast (M' := mc_hoM M k y b (n + 1)) (lv' := [(8, .int (nI (n + 1))), (7, .int (nI 8)), (6, .ref (ad 1)), (5, .int (mc_hoV M k y b (n + 1))), (0, .ref (ad 0)), (1, .ref (ad (10 + k))), (2, .long y), (4, .int b)]) (st' := []) (by rw [mc_hoM]; first | (rw [if_pos hnk]; done) | (rw [if_neg hnk, if_pos z56]; done) | (rw [if_neg hnk, if_neg z56]; done)) (by rw [ev8_74, nI_1, mc_hoV]; first | (rw [if_pos hnk]; done) | (rw [if_neg hnk, if_pos z56]; done) | (rw [if_neg hnk, if_neg z56, if_pos z68]; done) | rw [if_neg hnk, if_neg z56, if_neg z68, ev5_71]) rfl (ih31 (n + 1) (by omega) (by omega))
            · rw [mc_hoM_4] at z56
              refine r_aload C dX4_holdTo_59 0 rfl ?_
              refine r_aload_n C dX4_holdTo_61 rfl 6 rfl ?_
              refine r_lload_n C dX4_holdTo_62 rfl 7 rfl ?_
              refine r_iload C dX4_holdTo_63 8 rfl ?_
              refine r_callS4I C (kX4_fit hAD (hlt) hk) (va_cwS 4 C.1.2.2.2.2 gX4_holdTo_X4_fit rfl rfl rfl (by decide +kernel) ⟨Nat.le_of_ble_eq_true rfl, Nat.le_of_ble_eq_true rfl⟩) (Nat.le_of_ble_eq_true rfl) dX4_holdTo_65 ⟨rfl, rfl⟩ ⟨Nat.zero_le _, Nat.zero_le _⟩ ?_
              refine r_if_eq (tgt := 74) C dX4_holdTo_68 (by decide) (fun z68 => ?_) (fun z68 => ?_)
              · obtain ⟨v8_74, ev8_74⟩ : ∃ y9 : Int32, y9 = (nI n) + 1 := ⟨_, rfl⟩
                refine r_iinc (v := v8_74) (lv' := [(8, .int v8_74), (9, .ref (ad (10 + n))), (7, .int (nI 8)), (6, .ref (ad 1)), (5, .int (mc_hoV M k y b n)), (0, .ref (ad 0)), (1, .ref (ad (10 + k))), (2, .long y), (4, .int b)]) C dX4_holdTo_74 1 rfl (by rw [ev8_74]; rfl) (by decide) rfl ?_
                refine r_goto (tgt := 31) C dX4_holdTo_77 (by decide) ?_
                refine r_sub (lv' := [(8, .int v8_74), (7, .int (nI 8)), (6, .ref (ad 1)), (5, .int (mc_hoV M k y b n)), (0, .ref (ad 0)), (1, .ref (ad (10 + k))), (2, .long y), (4, .int b)]) [0, 2, 3, 4, 5, 6, 7, 8] rfl ?_
                refine r_cast (M' := mc_hoM M k y b (n + 1)) (lv' := [(8, .int (nI (n + 1))), (7, .int (nI 8)), (6, .ref (ad 1)), (5, .int (mc_hoV M k y b (n + 1))), (0, .ref (ad 0)), (1, .ref (ad (10 + k))), (2, .long y), (4, .int b)]) (st' := []) (by rw [mc_hoM]; first | (rw [if_pos hnk]; done) | (rw [if_neg hnk, if_pos z56]; done) | (rw [if_neg hnk, if_neg z56]; done)) (by rw [ev8_74, nI_1, mc_hoV]; first | (rw [if_pos hnk]; done) | (rw [if_neg hnk, if_pos z56]; done) | (rw [if_neg hnk, if_neg z56, if_pos z68]; done) | rw [if_neg hnk, if_neg z56, if_neg z68, ev5_71]) rfl (ih31 (n + 1) (by omega) (by omega))
              · obtain ⟨v5_71, ev5_71⟩ : ∃ y9 : Int32, y9 = (mc_hoV M k y b n) + 1 := ⟨_, rfl⟩
                refine r_iinc (v := v5_71) (lv' := [(5, .int v5_71), (9, .ref (ad (10 + n))), (8, .int (nI n)), (7, .int (nI 8)), (6, .ref (ad 1)), (0, .ref (ad 0)), (1, .ref (ad (10 + k))), (2, .long y), (4, .int b)]) C dX4_holdTo_71 4 rfl (by rw [ev5_71]; rfl) (by decide) rfl ?_
                obtain ⟨v8_74, ev8_74⟩ : ∃ y9 : Int32, y9 = (nI n) + 1 := ⟨_, rfl⟩
                refine r_iinc (v := v8_74) (lv' := [(8, .int v8_74), (5, .int v5_71), (9, .ref (ad (10 + n))), (7, .int (nI 8)), (6, .ref (ad 1)), (0, .ref (ad 0)), (1, .ref (ad (10 + k))), (2, .long y), (4, .int b)]) C dX4_holdTo_74 2 rfl (by rw [ev8_74]; rfl) (by decide) rfl ?_
                refine r_goto (tgt := 31) C dX4_holdTo_77 (by decide) ?_
                refine r_sub (lv' := [(8, .int v8_74), (7, .int (nI 8)), (6, .ref (ad 1)), (5, .int v5_71), (0, .ref (ad 0)), (1, .ref (ad (10 + k))), (2, .long y), (4, .int b)]) [0, 3, 4, 1, 5, 6, 7, 8] rfl ?_
                refine r_cast (M' := mc_hoM M k y b (n + 1)) (lv' := [(8, .int (nI (n + 1))), (7, .int (nI 8)), (6, .ref (ad 1)), (5, .int (mc_hoV M k y b (n + 1))), (0, .ref (ad 0)), (1, .ref (ad (10 + k))), (2, .long y), (4, .int b)]) (st' := []) (by rw [mc_hoM]; first | (rw [if_pos hnk]; done) | (rw [if_neg hnk, if_pos z56]; done) | (rw [if_neg hnk, if_neg z56]; done)) (by rw [ev8_74, nI_1, mc_hoV]; first | (rw [if_pos hnk]; done) | (rw [if_neg hnk, if_pos z56]; done) | (rw [if_neg hnk, if_neg z56, if_pos z68]; done) | rw [if_neg hnk, if_neg z56, if_neg z68, ev5_71]) rfl (ih31 (n + 1) (by omega) (by omega))
    refine r_cast (M' := mc_hoM M k y b 0) (lv' := [(8, .int (nI 0)), (7, .int (nI 8)), (6, .ref (ad 1)), (5, .int (mc_hoV M k y b 0)), (0, .ref (ad 0)), (1, .ref (ad (10 + k))), (2, .long y), (4, .int b)]) (st' := []) rfl (by rw [ev7_26, mc_hoV]; first | (rw [if_pos z7]; rfl) | (rw [if_neg z7]; rfl)) rfl (L31 (8 - 0 + 1) 0 (by omega) (by omega))

def mc_he1 (M : mm_M) (S n : Nat) : mm_M := if M.1 (10 + n) 3 = 0 then M else if M.1 (10 + n) 4 = 0 then mc_add (mm_sI M 3 1 (mc_dr M)) n 0 else mc_add (mm_sI M 3 1 (mc_dr M)) n (nm_fdI (mc_wvN (mm_sI M 3 1 (mc_dr M)) n S * M.1 (10 + n) 6) 64 + mc_drv M)
def mc_heN (M : mm_M) (S : Nat) : Nat → mm_M
  | 0 => M
  | n + 1 => mc_he1 (mc_heN M S n) S n
def mc_tick (M : mm_M) (S : Nat) : mm_M := mm_sI (mc_heN M S 8) 0 8 ((mc_heN M S 8).1 0 8 + 1)
theorem mc_he1_o {M : mm_M} {S n k j : Nat} (hk : (10 ≤ k ∧ k < 18) ∨ k < 3) (hn : n < 8) : (mc_he1 M S n).1 k j = M.1 k j := by
  have e : ∀ x : Int32, (mc_add (mm_sI M 3 1 (mc_dr M)) n x).1 k j = M.1 k j := fun x => by
    rw [mc_add, mm_sI_k (by omega), mm_sI_k (by omega), mm_sI_k (by omega)]
  unfold mc_he1
  split
  · rfl
  · split <;> exact e _
theorem mc_heN_o {M : mm_M} {S k j : Nat} (hk : (10 ≤ k ∧ k < 18) ∨ k < 3) : ∀ n, n ≤ 8 → (mc_heN M S n).1 k j = M.1 k j
  | 0, _ => rfl
  | n + 1, h => by rw [mc_heN, mc_he1_o hk (by omega), mc_heN_o hk n (by omega)]
abbrev rmX4_hearOneTick : Room := { frames := 3, cells := 0, slots := 0, locals := 67 }
set_option maxHeartbeats 400000 in
set_option maxRecDepth 100000 in
theorem kX4_hearOneTick {l : Launch} {D : va_G} {ad : Nat → Nat} {q : Nat → ClassId} {A : Nat → Prop} (hAD : mm_AD ad A) {S : Nat} {M : mm_M} (hb : ∀ i : Nat, i < 8 → M.1 (10 + i) 4 &&& 1 = M.1 (10 + i) 4) (hu : ∀ i : Nat, i < 8 → M.1 (10 + i) 3 &&& 1 = M.1 (10 + i) 3) (hS : M.1 0 6 = nI S) (hS4 : S ≤ 4) : mm_Kd l D ad q A yX4_hearOneTick wsX4_hearOneTick rmX4_hearOneTick [.ref (ad 0)] M none (mc_tick M S) := by
  have inX4 : ∀ w ∈ wsX40, w ∈ wsX4_hearOneTick := by decide +kernel
  have f11 : Cond.fieldLink RX4 11 "Beamrow" "elements" "[LBeamrow$Element;" ∈ wsX4_hearOneTick := by decide +kernel
  have f24 : Cond.fieldLink RX4 24 "Beamrow" "hiss" "LBeamrow$Hiss;" ∈ wsX4_hearOneTick := by decide +kernel
  have f60 : Cond.fieldLink RX4 60 "Beamrow" "nextTick" "I" ∈ wsX4_hearOneTick := by decide +kernel
  refine mm_of (cc := cX4_hearOneTick) (maxL := 6) (ret := none) (own := RX4) rfl hAD (plainFor_of_name (by decide)) rfl (Nat.le_of_ble_eq_true rfl) ⟨rfl, rfl⟩ ?_
  intro pp ee ss mm bl mth cd C hret hlk9
  show mm_G _ _ _ _ _ _ _ _ _ _ _ _ _ _ _ _ _ _ M 0 [(0, .ref (ad 0))] []
  refine r_aload_n C dX4_hearOneTick_0 rfl 0 rfl ?_
  refine r_get4 C inX4 0 (by decide) rfl f11 rfl dX4_hearOneTick_1 ?_
  refine r_astore_n (lv' := [(1, .ref (ad 1)), (0, .ref (ad 0))]) C dX4_hearOneTick_4 rfl (by decide) rfl ?_
  refine r_aload_n C dX4_hearOneTick_5 rfl 0 rfl ?_
  refine r_alenE C dX4_hearOneTick_6 ?_
  refine r_topi (fun v2_7 ev2_7 => ?_)
  refine r_istore_n (lv' := [(2, .int v2_7), (1, .ref (ad 1)), (0, .ref (ad 0))]) C dX4_hearOneTick_7 rfl (by decide) rfl ?_
  refine r_iconst (v := 0) C dX4_hearOneTick_8 rfl ?_
  refine r_istore_n (lv' := [(3, .int 0), (2, .int v2_7), (1, .ref (ad 1)), (0, .ref (ad 0))]) C dX4_hearOneTick_9 rfl (by decide) rfl ?_
  have L10 : ∀ (k9 : Nat) (n : Nat) (hn : n ≤ 8), 8 - n < k9 → mm_G pp l ee rmX4_hearOneTick ss mm ([.ref (ad 0)] : List Value).toArray bl mth cd 0 0 (MQ bl (mm_Q D ad q A (fun v' u => v' = none ∧ u = mc_tick M S)) ([.ref (ad 0)] : List Value).toArray ss 0 0 A) 6 D ad q A (mc_heN M S n) 10 [(3, .int (nI n)), (2, .int (nI 8)), (1, .ref (ad 1)), (0, .ref (ad 0))] [] := by
    intro k9
    induction k9 with
    | zero => intro n hn h9; exact absurd h9 (Nat.not_lt_zero _)
    | succ k9 ih10 =>
      intro n hn h9
      refine r_iload_n C dX4_hearOneTick_10 rfl 0 rfl ?_
      refine r_iload_n C dX4_hearOneTick_11 rfl 1 rfl ?_
      refine r_icmp_ge (tgt := 74) C dX4_hearOneTick_12 (by decide) (fun z12 => ?_) (fun z12 => ?_)
      · obtain rfl : n = 8 := nm_ge hn (by decide) z12
        refine r_aload_n C dX4_hearOneTick_74 rfl 3 rfl ?_
        refine r_dup C dX4_hearOneTick_75 rfl ?_
        refine r_get4 C inX4 8 (by decide) rfl f60 rfl dX4_hearOneTick_76 ?_
        refine r_iconst (v := 1) C dX4_hearOneTick_79 rfl ?_
        refine r_iadd C dX4_hearOneTick_80 ?_
        refine r_put4 C inX4 (ty := .int) 8 (by decide) mm_set4_8 f60 rfl rfl (by decide +kernel) rfl rfl dX4_hearOneTick_81 ?_
        exact r_vret C hret hlk9 dX4_hearOneTick_84 ⟨by first | rfl | (subst_vars; rfl) | (subst_vars; simp [*]), by first | rfl | (subst_vars; rfl)⟩
      · have hlt : n < 8 := nm_lt (by omega) (by decide) z12
        refine r_aload_n C dX4_hearOneTick_15 rfl 2 rfl ?_
        refine r_iload_n C dX4_hearOneTick_16 rfl 0 rfl ?_
        refine r_aaldE C (n) (nI_toInt (by omega)) (hlt) dX4_hearOneTick_17 ?_
        refine r_astore (lv' := [(4, .ref (ad (10 + n))), (3, .int (nI n)), (2, .int (nI 8)), (1, .ref (ad 1)), (0, .ref (ad 0))]) C dX4_hearOneTick_18 (by decide) rfl ?_
        refine r_aload C dX4_hearOneTick_20 0 rfl ?_
        refine r_callV0I C 0 (by have := (hlt); omega) rfl (mm_ct0 ad q _ (hlt)) (kX0_isUp hAD (hlt) (by rw [mc_heN_o (by omega) n (by omega)]; exact hu n hlt)) (cwV 0 C.1.2.2.2.2 gX4_hearOneTick_X0_isUp rfl rfl rfl (by decide +kernel) ⟨Nat.le_of_ble_eq_true rfl, Nat.le_of_ble_eq_true rfl⟩) (Nat.le_of_ble_eq_true rfl) dX4_hearOneTick_22 ⟨rfl, rfl⟩ ⟨Nat.zero_le _, Nat.zero_le _⟩ ?_
        refine r_if_eq (tgt := 68) C dX4_hearOneTick_25 (by decide) (fun z25 => ?_) (fun z25 => ?_)
        · obtain ⟨v3_68, ev3_68⟩ : ∃ y9 : Int32, y9 = (nI n) + 1 := ⟨_, rfl⟩
          refine r_iinc (v := v3_68) (lv' := [(3, .int v3_68), (4, .ref (ad (10 + n))), (2, .int (nI 8)), (1, .ref (ad 1)), (0, .ref (ad 0))]) C dX4_hearOneTick_68 1 rfl (by rw [ev3_68]; rfl) (by decide) rfl ?_
          refine r_goto (tgt := 10) C dX4_hearOneTick_71 (by decide) ?_
          refine r_sub (lv' := [(3, .int v3_68), (2, .int (nI 8)), (1, .ref (ad 1)), (0, .ref (ad 0))]) [0, 2, 3, 4] rfl ?_
          refine r_cast (M' := mc_heN M S (n + 1)) (lv' := [(3, .int (nI (n + 1))), (2, .int (nI 8)), (1, .ref (ad 1)), (0, .ref (ad 0))]) (st' := []) (by rw [mc_heN, mc_he1]; first | (rw [if_pos z25]; done) | (rw [if_neg z25, if_pos z44]; done) | (rw [if_neg z25, if_neg z44, ev5_35, mm_sI_k (by omega)]; done)) (by rw [ev3_68, nI_1]; first | done | rfl) rfl (ih10 (n + 1) (by omega) (by omega))
        · refine r_aload_n C dX4_hearOneTick_28 rfl 4 rfl ?_
          refine r_get4 C inX4 2 (by decide) rfl f24 rfl dX4_hearOneTick_29 ?_
          refine r_callV0I C 1 (by decide) rfl (mm_ct1 ad q _) (kX1_draw hAD) (cwV 0 C.1.2.2.2.2 gX4_hearOneTick_X1_draw rfl rfl rfl (by decide +kernel) ⟨Nat.le_of_ble_eq_true rfl, Nat.le_of_ble_eq_true rfl⟩) (Nat.le_of_ble_eq_true rfl) dX4_hearOneTick_32 ⟨rfl, rfl⟩ ⟨Nat.zero_le _, Nat.zero_le _⟩ ?_
          refine r_topi (fun v5_35 ev5_35 => ?_)
          refine r_istore (lv' := [(5, .int v5_35), (4, .ref (ad (10 + n))), (3, .int (nI n)), (2, .int (nI 8)), (1, .ref (ad 1)), (0, .ref (ad 0))]) C dX4_hearOneTick_35 (by decide) rfl ?_
          refine r_aload C dX4_hearOneTick_37 1 rfl ?_
          refine r_aload C dX4_hearOneTick_39 1 rfl ?_
          refine r_callV0I C 0 (by have := (hlt); omega) rfl (mm_ct0 ad q _ (hlt)) (kX0_isLiving hAD (hlt) (by rw [mm_sI_k (by omega), mc_heN_o (by omega) n (by omega)]; exact hb n hlt)) (cwV 0 C.1.2.2.2.2 gX4_hearOneTick_X0_isLiving rfl rfl rfl (by decide +kernel) ⟨Nat.le_of_ble_eq_true rfl, Nat.le_of_ble_eq_true rfl⟩) (Nat.le_of_ble_eq_true rfl) dX4_hearOneTick_41 ⟨rfl, rfl⟩ ⟨Nat.zero_le _, Nat.zero_le _⟩ ?_
          refine r_if_eq (tgt := 64) C dX4_hearOneTick_44 (by decide) (fun z44 => ?_) (fun z44 => ?_)
          · rw [mm_sI_k (by omega)] at z44
            refine r_iconst (v := 0) C dX4_hearOneTick_64 rfl ?_
            refine r_callV1V C 0 (by have := (hlt); omega) rfl (mm_ct0 ad q _ (hlt)) (kX0_keep hAD (hlt)) (cwV 1 C.1.2.2.2.2 gX4_hearOneTick_X0_keep rfl rfl rfl (by decide +kernel) ⟨Nat.le_of_ble_eq_true rfl, Nat.le_of_ble_eq_true rfl⟩) (Nat.le_of_ble_eq_true rfl) dX4_hearOneTick_65 ⟨rfl, rfl⟩ ⟨Nat.zero_le _, Nat.zero_le _⟩ ?_
            obtain ⟨v3_68, ev3_68⟩ : ∃ y9 : Int32, y9 = (nI n) + 1 := ⟨_, rfl⟩
            refine r_iinc (v := v3_68) (lv' := [(3, .int v3_68), (5, .int v5_35), (4, .ref (ad (10 + n))), (2, .int (nI 8)), (1, .ref (ad 1)), (0, .ref (ad 0))]) C dX4_hearOneTick_68 2 rfl (by rw [ev3_68]; rfl) (by decide) rfl ?_
            refine r_goto (tgt := 10) C dX4_hearOneTick_71 (by decide) ?_
            refine r_sub (lv' := [(3, .int v3_68), (2, .int (nI 8)), (1, .ref (ad 1)), (0, .ref (ad 0))]) [0, 3, 4, 5] rfl ?_
            refine r_cast (M' := mc_heN M S (n + 1)) (lv' := [(3, .int (nI (n + 1))), (2, .int (nI 8)), (1, .ref (ad 1)), (0, .ref (ad 0))]) (st' := []) (by rw [mc_heN, mc_he1]; first | (rw [if_pos z25]; done) | (rw [if_neg z25, if_pos z44]; done) | (rw [if_neg z25, if_neg z44, ev5_35, mm_sI_k (by omega)]; done)) (by rw [ev3_68, nI_1]; first | done | rfl) rfl (ih10 (n + 1) (by omega) (by omega))
          · rw [mm_sI_k (by omega)] at z44
            refine r_aload C dX4_hearOneTick_47 1 rfl ?_
            refine r_aload_n C dX4_hearOneTick_49 rfl 5 rfl ?_
            refine r_aload C dX4_hearOneTick_50 1 rfl ?_
            refine r_callV1I C 4 (by decide) rfl (mm_ct4 ad q _) (kX4_wavesAt hAD (hlt) (by show (mc_heN M S n).1 0 6 = _; rw [mc_heN_o (by omega) n (by omega)]; exact hS) (by exact hS4)) (cwV 1 C.1.2.2.2.2 gX4_hearOneTick_X4_wavesAt rfl rfl rfl (by decide +kernel) ⟨Nat.le_of_ble_eq_true rfl, Nat.le_of_ble_eq_true rfl⟩) (Nat.le_of_ble_eq_true rfl) dX4_hearOneTick_52 ⟨rfl, rfl⟩ ⟨Nat.zero_le _, Nat.zero_le _⟩ ?_
            refine r_callV1I C 0 (by have := (hlt); omega) rfl (mm_ct0 ad q _ (hlt)) (kX0_heardOf hAD (hlt)) (cwV 1 C.1.2.2.2.2 gX4_hearOneTick_X0_heardOf rfl rfl rfl (by decide +kernel) ⟨Nat.le_of_ble_eq_true rfl, Nat.le_of_ble_eq_true rfl⟩) (Nat.le_of_ble_eq_true rfl) dX4_hearOneTick_55 ⟨rfl, rfl⟩ ⟨Nat.zero_le _, Nat.zero_le _⟩ ?_
            refine r_iload C dX4_hearOneTick_58 0 rfl ?_
            refine r_iadd C dX4_hearOneTick_60 ?_
            refine r_goto (tgt := 65) C dX4_hearOneTick_61 (by decide) ?_
            refine r_callV1V C 0 (by have := (hlt); omega) rfl (mm_ct0 ad q _ (hlt)) (kX0_keep hAD (hlt)) (cwV 1 C.1.2.2.2.2 gX4_hearOneTick_X0_keep rfl rfl rfl (by decide +kernel) ⟨Nat.le_of_ble_eq_true rfl, Nat.le_of_ble_eq_true rfl⟩) (Nat.le_of_ble_eq_true rfl) dX4_hearOneTick_65 ⟨rfl, rfl⟩ ⟨Nat.zero_le _, Nat.zero_le _⟩ ?_
            obtain ⟨v3_68, ev3_68⟩ : ∃ y9 : Int32, y9 = (nI n) + 1 := ⟨_, rfl⟩
            refine r_iinc (v := v3_68) (lv' := [(3, .int v3_68), (5, .int v5_35), (4, .ref (ad (10 + n))), (2, .int (nI 8)), (1, .ref (ad 1)), (0, .ref (ad 0))]) C dX4_hearOneTick_68 2 rfl (by rw [ev3_68]; rfl) (by decide) rfl ?_
            refine r_goto (tgt := 10) C dX4_hearOneTick_71 (by decide) ?_
            refine r_sub (lv' := [(3, .int v3_68), (2, .int (nI 8)), (1, .ref (ad 1)), (0, .ref (ad 0))]) [0, 3, 4, 5] rfl ?_
            refine r_cast (M' := mc_heN M S (n + 1)) (lv' := [(3, .int (nI (n + 1))), (2, .int (nI 8)), (1, .ref (ad 1)), (0, .ref (ad 0))]) (st' := []) (by rw [mc_heN, mc_he1]; first | (rw [if_pos z25]; done) | (rw [if_neg z25, if_pos z44]; done) | (rw [if_neg z25, if_neg z44, ev5_35, mm_sI_k (by omega)]; done)) (by rw [ev3_68, nI_1]; first | done | rfl) rfl (ih10 (n + 1) (by omega) (by omega))
  refine r_cast (M' := mc_heN M S 0) (lv' := [(3, .int (nI 0)), (2, .int (nI 8)), (1, .ref (ad 1)), (0, .ref (ad 0))]) (st' := []) rfl (by rw [ev2_7]; rfl) rfl (L10 (8 - 0 + 1) 0 (by omega) (by omega))
