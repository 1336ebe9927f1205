def mc_wvN (M : mm_M) (i : Nat) : Nat → Int32
  | 0 => 0
  | n + 1 => mc_wvN M i n + mc_wave M n (M.1 0 8 - mc_delay M i (M.1 (6 + n) 0) - M.1 (10 + i) 7)
abbrev rmX4_wavesAt : Room := { frames := 2, cells := 0, slots := 0, locals := 43 }
set_option maxHeartbeats 400000 in
set_option maxRecDepth 100000 in
theorem kX4_wavesAt {l : Launch} {D : va_G} {ad : Nat → Nat} {q : Nat → ClassId} {A : Nat → Prop} (hAD : mm_AD ad A) {i S : Nat} (hi : i < 8) {M : mm_M} (hS : M.1 0 6 = nI S) (hS4 : S ≤ 4) : mm_Kd l D ad q A yX4_wavesAt wsX4_wavesAt rmX4_wavesAt [.ref (ad 0), .ref (ad (10 + i))] M (some (.int (mc_wvN M i S))) M := by
  have inX4 : ∀ w ∈ wsX40, w ∈ wsX4_wavesAt := by decide +kernel
  have f17 : Cond.fieldLink RX4 17 "Beamrow" "sources" "[LBeamrow$Source;" ∈ wsX4_wavesAt := by decide +kernel
  have f60 : Cond.fieldLink RX4 60 "Beamrow" "nextTick" "I" ∈ wsX4_wavesAt := by decide +kernel
  have f91 : Cond.fieldLink RX4 91 "Beamrow" "sourceCount" "I" ∈ wsX4_wavesAt := by decide +kernel
  refine mm_of (cc := cX4_wavesAt) (maxL := 5) (ret := some .int) (own := RX4) rfl hAD (plainFor_of_name (by decide)) rfl (Nat.le_of_ble_eq_true rfl) ⟨rfl, rfl⟩ ?_
  intro pp ee ss mm bl mth cd C hret hlk9
  show mm_G _ _ _ _ _ _ _ _ _ _ _ _ _ _ _ _ _ _ M 0 [(0, .ref (ad 0)), (1, .ref (ad (10 + i)))] []
  refine r_iconst (v := 0) C dX4_wavesAt_0 rfl ?_
  refine r_istore_n (lv' := [(2, .int 0), (0, .ref (ad 0)), (1, .ref (ad (10 + i)))]) C dX4_wavesAt_1 rfl (by decide) rfl ?_
  refine r_iconst (v := 0) C dX4_wavesAt_2 rfl ?_
  refine r_istore_n (lv' := [(3, .int 0), (2, .int 0), (0, .ref (ad 0)), (1, .ref (ad (10 + i)))]) C dX4_wavesAt_3 rfl (by decide) rfl ?_
  have L4 : ∀ (k9 : Nat) (n : Nat) (hn : n ≤ S), S - n < k9 → mm_G pp l ee rmX4_wavesAt ss mm ([.ref (ad 0), .ref (ad (10 + i))] : List Value).toArray bl mth cd 0 0 (MQ bl (mm_Q D ad q A (fun v' u => v' = some (.int (mc_wvN M i S)) ∧ u = M)) ([.ref (ad 0), .ref (ad (10 + i))] : List Value).toArray ss 0 0 A) 5 D ad q A (M) 4 [(3, .int (nI n)), (2, .int (mc_wvN M i n)), (0, .ref (ad 0)), (1, .ref (ad (10 + i)))] [] := by
    intro k9
    induction k9 with
    | zero => intro n hn h9; exact absurd h9 (Nat.not_lt_zero _)
    | succ k9 ih4 =>
      intro n hn h9
      refine r_iload_n C dX4_wavesAt_4 rfl 0 rfl ?_
      refine r_aload_n C dX4_wavesAt_5 rfl 2 rfl ?_
      refine r_get4 C inX4 6 (by decide) rfl f91 rfl dX4_wavesAt_6 ?_
      refine r_icmp_ge (tgt := 62) C dX4_wavesAt_9 (by decide) (fun z9 => ?_) (fun z9 => ?_)
      · rw [hS] at z9
        obtain rfl : n = S := nm_ge hn (by omega) z9
        refine r_iload_n C dX4_wavesAt_62 rfl 1 rfl ?_
        exact r_iret C hret hlk9 dX4_wavesAt_63 ⟨by first | rfl | (subst_vars; rfl) | (subst_vars; simp [*]), by first | rfl | (subst_vars; rfl)⟩
      · rw [hS] at z9
        have hlt : n < S := nm_lt (by omega) (by omega) z9
        refine r_iload_n C dX4_wavesAt_12 rfl 0 rfl ?_
        refine r_aload_n C dX4_wavesAt_13 rfl 2 rfl ?_
        refine r_get4 C inX4 1 (by decide) rfl f17 rfl dX4_wavesAt_14 ?_
        refine r_alenS C dX4_wavesAt_17 ?_
        refine r_icmp_geF (tgt := 62) C dX4_wavesAt_18 (by decide) (nm_nge (Nat.lt_of_lt_of_le hlt hS4) (by decide)) ?_
        refine r_aload_n C dX4_wavesAt_21 rfl 2 rfl ?_
        refine r_get4 C inX4 1 (by decide) rfl f17 rfl dX4_wavesAt_22 ?_
        refine r_iload_n C dX4_wavesAt_25 rfl 0 rfl ?_
        refine r_aaldS C (n) (nI_toInt (by omega)) (Nat.lt_of_lt_of_le hlt hS4) dX4_wavesAt_26 ?_
        refine r_astore (lv' := [(4, .ref (ad (6 + n))), (3, .int (nI n)), (2, .int (mc_wvN M i n)), (0, .ref (ad 0)), (1, .ref (ad (10 + i)))]) C dX4_wavesAt_27 (by decide) rfl ?_
        refine r_iload_n C dX4_wavesAt_29 rfl 2 rfl ?_
        refine r_aload C dX4_wavesAt_30 0 rfl ?_
        refine r_aload_n C dX4_wavesAt_32 rfl 3 rfl ?_
        refine r_get4 C inX4 8 (by decide) rfl f60 rfl dX4_wavesAt_33 ?_
        refine r_aload_n C dX4_wavesAt_36 rfl 4 rfl ?_
        refine r_aload C dX4_wavesAt_37 0 rfl ?_
        refine r_callV0I C 2 (by have := (Nat.lt_of_lt_of_le hlt hS4); omega) rfl (mm_ct2 ad q _ (Nat.lt_of_lt_of_le hlt hS4)) (kX2_getBearing hAD (Nat.lt_of_lt_of_le hlt hS4)) (cwV 0 C.1.2.2.2.2 gX4_wavesAt_X2_getBearing rfl rfl rfl (by decide +kernel) ⟨Nat.le_of_ble_eq_true rfl, Nat.le_of_ble_eq_true rfl⟩) (Nat.le_of_ble_eq_true rfl) dX4_wavesAt_39 ⟨rfl, rfl⟩ ⟨Nat.zero_le _, Nat.zero_le _⟩ ?_
        refine r_callV1I C 0 (by have := hi; omega) rfl (mm_ct0 ad q _ hi) (kX0_delayFor hAD hi) (cwV 1 C.1.2.2.2.2 gX4_wavesAt_X0_delayFor rfl rfl rfl (by decide +kernel) ⟨Nat.le_of_ble_eq_true rfl, Nat.le_of_ble_eq_true rfl⟩) (Nat.le_of_ble_eq_true rfl) dX4_wavesAt_42 ⟨rfl, rfl⟩ ⟨Nat.zero_le _, Nat.zero_le _⟩ ?_
        refine r_isub C dX4_wavesAt_45 ?_
        refine r_aload_n C dX4_wavesAt_46 rfl 4 rfl ?_
        refine r_callV0I C 0 (by have := hi; omega) rfl (mm_ct0 ad q _ hi) (kX0_getLag hAD hi) (cwV 0 C.1.2.2.2.2 gX4_wavesAt_X0_getLag rfl rfl rfl (by decide +kernel) ⟨Nat.le_of_ble_eq_true rfl, Nat.le_of_ble_eq_true rfl⟩) (Nat.le_of_ble_eq_true rfl) dX4_wavesAt_47 ⟨rfl, rfl⟩ ⟨Nat.zero_le _, Nat.zero_le _⟩ ?_
        refine r_isub C dX4_wavesAt_50 ?_
        refine r_callV1I C 2 (by have := (Nat.lt_of_lt_of_le hlt hS4); omega) rfl (mm_ct2 ad q _ (Nat.lt_of_lt_of_le hlt hS4)) (kX2_waveAt hAD (Nat.lt_of_lt_of_le hlt hS4)) (cwV 1 C.1.2.2.2.2 gX4_wavesAt_X2_waveAt rfl rfl rfl (by decide +kernel) ⟨Nat.le_of_ble_eq_true rfl, Nat.le_of_ble_eq_true rfl⟩) (Nat.le_of_ble_eq_true rfl) dX4_wavesAt_51 ⟨rfl, rfl⟩ ⟨Nat.zero_le _, Nat.zero_le _⟩ ?_
        refine r_iadd C dX4_wavesAt_54 ?_
        refine r_topi (fun v2_55 ev2_55 => ?_)
        refine r_istore_n (lv' := [(2, .int v2_55), (4, .ref (ad (6 + n))), (3, .int (nI n)), (0, .ref (ad 0)), (1, .ref (ad (10 + i)))]) C dX4_wavesAt_55 rfl (by decide) rfl ?_
        obtain ⟨v3_56, ev3_56⟩ : ∃ y9 : Int32, y9 = (nI n) + 1 := ⟨_, rfl⟩
        refine r_iinc (v := v3_56) (lv' := [(3, .int v3_56), (2, .int v2_55), (4, .ref (ad (6 + n))), (0, .ref (ad 0)), (1, .ref (ad (10 + i)))]) C dX4_wavesAt_56 2 rfl (by rw [ev3_56]; rfl) (by decide) rfl ?_
        refine r_goto (tgt := 4) C dX4_wavesAt_59 (by decide) ?_
        refine r_sub (lv' := [(3, .int v3_56), (2, .int v2_55), (0, .ref (ad 0)), (1, .ref (ad (10 + i)))]) [0, 1, 3, 4] rfl ?_
        refine r_cast (M' := M) (lv' := [(3, .int (nI (n + 1))), (2, .int (mc_wvN M i (n + 1))), (0, .ref (ad 0)), (1, .ref (ad (10 + i)))]) (st' := []) rfl (by rw [ev3_56, nI_1, ev2_55]; rfl) rfl (ih4 (n + 1) (by omega) (by omega))
  refine r_cast (M' := M) (lv' := [(3, .int (nI 0)), (2, .int (mc_wvN M i 0)), (0, .ref (ad 0)), (1, .ref (ad (10 + i)))]) (st' := []) rfl rfl rfl (L4 (S - 0 + 1) 0 (Nat.zero_le _) (by omega))

def mc_liv (M : mm_M) : Nat → Int32
  | 0 => 0
  | n + 1 => mc_liv M n + (if M.1 (10 + n) 4 = 0 then 0 else 1)
/-- the weight of element n, told at the beginning -/
def mc_w (M : mm_M) (n : Nat) : Int32 := if M.1 (10 + n) 4 = 0 then 0 else mc_wt M (mc_liv M n) (mc_liv M 8)
def mc_laM (M : mm_M) : Nat → mm_M
  | 0 => M
  | n + 1 => mc_layOut (mc_laM M n) n (mc_w M n)
def mc_laA (M : mm_M) : Nat → Int64
  | 0 => 0
  | n + 1 => mc_laA M n + (mc_w M n).toInt64
theorem mc_turn_1 {M : mm_M} {i : Nat} : (mc_turn M i).1 = M.1 := by unfold mc_turn; split; rfl; split <;> rfl
theorem mc_layOut_1 {M : mm_M} {i : Nat} {w : Int32} : (mc_layOut M i w).1 = M.1 := by unfold mc_layOut; split; rfl; rw [mc_turn_1]; rfl
theorem mc_laM_1 {M : mm_M} : ∀ n, (mc_laM M n).1 = M.1
  | 0 => rfl
  | n + 1 => by rw [mc_laM, mc_layOut_1, mc_laM_1 n]
theorem mc_w_0 {M : mm_M} {n : Nat} (z : M.1 (10 + n) 4 = 0) : mc_w M n = 0 := if_pos z
theorem mc_w_1 {M : mm_M} {n : Nat} (z : ¬ M.1 (10 + n) 4 = 0) : mc_w M n = mc_wt M (mc_liv M n) (mc_liv M 8) := if_neg z
theorem mc_liv_0 {M : mm_M} {n : Nat} (z : M.1 (10 + n) 4 = 0) : mc_liv M (n + 1) = mc_liv M n := by rw [mc_liv, if_pos z]; simp
theorem mc_liv_1 {M : mm_M} {n : Nat} (z : ¬ M.1 (10 + n) 4 = 0) : mc_liv M (n + 1) = mc_liv M n + 1 := by rw [mc_liv, if_neg z]
theorem mc_laA_s {M : mm_M} {n : Nat} : mc_laA M (n + 1) = mc_laA M n + (mc_w M n).toInt64 := rfl
theorem mc_laM_s {M : mm_M} {n : Nat} : mc_laM M (n + 1) = mc_layOut (mc_laM M n) n (mc_w M n) := rfl
theorem mc_wt_laM {M : mm_M} {n : Nat} {x y : Int32} : mc_wt (mc_laM M n) x y = mc_wt M x y := by unfold mc_wt; rw [mc_laM_1]
abbrev rmX4_layAll : Room := { frames := 3, cells := 0, slots := 0, locals := 68 }
set_option maxHeartbeats 400000 in
set_option maxRecDepth 100000 in
theorem kX4_layAll {l : Launch} {D : va_G} {ad : Nat → Nat} {q : Nat → ClassId} {A : Nat → Prop} (hAD : mm_AD ad A) {M : mm_M} (hb : ∀ i : Nat, i < 8 → M.1 (10 + i) 4 &&& 1 = M.1 (10 + i) 4) : mm_Kd l D ad q A yX4_layAll wsX4_layAll rmX4_layAll [.ref (ad 0)] M (some (.long (mc_laA M 8))) (mc_laM M 8) := by
  have inX4 : ∀ w ∈ wsX40, w ∈ wsX4_layAll := by decide +kernel
  have f11 : Cond.fieldLink RX4 11 "Beamrow" "elements" "[LBeamrow$Element;" ∈ wsX4_layAll := by decide +kernel
  refine mm_of (cc := cX4_layAll) (maxL := 10) (ret := some .long) (own := RX4) rfl hAD (plainFor_of_name (by decide)) rfl (Nat.le_of_ble_eq_true rfl) ⟨rfl, rfl⟩ ?_
  intro pp ee ss mm bl mth cd C hret hlk9
  show mm_G _ _ _ _ _ _ _ _ _ _ _ _ _ _ _ _ _ _ M 0 [(0, .ref (ad 0))] []
  refine r_iconst (v := 0) C dX4_layAll_0 rfl ?_
  refine r_istore_n (lv' := [(1, .int 0), (0, .ref (ad 0))]) C dX4_layAll_1 rfl (by decide) rfl ?_
  refine r_aload_n C dX4_layAll_2 rfl 1 rfl ?_
  refine r_get4 C inX4 0 (by decide) rfl f11 rfl dX4_layAll_3 ?_
  refine r_astore_n (lv' := [(2, .ref (ad 1)), (1, .int 0), (0, .ref (ad 0))]) C dX4_layAll_6 rfl (by decide) rfl ?_
  refine r_aload_n C dX4_layAll_7 rfl 0 rfl ?_
  refine r_alenE C dX4_layAll_8 ?_
  refine r_topi (fun v3_9 ev3_9 => ?_)
  refine r_istore_n (lv' := [(3, .int v3_9), (2, .ref (ad 1)), (1, .int 0), (0, .ref (ad 0))]) C dX4_layAll_9 rfl (by decide) rfl ?_
  refine r_iconst (v := 0) C dX4_layAll_10 rfl ?_
  refine r_istore (lv' := [(4, .int 0), (3, .int v3_9), (2, .ref (ad 1)), (1, .int 0), (0, .ref (ad 0))]) C dX4_layAll_11 (by decide) rfl ?_
  have L13 : ∀ (k9 : Nat) (n : Nat) (hn : n ≤ 8), 8 - n < k9 → mm_G pp l ee rmX4_layAll ss mm ([.ref (ad 0)] : List Value).toArray bl mth cd 0 0 (MQ bl (mm_Q D ad q A (fun v' u => v' = some (.long (mc_laA M 8)) ∧ u = mc_laM M 8)) ([.ref (ad 0)] : List Value).toArray ss 0 0 A) 10 D ad q A (M) 13 [(4, .int (nI n)), (3, .int (nI 8)), (2, .ref (ad 1)), (1, .int (mc_liv M n)), (0, .ref (ad 0))] [] := by
    intro k9
    induction k9 with
    | zero => intro n hn h9; exact absurd h9 (Nat.not_lt_zero _)
    | succ k9 ih13 =>
      intro n hn h9
      refine r_iload C dX4_layAll_13 0 rfl ?_
      refine r_iload_n C dX4_layAll_15 rfl 1 rfl ?_
      refine r_icmp_ge (tgt := 47) C dX4_layAll_16 (by decide) (fun z16 => ?_) (fun z16 => ?_)
      · obtain rfl : n = 8 := nm_ge hn (by decide) z16
        refine r_iconst (v := 0) C dX4_layAll_47 rfl ?_
        refine r_istore_n (lv' := [(2, .int 0), (4, .int (nI 8)), (3, .int (nI 8)), (1, .int (mc_liv M 8)), (0, .ref (ad 0))]) C dX4_layAll_48 rfl (by decide) rfl ?_
        refine r_lconst (v := 0) C dX4_layAll_49 rfl ?_
        refine r_lstore_n (lv' := [(3, .long 0), (2, .int 0), (1, .int (mc_liv M 8)), (0, .ref (ad 0))]) C dX4_layAll_50 rfl (by decide) rfl ?_
        refine r_aload_n C dX4_layAll_51 rfl 3 rfl ?_
        refine r_get4 C inX4 0 (by decide) rfl f11 rfl dX4_layAll_52 ?_
        refine r_astore (lv' := [(5, .ref (ad 1)), (3, .long 0), (2, .int 0), (1, .int (mc_liv M 8)), (0, .ref (ad 0))]) C dX4_layAll_55 (by decide) rfl ?_
        refine r_aload C dX4_layAll_57 0 rfl ?_
        refine r_alenE C dX4_layAll_59 ?_
        refine r_topi (fun v6_60 ev6_60 => ?_)
        refine r_istore (lv' := [(6, .int v6_60), (5, .ref (ad 1)), (3, .long 0), (2, .int 0), (1, .int (mc_liv M 8)), (0, .ref (ad 0))]) C dX4_layAll_60 (by decide) rfl ?_
        refine r_iconst (v := 0) C dX4_layAll_62 rfl ?_
        refine r_istore (lv' := [(7, .int 0), (6, .int v6_60), (5, .ref (ad 1)), (3, .long 0), (2, .int 0), (1, .int (mc_liv M 8)), (0, .ref (ad 0))]) C dX4_layAll_63 (by decide) rfl ?_
        have L65 : ∀ (k9 : Nat) (n : Nat) (hn : n ≤ 8), 8 - n < k9 → mm_G pp l ee rmX4_layAll ss mm ([.ref (ad 0)] : List Value).toArray bl mth cd 0 0 (MQ bl (mm_Q D ad q A (fun v' u => v' = some (.long (mc_laA M 8)) ∧ u = mc_laM M 8)) ([.ref (ad 0)] : List Value).toArray ss 0 0 A) 10 D ad q A (mc_laM M n) 65 [(7, .int (nI n)), (6, .int (nI 8)), (5, .ref (ad 1)), (3, .long (mc_laA M n)), (2, .int (mc_liv M n)), (0, .ref (ad 0)), (1, .int (mc_liv M 8))] [] := by
          intro k9
          induction k9 with
          | zero => intro n hn h9; exact absurd h9 (Nat.not_lt_zero _)
          | succ k9 ih65 =>
            intro n hn h9
            refine r_iload C dX4_layAll_65 0 rfl ?_
            refine r_iload C dX4_layAll_67 1 rfl ?_
            refine r_icmp_ge (tgt := 120) C dX4_layAll_69 (by decide) (fun z69 => ?_) (fun z69 => ?_)
            · obtain rfl : n = 8 := nm_ge hn (by decide) z69
              refine r_lload_n C dX4_layAll_120 rfl 3 rfl ?_
              exact r_lret C hret hlk9 dX4_layAll_121 ⟨by first | rfl | (subst_vars; rfl) | (subst_vars; simp [*]), by first | rfl | (subst_vars; rfl)⟩
            · have hlt : n < 8 := nm_lt (by omega) (by decide) z69
              refine r_aload C dX4_layAll_72 2 rfl ?_
              refine r_iload C dX4_layAll_74 0 rfl ?_
              refine r_aaldE C (n) (nI_toInt (by omega)) (hlt) dX4_layAll_76 ?_
              refine r_astore (lv' := [(8, .ref (ad (10 + n))), (7, .int (nI n)), (6, .int (nI 8)), (5, .ref (ad 1)), (3, .long (mc_laA M n)), (2, .int (mc_liv M n)), (0, .ref (ad 0)), (1, .int (mc_liv M 8))]) C dX4_layAll_77 (by decide) rfl ?_
              refine r_iconst (v := 0) C dX4_layAll_79 rfl ?_
              refine r_istore (lv' := [(9, .int 0), (8, .ref (ad (10 + n))), (7, .int (nI n)), (6, .int (nI 8)), (5, .ref (ad 1)), (3, .long (mc_laA M n)), (2, .int (mc_liv M n)), (0, .ref (ad 0)), (1, .int (mc_liv M 8))]) C dX4_layAll_80 (by decide) rfl ?_
              refine r_aload C dX4_layAll_82 1 rfl ?_
              refine r_callV0I C 0 (by have := (hlt); omega) rfl (mm_ct0 ad q _ (hlt)) (kX0_isLiving hAD (hlt) (by rw [mc_laM_1]; exact hb n hlt)) (cwV 0 C.1.2.2.2.2 gX4_layAll_X0_isLiving rfl rfl rfl (by decide +kernel) ⟨Nat.le_of_ble_eq_true rfl, Nat.le_of_ble_eq_true rfl⟩) (Nat.le_of_ble_eq_true rfl) dX4_layAll_84 ⟨rfl, rfl⟩ ⟨Nat.zero_le _, Nat.zero_le _⟩ ?_
              refine r_if_eq (tgt := 101) C dX4_layAll_87 (by decide) (fun z87 => ?_) (fun z87 => ?_)
              · rw [mc_laM_1] at z87
                refine r_aload C dX4_layAll_101 1 rfl ?_
                refine r_iload C dX4_layAll_103 0 rfl ?_
                refine r_callV1V C 0 (by have := (hlt); omega) rfl (mm_ct0 ad q _ (hlt)) (kX0_layOut hAD (hlt)) (cwV 1 C.1.2.2.2.2 gX4_layAll_X0_layOut rfl rfl rfl (by decide +kernel) ⟨Nat.le_of_ble_eq_true rfl, Nat.le_of_ble_eq_true rfl⟩) (Nat.le_of_ble_eq_true rfl) dX4_layAll_105 ⟨rfl, rfl⟩ ⟨Nat.zero_le _, Nat.zero_le _⟩ ?_
                refine r_lload_n C dX4_layAll_108 rfl 5 rfl ?_
                refine r_iload C dX4_layAll_109 0 rfl ?_
                refine r_i2l C dX4_layAll_111 ?_
                refine r_ladd C dX4_layAll_112 ?_
                refine r_topl (fun v3_113 ev3_113 => ?_)
                refine r_lstore_n (lv' := [(3, .long v3_113), (9, .int 0), (8, .ref (ad (10 + n))), (7, .int (nI n)), (6, .int (nI 8)), (5, .ref (ad 1)), (2, .int (mc_liv M n)), (0, .ref (ad 0)), (1, .int (mc_liv M 8))]) C dX4_layAll_113 rfl (by decide) rfl ?_
                obtain ⟨v7_114, ev7_114⟩ : ∃ y9 : Int32, y9 = (nI n) + 1 := ⟨_, rfl⟩
                refine r_iinc (v := v7_114) (lv' := [(7, .int v7_114), (3, .long v3_113), (9, .int 0), (8, .ref (ad (10 + n))), (6, .int (nI 8)), (5, .ref (ad 1)), (2, .int (mc_liv M n)), (0, .ref (ad 0)), (1, .int (mc_liv M 8))]) C dX4_layAll_114 3 rfl (by rw [ev7_114]; rfl) (by decide) rfl ?_
                refine r_goto (tgt := 65) C dX4_layAll_117 (by decide) ?_
                refine r_sub (lv' := [(7, .int v7_114), (6, .int (nI 8)), (5, .ref (ad 1)), (3, .long v3_113), (2, .int (mc_liv M n)), (0, .ref (ad 0)), (1, .int (mc_liv M 8))]) [0, 4, 5, 1, 6, 7, 8] rfl ?_
                refine r_cast (M' := mc_laM M (n + 1)) (lv' := [(7, .int (nI (n + 1))), (6, .int (nI 8)), (5, .ref (ad 1)), (3, .long (mc_laA M (n + 1))), (2, .int (mc_liv M (n + 1))), (0, .ref (ad 0)), (1, .int (mc_liv M 8))]) (st' := []) (by rw [mc_laM_s]; first | rw [mc_w_0 z87] | rw [mc_w_1 z87, ev9_96, mc_wt_laM]) (by first | rw [ev3_113, ev7_114, nI_1, mc_laA_s, mc_w_0 z87, mc_liv_0 z87] | rw [ev3_113, ev7_114, nI_1, mc_laA_s, mc_w_1 z87, mc_liv_1 z87, ev2_98, ev9_96, mc_wt_laM]) rfl (ih65 (n + 1) (by omega) (by omega))
              · rw [mc_laM_1] at z87
                refine r_aload_n C dX4_layAll_90 rfl 7 rfl ?_
                refine r_iload_n C dX4_layAll_91 rfl 6 rfl ?_
                refine r_iload_n C dX4_layAll_92 rfl 8 rfl ?_
                refine r_callV2I C 4 (by decide) rfl (mm_ct4 ad q _) (kX4_weightOf hAD) (cwV 2 C.1.2.2.2.2 gX4_layAll_X4_weightOf rfl rfl rfl (by decide +kernel) ⟨Nat.le_of_ble_eq_true rfl, Nat.le_of_ble_eq_true rfl⟩) (Nat.le_of_ble_eq_true rfl) dX4_layAll_93 ⟨rfl, rfl⟩ ⟨Nat.zero_le _, Nat.zero_le _⟩ ?_
                refine r_topi (fun v9_96 ev9_96 => ?_)
                refine r_istore (lv' := [(9, .int v9_96), (8, .ref (ad (10 + n))), (7, .int (nI n)), (6, .int (nI 8)), (5, .ref (ad 1)), (3, .long (mc_laA M n)), (2, .int (mc_liv M n)), (0, .ref (ad 0)), (1, .int (mc_liv M 8))]) C dX4_layAll_96 (by decide) rfl ?_
                obtain ⟨v2_98, ev2_98⟩ : ∃ y9 : Int32, y9 = (mc_liv M n) + 1 := ⟨_, rfl⟩
                refine r_iinc (v := v2_98) (lv' := [(2, .int v2_98), (9, .int v9_96), (8, .ref (ad (10 + n))), (7, .int (nI n)), (6, .int (nI 8)), (5, .ref (ad 1)), (3, .long (mc_laA M n)), (0, .ref (ad 0)), (1, .int (mc_liv M 8))]) C dX4_layAll_98 6 rfl (by rw [ev2_98]; rfl) (by decide) rfl ?_
                refine r_aload C dX4_layAll_101 2 rfl ?_
                refine r_iload C dX4_layAll_103 1 rfl ?_
                refine r_callV1V C 0 (by have := (hlt); omega) rfl (mm_ct0 ad q _ (hlt)) (kX0_layOut hAD (hlt)) (cwV 1 C.1.2.2.2.2 gX4_layAll_X0_layOut rfl rfl rfl (by decide +kernel) ⟨Nat.le_of_ble_eq_true rfl, Nat.le_of_ble_eq_true rfl⟩) (Nat.le_of_ble_eq_true rfl) dX4_layAll_105 ⟨rfl, rfl⟩ ⟨Nat.zero_le _, Nat.zero_le _⟩ ?_
                refine r_lload_n C dX4_layAll_108 rfl 6 rfl ?_
                refine r_iload C dX4_layAll_109 1 rfl ?_
                refine r_i2l C dX4_layAll_111 ?_
                refine r_ladd C dX4_layAll_112 ?_
                refine r_topl (fun v3_113 ev3_113 => ?_)
                refine r_lstore_n (lv' := [(3, .long v3_113), (2, .int v2_98), (9, .int v9_96), (8, .ref (ad (10 + n))), (7, .int (nI n)), (6, .int (nI 8)), (5, .ref (ad 1)), (0, .ref (ad 0)), (1, .int (mc_liv M 8))]) C dX4_layAll_113 rfl (by decide) rfl ?_
                obtain ⟨v7_114, ev7_114⟩ : ∃ y9 : Int32, y9 = (nI n) + 1 := ⟨_, rfl⟩
                refine r_iinc (v := v7_114) (lv' := [(7, .int v7_114), (3, .long v3_113), (2, .int v2_98), (9, .int v9_96), (8, .ref (ad (10 + n))), (6, .int (nI 8)), (5, .ref (ad 1)), (0, .ref (ad 0)), (1, .int (mc_liv M 8))]) C dX4_layAll_114 4 rfl (by rw [ev7_114]; rfl) (by decide) rfl ?_
                refine r_goto (tgt := 65) C dX4_layAll_117 (by decide) ?_
                refine r_sub (lv' := [(7, .int v7_114), (6, .int (nI 8)), (5, .ref (ad 1)), (3, .long v3_113), (2, .int v2_98), (0, .ref (ad 0)), (1, .int (mc_liv M 8))]) [0, 5, 6, 1, 2, 7, 8] rfl ?_
                refine r_cast (M' := mc_laM M (n + 1)) (lv' := [(7, .int (nI (n + 1))), (6, .int (nI 8)), (5, .ref (ad 1)), (3, .long (mc_laA M (n + 1))), (2, .int (mc_liv M (n + 1))), (0, .ref (ad 0)), (1, .int (mc_liv M 8))]) (st' := []) (by rw [mc_laM_s]; first | rw [mc_w_0 z87] | rw [mc_w_1 z87, ev9_96, mc_wt_laM]) (by first | rw [ev3_113, ev7_114, nI_1, mc_laA_s, mc_w_0 z87, mc_liv_0 z87] | rw [ev3_113, ev7_114, nI_1, mc_laA_s, mc_w_1 z87, mc_liv_1 z87, ev2_98, ev9_96, mc_wt_laM]) rfl (ih65 (n + 1) (by omega) (by omega))
        refine r_sub (lv' := [(7, .int 0), (6, .int v6_60), (5, .ref (ad 1)), (3, .long 0), (2, .int 0), (0, .ref (ad 0)), (1, .int (mc_liv M 8))]) [0, 1, 2, 3, 4, 6, 5] rfl ?_
        refine r_cast (M' := mc_laM M 0) (lv' := [(7, .int (nI 0)), (6, .int (nI 8)), (5, .ref (ad 1)), (3, .long (mc_laA M 0)), (2, .int (mc_liv M 0)), (0, .ref (ad 0)), (1, .int (mc_liv M 8))]) (st' := []) rfl (by rw [ev6_60]; rfl) rfl (L65 (8 - 0 + 1) 0 (by omega) (by omega))
      · have hlt : n < 8 := nm_lt (by omega) (by decide) z16
        refine r_aload_n C dX4_layAll_19 rfl 2 rfl ?_
        refine r_iload C dX4_layAll_20 0 rfl ?_
        refine r_aaldE C (n) (nI_toInt (by omega)) (hlt) dX4_layAll_22 ?_
        refine r_astore (lv' := [(5, .ref (ad (10 + n))), (4, .int (nI n)), (3, .int (nI 8)), (2, .ref (ad 1)), (1, .int (mc_liv M n)), (0, .ref (ad 0))]) C dX4_layAll_23 (by decide) rfl ?_
        refine r_iload_n C dX4_layAll_25 rfl 4 rfl ?_
        refine r_aload C dX4_layAll_26 0 rfl ?_
        refine r_callV0I C 0 (by have := (hlt); omega) rfl (mm_ct0 ad q _ (hlt)) (kX0_isLiving hAD (hlt) (by exact hb n hlt)) (cwV 0 C.1.2.2.2.2 gX4_layAll_X0_isLiving rfl rfl rfl (by decide +kernel) ⟨Nat.le_of_ble_eq_true rfl, Nat.le_of_ble_eq_true rfl⟩) (Nat.le_of_ble_eq_true rfl) dX4_layAll_28 ⟨rfl, rfl⟩ ⟨Nat.zero_le _, Nat.zero_le _⟩ ?_
        refine r_if_eq (tgt := 38) C dX4_layAll_31 (by decide) (fun z31 => ?_) (fun z31 => ?_)
        · refine r_iconst (v := 0) C dX4_layAll_38 rfl ?_
          refine r_iadd C dX4_layAll_39 ?_
          refine r_topi (fun v1_40 ev1_40 => ?_)
          refine r_istore_n (lv' := [(1, .int v1_40), (5, .ref (ad (10 + n))), (4, .int (nI n)), (3, .int (nI 8)), (2, .ref (ad 1)), (0, .ref (ad 0))]) C dX4_layAll_40 rfl (by decide) rfl ?_
          obtain ⟨v4_41, ev4_41⟩ : ∃ y9 : Int32, y9 = (nI n) + 1 := ⟨_, rfl⟩
          refine r_iinc (v := v4_41) (lv' := [(4, .int v4_41), (1, .int v1_40), (5, .ref (ad (10 + n))), (3, .int (nI 8)), (2, .ref (ad 1)), (0, .ref (ad 0))]) C dX4_layAll_41 2 rfl (by rw [ev4_41]; rfl) (by decide) rfl ?_
          refine r_goto (tgt := 13) C dX4_layAll_44 (by decide) ?_
          refine r_sub (lv' := [(4, .int v4_41), (3, .int (nI 8)), (2, .ref (ad 1)), (1, .int v1_40), (0, .ref (ad 0))]) [0, 3, 4, 1, 5] rfl ?_
          refine r_cast (M' := M) (lv' := [(4, .int (nI (n + 1))), (3, .int (nI 8)), (2, .ref (ad 1)), (1, .int (mc_liv M (n + 1))), (0, .ref (ad 0))]) (st' := []) rfl (by first | rw [ev4_41, nI_1, ev1_40, mc_liv_1 z31] | (rw [ev4_41, nI_1, ev1_40, mc_liv_0 z31]; simp)) rfl (ih13 (n + 1) (by omega) (by omega))
        · refine r_iconst (v := 1) C dX4_layAll_34 rfl ?_
          refine r_goto (tgt := 39) C dX4_layAll_35 (by decide) ?_
          refine r_iadd C dX4_layAll_39 ?_
          refine r_topi (fun v1_40 ev1_40 => ?_)
          refine r_istore_n (lv' := [(1, .int v1_40), (5, .ref (ad (10 + n))), (4, .int (nI n)), (3, .int (nI 8)), (2, .ref (ad 1)), (0, .ref (ad 0))]) C dX4_layAll_40 rfl (by decide) rfl ?_
          obtain ⟨v4_41, ev4_41⟩ : ∃ y9 : Int32, y9 = (nI n) + 1 := ⟨_, rfl⟩
          refine r_iinc (v := v4_41) (lv' := [(4, .int v4_41), (1, .int v1_40), (5, .ref (ad (10 + n))), (3, .int (nI 8)), (2, .ref (ad 1)), (0, .ref (ad 0))]) C dX4_layAll_41 2 rfl (by rw [ev4_41]; rfl) (by decide) rfl ?_
          refine r_goto (tgt := 13) C dX4_layAll_44 (by decide) ?_
          refine r_sub (lv' := [(4, .int v4_41), (3, .int (nI 8)), (2, .ref (ad 1)), (1, .int v1_40), (0, .ref (ad 0))]) [0, 3, 4, 1, 5] rfl ?_
          refine r_cast (M' := M) (lv' := [(4, .int (nI (n + 1))), (3, .int (nI 8)), (2, .ref (ad 1)), (1, .int (mc_liv M (n + 1))), (0, .ref (ad 0))]) (st' := []) rfl (by first | rw [ev4_41, nI_1, ev1_40, mc_liv_1 z31] | (rw [ev4_41, nI_1, ev1_40, mc_liv_0 z31]; simp)) rfl (ih13 (n + 1) (by omega) (by omega))
  refine r_cast (M' := M) (lv' := [(4, .int (nI 0)), (3, .int (nI 8)), (2, .ref (ad 1)), (1, .int (mc_liv M 0)), (0, .ref (ad 0))]) (st' := []) rfl (by rw [ev3_9]; rfl) rfl (L13 (8 - 0 + 1) 0 (by omega) (by omega))

def mc_stN (M : mm_M) (b : Int32) : Nat → mm_M
  | 0 => mc_fill M 0 32
  | n + 1 => mc_tell (mc_stN M b n) n b
def mc_steer (M : mm_M) (b : Int32) : mm_M := mc_stN M b 8
abbrev rmX4_steer : Room := { frames := 4, cells := 0, slots := 0, locals := 88 }
set_option maxHeartbeats 400000 in
set_option maxRecDepth 100000 in
theorem kX4_steer {l : Launch} {D : va_G} {ad : Nat → Nat} {q : Nat → ClassId} {A : Nat → Prop} (hAD : mm_AD ad A) {M : mm_M} {b : Int32} : mm_Kd l D ad q A yX4_steer wsX4_steer rmX4_steer [.ref (ad 0), .int b] M none (mc_steer M b) := by
  have inX4 : ∀ w ∈ wsX40, w ∈ wsX4_steer := by decide +kernel
  have f11 : Cond.fieldLink RX4 11 "Beamrow" "elements" "[LBeamrow$Element;" ∈ wsX4_steer := by decide +kernel
  have f28 : Cond.fieldLink RX4 28 "Beamrow" "sums" "[J" ∈ wsX4_steer := by decide +kernel
  refine mm_of (cc := cX4_steer) (maxL := 6) (ret := none) (own := RX4) rfl hAD (plainFor_of_name (by decide)) rfl (Nat.le_of_ble_eq_true rfl) ⟨rfl, rfl⟩ ?_
  intro pp ee ss mm bl mth cd C hret hlk9
  show mm_G _ _ _ _ _ _ _ _ _ _ _ _ _ _ _ _ _ _ M 0 [(0, .ref (ad 0)), (1, .int b)] []
  refine r_aload_n C dX4_steer_0 rfl 0 rfl ?_
  refine r_get4 C inX4 3 (by decide) rfl f28 rfl dX4_steer_1 ?_
  refine r_lconst (v := 0) C dX4_steer_4 rfl ?_
  refine r_callS2V C (kJ7_fill_d0a16 hAD) (va_cwS 2 C.1.2.2.2.2 gX4_steer_J7_fill_d0a16 rfl rfl rfl (by decide +kernel) ⟨Nat.le_of_ble_eq_true rfl, Nat.le_of_ble_eq_true rfl⟩) (Nat.le_of_ble_eq_true rfl) dX4_steer_5 ⟨rfl, rfl⟩ ⟨Nat.zero_le _, Nat.zero_le _⟩ ?_
  refine r_aload_n C dX4_steer_8 rfl 0 rfl ?_
  refine r_get4 C inX4 0 (by decide) rfl f11 rfl dX4_steer_9 ?_
  refine r_astore_n (lv' := [(2, .ref (ad 1)), (0, .ref (ad 0)), (1, .int b)]) C dX4_steer_12 rfl (by decide) rfl ?_
  refine r_aload_n C dX4_steer_13 rfl 0 rfl ?_
  refine r_alenE C dX4_steer_14 ?_
  refine r_topi (fun v3_15 ev3_15 => ?_)
  refine r_istore_n (lv' := [(3, .int v3_15), (2, .ref (ad 1)), (0, .ref (ad 0)), (1, .int b)]) C dX4_steer_15 rfl (by decide) rfl ?_
  refine r_iconst (v := 0) C dX4_steer_16 rfl ?_
  refine r_istore (lv' := [(4, .int 0), (3, .int v3_15), (2, .ref (ad 1)), (0, .ref (ad 0)), (1, .int b)]) C dX4_steer_17 (by decide) rfl ?_
  have L19 : ∀ (k9 : Nat) (n : Nat) (hn : n ≤ 8), 8 - n < k9 → mm_G pp l ee rmX4_steer ss mm ([.ref (ad 0), .int b] : List Value).toArray bl mth cd 0 0 (MQ bl (mm_Q D ad q A (fun v' u => v' = none ∧ u = mc_steer M b)) ([.ref (ad 0), .int b] : List Value).toArray ss 0 0 A) 6 D ad q A (mc_stN M b n) 19 [(4, .int (nI n)), (3, .int (nI 8)), (2, .ref (ad 1)), (0, .ref (ad 0)), (1, .int b)] [] := by
    intro k9
    induction k9 with
    | zero => intro n hn h9; exact absurd h9 (Nat.not_lt_zero _)
    | succ k9 ih19 =>
      intro n hn h9
      refine r_iload C dX4_steer_19 0 rfl ?_
      refine r_iload_n C dX4_steer_21 rfl 1 rfl ?_
      refine r_icmp_ge (tgt := 47) C dX4_steer_22 (by decide) (fun z22 => ?_) (fun z22 => ?_)
      · obtain rfl : n = 8 := nm_ge hn (by decide) z22
        exact r_vret C hret hlk9 dX4_steer_47 ⟨by first | rfl | (subst_vars; rfl) | (subst_vars; simp [*]), by first | rfl | (subst_vars; rfl)⟩
      · have hlt : n < 8 := nm_lt (by omega) (by decide) z22
        refine r_aload_n C dX4_steer_25 rfl 2 rfl ?_
        refine r_iload C dX4_steer_26 0 rfl ?_
        refine r_aaldE C (n) (nI_toInt (by omega)) (hlt) dX4_steer_28 ?_
        refine r_astore (lv' := [(5, .ref (ad (10 + n))), (4, .int (nI n)), (3, .int (nI 8)), (2, .ref (ad 1)), (0, .ref (ad 0)), (1, .int b)]) C dX4_steer_29 (by decide) rfl ?_
        refine r_aload C dX4_steer_31 0 rfl ?_
        refine r_aload_n C dX4_steer_33 rfl 4 rfl ?_
        refine r_get4 C inX4 3 (by decide) rfl f28 rfl dX4_steer_34 ?_
        refine r_iload_n C dX4_steer_37 rfl 5 rfl ?_
        refine r_callV2V C 0 (by have := (hlt); omega) rfl (mm_ct0 ad q _ (hlt)) (kX0_tellTo hAD (hlt)) (cwV 2 C.1.2.2.2.2 gX4_steer_X0_tellTo rfl rfl rfl (by decide +kernel) ⟨Nat.le_of_ble_eq_true rfl, Nat.le_of_ble_eq_true rfl⟩) (Nat.le_of_ble_eq_true rfl) dX4_steer_38 ⟨rfl, rfl⟩ ⟨Nat.zero_le _, Nat.zero_le _⟩ ?_
        obtain ⟨v4_41, ev4_41⟩ : ∃ y9 : Int32, y9 = (nI n) + 1 := ⟨_, rfl⟩
        refine r_iinc (v := v4_41) (lv' := [(4, .int v4_41), (5, .ref (ad (10 + n))), (3, .int (nI 8)), (2, .ref (ad 1)), (0, .ref (ad 0)), (1, .int b)]) C dX4_steer_41 1 rfl (by rw [ev4_41]; rfl) (by decide) rfl ?_
        refine r_goto (tgt := 19) C dX4_steer_44 (by decide) ?_
        refine r_sub (lv' := [(4, .int v4_41), (3, .int (nI 8)), (2, .ref (ad 1)), (0, .ref (ad 0)), (1, .int b)]) [0, 2, 3, 4, 5] rfl ?_
        refine r_cast (M' := mc_stN M b (n + 1)) (lv' := [(4, .int (nI (n + 1))), (3, .int (nI 8)), (2, .ref (ad 1)), (0, .ref (ad 0)), (1, .int b)]) (st' := []) rfl (by rw [ev4_41, nI_1]; first | done | rfl) rfl (ih19 (n + 1) (by omega) (by omega))
  refine r_cast (M' := mc_stN M b 0) (lv' := [(4, .int (nI 0)), (3, .int (nI 8)), (2, .ref (ad 1)), (0, .ref (ad 0)), (1, .int b)]) (st' := []) rfl (by rw [ev3_15]; rfl) rfl (L19 (8 - 0 + 1) 0 (by omega) (by omega))

def mc_pwN (M : mm_M) : Nat → Int64
  | 0 => 0
  | n + 1 => mc_pwN M n + M.2 4 n * M.2 4 n
abbrev rmX4_squaresOfSums : Room := { frames := 0, cells := 0, slots := 0, locals := 0 }
set_option maxHeartbeats 400000 in
set_option maxRecDepth 100000 in
theorem kX4_squaresOfSums {l : Launch} {D : va_G} {ad : Nat → Nat} {q : Nat → ClassId} {A : Nat → Prop} (hAD : mm_AD ad A) {M : mm_M} : mm_Kd l D ad q A yX4_squaresOfSums wsX4_squaresOfSums rmX4_squaresOfSums [.ref (ad 0)] M (some (.long (mc_pwN M 32))) M := by
  have inX4 : ∀ w ∈ wsX40, w ∈ wsX4_squaresOfSums := by decide +kernel
  have f28 : Cond.fieldLink RX4 28 "Beamrow" "sums" "[J" ∈ wsX4_squaresOfSums := by decide +kernel
  refine mm_of (cc := cX4_squaresOfSums) (maxL := 8) (ret := some .long) (own := RX4) rfl hAD (plainFor_of_name (by decide)) rfl (Nat.le_of_ble_eq_true rfl) ⟨rfl, rfl⟩ ?_
  intro pp ee ss mm bl mth cd C hret hlk9
  show mm_G _ _ _ _ _ _ _ _ _ _ _ _ _ _ _ _ _ _ M 0 [(0, .ref (ad 0))] []
  refine r_lconst (v := 0) C dX4_squaresOfSums_0 rfl ?_
  refine r_lstore_n (lv' := [(1, .long 0), (0, .ref (ad 0))]) C dX4_squaresOfSums_1 rfl (by decide) rfl ?_
  refine r_aload_n C dX4_squaresOfSums_2 rfl 1 rfl ?_
  refine r_get4 C inX4 3 (by decide) rfl f28 rfl dX4_squaresOfSums_3 ?_
  refine r_astore_n (lv' := [(3, .ref (ad 4)), (1, .long 0), (0, .ref (ad 0))]) C dX4_squaresOfSums_6 rfl (by decide) rfl ?_
  refine r_aload_n C dX4_squaresOfSums_7 rfl 0 rfl ?_
  refine r_alenJ C mm_aJ_4 dX4_squaresOfSums_8 ?_
  refine r_topi (fun v4_9 ev4_9 => ?_)
  refine r_istore (lv' := [(4, .int v4_9), (3, .ref (ad 4)), (1, .long 0), (0, .ref (ad 0))]) C dX4_squaresOfSums_9 (by decide) rfl ?_
  refine r_iconst (v := 0) C dX4_squaresOfSums_11 rfl ?_
  refine r_istore (lv' := [(5, .int 0), (4, .int v4_9), (3, .ref (ad 4)), (1, .long 0), (0, .ref (ad 0))]) C dX4_squaresOfSums_12 (by decide) rfl ?_
  have L14 : ∀ (k9 : Nat) (n : Nat) (hn : n ≤ 32), 32 - n < k9 → mm_G pp l ee rmX4_squaresOfSums ss mm ([.ref (ad 0)] : List Value).toArray bl mth cd 0 0 (MQ bl (mm_Q D ad q A (fun v' u => v' = some (.long (mc_pwN M 32)) ∧ u = M)) ([.ref (ad 0)] : List Value).toArray ss 0 0 A) 8 D ad q A (M) 14 [(5, .int (nI n)), (4, .int (nI 32)), (3, .ref (ad 4)), (1, .long (mc_pwN M n)), (0, .ref (ad 0))] [] := by
    intro k9
    induction k9 with
    | zero => intro n hn h9; exact absurd h9 (Nat.not_lt_zero _)
    | succ k9 ih14 =>
      intro n hn h9
      refine r_iload C dX4_squaresOfSums_14 0 rfl ?_
      refine r_iload C dX4_squaresOfSums_16 1 rfl ?_
      refine r_icmp_ge (tgt := 41) C dX4_squaresOfSums_18 (by decide) (fun z18 => ?_) (fun z18 => ?_)
      · obtain rfl : n = 32 := nm_ge hn (by decide) z18
        refine r_lload_n C dX4_squaresOfSums_41 rfl 3 rfl ?_
        exact r_lret C hret hlk9 dX4_squaresOfSums_42 ⟨by first | rfl | (subst_vars; rfl) | (subst_vars; simp [*]), by first | rfl | (subst_vars; rfl)⟩
      · have hlt : n < 32 := nm_lt (by omega) (by decide) z18
        refine r_aload_n C dX4_squaresOfSums_21 rfl 2 rfl ?_
        refine r_iload C dX4_squaresOfSums_22 0 rfl ?_
        refine r_lald C mm_aJ_4 (n) (nI_toInt (by omega)) (hlt) dX4_squaresOfSums_24 ?_
        refine r_topl (fun v6_25 ev6_25 => ?_)
        refine r_lstore (lv' := [(6, .long v6_25), (5, .int (nI n)), (4, .int (nI 32)), (3, .ref (ad 4)), (1, .long (mc_pwN M n)), (0, .ref (ad 0))]) C dX4_squaresOfSums_25 (by decide) rfl ?_
        refine r_lload_n C dX4_squaresOfSums_27 rfl 4 rfl ?_
        refine r_lload C dX4_squaresOfSums_28 0 rfl ?_
        refine r_lload C dX4_squaresOfSums_30 0 rfl ?_
        refine r_lmul C dX4_squaresOfSums_32 ?_
        refine r_ladd C dX4_squaresOfSums_33 ?_
        refine r_topl (fun v1_34 ev1_34 => ?_)
        refine r_lstore_n (lv' := [(1, .long v1_34), (6, .long v6_25), (5, .int (nI n)), (4, .int (nI 32)), (3, .ref (ad 4)), (0, .ref (ad 0))]) C dX4_squaresOfSums_34 rfl (by decide) rfl ?_
        obtain ⟨v5_35, ev5_35⟩ : ∃ y9 : Int32, y9 = (nI n) + 1 := ⟨_, rfl⟩
        refine r_iinc (v := v5_35) (lv' := [(5, .int v5_35), (1, .long v1_34), (6, .long v6_25), (4, .int (nI 32)), (3, .ref (ad 4)), (0, .ref (ad 0))]) C dX4_squaresOfSums_35 2 rfl (by rw [ev5_35]; rfl) (by decide) rfl ?_
        refine r_goto (tgt := 14) C dX4_squaresOfSums_38 (by decide) ?_
        refine r_sub (lv' := [(5, .int v5_35), (4, .int (nI 32)), (3, .ref (ad 4)), (1, .long v1_34), (0, .ref (ad 0))]) [0, 3, 4, 1, 5] rfl ?_
        refine r_cast (M' := M) (lv' := [(5, .int (nI (n + 1))), (4, .int (nI 32)), (3, .ref (ad 4)), (1, .long (mc_pwN M (n + 1))), (0, .ref (ad 0))]) (st' := []) rfl (by rw [ev5_35, nI_1, ev1_34, ev6_25]; rfl) rfl (ih14 (n + 1) (by omega) (by omega))
  refine r_cast (M' := M) (lv' := [(5, .int (nI 0)), (4, .int (nI 32)), (3, .ref (ad 4)), (1, .long (mc_pwN M 0)), (0, .ref (ad 0))]) (st' := []) rfl (by rw [ev4_9]; rfl) rfl (L14 (32 - 0 + 1) 0 (by omega) (by omega))

abbrev rmX4_powerBySums : Room := { frames := 5, cells := 0, slots := 0, locals := 113 }
set_option maxHeartbeats 400000 in
set_option maxRecDepth 100000 in
theorem kX4_powerBySums {l : Launch} {D : va_G} {ad : Nat → Nat} {q : Nat → ClassId} {A : Nat → Prop} (hAD : mm_AD ad A) {M : mm_M} {b : Int32} : mm_Kd l D ad q A yX4_powerBySums wsX4_powerBySums rmX4_powerBySums [.ref (ad 0), .int b] M (some (.long (mc_pwN (mc_steer M b) 32))) (mc_steer M b) := by
  refine mm_of (cc := cX4_powerBySums) (maxL := 2) (ret := some .long) (own := RX4) rfl hAD (plainFor_of_name (by decide)) rfl (Nat.le_of_ble_eq_true rfl) ⟨rfl, rfl⟩ ?_
  intro pp ee ss mm bl mth cd C hret hlk9
  show mm_G _ _ _ _ _ _ _ _ _ _ _ _ _ _ _ _ _ _ M 0 [(0, .ref (ad 0)), (1, .int b)] []
  refine r_aload_n C dX4_powerBySums_0 rfl 0 rfl ?_
  refine r_iload_n C dX4_powerBySums_1 rfl 1 rfl ?_
  refine r_callV1V C 4 (by decide) rfl (mm_ct4 ad q _) (kX4_steer hAD) (cwV 1 C.1.2.2.2.2 gX4_powerBySums_X4_steer rfl rfl rfl (by decide +kernel) ⟨Nat.le_of_ble_eq_true rfl, Nat.le_of_ble_eq_true rfl⟩) (Nat.le_of_ble_eq_true rfl) dX4_powerBySums_2 ⟨rfl, rfl⟩ ⟨Nat.zero_le _, Nat.zero_le _⟩ ?_
  refine r_aload_n C dX4_powerBySums_5 rfl 0 rfl ?_
  refine r_callV0J C 4 (by decide) rfl (mm_ct4 ad q _) (kX4_squaresOfSums hAD) (cwV 0 C.1.2.2.2.2 gX4_powerBySums_X4_squaresOfSums rfl rfl rfl (by decide +kernel) ⟨Nat.le_of_ble_eq_true rfl, Nat.le_of_ble_eq_true rfl⟩) (Nat.le_of_ble_eq_true rfl) dX4_powerBySums_6 ⟨rfl, rfl⟩ ⟨Nat.zero_le _, Nat.zero_le _⟩ ?_
  exact r_lret C hret hlk9 dX4_powerBySums_9 ⟨by first | rfl | (subst_vars; rfl) | (subst_vars; simp [*]), by first | rfl | (subst_vars; rfl)⟩

def mc_ppI (M : mm_M) (b : Int32) (i : Nat) (acc : Int64) : Nat → Int64
  | 0 => acc
  | k + 1 => mc_ppI M b i acc k + mc_tw M i k b * M.2 (10 + i) 10 * M.2 (10 + k) 10
def mc_ppO (M : mm_M) (b : Int32) : Nat → Int64
  | 0 => 0
  | n + 1 => mc_ppI M b n (mc_ppO M b n) 8
abbrev rmX4_powerByPairs : Room := { frames := 4, cells := 0, slots := 0, locals := 91 }
set_option maxHeartbeats 400000 in
set_option maxRecDepth 100000 in
theorem kX4_powerByPairs {l : Launch} {D : va_G} {ad : Nat → Nat} {q : Nat → ClassId} {A : Nat → Prop} (hAD : mm_AD ad A) {M : mm_M} {b : Int32} : mm_Kd l D ad q A yX4_powerByPairs wsX4_powerByPairs rmX4_powerByPairs [.ref (ad 0), .int b] M (some (.long (mc_ppO M b 8))) M := by
  have inX4 : ∀ w ∈ wsX40, w ∈ wsX4_powerByPairs := by decide +kernel
  have f11 : Cond.fieldLink RX4 11 "Beamrow" "elements" "[LBeamrow$Element;" ∈ wsX4_powerByPairs := by decide +kernel
  refine mm_of (cc := cX4_powerByPairs) (maxL := 12) (ret := some .long) (own := RX4) rfl hAD (plainFor_of_name (by decide)) rfl (Nat.le_of_ble_eq_true rfl) ⟨rfl, rfl⟩ ?_
  intro pp ee ss mm bl mth cd C hret hlk9
  show mm_G _ _ _ _ _ _ _ _ _ _ _ _ _ _ _ _ _ _ M 0 [(0, .ref (ad 0)), (1, .int b)] []
  refine r_lconst (v := 0) C dX4_powerByPairs_0 rfl ?_
  refine r_lstore_n (lv' := [(2, .long 0), (0, .ref (ad 0)), (1, .int b)]) C dX4_powerByPairs_1 rfl (by decide) rfl ?_
  refine r_aload_n C dX4_powerByPairs_2 rfl 1 rfl ?_
  refine r_get4 C inX4 0 (by decide) rfl f11 rfl dX4_powerByPairs_3 ?_
  refine r_astore (lv' := [(4, .ref (ad 1)), (2, .long 0), (0, .ref (ad 0)), (1, .int b)]) C dX4_powerByPairs_6 (by decide) rfl ?_
  refine r_aload C dX4_powerByPairs_8 0 rfl ?_
  refine r_alenE C dX4_powerByPairs_10 ?_
  refine r_topi (fun v5_11 ev5_11 => ?_)
  refine r_istore (lv' := [(5, .int v5_11), (4, .ref (ad 1)), (2, .long 0), (0, .ref (ad 0)), (1, .int b)]) C dX4_powerByPairs_11 (by decide) rfl ?_
  refine r_iconst (v := 0) C dX4_powerByPairs_13 rfl ?_
  refine r_istore (lv' := [(6, .int 0), (5, .int v5_11), (4, .ref (ad 1)), (2, .long 0), (0, .ref (ad 0)), (1, .int b)]) C dX4_powerByPairs_14 (by decide) rfl ?_
  have L16 : ∀ (k9 : Nat) (n : Nat) (hn : n ≤ 8), 8 - n < k9 → mm_G pp l ee rmX4_powerByPairs ss mm ([.ref (ad 0), .int b] : List Value).toArray bl mth cd 0 0 (MQ bl (mm_Q D ad q A (fun v' u => v' = some (.long (mc_ppO M b 8)) ∧ u = M)) ([.ref (ad 0), .int b] : List Value).toArray ss 0 0 A) 12 D ad q A (M) 16 [(6, .int (nI n)), (5, .int (nI 8)), (4, .ref (ad 1)), (2, .long (mc_ppO M b n)), (0, .ref (ad 0)), (1, .int b)] [] := by
    intro k9
    induction k9 with
    | zero => intro n hn h9; exact absurd h9 (Nat.not_lt_zero _)
    | succ k9 ih16 =>
      intro n hn h9
      refine r_iload C dX4_powerByPairs_16 0 rfl ?_
      refine r_iload C dX4_powerByPairs_18 1 rfl ?_
      refine r_icmp_ge (tgt := 81) C dX4_powerByPairs_20 (by decide) (fun z20 => ?_) (fun z20 => ?_)
      · obtain rfl : n = 8 := nm_ge hn (by decide) z20
        refine r_lload_n C dX4_powerByPairs_81 rfl 3 rfl ?_
        exact r_lret C hret hlk9 dX4_powerByPairs_82 ⟨by first | rfl | (subst_vars; rfl) | (subst_vars; simp [*]), by first | rfl | (subst_vars; rfl)⟩
      · have hlt : n < 8 := nm_lt (by omega) (by decide) z20
        refine r_aload C dX4_powerByPairs_23 2 rfl ?_
        refine r_iload C dX4_powerByPairs_25 0 rfl ?_
        refine r_aaldE C (n) (nI_toInt (by omega)) (hlt) dX4_powerByPairs_27 ?_
        refine r_astore (lv' := [(7, .ref (ad (10 + n))), (6, .int (nI n)), (5, .int (nI 8)), (4, .ref (ad 1)), (2, .long (mc_ppO M b n)), (0, .ref (ad 0)), (1, .int b)]) C dX4_powerByPairs_28 (by decide) rfl ?_
        refine r_aload_n C dX4_powerByPairs_30 rfl 5 rfl ?_
        refine r_get4 C inX4 0 (by decide) rfl f11 rfl dX4_powerByPairs_31 ?_
        refine r_astore (lv' := [(8, .ref (ad 1)), (7, .ref (ad (10 + n))), (6, .int (nI n)), (5, .int (nI 8)), (4, .ref (ad 1)), (2, .long (mc_ppO M b n)), (0, .ref (ad 0)), (1, .int b)]) C dX4_powerByPairs_34 (by decide) rfl ?_
        refine r_aload C dX4_powerByPairs_36 0 rfl ?_
        refine r_alenE C dX4_powerByPairs_38 ?_
        refine r_topi (fun v9_39 ev9_39 => ?_)
        refine r_istore (lv' := [(9, .int v9_39), (8, .ref (ad 1)), (7, .ref (ad (10 + n))), (6, .int (nI n)), (5, .int (nI 8)), (4, .ref (ad 1)), (2, .long (mc_ppO M b n)), (0, .ref (ad 0)), (1, .int b)]) C dX4_powerByPairs_39 (by decide) rfl ?_
        refine r_iconst (v := 0) C dX4_powerByPairs_41 rfl ?_
        refine r_istore (lv' := [(10, .int 0), (9, .int v9_39), (8, .ref (ad 1)), (7, .ref (ad (10 + n))), (6, .int (nI n)), (5, .int (nI 8)), (4, .ref (ad 1)), (2, .long (mc_ppO M b n)), (0, .ref (ad 0)), (1, .int b)]) C dX4_powerByPairs_42 (by decide) rfl ?_
        have L44 : ∀ (k9 : Nat) (k : Nat) (hk : k ≤ 8), 8 - k < k9 → mm_G pp l ee rmX4_powerByPairs ss mm ([.ref (ad 0), .int b] : List Value).toArray bl mth cd 0 0 (MQ bl (mm_Q D ad q A (fun v' u => v' = some (.long (mc_ppO M b 8)) ∧ u = M)) ([.ref (ad 0), .int b] : List Value).toArray ss 0 0 A) 12 D ad q A (M) 44 [(10, .int (nI k)), (9, .int (nI 8)), (8, .ref (ad 1)), (7, .ref (ad (10 + n))), (6, .int (nI n)), (5, .int (nI 8)), (4, .ref (ad 1)), (2, .long (mc_ppI M b n (mc_ppO M b n) k)), (0, .ref (ad 0)), (1, .int b)] [] := by
          intro k9
          induction k9 with
          | zero => intro k hk h9; exact absurd h9 (Nat.not_lt_zero _)
          | succ k9 ih44 =>
            intro k hk h9
            refine r_iload C dX4_powerByPairs_44 0 rfl ?_
            refine r_iload C dX4_powerByPairs_46 1 rfl ?_
            refine r_icmp_ge (tgt := 75) C dX4_powerByPairs_48 (by decide) (fun z48 => ?_) (fun z48 => ?_)
            · obtain rfl : k = 8 := nm_ge hk (by decide) z48
              obtain ⟨v6_75, ev6_75⟩ : ∃ y9 : Int32, y9 = (nI n) + 1 := ⟨_, rfl⟩
              refine r_iinc (v := v6_75) (lv' := [(6, .int v6_75), (10, .int (nI 8)), (9, .int (nI 8)), (8, .ref (ad 1)), (7, .ref (ad (10 + n))), (5, .int (nI 8)), (4, .ref (ad 1)), (2, .long (mc_ppI M b n (mc_ppO M b n) 8)), (0, .ref (ad 0)), (1, .int b)]) C dX4_powerByPairs_75 4 rfl (by rw [ev6_75]; rfl) (by decide) rfl ?_
              refine r_goto (tgt := 16) C dX4_powerByPairs_78 (by decide) ?_
              refine r_sub (lv' := [(6, .int v6_75), (5, .int (nI 8)), (4, .ref (ad 1)), (2, .long (mc_ppI M b n (mc_ppO M b n) 8)), (0, .ref (ad 0)), (1, .int b)]) [0, 5, 6, 7, 8, 9] rfl ?_
              refine r_cast (M' := M) (lv' := [(6, .int (nI (n + 1))), (5, .int (nI 8)), (4, .ref (ad 1)), (2, .long (mc_ppO M b (n + 1))), (0, .ref (ad 0)), (1, .int b)]) (st' := []) rfl (by rw [ev6_75, nI_1]; first | done | rfl) rfl (ih16 (n + 1) (by omega) (by omega))
            · have hltk : k < 8 := nm_lt (by omega) (by decide) z48
              refine r_aload C dX4_powerByPairs_51 2 rfl ?_
              refine r_iload C dX4_powerByPairs_53 0 rfl ?_
              refine r_aaldE C (k) (nI_toInt (by omega)) (hltk) dX4_powerByPairs_55 ?_
              refine r_astore (lv' := [(11, .ref (ad (10 + k))), (10, .int (nI k)), (9, .int (nI 8)), (8, .ref (ad 1)), (7, .ref (ad (10 + n))), (6, .int (nI n)), (5, .int (nI 8)), (4, .ref (ad 1)), (2, .long (mc_ppI M b n (mc_ppO M b n) k)), (0, .ref (ad 0)), (1, .int b)]) C dX4_powerByPairs_56 (by decide) rfl ?_
              refine r_lload_n C dX4_powerByPairs_58 rfl 8 rfl ?_
              refine r_aload C dX4_powerByPairs_59 4 rfl ?_
              refine r_aload C dX4_powerByPairs_61 0 rfl ?_
              refine r_iload_n C dX4_powerByPairs_63 rfl 10 rfl ?_
              refine r_callV2J C 0 (by have := (hlt); omega) rfl (mm_ct0 ad q _ (hlt)) (kX0_toldWith hAD (hlt) (hltk)) (cwV 2 C.1.2.2.2.2 gX4_powerByPairs_X0_toldWith rfl rfl rfl (by decide +kernel) ⟨Nat.le_of_ble_eq_true rfl, Nat.le_of_ble_eq_true rfl⟩) (Nat.le_of_ble_eq_true rfl) dX4_powerByPairs_64 ⟨rfl, rfl⟩ ⟨Nat.zero_le _, Nat.zero_le _⟩ ?_
              refine r_ladd C dX4_powerByPairs_67 ?_
              refine r_topl (fun v2_68 ev2_68 => ?_)
              refine r_lstore_n (lv' := [(2, .long v2_68), (11, .ref (ad (10 + k))), (10, .int (nI k)), (9, .int (nI 8)), (8, .ref (ad 1)), (7, .ref (ad (10 + n))), (6, .int (nI n)), (5, .int (nI 8)), (4, .ref (ad 1)), (0, .ref (ad 0)), (1, .int b)]) C dX4_powerByPairs_68 rfl (by decide) rfl ?_
              obtain ⟨v10_69, ev10_69⟩ : ∃ y9 : Int32, y9 = (nI k) + 1 := ⟨_, rfl⟩
              refine r_iinc (v := v10_69) (lv' := [(10, .int v10_69), (2, .long v2_68), (11, .ref (ad (10 + k))), (9, .int (nI 8)), (8, .ref (ad 1)), (7, .ref (ad (10 + n))), (6, .int (nI n)), (5, .int (nI 8)), (4, .ref (ad 1)), (0, .ref (ad 0)), (1, .int b)]) C dX4_powerByPairs_69 2 rfl (by rw [ev10_69]; rfl) (by decide) rfl ?_
              refine r_goto (tgt := 44) C dX4_powerByPairs_72 (by decide) ?_
              refine r_sub (lv' := [(10, .int v10_69), (9, .int (nI 8)), (8, .ref (ad 1)), (7, .ref (ad (10 + n))), (6, .int (nI n)), (5, .int (nI 8)), (4, .ref (ad 1)), (2, .long v2_68), (0, .ref (ad 0)), (1, .int b)]) [0, 3, 4, 5, 6, 7, 8, 1, 9, 10] rfl ?_
              refine r_cast (M' := M) (lv' := [(10, .int (nI (k + 1))), (9, .int (nI 8)), (8, .ref (ad 1)), (7, .ref (ad (10 + n))), (6, .int (nI n)), (5, .int (nI 8)), (4, .ref (ad 1)), (2, .long (mc_ppI M b n (mc_ppO M b n) (k + 1))), (0, .ref (ad 0)), (1, .int b)]) (st' := []) rfl (by rw [ev10_69, nI_1, ev2_68]; rfl) rfl (ih44 (k + 1) (by omega) (by omega))
        refine r_cast (M' := M) (lv' := [(10, .int (nI 0)), (9, .int (nI 8)), (8, .ref (ad 1)), (7, .ref (ad (10 + n))), (6, .int (nI n)), (5, .int (nI 8)), (4, .ref (ad 1)), (2, .long (mc_ppI M b n (mc_ppO M b n) 0)), (0, .ref (ad 0)), (1, .int b)]) (st' := []) rfl (by rw [ev9_39]; rfl) rfl (L44 (8 - 0 + 1) 0 (by omega) (by omega))
  refine r_cast (M' := M) (lv' := [(6, .int (nI 0)), (5, .int (nI 8)), (4, .ref (ad 1)), (2, .long (mc_ppO M b 0)), (0, .ref (ad 0)), (1, .int b)]) (st' := []) rfl (by rw [ev5_11]; rfl) rfl (L16 (8 - 0 + 1) 0 (by omega) (by omega))

def mc_fpM (M : mm_M) : Nat → mm_M
  | 0 => M
  | n + 1 => mm_sL (mc_steer (mc_fpM M n) (nI n - 4)) 5 n (mc_pwN (mc_steer (mc_fpM M n) (nI n - 4)) 32)
def mc_fpG (M : mm_M) : Nat → Int64
  | 0 => 0
  | n + 1 => if (mc_fpM M (n + 1)).2 5 n < mc_fpG M n then mc_fpG M n else (mc_fpM M (n + 1)).2 5 n
abbrev rmX4_fillPowers : Room := { frames := 5, cells := 0, slots := 0, locals := 113 }
set_option maxHeartbeats 400000 in
set_option maxRecDepth 100000 in
theorem kX4_fillPowers {l : Launch} {D : va_G} {ad : Nat → Nat} {q : Nat → ClassId} {A : Nat → Prop} (hAD : mm_AD ad A) {M : mm_M} : mm_Kd l D ad q A yX4_fillPowers wsX4_fillPowers rmX4_fillPowers [.ref (ad 0)] M (some (.long (mc_fpG M 9))) (mc_fpM M 9) := by
  have inX4 : ∀ w ∈ wsX40, w ∈ wsX4_fillPowers := by decide +kernel
  have f32 : Cond.fieldLink RX4 32 "Beamrow" "powers" "[J" ∈ wsX4_fillPowers := by decide +kernel
  have h239_1 : Cond.methodLink RX4 239 Lib.MathLoose.max_long.x ∈ wsX4_fillPowers := by decide +kernel
  have h239_2 : Cond.static Lib.MathLoose.max_long.x ∈ wsX4_fillPowers := by decide +kernel
  have h239_3 : Cond.initialized "java/lang/Math" ∈ wsX4_fillPowers := by decide +kernel
  have h239_4 : Cond.code Lib.MathLoose.max_long.x Lib.MathLoose.max_long.code 4 (some .long) ∈ wsX4_fillPowers := by decide +kernel
  refine mm_of (cc := cX4_fillPowers) (maxL := 4) (ret := some .long) (own := RX4) rfl hAD (plainFor_of_name (by decide)) rfl (Nat.le_of_ble_eq_true rfl) ⟨rfl, rfl⟩ ?_
  intro pp ee ss mm bl mth cd C hret hlk9
  show mm_G _ _ _ _ _ _ _ _ _ _ _ _ _ _ _ _ _ _ M 0 [(0, .ref (ad 0))] []
  refine r_lconst (v := 0) C dX4_fillPowers_0 rfl ?_
  refine r_lstore_n (lv' := [(1, .long 0), (0, .ref (ad 0))]) C dX4_fillPowers_1 rfl (by decide) rfl ?_
  refine r_iconst (v := 0) C dX4_fillPowers_2 rfl ?_
  refine r_istore_n (lv' := [(3, .int 0), (1, .long 0), (0, .ref (ad 0))]) C dX4_fillPowers_3 rfl (by decide) rfl ?_
  have L4 : ∀ (k9 : Nat) (n : Nat) (hn : n ≤ 9), 9 - n < k9 → mm_G pp l ee rmX4_fillPowers ss mm ([.ref (ad 0)] : List Value).toArray bl mth cd 0 0 (MQ bl (mm_Q D ad q A (fun v' u => v' = some (.long (mc_fpG M 9)) ∧ u = mc_fpM M 9)) ([.ref (ad 0)] : List Value).toArray ss 0 0 A) 4 D ad q A (mc_fpM M n) 4 [(3, .int (nI n)), (1, .long (mc_fpG M n)), (0, .ref (ad 0))] [] := by
    intro k9
    induction k9 with
    | zero => intro n hn h9; exact absurd h9 (Nat.not_lt_zero _)
    | succ k9 ih4 =>
      intro n hn h9
      refine r_iload_n C dX4_fillPowers_4 rfl 0 rfl ?_
      refine r_aload_n C dX4_fillPowers_5 rfl 2 rfl ?_
      refine r_get4 C inX4 4 (by decide) rfl f32 rfl dX4_fillPowers_6 ?_
      refine r_alenJ C mm_aJ_5 dX4_fillPowers_9 ?_
      refine r_icmp_ge (tgt := 47) C dX4_fillPowers_10 (by decide) (fun z10 => ?_) (fun z10 => ?_)
      · obtain rfl : n = 9 := nm_ge hn (by decide) z10
        refine r_lload_n C dX4_fillPowers_47 rfl 1 rfl ?_
        exact r_lret C hret hlk9 dX4_fillPowers_48 ⟨by first | rfl | (subst_vars; rfl) | (subst_vars; simp [*]), by first | rfl | (subst_vars; rfl)⟩
      · have hlt : n < 9 := nm_lt (by omega) (by decide) z10
        refine r_aload_n C dX4_fillPowers_13 rfl 2 rfl ?_
        refine r_iload_n C dX4_fillPowers_14 rfl 0 rfl ?_
        refine r_iconst (v := 4) C dX4_fillPowers_15 rfl ?_
        refine r_isub C dX4_fillPowers_16 ?_
        refine r_callV1V C 4 (by decide) rfl (mm_ct4 ad q _) (kX4_steer hAD) (cwV 1 C.1.2.2.2.2 gX4_fillPowers_X4_steer rfl rfl rfl (by decide +kernel) ⟨Nat.le_of_ble_eq_true rfl, Nat.le_of_ble_eq_true rfl⟩) (Nat.le_of_ble_eq_true rfl) dX4_fillPowers_17 ⟨rfl, rfl⟩ ⟨Nat.zero_le _, Nat.zero_le _⟩ ?_
        refine r_aload_n C dX4_fillPowers_20 rfl 2 rfl ?_
        refine r_get4 C inX4 4 (by decide) rfl f32 rfl dX4_fillPowers_21 ?_
        refine r_iload_n C dX4_fillPowers_24 rfl 0 rfl ?_
        refine r_aload_n C dX4_fillPowers_25 rfl 2 rfl ?_
        refine r_callV0J C 4 (by decide) rfl (mm_ct4 ad q _) (kX4_squaresOfSums hAD) (cwV 0 C.1.2.2.2.2 gX4_fillPowers_X4_squaresOfSums rfl rfl rfl (by decide +kernel) ⟨Nat.le_of_ble_eq_true rfl, Nat.le_of_ble_eq_true rfl⟩) (Nat.le_of_ble_eq_true rfl) dX4_fillPowers_26 ⟨rfl, rfl⟩ ⟨Nat.zero_le _, Nat.zero_le _⟩ ?_
        refine r_last C mm_aJ_5 (n) (nI_toInt (by omega)) (hlt) dX4_fillPowers_29 ?_
        refine r_lload_n C dX4_fillPowers_30 rfl 1 rfl ?_
        refine r_aload_n C dX4_fillPowers_31 rfl 2 rfl ?_
        refine r_get4 C inX4 4 (by decide) rfl f32 rfl dX4_fillPowers_32 ?_
        refine r_iload_n C dX4_fillPowers_35 rfl 0 rfl ?_
        refine r_lald C mm_aJ_5 (n) (nI_toInt (by omega)) (hlt) dX4_fillPowers_36 ?_
        refine r_mmaxJ C h239_1 h239_2 h239_3 h239_4 (Nat.le_of_ble_eq_true rfl) (Nat.le_of_ble_eq_true rfl) (Nat.zero_le _) (Nat.zero_le _) dX4_fillPowers_37 ?_
        refine r_topl (fun v1_40 ev1_40 => ?_)
        refine r_lstore_n (lv' := [(1, .long v1_40), (3, .int (nI n)), (0, .ref (ad 0))]) C dX4_fillPowers_40 rfl (by decide) rfl ?_
        obtain ⟨v3_41, ev3_41⟩ : ∃ y9 : Int32, y9 = (nI n) + 1 := ⟨_, rfl⟩
        refine r_iinc (v := v3_41) (lv' := [(3, .int v3_41), (1, .long v1_40), (0, .ref (ad 0))]) C dX4_fillPowers_41 1 rfl (by rw [ev3_41]; rfl) (by decide) rfl ?_
        refine r_goto (tgt := 4) C dX4_fillPowers_44 (by decide) ?_
        refine r_cast (M' := mc_fpM M (n + 1)) (lv' := [(3, .int (nI (n + 1))), (1, .long (mc_fpG M (n + 1))), (0, .ref (ad 0))]) (st' := []) rfl (by rw [ev3_41, nI_1, ev1_40]; rfl) rfl (ih4 (n + 1) (by omega) (by omega))
  refine r_cast (M' := mc_fpM M 0) (lv' := [(3, .int (nI 0)), (1, .long (mc_fpG M 0)), (0, .ref (ad 0))]) (st' := []) rfl rfl rfl (L4 (9 - 0 + 1) 0 (by omega) (by omega))
