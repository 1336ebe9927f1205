def mr_o (F : mm_F) (N : Nat) : Nat := (mr_low F N 0).toInt.toNat
def mr_sq (F : mm_F) (N : Nat) (x : Int32) : Int64 := mr_agN F (mr_o F N) 0 (mr_o F N) x 32
def mr_cak (F : mm_F) (N : Nat) (x : Int32) : Int32 := if nm_in x (-4) 4 = 0 then 1 else if mr_low F N 0 = -99 then 2 else if lg_cmp (mr_sq F N x) 0 = 0 then 2 else 0
def mr_cbM (M : mm_M) (o : Nat) (y : Int64) (b : Int32) : Nat → mm_M
  | 0 => mm_sI (mm_sI M 56 o 64) 57 o 0
  | n + 1 => if n ≤ o then mr_cbM M o y b n else if M.1 55 n = 0 then mr_cbM M o y b n else mm_sI (mm_sI (mr_cbM M o y b n) 56 n (mr_fitG (mr_cbM M o y b n).1 n o b y)) 57 n (mr_bL (mr_cbM M o y b n).1 n o b 6)
def mr_cbV (M : mm_M) (o : Nat) (y : Int64) (b : Int32) : Nat → Int32
  | 0 => if mr_becV M.1 o 64 0 = 0 then 0 else 1
  | n + 1 => if n ≤ o then mr_cbV M o y b n else if M.1 55 n = 0 then mr_cbV M o y b n else if mr_becV (mr_cbM M o y b n).1 n (mr_fitG (mr_cbM M o y b n).1 n o b y) (mr_bL (mr_cbM M o y b n).1 n o b 6) = 0 then mr_cbV M o y b n else mr_cbV M o y b n + 1
theorem mr_cb_0 {M : mm_M} {o : Nat} {y : Int64} {b : Int32} : ∀ n, n ≤ o + 1 → mr_cbM M o y b n = mr_cbM M o y b 0 ∧ mr_cbV M o y b n = mr_cbV M o y b 0
  | 0, _ => ⟨rfl, rfl⟩
  | n + 1, h => by
    have ih := mr_cb_0 (M := M) (o := o) (y := y) (b := b) n (by omega)
    exact ⟨(if_pos (by omega)).trans ih.1, (if_pos (by omega)).trans ih.2⟩
theorem mr_cbM_o {M : mm_M} {o : Nat} {y : Int64} {b : Int32} {k j : Nat} (h1 : k ≠ 56) (h2 : k ≠ 57) : ∀ n, (mr_cbM M o y b n).1 k j = M.1 k j
  | 0 => by rw [mr_cbM, mm_sI_k h2, mm_sI_k h1]
  | n + 1 => by
    rw [mr_cbM]
    split
    · exact mr_cbM_o h1 h2 n
    · split
      · exact mr_cbM_o h1 h2 n
      · rw [mm_sI_k h2, mm_sI_k h1, mr_cbM_o h1 h2 n]
theorem mr_low_c (F : mm_F) : ∀ r k, k + r ≤ 8 → mr_low F r k = -99 ∨ ∃ o : Nat, k ≤ o ∧ o < k + r ∧ mr_low F r k = nI o ∧ (¬ F 55 o = 0) ∧ ∀ j, k ≤ j → j < o → F 55 j = 0
  | 0, _, _ => Or.inl rfl
  | r + 1, k, h => by
    by_cases z : F 55 k = 0
    · have e : mr_low F (r + 1) k = mr_low F r (k + 1) := if_pos z
      rw [e]
      rcases mr_low_c F r (k + 1) (by omega) with h1 | ⟨o, h1, h2, h3, h4, h5⟩
      · exact Or.inl h1
      · refine Or.inr ⟨o, by omega, by omega, h3, h4, fun j hj1 hj2 => ?_⟩
        rcases Nat.eq_or_lt_of_le hj1 with rfl | h6
        · exact z
        · exact h5 j h6 hj2
    · exact Or.inr ⟨k, Nat.le_refl k, by omega, if_neg z, z, fun j h1 h2 => absurd h1 (by omega)⟩
theorem mr_o_c {F : mm_F} {N : Nat} (hN : N ≤ 8) (h : ¬ mr_low F N 0 = -99) : mr_low F N 0 = nI (mr_o F N) ∧ mr_o F N < N ∧ ¬ F 55 (mr_o F N) = 0 ∧ ∀ j, j < mr_o F N → F 55 j = 0 := by
  rcases mr_low_c F N 0 (by omega) with h1 | ⟨o, h1, h2, h3, h4, h5⟩
  · exact absurd h1 h
  · have e : mr_o F N = o := by rw [mr_o, h3, nI_toInt (by omega)]; omega
    rw [e]
    exact ⟨h3, by omega, h4, fun j hj => h5 j (Nat.zero_le j) hj⟩
abbrev rmX5_calibrate : Room := { frames := 5, cells := 0, slots := 0, locals := 123 }
set_option maxHeartbeats 400000 in
set_option maxRecDepth 100000 in
theorem kX5_calibrate {l : Launch} {D : va_G} {ad : Nat → Nat} {q : Nat → ClassId} {A : Nat → Prop} (hAD : mm_AD ad A) {N : Nat} {M : mm_M} (hN : M.1 50 1 = nI N) (hN8 : N ≤ 8) {x : Int32} (hq : ∀ o : Nat, o < N → 0 ≤ (mr_agN M.1 o 0 o x 32).toInt) : mm_Kd l D ad q A yX5_calibrate wsX5_calibrate rmX5_calibrate [.ref (ad 50), .int x] M (some (.int (if mr_cak M.1 N x = 0 then mr_cbV (mm_sI M 50 20 0) (mr_o M.1 N) (mr_sq M.1 N x) x N else 0))) (if mr_cak M.1 N x = 0 then mr_cbM (mm_sI M 50 20 0) (mr_o M.1 N) (mr_sq M.1 N x) x N else mm_sI M 50 20 (mr_cak M.1 N x)) := by
  have inX5 : ∀ w ∈ wsX50, w ∈ wsX5_calibrate := by decide +kernel
  have f22 : Cond.fieldLink RX5 22 "BeamrowModel" "isAlive" "[Z" ∈ wsX5_calibrate := by decide +kernel
  have f61 : Cond.fieldLink RX5 61 "BeamrowModel" "elements" "I" ∈ wsX5_calibrate := by decide +kernel
  refine mm_of (cc := cX5_calibrate) (maxL := 8) (ret := some .int) (own := RX5) rfl hAD (plainFor_of_name (by decide)) rfl (Nat.le_of_ble_eq_true rfl) ⟨rfl, rfl⟩ ?_
  intro pp ee ss mm bl mth cd C hret hlk9
  show mm_G _ _ _ _ _ _ _ _ _ _ _ _ _ _ _ _ _ _ M 0 [(0, .ref (ad 50)), (1, .int x)] []
  refine r_iload_n C dX5_calibrate_0 rfl 1 rfl ?_
  refine r_callS1I C (kX5_isBearing hAD) (va_cwS 1 C.1.2.2.2.2 gX5_calibrate_X5_isBearing rfl rfl rfl (by decide +kernel) ⟨Nat.le_of_ble_eq_true rfl, Nat.le_of_ble_eq_true rfl⟩) (Nat.le_of_ble_eq_true rfl) dX5_calibrate_1 ⟨rfl, rfl⟩ ⟨Nat.zero_le _, Nat.zero_le _⟩ ?_
  refine r_topi (fun v2_4 ev2_4 => ?_)
  refine r_istore_n (lv' := [(2, .int v2_4), (0, .ref (ad 50)), (1, .int x)]) C dX5_calibrate_4 rfl (by decide) rfl ?_
  refine r_aload_n C dX5_calibrate_5 rfl 1 rfl ?_
  refine r_callV0I C 5 (by decide) rfl (mm_ct5 ad q _) (kX5_lowest hAD (by exact hN) (by exact hN8)) (cwV 0 C.1.2.2.2.2 gX5_calibrate_X5_lowest rfl rfl rfl (by decide +kernel) ⟨Nat.le_of_ble_eq_true rfl, Nat.le_of_ble_eq_true rfl⟩) (Nat.le_of_ble_eq_true rfl) dX5_calibrate_6 ⟨rfl, rfl⟩ ⟨Nat.zero_le _, Nat.zero_le _⟩ ?_
  refine r_topi (fun v3_9 ev3_9 => ?_)
  refine r_istore_n (lv' := [(3, .int v3_9), (2, .int v2_4), (0, .ref (ad 50)), (1, .int x)]) C dX5_calibrate_9 rfl (by decide) rfl ?_
  refine r_iload_n C dX5_calibrate_10 rfl 1 rfl ?_
  refine r_if_eq (tgt := 31) C dX5_calibrate_11 (by decide) (fun z11 => ?_) (fun z11 => ?_)
  · refine r_lconst (v := 0) C dX5_calibrate_31 rfl ?_
    refine r_lstore (lv' := [(4, .long 0), (3, .int v3_9), (2, .int v2_4), (0, .ref (ad 50)), (1, .int x)]) C dX5_calibrate_32 (by decide) rfl ?_
    refine r_aload_n C dX5_calibrate_34 rfl 3 rfl ?_
    refine r_iload_n C dX5_calibrate_35 rfl 2 rfl ?_
    refine r_if_neF (tgt := 43) C dX5_calibrate_36 (by decide) (z11) ?_
    refine r_iconst (v := 1) C dX5_calibrate_39 rfl ?_
    refine r_goto (tgt := 55) C dX5_calibrate_40 (by decide) ?_
    refine r_callV1I C 5 (by decide) rfl (mm_ct5 ad q _) (kX5_goes hAD) (cwV 1 C.1.2.2.2.2 gX5_calibrate_X5_goes rfl rfl rfl (by decide +kernel) ⟨Nat.le_of_ble_eq_true rfl, Nat.le_of_ble_eq_true rfl⟩) (Nat.le_of_ble_eq_true rfl) dX5_calibrate_55 ⟨rfl, rfl⟩ ⟨Nat.zero_le _, Nat.zero_le _⟩ ?_
    refine r_topc (y := 0) (by decide) ?_
    refine r_if_neF (tgt := 63) C dX5_calibrate_58 (by decide) (by decide) ?_
    refine r_iconst (v := 0) C dX5_calibrate_61 rfl ?_
    exact r_iret C hret hlk9 dX5_calibrate_62 (by first | (have e9 : mr_cak M.1 N x = 1 := (by rw [mr_cak, if_pos (by rw [← ev2_4]; exact z11)]); exact ⟨by rw [if_neg (by rw [e9]; decide)], by rw [if_neg (by rw [e9]; decide), e9]⟩) | (have e9 : mr_cak M.1 N x = 2 := (by rw [mr_cak, if_neg (by rw [← ev2_4]; exact z11), if_pos (by rw [← ev3_9]; exact z17)]); exact ⟨by rw [if_neg (by rw [e9]; decide)], by rw [if_neg (by rw [e9]; decide), e9]⟩) | (have e9 : mr_cak M.1 N x = 2 := (by rw [mr_cak, if_neg (by rw [← ev2_4]; exact z11), if_neg (by rw [← ev3_9]; exact z17), if_pos (by rw [mr_sq, ← eo, ← ev4_32]; exact z47)]); exact ⟨by rw [if_neg (by rw [e9]; decide)], by rw [if_neg (by rw [e9]; decide), e9]⟩))
  · refine r_iload_n C dX5_calibrate_14 rfl 0 rfl ?_
    refine r_bipush (v := (-99)) C dX5_calibrate_15 rfl ?_
    refine r_icmp_eq (tgt := 31) C dX5_calibrate_17 (by decide) (fun z17 => ?_) (fun z17 => ?_)
    · refine r_lconst (v := 0) C dX5_calibrate_31 rfl ?_
      refine r_lstore (lv' := [(4, .long 0), (3, .int v3_9), (2, .int v2_4), (0, .ref (ad 50)), (1, .int x)]) C dX5_calibrate_32 (by decide) rfl ?_
      refine r_aload_n C dX5_calibrate_34 rfl 3 rfl ?_
      refine r_iload_n C dX5_calibrate_35 rfl 2 rfl ?_
      refine r_if_neT (tgt := 43) C dX5_calibrate_36 (by decide) (z11) ?_
      refine r_lload C dX5_calibrate_43 0 rfl ?_
      refine r_lconst (v := 0) C dX5_calibrate_45 rfl ?_
      refine r_lcmp C dX5_calibrate_46 ?_
      refine r_if_neF (tgt := 54) C dX5_calibrate_47 (by decide) (by decide) ?_
      refine r_iconst (v := 2) C dX5_calibrate_50 rfl ?_
      refine r_goto (tgt := 55) C dX5_calibrate_51 (by decide) ?_
      refine r_callV1I C 5 (by decide) rfl (mm_ct5 ad q _) (kX5_goes hAD) (cwV 1 C.1.2.2.2.2 gX5_calibrate_X5_goes rfl rfl rfl (by decide +kernel) ⟨Nat.le_of_ble_eq_true rfl, Nat.le_of_ble_eq_true rfl⟩) (Nat.le_of_ble_eq_true rfl) dX5_calibrate_55 ⟨rfl, rfl⟩ ⟨Nat.zero_le _, Nat.zero_le _⟩ ?_
      refine r_topc (y := 0) (by decide) ?_
      refine r_if_neF (tgt := 63) C dX5_calibrate_58 (by decide) (by decide) ?_
      refine r_iconst (v := 0) C dX5_calibrate_61 rfl ?_
      exact r_iret C hret hlk9 dX5_calibrate_62 (by first | (have e9 : mr_cak M.1 N x = 1 := (by rw [mr_cak, if_pos (by rw [← ev2_4]; exact z11)]); exact ⟨by rw [if_neg (by rw [e9]; decide)], by rw [if_neg (by rw [e9]; decide), e9]⟩) | (have e9 : mr_cak M.1 N x = 2 := (by rw [mr_cak, if_neg (by rw [← ev2_4]; exact z11), if_pos (by rw [← ev3_9]; exact z17)]); exact ⟨by rw [if_neg (by rw [e9]; decide)], by rw [if_neg (by rw [e9]; decide), e9]⟩) | (have e9 : mr_cak M.1 N x = 2 := (by rw [mr_cak, if_neg (by rw [← ev2_4]; exact z11), if_neg (by rw [← ev3_9]; exact z17), if_pos (by rw [mr_sq, ← eo, ← ev4_32]; exact z47)]); exact ⟨by rw [if_neg (by rw [e9]; decide)], by rw [if_neg (by rw [e9]; decide), e9]⟩))
    · obtain ⟨h17, ho, hao, hbo⟩ := mr_o_c (F := M.1) hN8 (by rw [← ev3_9]; exact z17)
      obtain ⟨o, eo⟩ : ∃ o : Nat, o = mr_o M.1 N := ⟨_, rfl⟩
      have hz : v3_9.toInt = (o : Int) := by rw [ev3_9, h17, ← eo]; exact nI_toInt (by omega)
      refine r_aload_n C dX5_calibrate_20 rfl 2 rfl ?_
      refine r_iload_n C dX5_calibrate_21 rfl 0 rfl ?_
      refine r_iconst (v := 0) C dX5_calibrate_22 rfl ?_
      refine r_iload_n C dX5_calibrate_23 rfl 0 rfl ?_
      refine r_iload_n C dX5_calibrate_24 rfl 3 rfl ?_
      refine r_callV4J C 5 (by decide) rfl (mm_ct5 ad q _) (kX5_agreement hAD (o) (o) (by exact hz) (by omega) (by exact hz) (by omega)) (cwV 4 C.1.2.2.2.2 gX5_calibrate_X5_agreement rfl rfl rfl (by decide +kernel) ⟨Nat.le_of_ble_eq_true rfl, Nat.le_of_ble_eq_true rfl⟩) (Nat.le_of_ble_eq_true rfl) dX5_calibrate_25 ⟨rfl, rfl⟩ ⟨Nat.zero_le _, Nat.zero_le _⟩ ?_
      refine r_goto (tgt := 32) C dX5_calibrate_28 (by decide) ?_
      refine r_topl (fun v4_32 ev4_32 => ?_)
      refine r_lstore (lv' := [(4, .long v4_32), (3, .int v3_9), (2, .int v2_4), (0, .ref (ad 50)), (1, .int x)]) C dX5_calibrate_32 (by decide) rfl ?_
      refine r_aload_n C dX5_calibrate_34 rfl 3 rfl ?_
      refine r_iload_n C dX5_calibrate_35 rfl 2 rfl ?_
      refine r_if_neT (tgt := 43) C dX5_calibrate_36 (by decide) (z11) ?_
      refine r_lload C dX5_calibrate_43 0 rfl ?_
      refine r_lconst (v := 0) C dX5_calibrate_45 rfl ?_
      refine r_lcmp C dX5_calibrate_46 ?_
      refine r_if_ne (tgt := 54) C dX5_calibrate_47 (by decide) (fun z47 => ?_) (fun z47 => ?_)
      · refine r_iconst (v := 0) C dX5_calibrate_54 rfl ?_
        refine r_callV1I C 5 (by decide) rfl (mm_ct5 ad q _) (kX5_goes hAD) (cwV 1 C.1.2.2.2.2 gX5_calibrate_X5_goes rfl rfl rfl (by decide +kernel) ⟨Nat.le_of_ble_eq_true rfl, Nat.le_of_ble_eq_true rfl⟩) (Nat.le_of_ble_eq_true rfl) dX5_calibrate_55 ⟨rfl, rfl⟩ ⟨Nat.zero_le _, Nat.zero_le _⟩ ?_
        refine r_topc (y := 1) (by decide) ?_
        refine r_if_neT (tgt := 63) C dX5_calibrate_58 (by decide) (by decide) ?_
        refine r_aload_n C dX5_calibrate_63 rfl 3 rfl ?_
        refine r_iload_n C dX5_calibrate_64 rfl 1 rfl ?_
        refine r_bipush (v := (64)) C dX5_calibrate_65 rfl ?_
        refine r_iconst (v := 0) C dX5_calibrate_67 rfl ?_
        refine r_callV3I C 5 (by decide) rfl (mm_ct5 ad q _) (kX5_becomes hAD (o) (by exact hz) (by omega)) (cwV 3 C.1.2.2.2.2 gX5_calibrate_X5_becomes rfl rfl rfl (by decide +kernel) ⟨Nat.le_of_ble_eq_true rfl, Nat.le_of_ble_eq_true rfl⟩) (Nat.le_of_ble_eq_true rfl) dX5_calibrate_68 ⟨rfl, rfl⟩ ⟨Nat.zero_le _, Nat.zero_le _⟩ ?_
        refine r_if_eq (tgt := 78) C dX5_calibrate_71 (by decide) (fun z71 => ?_) (fun z71 => ?_)
        · refine r_iconst (v := 0) C dX5_calibrate_78 rfl ?_
          refine r_istore (lv' := [(6, .int 0), (4, .long v4_32), (3, .int v3_9), (2, .int v2_4), (0, .ref (ad 50)), (1, .int x)]) C dX5_calibrate_79 (by decide) rfl ?_
          refine r_iload_n C dX5_calibrate_81 rfl 2 rfl ?_
          refine r_iconst (v := 1) C dX5_calibrate_82 rfl ?_
          refine r_iadd C dX5_calibrate_83 ?_
          refine r_topi (fun v7_84 ev7_84 => ?_)
          refine r_istore (lv' := [(7, .int v7_84), (6, .int 0), (4, .long v4_32), (3, .int v3_9), (2, .int v2_4), (0, .ref (ad 50)), (1, .int x)]) C dX5_calibrate_84 (by decide) rfl ?_
          have hy9 : 0 < v4_32.toInt := by have h1 := hq o (by omega); rw [← ev4_32] at h1; have h2 : ¬ v4_32.toInt = 0 := fun z => z47 (by rw [lg_eq0]; exact Int64.toInt_inj.mp z); omega
          have L86 : ∀ (k9 : Nat) (n : Nat) (hon : o < n) (hn : n ≤ N), N - n < k9 → mm_G pp l ee rmX5_calibrate ss mm ([.ref (ad 50), .int x] : List Value).toArray bl mth cd 0 0 (MQ bl (mm_Q D ad q A (fun v' u => v' = some (.int (if mr_cak M.1 N x = 0 then mr_cbV (mm_sI M 50 20 0) (mr_o M.1 N) (mr_sq M.1 N x) x N else 0)) ∧ u = if mr_cak M.1 N x = 0 then mr_cbM (mm_sI M 50 20 0) (mr_o M.1 N) (mr_sq M.1 N x) x N else mm_sI M 50 20 (mr_cak M.1 N x))) ([.ref (ad 50), .int x] : List Value).toArray ss 0 0 A) 8 D ad q A (mr_cbM (mm_sI M 50 20 0) o v4_32 x n) 86 [(7, .int (nI n)), (6, .int (mr_cbV (mm_sI M 50 20 0) o v4_32 x n)), (4, .long v4_32), (3, .int v3_9), (0, .ref (ad 50)), (1, .int x)] [] := by
            intro k9
            induction k9 with
            | zero => intro n hon hn h9; exact absurd h9 (Nat.not_lt_zero _)
            | succ k9 ih86 =>
              intro n hon hn h9
              refine r_iload C dX5_calibrate_86 0 rfl ?_
              refine r_aload_n C dX5_calibrate_88 rfl 4 rfl ?_
              refine r_get5 C inX5 1 (by decide) rfl f61 rfl dX5_calibrate_89 ?_
              refine r_icmp_ge (tgt := 134) C dX5_calibrate_92 (by decide) (fun z92 => ?_) (fun z92 => ?_)
              · rw [show (mr_cbM (mm_sI M 50 20 0) o v4_32 x n).1 50 1 = nI N from by rw [mr_cbM_o (by decide) (by decide)]; exact hN] at z92
                obtain rfl : N = n := (nm_ge hn (by omega) z92).symm
                refine r_iload C dX5_calibrate_134 1 rfl ?_
                exact r_iret C hret hlk9 dX5_calibrate_136 (by have e9 : mr_cak M.1 N x = 0 := (by rw [mr_cak, if_neg (by rw [← ev2_4]; exact z11), if_neg (by rw [← ev3_9]; exact z17), if_neg (by rw [mr_sq, ← eo, ← ev4_32]; exact z47)]); exact ⟨by rw [if_pos e9, mr_sq, ← eo, ← ev4_32], by rw [if_pos e9, mr_sq, ← eo, ← ev4_32]⟩)
              · rw [show (mr_cbM (mm_sI M 50 20 0) o v4_32 x n).1 50 1 = nI N from by rw [mr_cbM_o (by decide) (by decide)]; exact hN] at z92
                have hlt : n < N := nm_lt (by omega) (by omega) z92
                refine r_iload C dX5_calibrate_95 1 rfl ?_
                refine r_aload_n C dX5_calibrate_97 rfl 4 rfl ?_
                refine r_get5 C inX5 6 (by decide) rfl f22 rfl dX5_calibrate_98 ?_
                refine r_iload C dX5_calibrate_101 0 rfl ?_
                refine r_zald C (n) (nI_toInt (by omega)) (by omega) dX5_calibrate_103 ?_
                refine r_if_eq (tgt := 124) C dX5_calibrate_104 (by decide) (fun z104 => ?_) (fun z104 => ?_)
                · rw [mr_cbM_o (by decide) (by decide)] at z104
                  refine r_iconst (v := 0) C dX5_calibrate_124 rfl ?_
                  refine r_iadd C dX5_calibrate_125 ?_
                  refine r_topi (fun v6_126 ev6_126 => ?_)
                  refine r_istore (lv' := [(6, .int v6_126), (7, .int (nI n)), (4, .long v4_32), (3, .int v3_9), (0, .ref (ad 50)), (1, .int x)]) C dX5_calibrate_126 (by decide) rfl ?_
                  obtain ⟨v7_128, ev7_128⟩ : ∃ y9 : Int32, y9 = (nI n) + 1 := ⟨_, rfl⟩
                  refine r_iinc (v := v7_128) (lv' := [(7, .int v7_128), (6, .int v6_126), (4, .long v4_32), (3, .int v3_9), (0, .ref (ad 50)), (1, .int x)]) C dX5_calibrate_128 1 rfl (by rw [ev7_128]; rfl) (by decide) rfl ?_
                  refine r_goto (tgt := 86) C dX5_calibrate_131 (by decide) ?_
                  have hy9 : 0 < v4_32.toInt := by have h1 := hq o (by omega); rw [← ev4_32] at h1; have h2 : ¬ v4_32.toInt = 0 := fun z => z47 (by rw [lg_eq0]; exact Int64.toInt_inj.mp z); omega
                  refine r_cast (M' := mr_cbM (mm_sI M 50 20 0) o v4_32 x (n + 1)) (lv' := [(7, .int (nI (n + 1))), (6, .int (mr_cbV (mm_sI M 50 20 0) o v4_32 x (n + 1))), (4, .long v4_32), (3, .int v3_9), (0, .ref (ad 50)), (1, .int x)]) (st' := []) (by rw [mr_cbM, if_neg (by omega)]; first | (rw [if_pos z104]; done) | (rw [if_neg z104]; done)) (by rw [ev7_128, nI_1, ev6_126, mr_cbV, if_neg (by omega)]; first | (rw [if_pos z104]; simp; done) | (rw [if_neg z104, if_pos z117]; simp; done) | rw [if_neg z104, if_neg z117]) rfl (ih86 (n + 1) (by omega) (by omega) (by omega))
                · rw [mr_cbM_o (by decide) (by decide)] at z104
                  refine r_aload_n C dX5_calibrate_107 rfl 4 rfl ?_
                  refine r_iload C dX5_calibrate_108 0 rfl ?_
                  refine r_iload_n C dX5_calibrate_110 rfl 3 rfl ?_
                  refine r_iload_n C dX5_calibrate_111 rfl 5 rfl ?_
                  refine r_lload C dX5_calibrate_112 2 rfl ?_
                  refine r_callV4I C 5 (by decide) rfl (mm_ct5 ad q _) (kX5_isFitted hAD (by exact hy9) (n) (o) (nI_toInt (by omega)) (by omega) (by exact hz) (by omega)) (cwV 4 C.1.2.2.2.2 gX5_calibrate_X5_isFitted rfl rfl rfl (by decide +kernel) ⟨Nat.le_of_ble_eq_true rfl, Nat.le_of_ble_eq_true rfl⟩) (Nat.le_of_ble_eq_true rfl) dX5_calibrate_114 ⟨rfl, rfl⟩ ⟨Nat.zero_le _, Nat.zero_le _⟩ ?_
                  refine r_if_eq (tgt := 124) C dX5_calibrate_117 (by decide) (fun z117 => ?_) (fun z117 => ?_)
                  · refine r_iconst (v := 0) C dX5_calibrate_124 rfl ?_
                    refine r_iadd C dX5_calibrate_125 ?_
                    refine r_topi (fun v6_126 ev6_126 => ?_)
                    refine r_istore (lv' := [(6, .int v6_126), (7, .int (nI n)), (4, .long v4_32), (3, .int v3_9), (0, .ref (ad 50)), (1, .int x)]) C dX5_calibrate_126 (by decide) rfl ?_
                    obtain ⟨v7_128, ev7_128⟩ : ∃ y9 : Int32, y9 = (nI n) + 1 := ⟨_, rfl⟩
                    refine r_iinc (v := v7_128) (lv' := [(7, .int v7_128), (6, .int v6_126), (4, .long v4_32), (3, .int v3_9), (0, .ref (ad 50)), (1, .int x)]) C dX5_calibrate_128 1 rfl (by rw [ev7_128]; rfl) (by decide) rfl ?_
                    refine r_goto (tgt := 86) C dX5_calibrate_131 (by decide) ?_
                    have hy9 : 0 < v4_32.toInt := by have h1 := hq o (by omega); rw [← ev4_32] at h1; have h2 : ¬ v4_32.toInt = 0 := fun z => z47 (by rw [lg_eq0]; exact Int64.toInt_inj.mp z); omega
                    refine r_cast (M' := mr_cbM (mm_sI M 50 20 0) o v4_32 x (n + 1)) (lv' := [(7, .int (nI (n + 1))), (6, .int (mr_cbV (mm_sI M 50 20 0) o v4_32 x (n + 1))), (4, .long v4_32), (3, .int v3_9), (0, .ref (ad 50)), (1, .int x)]) (st' := []) (by rw [mr_cbM, if_neg (by omega)]; first | (rw [if_pos z104]; done) | (rw [if_neg z104]; done)) (by rw [ev7_128, nI_1, ev6_126, mr_cbV, if_neg (by omega)]; first | (rw [if_pos z104]; simp; done) | (rw [if_neg z104, if_pos z117]; simp; done) | rw [if_neg z104, if_neg z117]) rfl (ih86 (n + 1) (by omega) (by omega) (by omega))
                  · refine r_iconst (v := 1) C dX5_calibrate_120 rfl ?_
                    refine r_goto (tgt := 125) C dX5_calibrate_121 (by decide) ?_
                    refine r_iadd C dX5_calibrate_125 ?_
                    refine r_topi (fun v6_126 ev6_126 => ?_)
                    refine r_istore (lv' := [(6, .int v6_126), (7, .int (nI n)), (4, .long v4_32), (3, .int v3_9), (0, .ref (ad 50)), (1, .int x)]) C dX5_calibrate_126 (by decide) rfl ?_
                    obtain ⟨v7_128, ev7_128⟩ : ∃ y9 : Int32, y9 = (nI n) + 1 := ⟨_, rfl⟩
                    refine r_iinc (v := v7_128) (lv' := [(7, .int v7_128), (6, .int v6_126), (4, .long v4_32), (3, .int v3_9), (0, .ref (ad 50)), (1, .int x)]) C dX5_calibrate_128 1 rfl (by rw [ev7_128]; rfl) (by decide) rfl ?_
                    refine r_goto (tgt := 86) C dX5_calibrate_131 (by decide) ?_
                    have hy9 : 0 < v4_32.toInt := by have h1 := hq o (by omega); rw [← ev4_32] at h1; have h2 : ¬ v4_32.toInt = 0 := fun z => z47 (by rw [lg_eq0]; exact Int64.toInt_inj.mp z); omega
                    refine r_cast (M' := mr_cbM (mm_sI M 50 20 0) o v4_32 x (n + 1)) (lv' := [(7, .int (nI (n + 1))), (6, .int (mr_cbV (mm_sI M 50 20 0) o v4_32 x (n + 1))), (4, .long v4_32), (3, .int v3_9), (0, .ref (ad 50)), (1, .int x)]) (st' := []) (by rw [mr_cbM, if_neg (by omega)]; first | (rw [if_pos z104]; done) | (rw [if_neg z104]; done)) (by rw [ev7_128, nI_1, ev6_126, mr_cbV, if_neg (by omega)]; first | (rw [if_pos z104]; simp; done) | (rw [if_neg z104, if_pos z117]; simp; done) | rw [if_neg z104, if_neg z117]) rfl (ih86 (n + 1) (by omega) (by omega) (by omega))
          refine r_sub (lv' := [(7, .int v7_84), (6, .int 0), (4, .long v4_32), (3, .int v3_9), (0, .ref (ad 50)), (1, .int x)]) [0, 1, 2, 3, 5, 6] rfl ?_
          refine r_cast (M' := mr_cbM (mm_sI M 50 20 0) o v4_32 x (o + 1)) (lv' := [(7, .int (nI (o + 1))), (6, .int (mr_cbV (mm_sI M 50 20 0) o v4_32 x (o + 1))), (4, .long v4_32), (3, .int v3_9), (0, .ref (ad 50)), (1, .int x)]) (st' := []) (by rw [(mr_cb_0 (o + 1) (Nat.le_refl _)).1]; rfl) (by rw [(mr_cb_0 (o + 1) (Nat.le_refl _)).2, ev7_84, ev3_9, h17, ← eo, nI_1, mr_cbV]; first | rw [if_pos (show mr_becV (mm_sI M 50 20 0).1 o 64 0 = 0 from z71)] | rw [if_neg (show ¬ mr_becV (mm_sI M 50 20 0).1 o 64 0 = 0 from z71)]) rfl (L86 (N - (o + 1) + 1) (o + 1) (by omega) (by omega) (by omega))
        · refine r_iconst (v := 1) C dX5_calibrate_74 rfl ?_
          refine r_goto (tgt := 79) C dX5_calibrate_75 (by decide) ?_
          refine r_istore (lv' := [(6, .int 1), (4, .long v4_32), (3, .int v3_9), (2, .int v2_4), (0, .ref (ad 50)), (1, .int x)]) C dX5_calibrate_79 (by decide) rfl ?_
          refine r_iload_n C dX5_calibrate_81 rfl 2 rfl ?_
          refine r_iconst (v := 1) C dX5_calibrate_82 rfl ?_
          refine r_iadd C dX5_calibrate_83 ?_
          refine r_topi (fun v7_84 ev7_84 => ?_)
          refine r_istore (lv' := [(7, .int v7_84), (6, .int 1), (4, .long v4_32), (3, .int v3_9), (2, .int v2_4), (0, .ref (ad 50)), (1, .int x)]) C dX5_calibrate_84 (by decide) rfl ?_
          have hy9 : 0 < v4_32.toInt := by have h1 := hq o (by omega); rw [← ev4_32] at h1; have h2 : ¬ v4_32.toInt = 0 := fun z => z47 (by rw [lg_eq0]; exact Int64.toInt_inj.mp z); omega
          have L86 : ∀ (k9 : Nat) (n : Nat) (hon : o < n) (hn : n ≤ N), N - n < k9 → mm_G pp l ee rmX5_calibrate ss mm ([.ref (ad 50), .int x] : List Value).toArray bl mth cd 0 0 (MQ bl (mm_Q D ad q A (fun v' u => v' = some (.int (if mr_cak M.1 N x = 0 then mr_cbV (mm_sI M 50 20 0) (mr_o M.1 N) (mr_sq M.1 N x) x N else 0)) ∧ u = if mr_cak M.1 N x = 0 then mr_cbM (mm_sI M 50 20 0) (mr_o M.1 N) (mr_sq M.1 N x) x N else mm_sI M 50 20 (mr_cak M.1 N x))) ([.ref (ad 50), .int x] : List Value).toArray ss 0 0 A) 8 D ad q A (mr_cbM (mm_sI M 50 20 0) o v4_32 x n) 86 [(7, .int (nI n)), (6, .int (mr_cbV (mm_sI M 50 20 0) o v4_32 x n)), (4, .long v4_32), (3, .int v3_9), (0, .ref (ad 50)), (1, .int x)] [] := by
            intro k9
            induction k9 with
            | zero => intro n hon hn h9; exact absurd h9 (Nat.not_lt_zero _)
            | succ k9 ih86 =>
              intro n hon hn h9
              refine r_iload C dX5_calibrate_86 0 rfl ?_
              refine r_aload_n C dX5_calibrate_88 rfl 4 rfl ?_
              refine r_get5 C inX5 1 (by decide) rfl f61 rfl dX5_calibrate_89 ?_
              refine r_icmp_ge (tgt := 134) C dX5_calibrate_92 (by decide) (fun z92 => ?_) (fun z92 => ?_)
              · rw [show (mr_cbM (mm_sI M 50 20 0) o v4_32 x n).1 50 1 = nI N from by rw [mr_cbM_o (by decide) (by decide)]; exact hN] at z92
                obtain rfl : N = n := (nm_ge hn (by omega) z92).symm
                refine r_iload C dX5_calibrate_134 1 rfl ?_
                exact r_iret C hret hlk9 dX5_calibrate_136 (by have e9 : mr_cak M.1 N x = 0 := (by rw [mr_cak, if_neg (by rw [← ev2_4]; exact z11), if_neg (by rw [← ev3_9]; exact z17), if_neg (by rw [mr_sq, ← eo, ← ev4_32]; exact z47)]); exact ⟨by rw [if_pos e9, mr_sq, ← eo, ← ev4_32], by rw [if_pos e9, mr_sq, ← eo, ← ev4_32]⟩)
              · rw [show (mr_cbM (mm_sI M 50 20 0) o v4_32 x n).1 50 1 = nI N from by rw [mr_cbM_o (by decide) (by decide)]; exact hN] at z92
                have hlt : n < N := nm_lt (by omega) (by omega) z92
                refine r_iload C dX5_calibrate_95 1 rfl ?_
                refine r_aload_n C dX5_calibrate_97 rfl 4 rfl ?_
                refine r_get5 C inX5 6 (by decide) rfl f22 rfl dX5_calibrate_98 ?_
                refine r_iload C dX5_calibrate_101 0 rfl ?_
                refine r_zald C (n) (nI_toInt (by omega)) (by omega) dX5_calibrate_103 ?_
                refine r_if_eq (tgt := 124) C dX5_calibrate_104 (by decide) (fun z104 => ?_) (fun z104 => ?_)
                · rw [mr_cbM_o (by decide) (by decide)] at z104
                  refine r_iconst (v := 0) C dX5_calibrate_124 rfl ?_
                  refine r_iadd C dX5_calibrate_125 ?_
                  refine r_topi (fun v6_126 ev6_126 => ?_)
                  refine r_istore (lv' := [(6, .int v6_126), (7, .int (nI n)), (4, .long v4_32), (3, .int v3_9), (0, .ref (ad 50)), (1, .int x)]) C dX5_calibrate_126 (by decide) rfl ?_
                  obtain ⟨v7_128, ev7_128⟩ : ∃ y9 : Int32, y9 = (nI n) + 1 := ⟨_, rfl⟩
                  refine r_iinc (v := v7_128) (lv' := [(7, .int v7_128), (6, .int v6_126), (4, .long v4_32), (3, .int v3_9), (0, .ref (ad 50)), (1, .int x)]) C dX5_calibrate_128 1 rfl (by rw [ev7_128]; rfl) (by decide) rfl ?_
                  refine r_goto (tgt := 86) C dX5_calibrate_131 (by decide) ?_
                  have hy9 : 0 < v4_32.toInt := by have h1 := hq o (by omega); rw [← ev4_32] at h1; have h2 : ¬ v4_32.toInt = 0 := fun z => z47 (by rw [lg_eq0]; exact Int64.toInt_inj.mp z); omega
                  refine r_cast (M' := mr_cbM (mm_sI M 50 20 0) o v4_32 x (n + 1)) (lv' := [(7, .int (nI (n + 1))), (6, .int (mr_cbV (mm_sI M 50 20 0) o v4_32 x (n + 1))), (4, .long v4_32), (3, .int v3_9), (0, .ref (ad 50)), (1, .int x)]) (st' := []) (by rw [mr_cbM, if_neg (by omega)]; first | (rw [if_pos z104]; done) | (rw [if_neg z104]; done)) (by rw [ev7_128, nI_1, ev6_126, mr_cbV, if_neg (by omega)]; first | (rw [if_pos z104]; simp; done) | (rw [if_neg z104, if_pos z117]; simp; done) | rw [if_neg z104, if_neg z117]) rfl (ih86 (n + 1) (by omega) (by omega) (by omega))
                · rw [mr_cbM_o (by decide) (by decide)] at z104
                  refine r_aload_n C dX5_calibrate_107 rfl 4 rfl ?_
                  refine r_iload C dX5_calibrate_108 0 rfl ?_
                  refine r_iload_n C dX5_calibrate_110 rfl 3 rfl ?_
                  refine r_iload_n C dX5_calibrate_111 rfl 5 rfl ?_
                  refine r_lload C dX5_calibrate_112 2 rfl ?_
                  refine r_callV4I C 5 (by decide) rfl (mm_ct5 ad q _) (kX5_isFitted hAD (by exact hy9) (n) (o) (nI_toInt (by omega)) (by omega) (by exact hz) (by omega)) (cwV 4 C.1.2.2.2.2 gX5_calibrate_X5_isFitted rfl rfl rfl (by decide +kernel) ⟨Nat.le_of_ble_eq_true rfl, Nat.le_of_ble_eq_true rfl⟩) (Nat.le_of_ble_eq_true rfl) dX5_calibrate_114 ⟨rfl, rfl⟩ ⟨Nat.zero_le _, Nat.zero_le _⟩ ?_
                  refine r_if_eq (tgt := 124) C dX5_calibrate_117 (by decide) (fun z117 => ?_) (fun z117 => ?_)
                  · refine r_iconst (v := 0) C dX5_calibrate_124 rfl ?_
                    refine r_iadd C dX5_calibrate_125 ?_
                    refine r_topi (fun v6_126 ev6_126 => ?_)
                    refine r_istore (lv' := [(6, .int v6_126), (7, .int (nI n)), (4, .long v4_32), (3, .int v3_9), (0, .ref (ad 50)), (1, .int x)]) C dX5_calibrate_126 (by decide) rfl ?_
                    obtain ⟨v7_128, ev7_128⟩ : ∃ y9 : Int32, y9 = (nI n) + 1 := ⟨_, rfl⟩
                    refine r_iinc (v := v7_128) (lv' := [(7, .int v7_128), (6, .int v6_126), (4, .long v4_32), (3, .int v3_9), (0, .ref (ad 50)), (1, .int x)]) C dX5_calibrate_128 1 rfl (by rw [ev7_128]; rfl) (by decide) rfl ?_
                    refine r_goto (tgt := 86) C dX5_calibrate_131 (by decide) ?_
                    have hy9 : 0 < v4_32.toInt := by have h1 := hq o (by omega); rw [← ev4_32] at h1; have h2 : ¬ v4_32.toInt = 0 := fun z => z47 (by rw [lg_eq0]; exact Int64.toInt_inj.mp z); omega
                    refine r_cast (M' := mr_cbM (mm_sI M 50 20 0) o v4_32 x (n + 1)) (lv' := [(7, .int (nI (n + 1))), (6, .int (mr_cbV (mm_sI M 50 20 0) o v4_32 x (n + 1))), (4, .long v4_32), (3, .int v3_9), (0, .ref (ad 50)), (1, .int x)]) (st' := []) (by rw [mr_cbM, if_neg (by omega)]; first | (rw [if_pos z104]; done) | (rw [if_neg z104]; done)) (by rw [ev7_128, nI_1, ev6_126, mr_cbV, if_neg (by omega)]; first | (rw [if_pos z104]; simp; done) | (rw [if_neg z104, if_pos z117]; simp; done) | rw [if_neg z104, if_neg z117]) rfl (ih86 (n + 1) (by omega) (by omega) (by omega))
                  · refine r_iconst (v := 1) C dX5_calibrate_120 rfl ?_
                    refine r_goto (tgt := 125) C dX5_calibrate_121 (by decide) ?_
                    refine r_iadd C dX5_calibrate_125 ?_
                    refine r_topi (fun v6_126 ev6_126 => ?_)
                    refine r_istore (lv' := [(6, .int v6_126), (7, .int (nI n)), (4, .long v4_32), (3, .int v3_9), (0, .ref (ad 50)), (1, .int x)]) C dX5_calibrate_126 (by decide) rfl ?_
                    obtain ⟨v7_128, ev7_128⟩ : ∃ y9 : Int32, y9 = (nI n) + 1 := ⟨_, rfl⟩
                    refine r_iinc (v := v7_128) (lv' := [(7, .int v7_128), (6, .int v6_126), (4, .long v4_32), (3, .int v3_9), (0, .ref (ad 50)), (1, .int x)]) C dX5_calibrate_128 1 rfl (by rw [ev7_128]; rfl) (by decide) rfl ?_
                    refine r_goto (tgt := 86) C dX5_calibrate_131 (by decide) ?_
                    have hy9 : 0 < v4_32.toInt := by have h1 := hq o (by omega); rw [← ev4_32] at h1; have h2 : ¬ v4_32.toInt = 0 := fun z => z47 (by rw [lg_eq0]; exact Int64.toInt_inj.mp z); omega
                    refine r_cast (M' := mr_cbM (mm_sI M 50 20 0) o v4_32 x (n + 1)) (lv' := [(7, .int (nI (n + 1))), (6, .int (mr_cbV (mm_sI M 50 20 0) o v4_32 x (n + 1))), (4, .long v4_32), (3, .int v3_9), (0, .ref (ad 50)), (1, .int x)]) (st' := []) (by rw [mr_cbM, if_neg (by omega)]; first | (rw [if_pos z104]; done) | (rw [if_neg z104]; done)) (by rw [ev7_128, nI_1, ev6_126, mr_cbV, if_neg (by omega)]; first | (rw [if_pos z104]; simp; done) | (rw [if_neg z104, if_pos z117]; simp; done) | rw [if_neg z104, if_neg z117]) rfl (ih86 (n + 1) (by omega) (by omega) (by omega))
          refine r_sub (lv' := [(7, .int v7_84), (6, .int 1), (4, .long v4_32), (3, .int v3_9), (0, .ref (ad 50)), (1, .int x)]) [0, 1, 2, 3, 5, 6] rfl ?_
          refine r_cast (M' := mr_cbM (mm_sI M 50 20 0) o v4_32 x (o + 1)) (lv' := [(7, .int (nI (o + 1))), (6, .int (mr_cbV (mm_sI M 50 20 0) o v4_32 x (o + 1))), (4, .long v4_32), (3, .int v3_9), (0, .ref (ad 50)), (1, .int x)]) (st' := []) (by rw [(mr_cb_0 (o + 1) (Nat.le_refl _)).1]; rfl) (by rw [(mr_cb_0 (o + 1) (Nat.le_refl _)).2, ev7_84, ev3_9, h17, ← eo, nI_1, mr_cbV]; first | rw [if_pos (show mr_becV (mm_sI M 50 20 0).1 o 64 0 = 0 from z71)] | rw [if_neg (show ¬ mr_becV (mm_sI M 50 20 0).1 o 64 0 = 0 from z71)]) rfl (L86 (N - (o + 1) + 1) (o + 1) (by omega) (by omega) (by omega))
      · refine r_iconst (v := 2) C dX5_calibrate_50 rfl ?_
        refine r_goto (tgt := 55) C dX5_calibrate_51 (by decide) ?_
        refine r_callV1I C 5 (by decide) rfl (mm_ct5 ad q _) (kX5_goes hAD) (cwV 1 C.1.2.2.2.2 gX5_calibrate_X5_goes rfl rfl rfl (by decide +kernel) ⟨Nat.le_of_ble_eq_true rfl, Nat.le_of_ble_eq_true rfl⟩) (Nat.le_of_ble_eq_true rfl) dX5_calibrate_55 ⟨rfl, rfl⟩ ⟨Nat.zero_le _, Nat.zero_le _⟩ ?_
        refine r_topc (y := 0) (by decide) ?_
        refine r_if_neF (tgt := 63) C dX5_calibrate_58 (by decide) (by decide) ?_
        refine r_iconst (v := 0) C dX5_calibrate_61 rfl ?_
        exact r_iret C hret hlk9 dX5_calibrate_62 (by first | (have e9 : mr_cak M.1 N x = 1 := (by rw [mr_cak, if_pos (by rw [← ev2_4]; exact z11)]); exact ⟨by rw [if_neg (by rw [e9]; decide)], by rw [if_neg (by rw [e9]; decide), e9]⟩) | (have e9 : mr_cak M.1 N x = 2 := (by rw [mr_cak, if_neg (by rw [← ev2_4]; exact z11), if_pos (by rw [← ev3_9]; exact z17)]); exact ⟨by rw [if_neg (by rw [e9]; decide)], by rw [if_neg (by rw [e9]; decide), e9]⟩) | (have e9 : mr_cak M.1 N x = 2 := (by rw [mr_cak, if_neg (by rw [← ev2_4]; exact z11), if_neg (by rw [← ev3_9]; exact z17), if_pos (by rw [mr_sq, ← eo, ← ev4_32]; exact z47)]); exact ⟨by rw [if_neg (by rw [e9]; decide)], by rw [if_neg (by rw [e9]; decide), e9]⟩))
