def mr_fd0 (M : mm_M) : mm_M := mm_rowI (mm_sI M 50 20 0) 62 512 (fun c => M.1 61 c)
theorem mr_fp_1 {M : mm_M} {N r : Nat} : (mr_fp M N r).1 = M.1 := rfl
def mr_fdg (M : mm_M) (N : Nat) : Nat := mr_gr ((mr_fp M N 62).2 64) 8
def mr_fd (N : Nat) : Nat → mm_M → Int32 × mm_M
  | 0, M => if lg_cmp ((mr_fp M N 62).2 64 (mr_fdg M N)) 0 = 0 then (-99, mr_fp M N 62) else (nI (mr_fdg M N) - 4, mr_fp M N 62)
  | r + 1, M => if lg_cmp ((mr_fp M N 62).2 64 (mr_fdg M N)) 0 = 0 then (-99, mr_fp M N 62) else mr_fd N r (mr_takes (mr_fp M N 62) N (nI (mr_fdg M N) - 4))
theorem mr_w_dead {F : mm_F} {x : Int32} {e N : Nat} (h : F 55 e = 0) : mr_w F x e N = 0 := if_pos h
theorem mr_sum_dead {F : mm_F} {N r : Nat} {b t : Int32} : ∀ n, (∀ k, k < n → F 55 k = 0) → mr_sumN F N r b t n = 0
  | 0, _ => rfl
  | n + 1, h => by rw [mr_sumN, mr_sum_dead n (fun k hk => h k (by omega)), mr_w_dead (h n (by omega))]; simp
theorem mr_pow_dead {F : mm_F} {N r : Nat} {b : Int32} (h : ∀ k, k < N → F 55 k = 0) : ∀ n, mr_powN F N r b n = 0
  | 0 => rfl
  | n + 1 => by rw [mr_powN, mr_pow_dead h n, mr_sum_dead N h]; simp
theorem mr_all_c {F F' : mm_F} (h : mr_eq F F') {N : Nat} : ∀ n, mr_allN F N n = mr_allN F' N n
  | 0 => rfl
  | n + 1 => by rw [mr_allN, mr_allN, mr_all_c h n, mr_w_c h]
def mr_like (M M' : mm_M) : Prop := ∀ k j, k ≠ 62 → k ≠ 63 → M.1 k j = M'.1 k j
theorem mr_like_eq {M M' : mm_M} (h : mr_like M M') : mr_eq M.1 M'.1 := ⟨h 50 0 (by decide) (by decide), h 50 15 (by decide) (by decide), funext fun j => h 51 j (by decide) (by decide), funext fun j => h 54 j (by decide) (by decide), funext fun j => h 55 j (by decide) (by decide), funext fun j => h 56 j (by decide) (by decide), funext fun j => h 57 j (by decide) (by decide)⟩
theorem mr_eq_tr {F G H : mm_F} (h : mr_eq F G) (g : mr_eq G H) : mr_eq F H := ⟨h.1.trans g.1, h.2.1.trans g.2.1, h.2.2.1.trans g.2.2.1, h.2.2.2.1.trans g.2.2.2.1, h.2.2.2.2.1.trans g.2.2.2.2.1, h.2.2.2.2.2.1.trans g.2.2.2.2.2.1, h.2.2.2.2.2.2.trans g.2.2.2.2.2.2⟩
theorem mr_fd_all {M M1 : mm_M} {N : Nat} (hl : mr_eq M1.1 M.1) (hall : (∃ k : Nat, k < N ∧ ¬ M.1 55 k = 0) → 0 < (mr_allN M.1 N N).toInt64.toInt) (hz : ¬ lg_cmp ((mr_fp M1 N 62).2 64 (mr_fdg M1 N)) 0 = 0) : 0 < (mr_allN M1.1 N N).toInt64.toInt := by
  rw [mr_all_c hl]
  refine hall (Classical.byContradiction fun hc => hz ?_)
  have hd : ∀ k, k < N → M1.1 55 k = 0 := fun k hk => Classical.byContradiction fun h9 => hc ⟨k, hk, by rw [← hl.2.2.2.2.1]; exact h9⟩
  have hle := mr_gr_le ((mr_fp M1 N 62).2 64) 8
  have e : (mr_fp M1 N 62).2 64 (mr_fdg M1 N) = mr_powN M1.1 N 62 (nI (mr_fdg M1 N) - 4) 32 := mm_row_i (by unfold mr_fdg; omega)
  rw [e, mr_pow_dead hd]; rfl
abbrev rmX5_found : Room := { frames := 6, cells := 0, slots := 0, locals := 143 }
set_option maxHeartbeats 400000 in
set_option maxRecDepth 100000 in
theorem kX5_found {l : Launch} {D : va_G} {ad : Nat → Nat} {q : Nat → ClassId} {A : Nat → Prop} (hAD : mm_AD ad A) {N : Nat} {M : mm_M} (hN : M.1 50 1 = nI N) (hN8 : N ≤ 8) (hg : ∀ k : Nat, k < N → 0 < (M.1 56 k).toInt) (hall : (∃ k : Nat, k < N ∧ ¬ M.1 55 k = 0) → 0 < (mr_allN M.1 N N).toInt64.toInt) {x : Int32} : mm_Kd l D ad q A yX5_found wsX5_found rmX5_found [.ref (ad 50), .int x] M (some (.int (if nm_in x 0 5 = 0 then 0 else (mr_fd N x.toInt.toNat (mr_fd0 M)).1))) (if nm_in x 0 5 = 0 then mm_sI M 50 20 1 else (mr_fd N x.toInt.toNat (mr_fd0 M)).2) := by
  have inX5 : ∀ w ∈ wsX50, w ∈ wsX5_found := by decide +kernel
  have f41 : Cond.fieldLink RX5 41 "BeamrowModel" "samples" "[I" ∈ wsX5_found := by decide +kernel
  have f44 : Cond.fieldLink RX5 44 "BeamrowModel" "left" "[I" ∈ wsX5_found := by decide +kernel
  have f50 : Cond.fieldLink RX5 50 "BeamrowModel" "powers" "[J" ∈ wsX5_found := by decide +kernel
  refine mm_of (cc := cX5_found) (maxL := 4) (ret := some .int) (own := RX5) rfl hAD (plainFor_of_name (by decide)) rfl (Nat.le_of_ble_eq_true rfl) ⟨rfl, rfl⟩ ?_
  intro pp ee ss mm bl mth cd C hret hlk9
  show mm_G _ _ _ _ _ _ _ _ _ _ _ _ _ _ _ _ _ _ M 0 [(0, .ref (ad 50)), (1, .int x)] []
  refine r_aload_n C dX5_found_0 rfl 0 rfl ?_
  refine r_iload_n C dX5_found_1 rfl 1 rfl ?_
  refine r_iconst (v := 0) C dX5_found_2 rfl ?_
  refine r_iconst (v := 5) C dX5_found_3 rfl ?_
  refine r_callS3I C (kX5_isIn hAD) (va_cwS 3 C.1.2.2.2.2 gX5_found_X5_isIn rfl rfl rfl (by decide +kernel) ⟨Nat.le_of_ble_eq_true rfl, Nat.le_of_ble_eq_true rfl⟩) (Nat.le_of_ble_eq_true rfl) dX5_found_4 ⟨rfl, rfl⟩ ⟨Nat.zero_le _, Nat.zero_le _⟩ ?_
  refine r_if_eq (tgt := 14) C dX5_found_7 (by decide) (fun z7 => ?_) (fun z7 => ?_)
  · refine r_iconst (v := 1) C dX5_found_14 rfl ?_
    refine r_callV1I C 5 (by decide) rfl (mm_ct5 ad q _) (kX5_goes hAD) (cwV 1 C.1.2.2.2.2 gX5_found_X5_goes rfl rfl rfl (by decide +kernel) ⟨Nat.le_of_ble_eq_true rfl, Nat.le_of_ble_eq_true rfl⟩) (Nat.le_of_ble_eq_true rfl) dX5_found_15 ⟨rfl, rfl⟩ ⟨Nat.zero_le _, Nat.zero_le _⟩ ?_
    refine r_topc (y := 0) (by decide) ?_
    refine r_if_neF (tgt := 23) C dX5_found_18 (by decide) (by decide) ?_
    refine r_iconst (v := 0) C dX5_found_21 rfl ?_
    exact r_iret C hret hlk9 dX5_found_22 ⟨by rw [if_pos z7], by rw [if_pos z7]⟩
  · obtain ⟨T, hT⟩ : ∃ T : Nat, T = x.toInt.toNat := ⟨_, rfl⟩
    have hT1 : x = nI T := by rw [hT]; exact nm_toN (by have := (nm_inT z7).1; have e : (0 : Int32).toInt = 0 := rfl; omega)
    have hT2 : T ≤ 5 := by have := (nm_inT z7).2; have e : (5 : Int32).toInt = 5 := rfl; omega
    refine r_iconst (v := 0) C dX5_found_10 rfl ?_
    refine r_goto (tgt := 15) C dX5_found_11 (by decide) ?_
    refine r_callV1I C 5 (by decide) rfl (mm_ct5 ad q _) (kX5_goes hAD) (cwV 1 C.1.2.2.2.2 gX5_found_X5_goes rfl rfl rfl (by decide +kernel) ⟨Nat.le_of_ble_eq_true rfl, Nat.le_of_ble_eq_true rfl⟩) (Nat.le_of_ble_eq_true rfl) dX5_found_15 ⟨rfl, rfl⟩ ⟨Nat.zero_le _, Nat.zero_le _⟩ ?_
    refine r_topc (y := 1) (by decide) ?_
    refine r_if_neT (tgt := 23) C dX5_found_18 (by decide) (by decide) ?_
    refine r_iconst (v := 0) C dX5_found_23 rfl ?_
    refine r_istore_n (lv' := [(2, .int 0), (0, .ref (ad 50)), (1, .int x)]) C dX5_found_24 rfl (by decide) rfl ?_
    have L25 : ∀ (k9 : Nat) (n : Nat) (hn : n ≤ 512), 512 - n < k9 → mm_G pp l ee rmX5_found ss mm ([.ref (ad 50), .int x] : List Value).toArray bl mth cd 0 0 (MQ bl (mm_Q D ad q A (fun v' u => v' = some (.int (if nm_in x 0 5 = 0 then 0 else (mr_fd N x.toInt.toNat (mr_fd0 M)).1)) ∧ u = if nm_in x 0 5 = 0 then mm_sI M 50 20 1 else (mr_fd N x.toInt.toNat (mr_fd0 M)).2)) ([.ref (ad 50), .int x] : List Value).toArray ss 0 0 A) 4 D ad q A (mm_rowI (mm_sI M 50 20 0) 62 n (fun c => M.1 61 c)) 25 [(2, .int (nI n)), (0, .ref (ad 50)), (1, .int x)] [] := by
      intro k9
      induction k9 with
      | zero => intro n hn h9; exact absurd h9 (Nat.not_lt_zero _)
      | succ k9 ih25 =>
        intro n hn h9
        refine r_iload_n C dX5_found_25 rfl 0 rfl ?_
        refine r_sipush (v := (512)) C dX5_found_26 rfl ?_
        refine r_icmp_ge (tgt := 50) C dX5_found_29 (by decide) (fun z29 => ?_) (fun z29 => ?_)
        · obtain rfl : n = 512 := nm_ge hn (by decide) z29
          refine r_iconst (v := 0) C dX5_found_50 rfl ?_
          refine r_istore_n (lv' := [(2, .int 0), (0, .ref (ad 50)), (1, .int x)]) C dX5_found_51 rfl (by decide) rfl ?_
          have L52 : ∀ (k9 : Nat) (n : Nat) (M1 : mm_M) (hn : n ≤ T) (hM1 : mr_like M1 (mm_sI M 50 20 0)) (hfd : mr_fd N T (mr_fd0 M) = mr_fd N (T - n) M1), T - n < k9 → mm_G pp l ee rmX5_found ss mm ([.ref (ad 50), .int x] : List Value).toArray bl mth cd 0 0 (MQ bl (mm_Q D ad q A (fun v' u => v' = some (.int (if nm_in x 0 5 = 0 then 0 else (mr_fd N x.toInt.toNat (mr_fd0 M)).1)) ∧ u = if nm_in x 0 5 = 0 then mm_sI M 50 20 1 else (mr_fd N x.toInt.toNat (mr_fd0 M)).2)) ([.ref (ad 50), .int x] : List Value).toArray ss 0 0 A) 4 D ad q A (M1) 52 [(2, .int (nI n)), (0, .ref (ad 50)), (1, .int x)] [] := by
            intro k9
            induction k9 with
            | zero => intro n M1 hn hM1 hfd h9; exact absurd h9 (Nat.not_lt_zero _)
            | succ k9 ih52 =>
              intro n M1 hn hM1 hfd h9
              refine r_iload_n C dX5_found_52 rfl 0 rfl ?_
              refine r_iload_n C dX5_found_53 rfl 2 rfl ?_
              refine r_icmp_gtF (tgt := 106) C dX5_found_54 (by decide) (by rw [hT1]; exact nI_nlt hn (by omega)) ?_
              refine r_aload_n C dX5_found_57 rfl 1 rfl ?_
              refine r_aload_n C dX5_found_58 rfl 1 rfl ?_
              refine r_get5 C inX5 17 (by decide) rfl f44 rfl dX5_found_59 ?_
              refine r_callV1V C 5 (by decide) rfl (mm_ct5 ad q _) (kX5_findsPowers hAD (by exact mm_aI_62) (by rw [hM1 50 1 (by decide) (by decide)]; exact hN) (by exact hN8) (by intro k9 hk9; rw [hM1 56 k9 (by decide) (by decide)]; exact hg k9 hk9)) (cwV 1 C.1.2.2.2.2 gX5_found_X5_findsPowers rfl rfl rfl (by decide +kernel) ⟨Nat.le_of_ble_eq_true rfl, Nat.le_of_ble_eq_true rfl⟩) (Nat.le_of_ble_eq_true rfl) dX5_found_62 ⟨rfl, rfl⟩ ⟨Nat.zero_le _, Nat.zero_le _⟩ ?_
              refine r_aload_n C dX5_found_65 rfl 1 rfl ?_
              refine r_callV0I C 5 (by decide) rfl (mm_ct5 ad q _) (kX5_greatest hAD) (cwV 0 C.1.2.2.2.2 gX5_found_X5_greatest rfl rfl rfl (by decide +kernel) ⟨Nat.le_of_ble_eq_true rfl, Nat.le_of_ble_eq_true rfl⟩) (Nat.le_of_ble_eq_true rfl) dX5_found_66 ⟨rfl, rfl⟩ ⟨Nat.zero_le _, Nat.zero_le _⟩ ?_
              refine r_topi (fun v3_69 ev3_69 => ?_)
              refine r_istore_n (lv' := [(3, .int v3_69), (2, .int (nI n)), (0, .ref (ad 50)), (1, .int x)]) C dX5_found_69 rfl (by decide) rfl ?_
              refine r_aload_n C dX5_found_70 rfl 2 rfl ?_
              refine r_get5 C inX5 19 (by decide) rfl f50 rfl dX5_found_71 ?_
              refine r_iload_n C dX5_found_74 rfl 0 rfl ?_
              refine r_lald C mm_aJ_64 (mr_fdg M1 N) (by rw [ev3_69]; exact nI_toInt (by have := mr_gr_le ((mr_fp M1 N 62).2 64) 8; omega)) (by have := mr_gr_le ((mr_fp M1 N 62).2 64) 8; unfold mr_fdg; omega) dX5_found_75 ?_
              refine r_lconst (v := 0) C dX5_found_76 rfl ?_
              refine r_lcmp C dX5_found_77 ?_
              refine r_if_ne (tgt := 84) C dX5_found_78 (by decide) (fun z78 => ?_) (fun z78 => ?_)
              · refine r_iload_n C dX5_found_84 rfl 1 rfl ?_
                refine r_iload_n C dX5_found_85 rfl 3 rfl ?_
                refine r_icmp_ne (tgt := 93) C dX5_found_86 (by decide) (fun z86 => ?_) (fun z86 => ?_)
                · have hnT : n < T := by rcases Nat.lt_or_ge n T with h8 | h8; exact h8; exact absurd (by rw [hT1, Nat.le_antisymm hn h8]) z86
                  refine r_aload_n C dX5_found_93 rfl 2 rfl ?_
                  refine r_iload_n C dX5_found_94 rfl 0 rfl ?_
                  refine r_iconst (v := 4) C dX5_found_95 rfl ?_
                  refine r_isub C dX5_found_96 ?_
                  refine r_callV1V C 5 (by decide) rfl (mm_ct5 ad q _) (kX5_takes hAD (by rw [mr_fp_1, hM1 50 1 (by decide) (by decide)]; exact hN) (by exact hN8) (by intro k9 hk9; rw [mr_fp_1, hM1 56 k9 (by decide) (by decide)]; exact hg k9 hk9) (by rw [mr_fp_1]; exact mr_fd_all (N := N) (mr_eq_tr (mr_like_eq hM1) mr_eq_t) hall z78)) (cwV 1 C.1.2.2.2.2 gX5_found_X5_takes rfl rfl rfl (by decide +kernel) ⟨Nat.le_of_ble_eq_true rfl, Nat.le_of_ble_eq_true rfl⟩) (Nat.le_of_ble_eq_true rfl) dX5_found_97 ⟨rfl, rfl⟩ ⟨Nat.zero_le _, Nat.zero_le _⟩ ?_
                  obtain ⟨v2_100, ev2_100⟩ : ∃ y9 : Int32, y9 = (nI n) + 1 := ⟨_, rfl⟩
                  refine r_iinc (v := v2_100) (lv' := [(2, .int v2_100), (3, .int v3_69), (0, .ref (ad 50)), (1, .int x)]) C dX5_found_100 1 rfl (by rw [ev2_100]; rfl) (by decide) rfl ?_
                  refine r_goto (tgt := 52) C dX5_found_103 (by decide) ?_
                  refine r_sub (lv' := [(2, .int v2_100), (0, .ref (ad 50)), (1, .int x)]) [0, 2, 3] rfl ?_
                  refine r_cast (M' := (mr_takes (mr_fp M1 N 62) N (nI (mr_fdg M1 N) - 4))) (lv' := [(2, .int (nI (n + 1))), (0, .ref (ad 50)), (1, .int x)]) (st' := []) (by rw [ev3_69]; rfl) (by rw [ev2_100, nI_1]; first | done | rfl) rfl (ih52 (n + 1) (mr_takes (mr_fp M1 N 62) N (nI (mr_fdg M1 N) - 4)) (by omega) (fun k j h1 h2 => by rw [mr_takes_o h1 h2]; exact hM1 k j h1 h2) (by rw [hfd, show T - n = (T - (n + 1)) + 1 from by omega, mr_fd, if_neg z78]) (by omega))
                · have hnT : n = T := by rw [hT1] at z86; exact (nI_eq (by omega) (by omega)).mp z86
                  refine r_iload_n C dX5_found_89 rfl 0 rfl ?_
                  refine r_iconst (v := 4) C dX5_found_90 rfl ?_
                  refine r_isub C dX5_found_91 ?_
                  exact r_iret C hret hlk9 dX5_found_92 ⟨by rw [if_neg z7, ← hT, hfd, hnT, Nat.sub_self, mr_fd, if_neg z78, ev3_69]; rfl, by rw [if_neg z7, ← hT, hfd, hnT, Nat.sub_self, mr_fd, if_neg z78]⟩
              · refine r_bipush (v := (-99)) C dX5_found_81 rfl ?_
                exact r_iret C hret hlk9 dX5_found_83 ⟨by rw [if_neg z7, ← hT, hfd]; cases h7 : T - n <;> rw [mr_fd, if_pos z78], by rw [if_neg z7, ← hT, hfd]; cases h7 : T - n <;> rw [mr_fd, if_pos z78]⟩
          refine r_cast (M' := (mr_fd0 M)) (lv' := [(2, .int (nI 0)), (0, .ref (ad 50)), (1, .int x)]) (st' := []) rfl rfl rfl (L52 (T - 0 + 1) 0 (mr_fd0 M) (Nat.zero_le _) (fun k j h1 h2 => mm_rowI_o h1) (rfl) (by omega))
        · have hlt : n < 512 := nm_lt (by omega) (by decide) z29
          refine r_aload_n C dX5_found_32 rfl 1 rfl ?_
          refine r_get5 C inX5 17 (by decide) rfl f44 rfl dX5_found_33 ?_
          refine r_iload_n C dX5_found_36 rfl 0 rfl ?_
          refine r_aload_n C dX5_found_37 rfl 1 rfl ?_
          refine r_get5 C inX5 16 (by decide) rfl f41 rfl dX5_found_38 ?_
          refine r_iload_n C dX5_found_41 rfl 0 rfl ?_
          refine r_iald C mm_aI_61 (n) (nI_toInt (by omega)) (hlt) dX5_found_42 ?_
          refine r_iast C mm_aI_62 (n) (nI_toInt (by omega)) (hlt) dX5_found_43 ?_
          obtain ⟨v2_44, ev2_44⟩ : ∃ y9 : Int32, y9 = (nI n) + 1 := ⟨_, rfl⟩
          refine r_iinc (v := v2_44) (lv' := [(2, .int v2_44), (0, .ref (ad 50)), (1, .int x)]) C dX5_found_44 0 rfl (by rw [ev2_44]; rfl) (by decide) rfl ?_
          refine r_goto (tgt := 25) C dX5_found_47 (by decide) ?_
          refine r_cast (M' := mm_rowI (mm_sI M 50 20 0) 62 (n + 1) (fun c => M.1 61 c)) (lv' := [(2, .int (nI (n + 1))), (0, .ref (ad 50)), (1, .int x)]) (st' := []) (by rw [mm_rowI_o (by decide)]; exact mm_rowI_s) (by rw [ev2_44, nI_1]; first | done | rfl) rfl (ih25 (n + 1) (by omega) (by omega))
    refine r_cast (M' := mm_rowI (mm_sI M 50 20 0) 62 0 (fun c => M.1 61 c)) (lv' := [(2, .int (nI 0)), (0, .ref (ad 50)), (1, .int x)]) (st' := []) mm_rowI_0 rfl rfl (L25 (512 - 0 + 1) 0 (by omega) (by omega))
