def mr_wvN (F : mm_F) (e : Nat) : Nat → Int32
  | 0 => 0
  | n + 1 => mr_wvN F e n + mr_wave F n (F 50 0 - mr_delay F e (F 58 n) - F 53 e)
def mr_dr (F : mm_F) : Int32 := 75 * F 50 14 + 74 - (75 * F 50 14 + 74) / 65537 * 65537
def mr_samp (F : mm_F) (e S : Nat) : Int32 := (nm_fdJ ((mr_wvN F e S).toInt64 * (F 52 e).toInt64) 64).toInt32 + (mr_dr F - mr_dr F / (2 * F 50 13 + 1) * (2 * F 50 13 + 1) - F 50 13)
def mr_hears (M : mm_M) (e S : Nat) : mm_M := mm_sI (mm_sI M 50 14 (mr_dr M.1)) 61 (64 * e + (M.1 50 0).toInt.toNat % 64) (if M.1 55 e = 0 then 0 else mr_samp M.1 e S)
theorem mr_hears_o {M : mm_M} {e S k j : Nat} (h1 : k ≠ 61) (h2 : k ≠ 50 ∨ j ≠ 14) : (mr_hears M e S).1 k j = M.1 k j := by
  rw [mr_hears, mm_sI_k h1, mm_sI_1, if_neg (by omega)]
abbrev rmX5_hears : Room := { frames := 2, cells := 0, slots := 0, locals := 47 }
set_option maxHeartbeats 400000 in
set_option maxRecDepth 100000 in
theorem kX5_hears {l : Launch} {D : va_G} {ad : Nat → Nat} {q : Nat → ClassId} {A : Nat → Prop} (hAD : mm_AD ad A) {S : Nat} {M : mm_M} (hS : M.1 50 9 = nI S) (hS4 : S ≤ 4) (hp : ∀ k : Nat, k < S → ¬ M.1 60 k = 0) (hlo : ¬ 2 * M.1 50 13 + 1 = 0) (hnx : ¬ M.1 50 0 < 0) {x : Int32} (e : Nat) (hx : x.toInt = (e : Int)) (he : e < 8) : mm_Kd l D ad q A yX5_hears wsX5_hears rmX5_hears [.ref (ad 50), .int x] M none (mr_hears M e S) := by
  have inX5 : ∀ w ∈ wsX50, w ∈ wsX5_hears := by decide +kernel
  have f13 : Cond.fieldLink RX5 13 "BeamrowModel" "gains" "[I" ∈ wsX5_hears := by decide +kernel
  have f16 : Cond.fieldLink RX5 16 "BeamrowModel" "lags" "[I" ∈ wsX5_hears := by decide +kernel
  have f22 : Cond.fieldLink RX5 22 "BeamrowModel" "isAlive" "[Z" ∈ wsX5_hears := by decide +kernel
  have f32 : Cond.fieldLink RX5 32 "BeamrowModel" "bearings" "[I" ∈ wsX5_hears := by decide +kernel
  have f41 : Cond.fieldLink RX5 41 "BeamrowModel" "samples" "[I" ∈ wsX5_hears := by decide +kernel
  have f54 : Cond.fieldLink RX5 54 "BeamrowModel" "number" "I" ∈ wsX5_hears := by decide +kernel
  have f78 : Cond.fieldLink RX5 78 "BeamrowModel" "next" "I" ∈ wsX5_hears := by decide +kernel
  have f87 : Cond.fieldLink RX5 87 "BeamrowModel" "sources" "I" ∈ wsX5_hears := by decide +kernel
  have f91 : Cond.fieldLink RX5 91 "BeamrowModel" "loudness" "I" ∈ wsX5_hears := by decide +kernel
  have n101 : Cond.constant RX5 101 (65537) ∈ wsX5_hears := by decide +kernel
  have n102 : Cond.constantLong RX5 102 (64) ∈ wsX5_hears := by decide +kernel
  refine mm_of (cc := cX5_hears) (maxL := 5) (ret := none) (own := RX5) rfl hAD (plainFor_of_name (by decide)) rfl (Nat.le_of_ble_eq_true rfl) ⟨rfl, rfl⟩ ?_
  intro pp ee ss mm bl mth cd C hret hlk9
  show mm_G _ _ _ _ _ _ _ _ _ _ _ _ _ _ _ _ _ _ M 0 [(0, .ref (ad 50)), (1, .int x)] []
  refine r_iconst (v := 0) C dX5_hears_0 rfl ?_
  refine r_istore_n (lv' := [(2, .int 0), (0, .ref (ad 50)), (1, .int x)]) C dX5_hears_1 rfl (by decide) rfl ?_
  refine r_iconst (v := 0) C dX5_hears_2 rfl ?_
  refine r_istore_n (lv' := [(3, .int 0), (2, .int 0), (0, .ref (ad 50)), (1, .int x)]) C dX5_hears_3 rfl (by decide) rfl ?_
  have L4 : ∀ (k9 : Nat) (n : Nat) (hn : n ≤ S), S - n < k9 → mm_G pp l ee rmX5_hears ss mm ([.ref (ad 50), .int x] : List Value).toArray bl mth cd 0 0 (MQ bl (mm_Q D ad q A (fun v' u => v' = none ∧ u = mr_hears M e S)) ([.ref (ad 50), .int x] : List Value).toArray ss 0 0 A) 5 D ad q A (M) 4 [(3, .int (nI n)), (2, .int (mr_wvN M.1 e n)), (0, .ref (ad 50)), (1, .int x)] [] := by
    intro k9
    induction k9 with
    | zero => intro n hn h9; exact absurd h9 (Nat.not_lt_zero _)
    | succ k9 ih4 =>
      intro n hn h9
      refine r_iload_n C dX5_hears_4 rfl 0 rfl ?_
      refine r_aload_n C dX5_hears_5 rfl 2 rfl ?_
      refine r_get5 C inX5 9 (by decide) rfl f87 rfl dX5_hears_6 ?_
      refine r_icmp_ge (tgt := 49) C dX5_hears_9 (by decide) (fun z9 => ?_) (fun z9 => ?_)
      · rw [hS] at z9
        obtain rfl : S = n := (nm_ge hn (by omega) z9).symm
        refine r_aload_n C dX5_hears_49 rfl 2 rfl ?_
        refine r_bipush (v := (75)) C dX5_hears_50 rfl ?_
        refine r_aload_n C dX5_hears_52 rfl 2 rfl ?_
        refine r_get5 C inX5 14 (by decide) rfl f54 rfl dX5_hears_53 ?_
        refine r_imul C dX5_hears_56 ?_
        refine r_bipush (v := (74)) C dX5_hears_57 rfl ?_
        refine r_iadd C dX5_hears_59 ?_
        refine r_ldc C n101 dX5_hears_60 ?_
        refine r_irem C dX5_hears_62 (by decide) ?_
        refine r_put5 C inX5 (ty := .int) 14 (by decide) mm_set5_14 f54 rfl rfl (by decide +kernel) rfl rfl dX5_hears_63 ?_
        refine r_aload_n C dX5_hears_66 rfl 2 rfl ?_
        refine r_get5 C inX5 14 (by decide) rfl f54 rfl dX5_hears_67 ?_
        refine r_iconst (v := 2) C dX5_hears_70 rfl ?_
        refine r_aload_n C dX5_hears_71 rfl 2 rfl ?_
        refine r_get5 C inX5 13 (by decide) rfl f91 rfl dX5_hears_72 ?_
        refine r_imul C dX5_hears_75 ?_
        refine r_iconst (v := 1) C dX5_hears_76 rfl ?_
        refine r_iadd C dX5_hears_77 ?_
        refine r_irem C dX5_hears_78 (hlo) ?_
        refine r_aload_n C dX5_hears_79 rfl 2 rfl ?_
        refine r_get5 C inX5 13 (by decide) rfl f91 rfl dX5_hears_80 ?_
        refine r_isub C dX5_hears_83 ?_
        refine r_topi (fun v3_84 ev3_84 => ?_)
        refine r_istore_n (lv' := [(3, .int v3_84), (2, .int (mr_wvN M.1 e S)), (0, .ref (ad 50)), (1, .int x)]) C dX5_hears_84 rfl (by decide) rfl ?_
        refine r_iload_n C dX5_hears_85 rfl 1 rfl ?_
        refine r_i2l C dX5_hears_86 ?_
        refine r_aload_n C dX5_hears_87 rfl 2 rfl ?_
        refine r_get5 C inX5 3 (by decide) rfl f13 rfl dX5_hears_88 ?_
        refine r_iload_n C dX5_hears_91 rfl 3 rfl ?_
        refine r_iald C mm_aI_52 (e) (hx) (he) dX5_hears_92 ?_
        refine r_i2l C dX5_hears_93 ?_
        refine r_lmul C dX5_hears_94 ?_
        refine r_ldc2 C n102 dX5_hears_95 ?_
        refine r_callS2J C (kX5_down hAD (by decide)) (va_cwS 2 C.1.2.2.2.2 gX5_hears_X5_down rfl rfl rfl (by decide +kernel) ⟨Nat.le_of_ble_eq_true rfl, Nat.le_of_ble_eq_true rfl⟩) (Nat.le_of_ble_eq_true rfl) dX5_hears_98 ⟨rfl, rfl⟩ ⟨Nat.zero_le _, Nat.zero_le _⟩ ?_
        refine r_l2i C dX5_hears_101 ?_
        refine r_iload_n C dX5_hears_102 rfl 0 rfl ?_
        refine r_iadd C dX5_hears_103 ?_
        refine r_topi (fun v4_104 ev4_104 => ?_)
        refine r_istore (lv' := [(4, .int v4_104), (3, .int v3_84), (2, .int (mr_wvN M.1 e S)), (0, .ref (ad 50)), (1, .int x)]) C dX5_hears_104 (by decide) rfl ?_
        refine r_aload_n C dX5_hears_106 rfl 3 rfl ?_
        refine r_get5 C inX5 16 (by decide) rfl f41 rfl dX5_hears_107 ?_
        refine r_bipush (v := (64)) C dX5_hears_110 rfl ?_
        refine r_iload_n C dX5_hears_112 rfl 4 rfl ?_
        refine r_imul C dX5_hears_113 ?_
        refine r_aload_n C dX5_hears_114 rfl 3 rfl ?_
        refine r_get5 C inX5 0 (by decide) rfl f78 rfl dX5_hears_115 ?_
        refine r_bipush (v := (64)) C dX5_hears_118 rfl ?_
        refine r_irem C dX5_hears_120 (by decide) ?_
        refine r_iadd C dX5_hears_121 ?_
        refine r_aload_n C dX5_hears_122 rfl 3 rfl ?_
        refine r_get5 C inX5 6 (by decide) rfl f22 rfl dX5_hears_123 ?_
        refine r_iload_n C dX5_hears_126 rfl 4 rfl ?_
        refine r_zald C (e) (hx) (he) dX5_hears_127 ?_
        refine r_if_eq (tgt := 136) C dX5_hears_128 (by decide) (fun z128 => ?_) (fun z128 => ?_)
        · refine r_iconst (v := 0) C dX5_hears_136 rfl ?_
          refine r_iast C mm_aI_61 (64 * e + (M.1 50 0).toInt.toNat % 64) (nm_kx hx he hnx) (by omega) dX5_hears_137 ?_
          exact r_vret C hret hlk9 dX5_hears_138 ⟨by first | rfl | (subst_vars; rfl) | (subst_vars; simp [*]), by rw [mr_hears]; first | (rw [if_pos (show M.1 55 e = 0 from z128)]; rfl) | (rw [if_neg (show ¬ M.1 55 e = 0 from z128), ev4_104, ev3_84]; rfl)⟩
        · refine r_iload C dX5_hears_131 0 rfl ?_
          refine r_goto (tgt := 137) C dX5_hears_133 (by decide) ?_
          refine r_iast C mm_aI_61 (64 * e + (M.1 50 0).toInt.toNat % 64) (nm_kx hx he hnx) (by omega) dX5_hears_137 ?_
          exact r_vret C hret hlk9 dX5_hears_138 ⟨by first | rfl | (subst_vars; rfl) | (subst_vars; simp [*]), by rw [mr_hears]; first | (rw [if_pos (show M.1 55 e = 0 from z128)]; rfl) | (rw [if_neg (show ¬ M.1 55 e = 0 from z128), ev4_104, ev3_84]; rfl)⟩
      · rw [hS] at z9
        have hlt : n < S := nm_lt (by omega) (by omega) z9
        refine r_iload_n C dX5_hears_12 rfl 1 rfl ?_
        refine r_aload_n C dX5_hears_13 rfl 2 rfl ?_
        refine r_iload_n C dX5_hears_14 rfl 0 rfl ?_
        refine r_aload_n C dX5_hears_15 rfl 2 rfl ?_
        refine r_get5 C inX5 0 (by decide) rfl f78 rfl dX5_hears_16 ?_
        refine r_aload_n C dX5_hears_19 rfl 2 rfl ?_
        refine r_iload_n C dX5_hears_20 rfl 3 rfl ?_
        refine r_aload_n C dX5_hears_21 rfl 2 rfl ?_
        refine r_get5 C inX5 10 (by decide) rfl f32 rfl dX5_hears_22 ?_
        refine r_iload_n C dX5_hears_25 rfl 0 rfl ?_
        refine r_iald C mm_aI_58 (n) (nI_toInt (by omega)) (by omega) dX5_hears_26 ?_
        refine r_callV2I C 5 (by decide) rfl (mm_ct5 ad q _) (kX5_delay hAD (e) (by exact hx) (by exact he)) (cwV 2 C.1.2.2.2.2 gX5_hears_X5_delay rfl rfl rfl (by decide +kernel) ⟨Nat.le_of_ble_eq_true rfl, Nat.le_of_ble_eq_true rfl⟩) (Nat.le_of_ble_eq_true rfl) dX5_hears_27 ⟨rfl, rfl⟩ ⟨Nat.zero_le _, Nat.zero_le _⟩ ?_
        refine r_isub C dX5_hears_30 ?_
        refine r_aload_n C dX5_hears_31 rfl 2 rfl ?_
        refine r_get5 C inX5 4 (by decide) rfl f16 rfl dX5_hears_32 ?_
        refine r_iload_n C dX5_hears_35 rfl 3 rfl ?_
        refine r_iald C mm_aI_53 (e) (hx) (he) dX5_hears_36 ?_
        refine r_isub C dX5_hears_37 ?_
        refine r_callV2I C 5 (by decide) rfl (mm_ct5 ad q _) (kX5_wave hAD (n) (nI_toInt (by omega)) (by omega) (by exact hp n hlt)) (cwV 2 C.1.2.2.2.2 gX5_hears_X5_wave rfl rfl rfl (by decide +kernel) ⟨Nat.le_of_ble_eq_true rfl, Nat.le_of_ble_eq_true rfl⟩) (Nat.le_of_ble_eq_true rfl) dX5_hears_38 ⟨rfl, rfl⟩ ⟨Nat.zero_le _, Nat.zero_le _⟩ ?_
        refine r_iadd C dX5_hears_41 ?_
        refine r_topi (fun v2_42 ev2_42 => ?_)
        refine r_istore_n (lv' := [(2, .int v2_42), (3, .int (nI n)), (0, .ref (ad 50)), (1, .int x)]) C dX5_hears_42 rfl (by decide) rfl ?_
        obtain ⟨v3_43, ev3_43⟩ : ∃ y9 : Int32, y9 = (nI n) + 1 := ⟨_, rfl⟩
        refine r_iinc (v := v3_43) (lv' := [(3, .int v3_43), (2, .int v2_42), (0, .ref (ad 50)), (1, .int x)]) C dX5_hears_43 1 rfl (by rw [ev3_43]; rfl) (by decide) rfl ?_
        refine r_goto (tgt := 4) C dX5_hears_46 (by decide) ?_
        refine r_cast (M' := M) (lv' := [(3, .int (nI (n + 1))), (2, .int (mr_wvN M.1 e (n + 1))), (0, .ref (ad 50)), (1, .int x)]) (st' := []) rfl (by rw [ev3_43, nI_1, ev2_42]; rfl) rfl (ih4 (n + 1) (by omega) (by omega))
  refine r_cast (M' := M) (lv' := [(3, .int (nI 0)), (2, .int (mr_wvN M.1 e 0)), (0, .ref (ad 50)), (1, .int x)]) (st' := []) rfl rfl rfl (L4 (S - 0 + 1) 0 (Nat.zero_le _) (by omega))

def mr_heE (M : mm_M) (S : Nat) : Nat → mm_M
  | 0 => M
  | n + 1 => mr_hears (mr_heE M S n) n S
def mr_tick (M : mm_M) (N S : Nat) : mm_M := mm_sI (mr_heE M S N) 50 0 ((mr_heE M S N).1 50 0 + 1)
def mr_hrN (M : mm_M) (N S : Nat) : Nat → mm_M
  | 0 => M
  | n + 1 => mr_tick (mr_hrN M N S n) N S
theorem mr_heE_o {M : mm_M} {S k j : Nat} (h1 : k ≠ 61) (h2 : k ≠ 50 ∨ j ≠ 14) : ∀ n, (mr_heE M S n).1 k j = M.1 k j
  | 0 => rfl
  | n + 1 => by rw [mr_heE, mr_hears_o h1 h2, mr_heE_o h1 h2 n]
theorem mr_hrN_o {M : mm_M} {N S k j : Nat} (h1 : k ≠ 61) (h2 : k ≠ 50 ∨ (j ≠ 14 ∧ j ≠ 0)) : ∀ n, (mr_hrN M N S n).1 k j = M.1 k j
  | 0 => rfl
  | n + 1 => by rw [mr_hrN, mr_tick, mm_sI_1, if_neg (by omega), mr_heE_o h1 (by omega), mr_hrN_o h1 h2 n]
theorem mr_hrN_n {M : mm_M} {N S : Nat} : ∀ n, (mr_hrN M N S n).1 50 0 = M.1 50 0 + nI n
  | 0 => by rw [mr_hrN, nI_0]; simp
  | n + 1 => by rw [mr_hrN, mr_tick, mm_sI_s, mr_heE_o (by decide) (by decide), mr_hrN_n n, nI_succ, Int32.add_assoc]
theorem nm_addT {x : Int32} {n : Nat} (h : 0 ≤ x.toInt ∧ x.toInt < 1000000) (hn : n ≤ 1000) : (x + nI n).toInt = x.toInt + n := by
  rw [Int32.toInt_add, nI_toInt (by omega)]
  exact nm_bmI (by omega) (by omega)
theorem nm_inT {x a b : Int32} (h : ¬ nm_in x a b = 0) : a.toInt ≤ x.toInt ∧ x.toInt ≤ b.toInt := by
  unfold nm_in at h
  by_cases h1 : x < a
  · rw [if_pos h1] at h; exact absurd rfl h
  · rw [if_neg h1] at h
    by_cases h2 : b < x
    · rw [if_pos h2] at h; exact absurd rfl h
    · rw [Int32.lt_iff_toInt_lt] at h1 h2; omega
theorem nm_toN {x : Int32} (h : 0 ≤ x.toInt) : x = nI x.toInt.toNat := Int32.toInt_inj.mp (by have := x.toInt_lt; rw [nI_toInt (by omega)]; omega)
abbrev rmX5_hear : Room := { frames := 3, cells := 0, slots := 0, locals := 71 }
set_option maxHeartbeats 400000 in
set_option maxRecDepth 100000 in
theorem kX5_hear {l : Launch} {D : va_G} {ad : Nat → Nat} {q : Nat → ClassId} {A : Nat → Prop} (hAD : mm_AD ad A) {N S : Nat} {M : mm_M} (hN : M.1 50 1 = nI N) (hN8 : N ≤ 8) (hS : M.1 50 9 = nI S) (hS4 : S ≤ 4) (hp : ∀ k : Nat, k < S → ¬ M.1 60 k = 0) (hlo : ¬ 2 * M.1 50 13 + 1 = 0) (hnx : 0 ≤ (M.1 50 0).toInt ∧ (M.1 50 0).toInt < 1000000) {x : Int32} : mm_Kd l D ad q A yX5_hear wsX5_hear rmX5_hear [.ref (ad 50), .int x] M (some (.int (if nm_in x 1 100 = 0 then 0 else (mr_hrN (mm_sI M 50 20 0) N S x.toInt.toNat).1 50 0))) (if nm_in x 1 100 = 0 then mm_sI M 50 20 1 else mr_hrN (mm_sI M 50 20 0) N S x.toInt.toNat) := by
  have inX5 : ∀ w ∈ wsX50, w ∈ wsX5_hear := by decide +kernel
  have f61 : Cond.fieldLink RX5 61 "BeamrowModel" "elements" "I" ∈ wsX5_hear := by decide +kernel
  have f78 : Cond.fieldLink RX5 78 "BeamrowModel" "next" "I" ∈ wsX5_hear := by decide +kernel
  refine mm_of (cc := cX5_hear) (maxL := 4) (ret := some .int) (own := RX5) rfl hAD (plainFor_of_name (by decide)) rfl (Nat.le_of_ble_eq_true rfl) ⟨rfl, rfl⟩ ?_
  intro pp ee ss mm bl mth cd C hret hlk9
  show mm_G _ _ _ _ _ _ _ _ _ _ _ _ _ _ _ _ _ _ M 0 [(0, .ref (ad 50)), (1, .int x)] []
  refine r_aload_n C dX5_hear_0 rfl 0 rfl ?_
  refine r_iload_n C dX5_hear_1 rfl 1 rfl ?_
  refine r_iconst (v := 1) C dX5_hear_2 rfl ?_
  refine r_bipush (v := (100)) C dX5_hear_3 rfl ?_
  refine r_callS3I C (kX5_isIn hAD) (va_cwS 3 C.1.2.2.2.2 gX5_hear_X5_isIn rfl rfl rfl (by decide +kernel) ⟨Nat.le_of_ble_eq_true rfl, Nat.le_of_ble_eq_true rfl⟩) (Nat.le_of_ble_eq_true rfl) dX5_hear_5 ⟨rfl, rfl⟩ ⟨Nat.zero_le _, Nat.zero_le _⟩ ?_
  refine r_if_eq (tgt := 15) C dX5_hear_8 (by decide) (fun z8 => ?_) (fun z8 => ?_)
  · refine r_iconst (v := 1) C dX5_hear_15 rfl ?_
    refine r_callV1I C 5 (by decide) rfl (mm_ct5 ad q _) (kX5_goes hAD) (cwV 1 C.1.2.2.2.2 gX5_hear_X5_goes rfl rfl rfl (by decide +kernel) ⟨Nat.le_of_ble_eq_true rfl, Nat.le_of_ble_eq_true rfl⟩) (Nat.le_of_ble_eq_true rfl) dX5_hear_16 ⟨rfl, rfl⟩ ⟨Nat.zero_le _, Nat.zero_le _⟩ ?_
    refine r_topc (y := 0) (by decide) ?_
    refine r_if_neF (tgt := 24) C dX5_hear_19 (by decide) (by decide) ?_
    refine r_iconst (v := 0) C dX5_hear_22 rfl ?_
    exact r_iret C hret hlk9 dX5_hear_23 ⟨by rw [if_pos z8], by rw [if_pos z8]⟩
  · obtain ⟨T, hT⟩ : ∃ T : Nat, T = x.toInt.toNat := ⟨_, rfl⟩
    have hT1 : x = nI T := by rw [hT]; exact nm_toN (by have := (nm_inT z8).1; have e : (1 : Int32).toInt = 1 := rfl; omega)
    have hT2 : T ≤ 100 := by have := (nm_inT z8).2; have e : (100 : Int32).toInt = 100 := rfl; omega
    refine r_iconst (v := 0) C dX5_hear_11 rfl ?_
    refine r_goto (tgt := 16) C dX5_hear_12 (by decide) ?_
    refine r_callV1I C 5 (by decide) rfl (mm_ct5 ad q _) (kX5_goes hAD) (cwV 1 C.1.2.2.2.2 gX5_hear_X5_goes rfl rfl rfl (by decide +kernel) ⟨Nat.le_of_ble_eq_true rfl, Nat.le_of_ble_eq_true rfl⟩) (Nat.le_of_ble_eq_true rfl) dX5_hear_16 ⟨rfl, rfl⟩ ⟨Nat.zero_le _, Nat.zero_le _⟩ ?_
    refine r_topc (y := 1) (by decide) ?_
    refine r_if_neT (tgt := 24) C dX5_hear_19 (by decide) (by decide) ?_
    refine r_iconst (v := 0) C dX5_hear_24 rfl ?_
    refine r_istore_n (lv' := [(2, .int 0), (0, .ref (ad 50)), (1, .int x)]) C dX5_hear_25 rfl (by decide) rfl ?_
    have L26 : ∀ (k9 : Nat) (n : Nat) (hn : n ≤ T), T - n < k9 → mm_G pp l ee rmX5_hear ss mm ([.ref (ad 50), .int x] : List Value).toArray bl mth cd 0 0 (MQ bl (mm_Q D ad q A (fun v' u => v' = some (.int (if nm_in x 1 100 = 0 then 0 else (mr_hrN (mm_sI M 50 20 0) N S x.toInt.toNat).1 50 0)) ∧ u = if nm_in x 1 100 = 0 then mm_sI M 50 20 1 else mr_hrN (mm_sI M 50 20 0) N S x.toInt.toNat)) ([.ref (ad 50), .int x] : List Value).toArray ss 0 0 A) 4 D ad q A (mr_hrN (mm_sI M 50 20 0) N S n) 26 [(2, .int (nI n)), (0, .ref (ad 50)), (1, .int x)] [] := by
      intro k9
      induction k9 with
      | zero => intro n hn h9; exact absurd h9 (Nat.not_lt_zero _)
      | succ k9 ih26 =>
        intro n hn h9
        refine r_iload_n C dX5_hear_26 rfl 0 rfl ?_
        refine r_iload_n C dX5_hear_27 rfl 2 rfl ?_
        refine r_icmp_ge (tgt := 68) C dX5_hear_28 (by decide) (fun z28 => ?_) (fun z28 => ?_)
        · rw [hT1] at z28
          obtain rfl : n = T := nm_ge hn (by omega) z28
          refine r_aload_n C dX5_hear_68 rfl 1 rfl ?_
          refine r_get5 C inX5 0 (by decide) rfl f78 rfl dX5_hear_69 ?_
          exact r_iret C hret hlk9 dX5_hear_72 ⟨by rw [if_neg z8, ← hT], by rw [if_neg z8, ← hT]⟩
        · rw [hT1] at z28
          have hlt : n < T := nm_lt (by omega) (by omega) z28
          refine r_iconst (v := 0) C dX5_hear_31 rfl ?_
          refine r_istore_n (lv' := [(3, .int 0), (2, .int (nI n)), (0, .ref (ad 50)), (1, .int x)]) C dX5_hear_32 rfl (by decide) rfl ?_
          have L33 : ∀ (k9 : Nat) (k : Nat) (hk : k ≤ N), N - k < k9 → mm_G pp l ee rmX5_hear ss mm ([.ref (ad 50), .int x] : List Value).toArray bl mth cd 0 0 (MQ bl (mm_Q D ad q A (fun v' u => v' = some (.int (if nm_in x 1 100 = 0 then 0 else (mr_hrN (mm_sI M 50 20 0) N S x.toInt.toNat).1 50 0)) ∧ u = if nm_in x 1 100 = 0 then mm_sI M 50 20 1 else mr_hrN (mm_sI M 50 20 0) N S x.toInt.toNat)) ([.ref (ad 50), .int x] : List Value).toArray ss 0 0 A) 4 D ad q A (mr_heE (mr_hrN (mm_sI M 50 20 0) N S n) S k) 33 [(3, .int (nI k)), (2, .int (nI n)), (0, .ref (ad 50)), (1, .int x)] [] := by
            intro k9
            induction k9 with
            | zero => intro k hk h9; exact absurd h9 (Nat.not_lt_zero _)
            | succ k9 ih33 =>
              intro k hk h9
              refine r_iload_n C dX5_hear_33 rfl 0 rfl ?_
              refine r_aload_n C dX5_hear_34 rfl 2 rfl ?_
              refine r_get5 C inX5 1 (by decide) rfl f61 rfl dX5_hear_35 ?_
              refine r_icmp_ge (tgt := 52) C dX5_hear_38 (by decide) (fun z38 => ?_) (fun z38 => ?_)
              · rw [show (mr_heE (mr_hrN (mm_sI M 50 20 0) N S n) S k).1 50 1 = nI N from by rw [mr_heE_o (by decide) (by decide), mr_hrN_o (by decide) (by decide)]; exact hN] at z38
                obtain rfl : N = k := (nm_ge hk (by omega) z38).symm
                refine r_aload_n C dX5_hear_52 rfl 2 rfl ?_
                refine r_dup C dX5_hear_53 rfl ?_
                refine r_get5 C inX5 0 (by decide) rfl f78 rfl dX5_hear_54 ?_
                refine r_iconst (v := 1) C dX5_hear_57 rfl ?_
                refine r_iadd C dX5_hear_58 ?_
                refine r_put5 C inX5 (ty := .int) 0 (by decide) mm_set5_0 f78 rfl rfl (by decide +kernel) rfl rfl dX5_hear_59 ?_
                obtain ⟨v2_62, ev2_62⟩ : ∃ y9 : Int32, y9 = (nI n) + 1 := ⟨_, rfl⟩
                refine r_iinc (v := v2_62) (lv' := [(2, .int v2_62), (3, .int (nI N)), (0, .ref (ad 50)), (1, .int x)]) C dX5_hear_62 1 rfl (by rw [ev2_62]; rfl) (by decide) rfl ?_
                refine r_goto (tgt := 26) C dX5_hear_65 (by decide) ?_
                refine r_sub (lv' := [(2, .int v2_62), (0, .ref (ad 50)), (1, .int x)]) [0, 2, 3] rfl ?_
                refine r_cast (M' := mr_hrN (mm_sI M 50 20 0) N S (n + 1)) (lv' := [(2, .int (nI (n + 1))), (0, .ref (ad 50)), (1, .int x)]) (st' := []) rfl (by rw [ev2_62, nI_1]; first | done | rfl) rfl (ih26 (n + 1) (by omega) (by omega))
              · rw [show (mr_heE (mr_hrN (mm_sI M 50 20 0) N S n) S k).1 50 1 = nI N from by rw [mr_heE_o (by decide) (by decide), mr_hrN_o (by decide) (by decide)]; exact hN] at z38
                have hltk : k < N := nm_lt (by omega) (by omega) z38
                refine r_aload_n C dX5_hear_41 rfl 2 rfl ?_
                refine r_iload_n C dX5_hear_42 rfl 0 rfl ?_
                refine r_callV1V C 5 (by decide) rfl (mm_ct5 ad q _) (kX5_hears hAD (by rw [mr_heE_o (by decide) (by decide), mr_hrN_o (by decide) (by decide)]; exact hS) (by exact hS4) (by exact fun k9 hk9 => by rw [mr_heE_o (by decide) (Or.inl (by decide)), mr_hrN_o (by decide) (Or.inl (by decide))]; exact hp k9 hk9) (by rw [mr_heE_o (by decide) (by decide), mr_hrN_o (by decide) (by decide)]; exact hlo) (by rw [mr_heE_o (by decide) (by decide), mr_hrN_n, Int32.lt_iff_toInt_lt]; have := nm_addT (n := n) hnx (by omega); have e : (0 : Int32).toInt = 0 := rfl; have h8 : (mm_sI M 50 20 0).1 50 0 = M.1 50 0 := rfl; rw [h8]; omega) (k) (nI_toInt (by omega)) (by omega)) (cwV 1 C.1.2.2.2.2 gX5_hear_X5_hears rfl rfl rfl (by decide +kernel) ⟨Nat.le_of_ble_eq_true rfl, Nat.le_of_ble_eq_true rfl⟩) (Nat.le_of_ble_eq_true rfl) dX5_hear_43 ⟨rfl, rfl⟩ ⟨Nat.zero_le _, Nat.zero_le _⟩ ?_
                obtain ⟨v3_46, ev3_46⟩ : ∃ y9 : Int32, y9 = (nI k) + 1 := ⟨_, rfl⟩
                refine r_iinc (v := v3_46) (lv' := [(3, .int v3_46), (2, .int (nI n)), (0, .ref (ad 50)), (1, .int x)]) C dX5_hear_46 0 rfl (by rw [ev3_46]; rfl) (by decide) rfl ?_
                refine r_goto (tgt := 33) C dX5_hear_49 (by decide) ?_
                refine r_cast (M' := mr_heE (mr_hrN (mm_sI M 50 20 0) N S n) S (k + 1)) (lv' := [(3, .int (nI (k + 1))), (2, .int (nI n)), (0, .ref (ad 50)), (1, .int x)]) (st' := []) rfl (by rw [ev3_46, nI_1]; first | done | rfl) rfl (ih33 (k + 1) (by omega) (by omega))
          refine r_cast (M' := mr_heE (mr_hrN (mm_sI M 50 20 0) N S n) S 0) (lv' := [(3, .int (nI 0)), (2, .int (nI n)), (0, .ref (ad 50)), (1, .int x)]) (st' := []) rfl rfl rfl (L33 (N - 0 + 1) 0 (Nat.zero_le _) (by omega))
    refine r_cast (M' := mr_hrN (mm_sI M 50 20 0) N S 0) (lv' := [(2, .int (nI 0)), (0, .ref (ad 50)), (1, .int x)]) (st' := []) rfl rfl rfl (L26 (T - 0 + 1) 0 (Nat.zero_le _) (by omega))

def mr_elk (F : mm_F) (x y z : Int32) : Int32 := if nm_in x 0 12 = 0 then 1 else if nm_in y 32 96 = 0 then 1 else if nm_in z (-3) 3 = 0 then 1 else if F 50 1 = 8 then 2 else 0
def mr_elS (M : mm_M) (N : Nat) (x y z : Int32) : mm_M := mm_sI (mm_sI (mm_sI (mm_sI (mm_sI (mm_sI (mm_sI (mm_sI (mm_sI M 50 20 0) 51 N x) 52 N y) 53 N z) 54 N (M.1 50 0)) 55 N 1) 56 N 64) 57 N 0) 50 1 (M.1 50 1 + 1)
theorem nm_hx {x : Int32} {N : Nat} (h : x = nI N) (hN : N ≤ 8) : x.toInt = (N : Int) := by rw [h]; exact nI_toInt (by omega)
theorem nm_n8 {x : Int32} {N : Nat} (h : x = nI N) (hN : N ≤ 8) (z : ¬ x = 8) : N < 8 := by
  rcases Nat.lt_or_ge N 8 with h1 | h1
  · exact h1
  · exact absurd (by rw [h, Nat.le_antisymm hN h1]; rfl) z
abbrev rmX5_element : Room := { frames := 1, cells := 0, slots := 0, locals := 22 }
set_option maxHeartbeats 400000 in
set_option maxRecDepth 100000 in
theorem kX5_element {l : Launch} {D : va_G} {ad : Nat → Nat} {q : Nat → ClassId} {A : Nat → Prop} (hAD : mm_AD ad A) {N : Nat} {M : mm_M} (hN : M.1 50 1 = nI N) (hN8 : N ≤ 8) {x y z : Int32} : mm_Kd l D ad q A yX5_element wsX5_element rmX5_element [.ref (ad 50), .int x, .int y, .int z] M (some (.int (if mr_elk M.1 x y z = 0 then M.1 50 1 + 1 - 1 else 0))) (if mr_elk M.1 x y z = 0 then mr_elS M N x y z else mm_sI M 50 20 (mr_elk M.1 x y z)) := by
  have inX5 : ∀ w ∈ wsX50, w ∈ wsX5_element := by decide +kernel
  have f7 : Cond.fieldLink RX5 7 "BeamrowModel" "positions" "[I" ∈ wsX5_element := by decide +kernel
  have f13 : Cond.fieldLink RX5 13 "BeamrowModel" "gains" "[I" ∈ wsX5_element := by decide +kernel
  have f16 : Cond.fieldLink RX5 16 "BeamrowModel" "lags" "[I" ∈ wsX5_element := by decide +kernel
  have f19 : Cond.fieldLink RX5 19 "BeamrowModel" "began" "[I" ∈ wsX5_element := by decide +kernel
  have f22 : Cond.fieldLink RX5 22 "BeamrowModel" "isAlive" "[Z" ∈ wsX5_element := by decide +kernel
  have f26 : Cond.fieldLink RX5 26 "BeamrowModel" "byGain" "[I" ∈ wsX5_element := by decide +kernel
  have f29 : Cond.fieldLink RX5 29 "BeamrowModel" "byLag" "[I" ∈ wsX5_element := by decide +kernel
  have f61 : Cond.fieldLink RX5 61 "BeamrowModel" "elements" "I" ∈ wsX5_element := by decide +kernel
  have f78 : Cond.fieldLink RX5 78 "BeamrowModel" "next" "I" ∈ wsX5_element := by decide +kernel
  refine mm_of (cc := cX5_element) (maxL := 5) (ret := some .int) (own := RX5) rfl hAD (plainFor_of_name (by decide)) rfl (Nat.le_of_ble_eq_true rfl) ⟨rfl, rfl⟩ ?_
  intro pp ee ss mm bl mth cd C hret hlk9
  show mm_G _ _ _ _ _ _ _ _ _ _ _ _ _ _ _ _ _ _ M 0 [(0, .ref (ad 50)), (1, .int x), (2, .int y), (3, .int z)] []
  refine r_iload_n C dX5_element_0 rfl 1 rfl ?_
  refine r_iconst (v := 0) C dX5_element_1 rfl ?_
  refine r_bipush (v := (12)) C dX5_element_2 rfl ?_
  refine r_callS3I C (kX5_isIn hAD) (va_cwS 3 C.1.2.2.2.2 gX5_element_X5_isIn rfl rfl rfl (by decide +kernel) ⟨Nat.le_of_ble_eq_true rfl, Nat.le_of_ble_eq_true rfl⟩) (Nat.le_of_ble_eq_true rfl) dX5_element_4 ⟨rfl, rfl⟩ ⟨Nat.zero_le _, Nat.zero_le _⟩ ?_
  refine r_if_eq (tgt := 35) C dX5_element_7 (by decide) (fun z7 => ?_) (fun z7 => ?_)
  · refine r_iconst (v := 0) C dX5_element_35 rfl ?_
    refine r_istore (lv' := [(4, .int 0), (0, .ref (ad 50)), (1, .int x), (2, .int y), (3, .int z)]) C dX5_element_36 (by decide) rfl ?_
    refine r_aload_n C dX5_element_38 rfl 1 rfl ?_
    refine r_iload C dX5_element_39 0 rfl ?_
    refine r_if_neF (tgt := 48) C dX5_element_41 (by decide) (by decide) ?_
    refine r_iconst (v := 1) C dX5_element_44 rfl ?_
    refine r_goto (tgt := 62) C dX5_element_45 (by decide) ?_
    refine r_callV1I C 5 (by decide) rfl (mm_ct5 ad q _) (kX5_goes hAD) (cwV 1 C.1.2.2.2.2 gX5_element_X5_goes rfl rfl rfl (by decide +kernel) ⟨Nat.le_of_ble_eq_true rfl, Nat.le_of_ble_eq_true rfl⟩) (Nat.le_of_ble_eq_true rfl) dX5_element_62 ⟨rfl, rfl⟩ ⟨Nat.zero_le _, Nat.zero_le _⟩ ?_
    refine r_topc (y := 0) (by decide) ?_
    refine r_if_neF (tgt := 70) C dX5_element_65 (by decide) (by decide) ?_
    refine r_iconst (v := 0) C dX5_element_68 rfl ?_
    exact r_iret C hret hlk9 dX5_element_69 (by first | (have e9 : mr_elk M.1 x y z = 1 := (by rw [mr_elk, if_pos z7]); exact ⟨by rw [if_neg (by rw [e9]; decide)], by rw [if_neg (by rw [e9]; decide), e9]⟩) | (have e9 : mr_elk M.1 x y z = 1 := (by rw [mr_elk, if_neg z7, if_pos z18]); exact ⟨by rw [if_neg (by rw [e9]; decide)], by rw [if_neg (by rw [e9]; decide), e9]⟩) | (have e9 : mr_elk M.1 x y z = 1 := (by rw [mr_elk, if_neg z7, if_neg z18, if_pos z28]); exact ⟨by rw [if_neg (by rw [e9]; decide)], by rw [if_neg (by rw [e9]; decide), e9]⟩) | (have e9 : mr_elk M.1 x y z = 2 := (by rw [mr_elk, if_neg z7, if_neg z18, if_neg z28, if_pos z54]); exact ⟨by rw [if_neg (by rw [e9]; decide)], by rw [if_neg (by rw [e9]; decide), e9]⟩) | (have e9 : mr_elk M.1 x y z = 0 := (by rw [mr_elk, if_neg z7, if_neg z18, if_neg z28, if_neg z54]); exact ⟨by rw [if_pos e9]; rfl, by rw [if_pos e9]; first | done | rfl⟩))
  · refine r_iload_n C dX5_element_10 rfl 2 rfl ?_
    refine r_bipush (v := (32)) C dX5_element_11 rfl ?_
    refine r_bipush (v := (96)) C dX5_element_13 rfl ?_
    refine r_callS3I C (kX5_isIn hAD) (va_cwS 3 C.1.2.2.2.2 gX5_element_X5_isIn rfl rfl rfl (by decide +kernel) ⟨Nat.le_of_ble_eq_true rfl, Nat.le_of_ble_eq_true rfl⟩) (Nat.le_of_ble_eq_true rfl) dX5_element_15 ⟨rfl, rfl⟩ ⟨Nat.zero_le _, Nat.zero_le _⟩ ?_
    refine r_if_eq (tgt := 35) C dX5_element_18 (by decide) (fun z18 => ?_) (fun z18 => ?_)
    · refine r_iconst (v := 0) C dX5_element_35 rfl ?_
      refine r_istore (lv' := [(4, .int 0), (0, .ref (ad 50)), (1, .int x), (2, .int y), (3, .int z)]) C dX5_element_36 (by decide) rfl ?_
      refine r_aload_n C dX5_element_38 rfl 1 rfl ?_
      refine r_iload C dX5_element_39 0 rfl ?_
      refine r_if_neF (tgt := 48) C dX5_element_41 (by decide) (by decide) ?_
      refine r_iconst (v := 1) C dX5_element_44 rfl ?_
      refine r_goto (tgt := 62) C dX5_element_45 (by decide) ?_
      refine r_callV1I C 5 (by decide) rfl (mm_ct5 ad q _) (kX5_goes hAD) (cwV 1 C.1.2.2.2.2 gX5_element_X5_goes rfl rfl rfl (by decide +kernel) ⟨Nat.le_of_ble_eq_true rfl, Nat.le_of_ble_eq_true rfl⟩) (Nat.le_of_ble_eq_true rfl) dX5_element_62 ⟨rfl, rfl⟩ ⟨Nat.zero_le _, Nat.zero_le _⟩ ?_
      refine r_topc (y := 0) (by decide) ?_
      refine r_if_neF (tgt := 70) C dX5_element_65 (by decide) (by decide) ?_
      refine r_iconst (v := 0) C dX5_element_68 rfl ?_
      exact r_iret C hret hlk9 dX5_element_69 (by first | (have e9 : mr_elk M.1 x y z = 1 := (by rw [mr_elk, if_pos z7]); exact ⟨by rw [if_neg (by rw [e9]; decide)], by rw [if_neg (by rw [e9]; decide), e9]⟩) | (have e9 : mr_elk M.1 x y z = 1 := (by rw [mr_elk, if_neg z7, if_pos z18]); exact ⟨by rw [if_neg (by rw [e9]; decide)], by rw [if_neg (by rw [e9]; decide), e9]⟩) | (have e9 : mr_elk M.1 x y z = 1 := (by rw [mr_elk, if_neg z7, if_neg z18, if_pos z28]); exact ⟨by rw [if_neg (by rw [e9]; decide)], by rw [if_neg (by rw [e9]; decide), e9]⟩) | (have e9 : mr_elk M.1 x y z = 2 := (by rw [mr_elk, if_neg z7, if_neg z18, if_neg z28, if_pos z54]); exact ⟨by rw [if_neg (by rw [e9]; decide)], by rw [if_neg (by rw [e9]; decide), e9]⟩) | (have e9 : mr_elk M.1 x y z = 0 := (by rw [mr_elk, if_neg z7, if_neg z18, if_neg z28, if_neg z54]); exact ⟨by rw [if_pos e9]; rfl, by rw [if_pos e9]; first | done | rfl⟩))
    · refine r_iload_n C dX5_element_21 rfl 3 rfl ?_
      refine r_bipush (v := (-3)) C dX5_element_22 rfl ?_
      refine r_iconst (v := 3) C dX5_element_24 rfl ?_
      refine r_callS3I C (kX5_isIn hAD) (va_cwS 3 C.1.2.2.2.2 gX5_element_X5_isIn rfl rfl rfl (by decide +kernel) ⟨Nat.le_of_ble_eq_true rfl, Nat.le_of_ble_eq_true rfl⟩) (Nat.le_of_ble_eq_true rfl) dX5_element_25 ⟨rfl, rfl⟩ ⟨Nat.zero_le _, Nat.zero_le _⟩ ?_
      refine r_if_eq (tgt := 35) C dX5_element_28 (by decide) (fun z28 => ?_) (fun z28 => ?_)
      · refine r_iconst (v := 0) C dX5_element_35 rfl ?_
        refine r_istore (lv' := [(4, .int 0), (0, .ref (ad 50)), (1, .int x), (2, .int y), (3, .int z)]) C dX5_element_36 (by decide) rfl ?_
        refine r_aload_n C dX5_element_38 rfl 1 rfl ?_
        refine r_iload C dX5_element_39 0 rfl ?_
        refine r_if_neF (tgt := 48) C dX5_element_41 (by decide) (by decide) ?_
        refine r_iconst (v := 1) C dX5_element_44 rfl ?_
        refine r_goto (tgt := 62) C dX5_element_45 (by decide) ?_
        refine r_callV1I C 5 (by decide) rfl (mm_ct5 ad q _) (kX5_goes hAD) (cwV 1 C.1.2.2.2.2 gX5_element_X5_goes rfl rfl rfl (by decide +kernel) ⟨Nat.le_of_ble_eq_true rfl, Nat.le_of_ble_eq_true rfl⟩) (Nat.le_of_ble_eq_true rfl) dX5_element_62 ⟨rfl, rfl⟩ ⟨Nat.zero_le _, Nat.zero_le _⟩ ?_
        refine r_topc (y := 0) (by decide) ?_
        refine r_if_neF (tgt := 70) C dX5_element_65 (by decide) (by decide) ?_
        refine r_iconst (v := 0) C dX5_element_68 rfl ?_
        exact r_iret C hret hlk9 dX5_element_69 (by first | (have e9 : mr_elk M.1 x y z = 1 := (by rw [mr_elk, if_pos z7]); exact ⟨by rw [if_neg (by rw [e9]; decide)], by rw [if_neg (by rw [e9]; decide), e9]⟩) | (have e9 : mr_elk M.1 x y z = 1 := (by rw [mr_elk, if_neg z7, if_pos z18]); exact ⟨by rw [if_neg (by rw [e9]; decide)], by rw [if_neg (by rw [e9]; decide), e9]⟩) | (have e9 : mr_elk M.1 x y z = 1 := (by rw [mr_elk, if_neg z7, if_neg z18, if_pos z28]); exact ⟨by rw [if_neg (by rw [e9]; decide)], by rw [if_neg (by rw [e9]; decide), e9]⟩) | (have e9 : mr_elk M.1 x y z = 2 := (by rw [mr_elk, if_neg z7, if_neg z18, if_neg z28, if_pos z54]); exact ⟨by rw [if_neg (by rw [e9]; decide)], by rw [if_neg (by rw [e9]; decide), e9]⟩) | (have e9 : mr_elk M.1 x y z = 0 := (by rw [mr_elk, if_neg z7, if_neg z18, if_neg z28, if_neg z54]); exact ⟨by rw [if_pos e9]; rfl, by rw [if_pos e9]; first | done | rfl⟩))
      · refine r_iconst (v := 1) C dX5_element_31 rfl ?_
        refine r_goto (tgt := 36) C dX5_element_32 (by decide) ?_
        refine r_istore (lv' := [(4, .int 1), (0, .ref (ad 50)), (1, .int x), (2, .int y), (3, .int z)]) C dX5_element_36 (by decide) rfl ?_
        refine r_aload_n C dX5_element_38 rfl 1 rfl ?_
        refine r_iload C dX5_element_39 0 rfl ?_
        refine r_if_neT (tgt := 48) C dX5_element_41 (by decide) (by decide) ?_
        refine r_aload_n C dX5_element_48 rfl 1 rfl ?_
        refine r_get5 C inX5 1 (by decide) rfl f61 rfl dX5_element_49 ?_
        refine r_bipush (v := (8)) C dX5_element_52 rfl ?_
        refine r_icmp_ne (tgt := 61) C dX5_element_54 (by decide) (fun z54 => ?_) (fun z54 => ?_)
        · refine r_iconst (v := 0) C dX5_element_61 rfl ?_
          refine r_callV1I C 5 (by decide) rfl (mm_ct5 ad q _) (kX5_goes hAD) (cwV 1 C.1.2.2.2.2 gX5_element_X5_goes rfl rfl rfl (by decide +kernel) ⟨Nat.le_of_ble_eq_true rfl, Nat.le_of_ble_eq_true rfl⟩) (Nat.le_of_ble_eq_true rfl) dX5_element_62 ⟨rfl, rfl⟩ ⟨Nat.zero_le _, Nat.zero_le _⟩ ?_
          refine r_topc (y := 1) (by decide) ?_
          refine r_if_neT (tgt := 70) C dX5_element_65 (by decide) (by decide) ?_
          refine r_aload_n C dX5_element_70 rfl 1 rfl ?_
          refine r_get5 C inX5 2 (by decide) rfl f7 rfl dX5_element_71 ?_
          refine r_aload_n C dX5_element_74 rfl 1 rfl ?_
          refine r_get5 C inX5 1 (by decide) rfl f61 rfl dX5_element_75 ?_
          refine r_iload_n C dX5_element_78 rfl 2 rfl ?_
          refine r_iast C mm_aI_51 (N) (nm_hx hN hN8) (nm_n8 hN hN8 z54) dX5_element_79 ?_
          refine r_aload_n C dX5_element_80 rfl 1 rfl ?_
          refine r_get5 C inX5 3 (by decide) rfl f13 rfl dX5_element_81 ?_
          refine r_aload_n C dX5_element_84 rfl 1 rfl ?_
          refine r_get5 C inX5 1 (by decide) rfl f61 rfl dX5_element_85 ?_
          refine r_iload_n C dX5_element_88 rfl 3 rfl ?_
          refine r_iast C mm_aI_52 (N) (nm_hx hN hN8) (nm_n8 hN hN8 z54) dX5_element_89 ?_
          refine r_aload_n C dX5_element_90 rfl 1 rfl ?_
          refine r_get5 C inX5 4 (by decide) rfl f16 rfl dX5_element_91 ?_
          refine r_aload_n C dX5_element_94 rfl 1 rfl ?_
          refine r_get5 C inX5 1 (by decide) rfl f61 rfl dX5_element_95 ?_
          refine r_iload_n C dX5_element_98 rfl 4 rfl ?_
          refine r_iast C mm_aI_53 (N) (nm_hx hN hN8) (nm_n8 hN hN8 z54) dX5_element_99 ?_
          refine r_aload_n C dX5_element_100 rfl 1 rfl ?_
          refine r_get5 C inX5 5 (by decide) rfl f19 rfl dX5_element_101 ?_
          refine r_aload_n C dX5_element_104 rfl 1 rfl ?_
          refine r_get5 C inX5 1 (by decide) rfl f61 rfl dX5_element_105 ?_
          refine r_aload_n C dX5_element_108 rfl 1 rfl ?_
          refine r_get5 C inX5 0 (by decide) rfl f78 rfl dX5_element_109 ?_
          refine r_iast C mm_aI_54 (N) (nm_hx hN hN8) (nm_n8 hN hN8 z54) dX5_element_112 ?_
          refine r_aload_n C dX5_element_113 rfl 1 rfl ?_
          refine r_get5 C inX5 6 (by decide) rfl f22 rfl dX5_element_114 ?_
          refine r_aload_n C dX5_element_117 rfl 1 rfl ?_
          refine r_get5 C inX5 1 (by decide) rfl f61 rfl dX5_element_118 ?_
          refine r_iconst (v := 1) C dX5_element_121 rfl ?_
          refine r_zast C (by decide) (N) (nm_hx hN hN8) (nm_n8 hN hN8 z54) dX5_element_122 ?_
          refine r_aload_n C dX5_element_123 rfl 1 rfl ?_
          refine r_get5 C inX5 7 (by decide) rfl f26 rfl dX5_element_124 ?_
          refine r_aload_n C dX5_element_127 rfl 1 rfl ?_
          refine r_get5 C inX5 1 (by decide) rfl f61 rfl dX5_element_128 ?_
          refine r_bipush (v := (64)) C dX5_element_131 rfl ?_
          refine r_iast C mm_aI_56 (N) (nm_hx hN hN8) (nm_n8 hN hN8 z54) dX5_element_133 ?_
          refine r_aload_n C dX5_element_134 rfl 1 rfl ?_
          refine r_get5 C inX5 8 (by decide) rfl f29 rfl dX5_element_135 ?_
          refine r_aload_n C dX5_element_138 rfl 1 rfl ?_
          refine r_get5 C inX5 1 (by decide) rfl f61 rfl dX5_element_139 ?_
          refine r_iconst (v := 0) C dX5_element_142 rfl ?_
          refine r_iast C mm_aI_57 (N) (nm_hx hN hN8) (nm_n8 hN hN8 z54) dX5_element_143 ?_
          refine r_aload_n C dX5_element_144 rfl 1 rfl ?_
          refine r_dup C dX5_element_145 rfl ?_
          refine r_get5 C inX5 1 (by decide) rfl f61 rfl dX5_element_146 ?_
          refine r_iconst (v := 1) C dX5_element_149 rfl ?_
          refine r_iadd C dX5_element_150 ?_
          refine r_put5 C inX5 (ty := .int) 1 (by decide) mm_set5_1 f61 rfl rfl (by decide +kernel) rfl rfl dX5_element_151 ?_
          refine r_aload_n C dX5_element_154 rfl 1 rfl ?_
          refine r_get5 C inX5 1 (by decide) rfl f61 rfl dX5_element_155 ?_
          refine r_iconst (v := 1) C dX5_element_158 rfl ?_
          refine r_isub C dX5_element_159 ?_
          exact r_iret C hret hlk9 dX5_element_160 (by first | (have e9 : mr_elk M.1 x y z = 0 := (by rw [mr_elk, if_neg z7, if_neg z18, if_neg z28, if_neg z54]); exact ⟨by rw [if_pos e9]; rfl, by rw [if_pos e9]; first | done | rfl⟩))
        · refine r_iconst (v := 2) C dX5_element_57 rfl ?_
          refine r_goto (tgt := 62) C dX5_element_58 (by decide) ?_
          refine r_callV1I C 5 (by decide) rfl (mm_ct5 ad q _) (kX5_goes hAD) (cwV 1 C.1.2.2.2.2 gX5_element_X5_goes rfl rfl rfl (by decide +kernel) ⟨Nat.le_of_ble_eq_true rfl, Nat.le_of_ble_eq_true rfl⟩) (Nat.le_of_ble_eq_true rfl) dX5_element_62 ⟨rfl, rfl⟩ ⟨Nat.zero_le _, Nat.zero_le _⟩ ?_
          refine r_topc (y := 0) (by decide) ?_
          refine r_if_neF (tgt := 70) C dX5_element_65 (by decide) (by decide) ?_
          refine r_iconst (v := 0) C dX5_element_68 rfl ?_
          exact r_iret C hret hlk9 dX5_element_69 (by first | (have e9 : mr_elk M.1 x y z = 1 := (by rw [mr_elk, if_pos z7]); exact ⟨by rw [if_neg (by rw [e9]; decide)], by rw [if_neg (by rw [e9]; decide), e9]⟩) | (have e9 : mr_elk M.1 x y z = 1 := (by rw [mr_elk, if_neg z7, if_pos z18]); exact ⟨by rw [if_neg (by rw [e9]; decide)], by rw [if_neg (by rw [e9]; decide), e9]⟩) | (have e9 : mr_elk M.1 x y z = 1 := (by rw [mr_elk, if_neg z7, if_neg z18, if_pos z28]); exact ⟨by rw [if_neg (by rw [e9]; decide)], by rw [if_neg (by rw [e9]; decide), e9]⟩) | (have e9 : mr_elk M.1 x y z = 2 := (by rw [mr_elk, if_neg z7, if_neg z18, if_neg z28, if_pos z54]); exact ⟨by rw [if_neg (by rw [e9]; decide)], by rw [if_neg (by rw [e9]; decide), e9]⟩) | (have e9 : mr_elk M.1 x y z = 0 := (by rw [mr_elk, if_neg z7, if_neg z18, if_neg z28, if_neg z54]); exact ⟨by rw [if_pos e9]; rfl, by rw [if_pos e9]; first | done | rfl⟩))

theorem nm_inE {x : Int32} {N : Nat} (h : ¬ nm_in x 0 (nI N - 1) = 0) (hN : N ≤ 8) : x.toInt = (x.toInt.toNat : Int) ∧ x.toInt.toNat < N := by
  have h1 := nm_inT h
  have e : (0 : Int32).toInt = 0 := rfl
  have e2 : (nI N - 1).toInt = (N : Int) - 1 := by
    have e3 : (1 : Int32).toInt = 1 := rfl
    rw [Int32.toInt_sub, nI_toInt (by omega), e3]
    exact nm_bmI (by omega) (by omega)
  omega
abbrev rmX5_alive : Room := { frames := 2, cells := 0, slots := 0, locals := 43 }
set_option maxHeartbeats 400000 in
set_option maxRecDepth 100000 in
theorem kX5_alive {l : Launch} {D : va_G} {ad : Nat → Nat} {q : Nat → ClassId} {A : Nat → Prop} (hAD : mm_AD ad A) {N : Nat} {M : mm_M} (hN : M.1 50 1 = nI N) (hN8 : N ≤ 8) (hal : ∀ k : Nat, k < N → M.1 55 k &&& 1 = M.1 55 k) {x y : Int32} (hy : y &&& 1 = y) : mm_Kd l D ad q A yX5_alive wsX5_alive rmX5_alive [.ref (ad 50), .int x, .int y] M (some (.int (if nm_in x 0 (M.1 50 1 - 1) = 0 then 0 else M.1 55 x.toInt.toNat))) (if nm_in x 0 (M.1 50 1 - 1) = 0 then mm_sI M 50 20 1 else mm_sI (mm_sI M 50 20 0) 55 x.toInt.toNat y) := by
  have inX5 : ∀ w ∈ wsX50, w ∈ wsX5_alive := by decide +kernel
  have f22 : Cond.fieldLink RX5 22 "BeamrowModel" "isAlive" "[Z" ∈ wsX5_alive := by decide +kernel
  refine mm_of (cc := cX5_alive) (maxL := 4) (ret := some .boolean) (own := RX5) rfl hAD (plainFor_of_name (by decide)) rfl (Nat.le_of_ble_eq_true rfl) ⟨rfl, rfl⟩ ?_
  intro pp ee ss mm bl mth cd C hret hlk9
  show mm_G _ _ _ _ _ _ _ _ _ _ _ _ _ _ _ _ _ _ M 0 [(0, .ref (ad 50)), (1, .int x), (2, .int y)] []
  refine r_aload_n C dX5_alive_0 rfl 0 rfl ?_
  refine r_aload_n C dX5_alive_1 rfl 0 rfl ?_
  refine r_iload_n C dX5_alive_2 rfl 1 rfl ?_
  refine r_callV1I C 5 (by decide) rfl (mm_ct5 ad q _) (kX5_isElement hAD) (cwV 1 C.1.2.2.2.2 gX5_alive_X5_isElement rfl rfl rfl (by decide +kernel) ⟨Nat.le_of_ble_eq_true rfl, Nat.le_of_ble_eq_true rfl⟩) (Nat.le_of_ble_eq_true rfl) dX5_alive_3 ⟨rfl, rfl⟩ ⟨Nat.zero_le _, Nat.zero_le _⟩ ?_
  refine r_if_eq (tgt := 13) C dX5_alive_6 (by decide) (fun z6 => ?_) (fun z6 => ?_)
  · refine r_iconst (v := 1) C dX5_alive_13 rfl ?_
    refine r_callV1I C 5 (by decide) rfl (mm_ct5 ad q _) (kX5_goes hAD) (cwV 1 C.1.2.2.2.2 gX5_alive_X5_goes rfl rfl rfl (by decide +kernel) ⟨Nat.le_of_ble_eq_true rfl, Nat.le_of_ble_eq_true rfl⟩) (Nat.le_of_ble_eq_true rfl) dX5_alive_14 ⟨rfl, rfl⟩ ⟨Nat.zero_le _, Nat.zero_le _⟩ ?_
    refine r_topc (y := 0) (by decide) ?_
    refine r_if_neF (tgt := 22) C dX5_alive_17 (by decide) (by decide) ?_
    refine r_iconst (v := 0) C dX5_alive_20 rfl ?_
    exact r_zret C hret (by first | decide | assumption) hlk9 dX5_alive_21 ⟨by rw [if_pos z6], by rw [if_pos z6]⟩
  · have hxe := nm_inE (by rw [← hN]; exact z6) hN8
    refine r_iconst (v := 0) C dX5_alive_9 rfl ?_
    refine r_goto (tgt := 14) C dX5_alive_10 (by decide) ?_
    refine r_callV1I C 5 (by decide) rfl (mm_ct5 ad q _) (kX5_goes hAD) (cwV 1 C.1.2.2.2.2 gX5_alive_X5_goes rfl rfl rfl (by decide +kernel) ⟨Nat.le_of_ble_eq_true rfl, Nat.le_of_ble_eq_true rfl⟩) (Nat.le_of_ble_eq_true rfl) dX5_alive_14 ⟨rfl, rfl⟩ ⟨Nat.zero_le _, Nat.zero_le _⟩ ?_
    refine r_topc (y := 1) (by decide) ?_
    refine r_if_neT (tgt := 22) C dX5_alive_17 (by decide) (by decide) ?_
    refine r_aload_n C dX5_alive_22 rfl 0 rfl ?_
    refine r_get5 C inX5 6 (by decide) rfl f22 rfl dX5_alive_23 ?_
    refine r_iload_n C dX5_alive_26 rfl 1 rfl ?_
    refine r_zald C (x.toInt.toNat) (hxe.1) (by omega) dX5_alive_27 ?_
    refine r_topi (fun v3_28 ev3_28 => ?_)
    refine r_istore_n (lv' := [(3, .int v3_28), (0, .ref (ad 50)), (1, .int x), (2, .int y)]) C dX5_alive_28 rfl (by decide) rfl ?_
    refine r_aload_n C dX5_alive_29 rfl 1 rfl ?_
    refine r_get5 C inX5 6 (by decide) rfl f22 rfl dX5_alive_30 ?_
    refine r_iload_n C dX5_alive_33 rfl 2 rfl ?_
    refine r_iload_n C dX5_alive_34 rfl 3 rfl ?_
    refine r_zast C (hy) (x.toInt.toNat) (hxe.1) (by omega) dX5_alive_35 ?_
    refine r_iload_n C dX5_alive_36 rfl 0 rfl ?_
    exact r_zret C hret (by rw [ev3_28]; exact hal _ (by omega)) hlk9 dX5_alive_37 ⟨by rw [if_neg z6, ev3_28]; rfl, by rw [if_neg z6]⟩

def mr_sok (F : mm_F) (x y z : Int32) : Int32 := if nm_in x (-4) 4 = 0 then 1 else if nm_in y 1 100 = 0 then 2 else if nm_in z 2 16 = 0 then 2 else if F 50 9 = 4 then 3 else 0
def mr_soS (M : mm_M) (S : Nat) (x y z : Int32) : mm_M := mm_sI (mm_sI (mm_sI (mm_sI (mm_sI M 50 20 0) 58 S x) 59 S y) 60 S z) 50 9 (M.1 50 9 + 1)
theorem nm_n4 {x : Int32} {N : Nat} (h : x = nI N) (hN : N ≤ 4) (z : ¬ x = 4) : N < 4 := by
  rcases Nat.lt_or_ge N 4 with h1 | h1
  · exact h1
  · exact absurd (by rw [h, Nat.le_antisymm hN h1]; rfl) z
abbrev rmX5_source : Room := { frames := 2, cells := 0, slots := 0, locals := 42 }
set_option maxHeartbeats 400000 in
set_option maxRecDepth 100000 in
theorem kX5_source {l : Launch} {D : va_G} {ad : Nat → Nat} {q : Nat → ClassId} {A : Nat → Prop} (hAD : mm_AD ad A) {S : Nat} {M : mm_M} (hS : M.1 50 9 = nI S) (hS4 : S ≤ 4) {x y z : Int32} : mm_Kd l D ad q A yX5_source wsX5_source rmX5_source [.ref (ad 50), .int x, .int y, .int z] M (some (.int (if mr_sok M.1 x y z = 0 then M.1 50 9 + 1 - 1 else 0))) (if mr_sok M.1 x y z = 0 then mr_soS M S x y z else mm_sI M 50 20 (mr_sok M.1 x y z)) := by
  have inX5 : ∀ w ∈ wsX50, w ∈ wsX5_source := by decide +kernel
  have f32 : Cond.fieldLink RX5 32 "BeamrowModel" "bearings" "[I" ∈ wsX5_source := by decide +kernel
  have f35 : Cond.fieldLink RX5 35 "BeamrowModel" "strengths" "[I" ∈ wsX5_source := by decide +kernel
  have f38 : Cond.fieldLink RX5 38 "BeamrowModel" "periods" "[I" ∈ wsX5_source := by decide +kernel
  have f87 : Cond.fieldLink RX5 87 "BeamrowModel" "sources" "I" ∈ wsX5_source := by decide +kernel
  refine mm_of (cc := cX5_source) (maxL := 5) (ret := some .int) (own := RX5) rfl hAD (plainFor_of_name (by decide)) rfl (Nat.le_of_ble_eq_true rfl) ⟨rfl, rfl⟩ ?_
  intro pp ee ss mm bl mth cd C hret hlk9
  show mm_G _ _ _ _ _ _ _ _ _ _ _ _ _ _ _ _ _ _ M 0 [(0, .ref (ad 50)), (1, .int x), (2, .int y), (3, .int z)] []
  refine r_iload_n C dX5_source_0 rfl 2 rfl ?_
  refine r_iconst (v := 1) C dX5_source_1 rfl ?_
  refine r_bipush (v := (100)) C dX5_source_2 rfl ?_
  refine r_callS3I C (kX5_isIn hAD) (va_cwS 3 C.1.2.2.2.2 gX5_source_X5_isIn rfl rfl rfl (by decide +kernel) ⟨Nat.le_of_ble_eq_true rfl, Nat.le_of_ble_eq_true rfl⟩) (Nat.le_of_ble_eq_true rfl) dX5_source_4 ⟨rfl, rfl⟩ ⟨Nat.zero_le _, Nat.zero_le _⟩ ?_
  refine r_if_eq (tgt := 24) C dX5_source_7 (by decide) (fun z7 => ?_) (fun z7 => ?_)
  · refine r_iconst (v := 0) C dX5_source_24 rfl ?_
    refine r_istore (lv' := [(4, .int 0), (0, .ref (ad 50)), (1, .int x), (2, .int y), (3, .int z)]) C dX5_source_25 (by decide) rfl ?_
    refine r_aload_n C dX5_source_27 rfl 1 rfl ?_
    refine r_iload_n C dX5_source_28 rfl 2 rfl ?_
    refine r_callS1I C (kX5_isBearing hAD) (va_cwS 1 C.1.2.2.2.2 gX5_source_X5_isBearing rfl rfl rfl (by decide +kernel) ⟨Nat.le_of_ble_eq_true rfl, Nat.le_of_ble_eq_true rfl⟩) (Nat.le_of_ble_eq_true rfl) dX5_source_29 ⟨rfl, rfl⟩ ⟨Nat.zero_le _, Nat.zero_le _⟩ ?_
    refine r_if_ne (tgt := 39) C dX5_source_32 (by decide) (fun z32 => ?_) (fun z32 => ?_)
    · refine r_iload C dX5_source_39 0 rfl ?_
      refine r_if_neF (tgt := 48) C dX5_source_41 (by decide) (by decide) ?_
      refine r_iconst (v := 2) C dX5_source_44 rfl ?_
      refine r_goto (tgt := 61) C dX5_source_45 (by decide) ?_
      refine r_callV1I C 5 (by decide) rfl (mm_ct5 ad q _) (kX5_goes hAD) (cwV 1 C.1.2.2.2.2 gX5_source_X5_goes rfl rfl rfl (by decide +kernel) ⟨Nat.le_of_ble_eq_true rfl, Nat.le_of_ble_eq_true rfl⟩) (Nat.le_of_ble_eq_true rfl) dX5_source_61 ⟨rfl, rfl⟩ ⟨Nat.zero_le _, Nat.zero_le _⟩ ?_
      refine r_topc (y := 0) (by decide) ?_
      refine r_if_neF (tgt := 69) C dX5_source_64 (by decide) (by decide) ?_
      refine r_iconst (v := 0) C dX5_source_67 rfl ?_
      exact r_iret C hret hlk9 dX5_source_68 (by first | (have e9 : mr_sok M.1 x y z = 1 := (by rw [mr_sok, if_pos z32]); exact ⟨by rw [if_neg (by rw [e9]; decide)], by rw [if_neg (by rw [e9]; decide), e9]⟩) | (have e9 : mr_sok M.1 x y z = 2 := (by rw [mr_sok, if_neg z32, if_pos z7]); exact ⟨by rw [if_neg (by rw [e9]; decide)], by rw [if_neg (by rw [e9]; decide), e9]⟩) | (have e9 : mr_sok M.1 x y z = 2 := (by rw [mr_sok, if_neg z32, if_neg z7, if_pos z17]); exact ⟨by rw [if_neg (by rw [e9]; decide)], by rw [if_neg (by rw [e9]; decide), e9]⟩) | (have e9 : mr_sok M.1 x y z = 3 := (by rw [mr_sok, if_neg z32, if_neg z7, if_neg z17, if_pos z53]); exact ⟨by rw [if_neg (by rw [e9]; decide)], by rw [if_neg (by rw [e9]; decide), e9]⟩) | (have e9 : mr_sok M.1 x y z = 0 := (by rw [mr_sok, if_neg z32, if_neg z7, if_neg z17, if_neg z53]); exact ⟨by rw [if_pos e9]; rfl, by rw [if_pos e9]; first | done | rfl⟩))
    · refine r_iconst (v := 1) C dX5_source_35 rfl ?_
      refine r_goto (tgt := 61) C dX5_source_36 (by decide) ?_
      refine r_callV1I C 5 (by decide) rfl (mm_ct5 ad q _) (kX5_goes hAD) (cwV 1 C.1.2.2.2.2 gX5_source_X5_goes rfl rfl rfl (by decide +kernel) ⟨Nat.le_of_ble_eq_true rfl, Nat.le_of_ble_eq_true rfl⟩) (Nat.le_of_ble_eq_true rfl) dX5_source_61 ⟨rfl, rfl⟩ ⟨Nat.zero_le _, Nat.zero_le _⟩ ?_
      refine r_topc (y := 0) (by decide) ?_
      refine r_if_neF (tgt := 69) C dX5_source_64 (by decide) (by decide) ?_
      refine r_iconst (v := 0) C dX5_source_67 rfl ?_
      exact r_iret C hret hlk9 dX5_source_68 (by first | (have e9 : mr_sok M.1 x y z = 1 := (by rw [mr_sok, if_pos z32]); exact ⟨by rw [if_neg (by rw [e9]; decide)], by rw [if_neg (by rw [e9]; decide), e9]⟩) | (have e9 : mr_sok M.1 x y z = 2 := (by rw [mr_sok, if_neg z32, if_pos z7]); exact ⟨by rw [if_neg (by rw [e9]; decide)], by rw [if_neg (by rw [e9]; decide), e9]⟩) | (have e9 : mr_sok M.1 x y z = 2 := (by rw [mr_sok, if_neg z32, if_neg z7, if_pos z17]); exact ⟨by rw [if_neg (by rw [e9]; decide)], by rw [if_neg (by rw [e9]; decide), e9]⟩) | (have e9 : mr_sok M.1 x y z = 3 := (by rw [mr_sok, if_neg z32, if_neg z7, if_neg z17, if_pos z53]); exact ⟨by rw [if_neg (by rw [e9]; decide)], by rw [if_neg (by rw [e9]; decide), e9]⟩) | (have e9 : mr_sok M.1 x y z = 0 := (by rw [mr_sok, if_neg z32, if_neg z7, if_neg z17, if_neg z53]); exact ⟨by rw [if_pos e9]; rfl, by rw [if_pos e9]; first | done | rfl⟩))
  · refine r_iload_n C dX5_source_10 rfl 3 rfl ?_
    refine r_iconst (v := 2) C dX5_source_11 rfl ?_
    refine r_bipush (v := (16)) C dX5_source_12 rfl ?_
    refine r_callS3I C (kX5_isIn hAD) (va_cwS 3 C.1.2.2.2.2 gX5_source_X5_isIn rfl rfl rfl (by decide +kernel) ⟨Nat.le_of_ble_eq_true rfl, Nat.le_of_ble_eq_true rfl⟩) (Nat.le_of_ble_eq_true rfl) dX5_source_14 ⟨rfl, rfl⟩ ⟨Nat.zero_le _, Nat.zero_le _⟩ ?_
    refine r_if_eq (tgt := 24) C dX5_source_17 (by decide) (fun z17 => ?_) (fun z17 => ?_)
    · refine r_iconst (v := 0) C dX5_source_24 rfl ?_
      refine r_istore (lv' := [(4, .int 0), (0, .ref (ad 50)), (1, .int x), (2, .int y), (3, .int z)]) C dX5_source_25 (by decide) rfl ?_
      refine r_aload_n C dX5_source_27 rfl 1 rfl ?_
      refine r_iload_n C dX5_source_28 rfl 2 rfl ?_
      refine r_callS1I C (kX5_isBearing hAD) (va_cwS 1 C.1.2.2.2.2 gX5_source_X5_isBearing rfl rfl rfl (by decide +kernel) ⟨Nat.le_of_ble_eq_true rfl, Nat.le_of_ble_eq_true rfl⟩) (Nat.le_of_ble_eq_true rfl) dX5_source_29 ⟨rfl, rfl⟩ ⟨Nat.zero_le _, Nat.zero_le _⟩ ?_
      refine r_if_ne (tgt := 39) C dX5_source_32 (by decide) (fun z32 => ?_) (fun z32 => ?_)
      · refine r_iload C dX5_source_39 0 rfl ?_
        refine r_if_neF (tgt := 48) C dX5_source_41 (by decide) (by decide) ?_
        refine r_iconst (v := 2) C dX5_source_44 rfl ?_
        refine r_goto (tgt := 61) C dX5_source_45 (by decide) ?_
        refine r_callV1I C 5 (by decide) rfl (mm_ct5 ad q _) (kX5_goes hAD) (cwV 1 C.1.2.2.2.2 gX5_source_X5_goes rfl rfl rfl (by decide +kernel) ⟨Nat.le_of_ble_eq_true rfl, Nat.le_of_ble_eq_true rfl⟩) (Nat.le_of_ble_eq_true rfl) dX5_source_61 ⟨rfl, rfl⟩ ⟨Nat.zero_le _, Nat.zero_le _⟩ ?_
        refine r_topc (y := 0) (by decide) ?_
        refine r_if_neF (tgt := 69) C dX5_source_64 (by decide) (by decide) ?_
        refine r_iconst (v := 0) C dX5_source_67 rfl ?_
        exact r_iret C hret hlk9 dX5_source_68 (by first | (have e9 : mr_sok M.1 x y z = 1 := (by rw [mr_sok, if_pos z32]); exact ⟨by rw [if_neg (by rw [e9]; decide)], by rw [if_neg (by rw [e9]; decide), e9]⟩) | (have e9 : mr_sok M.1 x y z = 2 := (by rw [mr_sok, if_neg z32, if_pos z7]); exact ⟨by rw [if_neg (by rw [e9]; decide)], by rw [if_neg (by rw [e9]; decide), e9]⟩) | (have e9 : mr_sok M.1 x y z = 2 := (by rw [mr_sok, if_neg z32, if_neg z7, if_pos z17]); exact ⟨by rw [if_neg (by rw [e9]; decide)], by rw [if_neg (by rw [e9]; decide), e9]⟩) | (have e9 : mr_sok M.1 x y z = 3 := (by rw [mr_sok, if_neg z32, if_neg z7, if_neg z17, if_pos z53]); exact ⟨by rw [if_neg (by rw [e9]; decide)], by rw [if_neg (by rw [e9]; decide), e9]⟩) | (have e9 : mr_sok M.1 x y z = 0 := (by rw [mr_sok, if_neg z32, if_neg z7, if_neg z17, if_neg z53]); exact ⟨by rw [if_pos e9]; rfl, by rw [if_pos e9]; first | done | rfl⟩))
      · refine r_iconst (v := 1) C dX5_source_35 rfl ?_
        refine r_goto (tgt := 61) C dX5_source_36 (by decide) ?_
        refine r_callV1I C 5 (by decide) rfl (mm_ct5 ad q _) (kX5_goes hAD) (cwV 1 C.1.2.2.2.2 gX5_source_X5_goes rfl rfl rfl (by decide +kernel) ⟨Nat.le_of_ble_eq_true rfl, Nat.le_of_ble_eq_true rfl⟩) (Nat.le_of_ble_eq_true rfl) dX5_source_61 ⟨rfl, rfl⟩ ⟨Nat.zero_le _, Nat.zero_le _⟩ ?_
        refine r_topc (y := 0) (by decide) ?_
        refine r_if_neF (tgt := 69) C dX5_source_64 (by decide) (by decide) ?_
        refine r_iconst (v := 0) C dX5_source_67 rfl ?_
        exact r_iret C hret hlk9 dX5_source_68 (by first | (have e9 : mr_sok M.1 x y z = 1 := (by rw [mr_sok, if_pos z32]); exact ⟨by rw [if_neg (by rw [e9]; decide)], by rw [if_neg (by rw [e9]; decide), e9]⟩) | (have e9 : mr_sok M.1 x y z = 2 := (by rw [mr_sok, if_neg z32, if_pos z7]); exact ⟨by rw [if_neg (by rw [e9]; decide)], by rw [if_neg (by rw [e9]; decide), e9]⟩) | (have e9 : mr_sok M.1 x y z = 2 := (by rw [mr_sok, if_neg z32, if_neg z7, if_pos z17]); exact ⟨by rw [if_neg (by rw [e9]; decide)], by rw [if_neg (by rw [e9]; decide), e9]⟩) | (have e9 : mr_sok M.1 x y z = 3 := (by rw [mr_sok, if_neg z32, if_neg z7, if_neg z17, if_pos z53]); exact ⟨by rw [if_neg (by rw [e9]; decide)], by rw [if_neg (by rw [e9]; decide), e9]⟩) | (have e9 : mr_sok M.1 x y z = 0 := (by rw [mr_sok, if_neg z32, if_neg z7, if_neg z17, if_neg z53]); exact ⟨by rw [if_pos e9]; rfl, by rw [if_pos e9]; first | done | rfl⟩))
    · refine r_iconst (v := 1) C dX5_source_20 rfl ?_
      refine r_goto (tgt := 25) C dX5_source_21 (by decide) ?_
      refine r_istore (lv' := [(4, .int 1), (0, .ref (ad 50)), (1, .int x), (2, .int y), (3, .int z)]) C dX5_source_25 (by decide) rfl ?_
      refine r_aload_n C dX5_source_27 rfl 1 rfl ?_
      refine r_iload_n C dX5_source_28 rfl 2 rfl ?_
      refine r_callS1I C (kX5_isBearing hAD) (va_cwS 1 C.1.2.2.2.2 gX5_source_X5_isBearing rfl rfl rfl (by decide +kernel) ⟨Nat.le_of_ble_eq_true rfl, Nat.le_of_ble_eq_true rfl⟩) (Nat.le_of_ble_eq_true rfl) dX5_source_29 ⟨rfl, rfl⟩ ⟨Nat.zero_le _, Nat.zero_le _⟩ ?_
      refine r_if_ne (tgt := 39) C dX5_source_32 (by decide) (fun z32 => ?_) (fun z32 => ?_)
      · refine r_iload C dX5_source_39 0 rfl ?_
        refine r_if_neT (tgt := 48) C dX5_source_41 (by decide) (by decide) ?_
        refine r_aload_n C dX5_source_48 rfl 1 rfl ?_
        refine r_get5 C inX5 9 (by decide) rfl f87 rfl dX5_source_49 ?_
        refine r_iconst (v := 4) C dX5_source_52 rfl ?_
        refine r_icmp_ne (tgt := 60) C dX5_source_53 (by decide) (fun z53 => ?_) (fun z53 => ?_)
        · refine r_iconst (v := 0) C dX5_source_60 rfl ?_
          refine r_callV1I C 5 (by decide) rfl (mm_ct5 ad q _) (kX5_goes hAD) (cwV 1 C.1.2.2.2.2 gX5_source_X5_goes rfl rfl rfl (by decide +kernel) ⟨Nat.le_of_ble_eq_true rfl, Nat.le_of_ble_eq_true rfl⟩) (Nat.le_of_ble_eq_true rfl) dX5_source_61 ⟨rfl, rfl⟩ ⟨Nat.zero_le _, Nat.zero_le _⟩ ?_
          refine r_topc (y := 1) (by decide) ?_
          refine r_if_neT (tgt := 69) C dX5_source_64 (by decide) (by decide) ?_
          refine r_aload_n C dX5_source_69 rfl 1 rfl ?_
          refine r_get5 C inX5 10 (by decide) rfl f32 rfl dX5_source_70 ?_
          refine r_aload_n C dX5_source_73 rfl 1 rfl ?_
          refine r_get5 C inX5 9 (by decide) rfl f87 rfl dX5_source_74 ?_
          refine r_iload_n C dX5_source_77 rfl 2 rfl ?_
          refine r_iast C mm_aI_58 (S) (nm_hx hS (by omega)) (nm_n4 hS hS4 z53) dX5_source_78 ?_
          refine r_aload_n C dX5_source_79 rfl 1 rfl ?_
          refine r_get5 C inX5 11 (by decide) rfl f35 rfl dX5_source_80 ?_
          refine r_aload_n C dX5_source_83 rfl 1 rfl ?_
          refine r_get5 C inX5 9 (by decide) rfl f87 rfl dX5_source_84 ?_
          refine r_iload_n C dX5_source_87 rfl 3 rfl ?_
          refine r_iast C mm_aI_59 (S) (nm_hx hS (by omega)) (nm_n4 hS hS4 z53) dX5_source_88 ?_
          refine r_aload_n C dX5_source_89 rfl 1 rfl ?_
          refine r_get5 C inX5 12 (by decide) rfl f38 rfl dX5_source_90 ?_
          refine r_aload_n C dX5_source_93 rfl 1 rfl ?_
          refine r_get5 C inX5 9 (by decide) rfl f87 rfl dX5_source_94 ?_
          refine r_iload_n C dX5_source_97 rfl 4 rfl ?_
          refine r_iast C mm_aI_60 (S) (nm_hx hS (by omega)) (nm_n4 hS hS4 z53) dX5_source_98 ?_
          refine r_aload_n C dX5_source_99 rfl 1 rfl ?_
          refine r_dup C dX5_source_100 rfl ?_
          refine r_get5 C inX5 9 (by decide) rfl f87 rfl dX5_source_101 ?_
          refine r_iconst (v := 1) C dX5_source_104 rfl ?_
          refine r_iadd C dX5_source_105 ?_
          refine r_put5 C inX5 (ty := .int) 9 (by decide) mm_set5_9 f87 rfl rfl (by decide +kernel) rfl rfl dX5_source_106 ?_
          refine r_aload_n C dX5_source_109 rfl 1 rfl ?_
          refine r_get5 C inX5 9 (by decide) rfl f87 rfl dX5_source_110 ?_
          refine r_iconst (v := 1) C dX5_source_113 rfl ?_
          refine r_isub C dX5_source_114 ?_
          exact r_iret C hret hlk9 dX5_source_115 (by first | (have e9 : mr_sok M.1 x y z = 0 := (by rw [mr_sok, if_neg z32, if_neg z7, if_neg z17, if_neg z53]); exact ⟨by rw [if_pos e9]; rfl, by rw [if_pos e9]; first | done | rfl⟩))
        · refine r_iconst (v := 3) C dX5_source_56 rfl ?_
          refine r_goto (tgt := 61) C dX5_source_57 (by decide) ?_
          refine r_callV1I C 5 (by decide) rfl (mm_ct5 ad q _) (kX5_goes hAD) (cwV 1 C.1.2.2.2.2 gX5_source_X5_goes rfl rfl rfl (by decide +kernel) ⟨Nat.le_of_ble_eq_true rfl, Nat.le_of_ble_eq_true rfl⟩) (Nat.le_of_ble_eq_true rfl) dX5_source_61 ⟨rfl, rfl⟩ ⟨Nat.zero_le _, Nat.zero_le _⟩ ?_
          refine r_topc (y := 0) (by decide) ?_
          refine r_if_neF (tgt := 69) C dX5_source_64 (by decide) (by decide) ?_
          refine r_iconst (v := 0) C dX5_source_67 rfl ?_
          exact r_iret C hret hlk9 dX5_source_68 (by first | (have e9 : mr_sok M.1 x y z = 1 := (by rw [mr_sok, if_pos z32]); exact ⟨by rw [if_neg (by rw [e9]; decide)], by rw [if_neg (by rw [e9]; decide), e9]⟩) | (have e9 : mr_sok M.1 x y z = 2 := (by rw [mr_sok, if_neg z32, if_pos z7]); exact ⟨by rw [if_neg (by rw [e9]; decide)], by rw [if_neg (by rw [e9]; decide), e9]⟩) | (have e9 : mr_sok M.1 x y z = 2 := (by rw [mr_sok, if_neg z32, if_neg z7, if_pos z17]); exact ⟨by rw [if_neg (by rw [e9]; decide)], by rw [if_neg (by rw [e9]; decide), e9]⟩) | (have e9 : mr_sok M.1 x y z = 3 := (by rw [mr_sok, if_neg z32, if_neg z7, if_neg z17, if_pos z53]); exact ⟨by rw [if_neg (by rw [e9]; decide)], by rw [if_neg (by rw [e9]; decide), e9]⟩) | (have e9 : mr_sok M.1 x y z = 0 := (by rw [mr_sok, if_neg z32, if_neg z7, if_neg z17, if_neg z53]); exact ⟨by rw [if_pos e9]; rfl, by rw [if_pos e9]; first | done | rfl⟩))
      · refine r_iconst (v := 1) C dX5_source_35 rfl ?_
        refine r_goto (tgt := 61) C dX5_source_36 (by decide) ?_
        refine r_callV1I C 5 (by decide) rfl (mm_ct5 ad q _) (kX5_goes hAD) (cwV 1 C.1.2.2.2.2 gX5_source_X5_goes rfl rfl rfl (by decide +kernel) ⟨Nat.le_of_ble_eq_true rfl, Nat.le_of_ble_eq_true rfl⟩) (Nat.le_of_ble_eq_true rfl) dX5_source_61 ⟨rfl, rfl⟩ ⟨Nat.zero_le _, Nat.zero_le _⟩ ?_
        refine r_topc (y := 0) (by decide) ?_
        refine r_if_neF (tgt := 69) C dX5_source_64 (by decide) (by decide) ?_
        refine r_iconst (v := 0) C dX5_source_67 rfl ?_
        exact r_iret C hret hlk9 dX5_source_68 (by first | (have e9 : mr_sok M.1 x y z = 1 := (by rw [mr_sok, if_pos z32]); exact ⟨by rw [if_neg (by rw [e9]; decide)], by rw [if_neg (by rw [e9]; decide), e9]⟩) | (have e9 : mr_sok M.1 x y z = 2 := (by rw [mr_sok, if_neg z32, if_pos z7]); exact ⟨by rw [if_neg (by rw [e9]; decide)], by rw [if_neg (by rw [e9]; decide), e9]⟩) | (have e9 : mr_sok M.1 x y z = 2 := (by rw [mr_sok, if_neg z32, if_neg z7, if_pos z17]); exact ⟨by rw [if_neg (by rw [e9]; decide)], by rw [if_neg (by rw [e9]; decide), e9]⟩) | (have e9 : mr_sok M.1 x y z = 3 := (by rw [mr_sok, if_neg z32, if_neg z7, if_neg z17, if_pos z53]); exact ⟨by rw [if_neg (by rw [e9]; decide)], by rw [if_neg (by rw [e9]; decide), e9]⟩) | (have e9 : mr_sok M.1 x y z = 0 := (by rw [mr_sok, if_neg z32, if_neg z7, if_neg z17, if_neg z53]); exact ⟨by rw [if_pos e9]; rfl, by rw [if_pos e9]; first | done | rfl⟩))

def mr_nok (x y : Int32) : Int32 := if nm_in x 0 50 = 0 then 1 else if nm_in y 1 65536 = 0 then 1 else 0
abbrev rmX5_noise : Room := { frames := 1, cells := 0, slots := 0, locals := 22 }
set_option maxHeartbeats 400000 in
set_option maxRecDepth 100000 in
theorem kX5_noise {l : Launch} {D : va_G} {ad : Nat → Nat} {q : Nat → ClassId} {A : Nat → Prop} (hAD : mm_AD ad A) {M : mm_M} {x y : Int32} : mm_Kd l D ad q A yX5_noise wsX5_noise rmX5_noise [.ref (ad 50), .int x, .int y] M (some (.int (if mr_nok x y = 0 then M.1 50 13 else 0))) (if mr_nok x y = 0 then mm_sI (mm_sI (mm_sI M 50 20 0) 50 13 x) 50 14 y else mm_sI M 50 20 1) := by
  have inX5 : ∀ w ∈ wsX50, w ∈ wsX5_noise := by decide +kernel
  have f54 : Cond.fieldLink RX5 54 "BeamrowModel" "number" "I" ∈ wsX5_noise := by decide +kernel
  have f91 : Cond.fieldLink RX5 91 "BeamrowModel" "loudness" "I" ∈ wsX5_noise := by decide +kernel
  have n90 : Cond.constant RX5 90 (65536) ∈ wsX5_noise := by decide +kernel
  refine mm_of (cc := cX5_noise) (maxL := 4) (ret := some .int) (own := RX5) rfl hAD (plainFor_of_name (by decide)) rfl (Nat.le_of_ble_eq_true rfl) ⟨rfl, rfl⟩ ?_
  intro pp ee ss mm bl mth cd C hret hlk9
  show mm_G _ _ _ _ _ _ _ _ _ _ _ _ _ _ _ _ _ _ M 0 [(0, .ref (ad 50)), (1, .int x), (2, .int y)] []
  refine r_aload_n C dX5_noise_0 rfl 0 rfl ?_
  refine r_iload_n C dX5_noise_1 rfl 1 rfl ?_
  refine r_iconst (v := 0) C dX5_noise_2 rfl ?_
  refine r_bipush (v := (50)) C dX5_noise_3 rfl ?_
  refine r_callS3I C (kX5_isIn hAD) (va_cwS 3 C.1.2.2.2.2 gX5_noise_X5_isIn rfl rfl rfl (by decide +kernel) ⟨Nat.le_of_ble_eq_true rfl, Nat.le_of_ble_eq_true rfl⟩) (Nat.le_of_ble_eq_true rfl) dX5_noise_5 ⟨rfl, rfl⟩ ⟨Nat.zero_le _, Nat.zero_le _⟩ ?_
  refine r_if_eq (tgt := 25) C dX5_noise_8 (by decide) (fun z8 => ?_) (fun z8 => ?_)
  · refine r_iconst (v := 1) C dX5_noise_25 rfl ?_
    refine r_callV1I C 5 (by decide) rfl (mm_ct5 ad q _) (kX5_goes hAD) (cwV 1 C.1.2.2.2.2 gX5_noise_X5_goes rfl rfl rfl (by decide +kernel) ⟨Nat.le_of_ble_eq_true rfl, Nat.le_of_ble_eq_true rfl⟩) (Nat.le_of_ble_eq_true rfl) dX5_noise_26 ⟨rfl, rfl⟩ ⟨Nat.zero_le _, Nat.zero_le _⟩ ?_
    refine r_topc (y := 0) (by decide) ?_
    refine r_if_neF (tgt := 34) C dX5_noise_29 (by decide) (by decide) ?_
    refine r_iconst (v := 0) C dX5_noise_32 rfl ?_
    exact r_iret C hret hlk9 dX5_noise_33 (by first | (have e9 : mr_nok x y = 1 := (by rw [mr_nok, if_pos z8]); exact ⟨by rw [if_neg (by rw [e9]; decide)], by rw [if_neg (by rw [e9]; decide)]⟩) | (have e9 : mr_nok x y = 1 := (by rw [mr_nok, if_neg z8, if_pos z18]); exact ⟨by rw [if_neg (by rw [e9]; decide)], by rw [if_neg (by rw [e9]; decide)]⟩) | (have e9 : mr_nok x y = 0 := (by rw [mr_nok, if_neg z8, if_neg z18]); exact ⟨by rw [if_pos e9]; rfl, by rw [if_pos e9]; first | done | rfl⟩))
  · refine r_iload_n C dX5_noise_11 rfl 2 rfl ?_
    refine r_iconst (v := 1) C dX5_noise_12 rfl ?_
    refine r_ldc C n90 dX5_noise_13 ?_
    refine r_callS3I C (kX5_isIn hAD) (va_cwS 3 C.1.2.2.2.2 gX5_noise_X5_isIn rfl rfl rfl (by decide +kernel) ⟨Nat.le_of_ble_eq_true rfl, Nat.le_of_ble_eq_true rfl⟩) (Nat.le_of_ble_eq_true rfl) dX5_noise_15 ⟨rfl, rfl⟩ ⟨Nat.zero_le _, Nat.zero_le _⟩ ?_
    refine r_if_eq (tgt := 25) C dX5_noise_18 (by decide) (fun z18 => ?_) (fun z18 => ?_)
    · refine r_iconst (v := 1) C dX5_noise_25 rfl ?_
      refine r_callV1I C 5 (by decide) rfl (mm_ct5 ad q _) (kX5_goes hAD) (cwV 1 C.1.2.2.2.2 gX5_noise_X5_goes rfl rfl rfl (by decide +kernel) ⟨Nat.le_of_ble_eq_true rfl, Nat.le_of_ble_eq_true rfl⟩) (Nat.le_of_ble_eq_true rfl) dX5_noise_26 ⟨rfl, rfl⟩ ⟨Nat.zero_le _, Nat.zero_le _⟩ ?_
      refine r_topc (y := 0) (by decide) ?_
      refine r_if_neF (tgt := 34) C dX5_noise_29 (by decide) (by decide) ?_
      refine r_iconst (v := 0) C dX5_noise_32 rfl ?_
      exact r_iret C hret hlk9 dX5_noise_33 (by first | (have e9 : mr_nok x y = 1 := (by rw [mr_nok, if_pos z8]); exact ⟨by rw [if_neg (by rw [e9]; decide)], by rw [if_neg (by rw [e9]; decide)]⟩) | (have e9 : mr_nok x y = 1 := (by rw [mr_nok, if_neg z8, if_pos z18]); exact ⟨by rw [if_neg (by rw [e9]; decide)], by rw [if_neg (by rw [e9]; decide)]⟩) | (have e9 : mr_nok x y = 0 := (by rw [mr_nok, if_neg z8, if_neg z18]); exact ⟨by rw [if_pos e9]; rfl, by rw [if_pos e9]; first | done | rfl⟩))
    · refine r_iconst (v := 0) C dX5_noise_21 rfl ?_
      refine r_goto (tgt := 26) C dX5_noise_22 (by decide) ?_
      refine r_callV1I C 5 (by decide) rfl (mm_ct5 ad q _) (kX5_goes hAD) (cwV 1 C.1.2.2.2.2 gX5_noise_X5_goes rfl rfl rfl (by decide +kernel) ⟨Nat.le_of_ble_eq_true rfl, Nat.le_of_ble_eq_true rfl⟩) (Nat.le_of_ble_eq_true rfl) dX5_noise_26 ⟨rfl, rfl⟩ ⟨Nat.zero_le _, Nat.zero_le _⟩ ?_
      refine r_topc (y := 1) (by decide) ?_
      refine r_if_neT (tgt := 34) C dX5_noise_29 (by decide) (by decide) ?_
      refine r_aload_n C dX5_noise_34 rfl 0 rfl ?_
      refine r_get5 C inX5 13 (by decide) rfl f91 rfl dX5_noise_35 ?_
      refine r_topi (fun v3_38 ev3_38 => ?_)
      refine r_istore_n (lv' := [(3, .int v3_38), (0, .ref (ad 50)), (1, .int x), (2, .int y)]) C dX5_noise_38 rfl (by decide) rfl ?_
      refine r_aload_n C dX5_noise_39 rfl 1 rfl ?_
      refine r_iload_n C dX5_noise_40 rfl 2 rfl ?_
      refine r_put5 C inX5 (ty := .int) 13 (by decide) mm_set5_13 f91 rfl rfl (by decide +kernel) rfl rfl dX5_noise_41 ?_
      refine r_aload_n C dX5_noise_44 rfl 1 rfl ?_
      refine r_iload_n C dX5_noise_45 rfl 3 rfl ?_
      refine r_put5 C inX5 (ty := .int) 14 (by decide) mm_set5_14 f54 rfl rfl (by decide +kernel) rfl rfl dX5_noise_46 ?_
      refine r_iload_n C dX5_noise_49 rfl 0 rfl ?_
      exact r_iret C hret hlk9 dX5_noise_50 (by first | (have e9 : mr_nok x y = 0 := (by rw [mr_nok, if_neg z8, if_neg z18]); exact ⟨by rw [if_pos e9]; rw [ev3_38]; rfl, by rw [if_pos e9]; first | done | rfl⟩))

def mr_smk (F : mm_F) (x y : Int32) : Int32 := if nm_in x 0 (F 50 1 - 1) = 0 then 1 else if nm_in y 0 63 = 0 then 1 else 0
abbrev rmX5_sample : Room := { frames := 3, cells := 0, slots := 0, locals := 67 }
set_option maxHeartbeats 400000 in
set_option maxRecDepth 100000 in
theorem kX5_sample {l : Launch} {D : va_G} {ad : Nat → Nat} {q : Nat → ClassId} {A : Nat → Prop} (hAD : mm_AD ad A) {N : Nat} {M : mm_M} (hN : M.1 50 1 = nI N) (hN8 : N ≤ 8) {x y : Int32} : mm_Kd l D ad q A yX5_sample wsX5_sample rmX5_sample [.ref (ad 50), .int x, .int y] M (some (.int (if mr_smk M.1 x y = 0 then mr_kept M.1 61 x.toInt.toNat (M.1 50 0 - 1 - y) else 0))) (mm_sI M 50 20 (mr_smk M.1 x y)) := by
  have inX5 : ∀ w ∈ wsX50, w ∈ wsX5_sample := by decide +kernel
  have f41 : Cond.fieldLink RX5 41 "BeamrowModel" "samples" "[I" ∈ wsX5_sample := by decide +kernel
  have f78 : Cond.fieldLink RX5 78 "BeamrowModel" "next" "I" ∈ wsX5_sample := by decide +kernel
  refine mm_of (cc := cX5_sample) (maxL := 4) (ret := some .int) (own := RX5) rfl hAD (plainFor_of_name (by decide)) rfl (Nat.le_of_ble_eq_true rfl) ⟨rfl, rfl⟩ ?_
  intro pp ee ss mm bl mth cd C hret hlk9
  show mm_G _ _ _ _ _ _ _ _ _ _ _ _ _ _ _ _ _ _ M 0 [(0, .ref (ad 50)), (1, .int x), (2, .int y)] []
  refine r_aload_n C dX5_sample_0 rfl 0 rfl ?_
  refine r_iload_n C dX5_sample_1 rfl 1 rfl ?_
  refine r_callV1I C 5 (by decide) rfl (mm_ct5 ad q _) (kX5_isElement hAD) (cwV 1 C.1.2.2.2.2 gX5_sample_X5_isElement rfl rfl rfl (by decide +kernel) ⟨Nat.le_of_ble_eq_true rfl, Nat.le_of_ble_eq_true rfl⟩) (Nat.le_of_ble_eq_true rfl) dX5_sample_2 ⟨rfl, rfl⟩ ⟨Nat.zero_le _, Nat.zero_le _⟩ ?_
  refine r_if_eq (tgt := 22) C dX5_sample_5 (by decide) (fun z5 => ?_) (fun z5 => ?_)
  · refine r_iconst (v := 0) C dX5_sample_22 rfl ?_
    refine r_istore_n (lv' := [(3, .int 0), (0, .ref (ad 50)), (1, .int x), (2, .int y)]) C dX5_sample_23 rfl (by decide) rfl ?_
    refine r_aload_n C dX5_sample_24 rfl 1 rfl ?_
    refine r_iload_n C dX5_sample_25 rfl 0 rfl ?_
    refine r_if_eqT (tgt := 33) C dX5_sample_26 (by decide) (by decide) ?_
    refine r_iconst (v := 1) C dX5_sample_33 rfl ?_
    refine r_callV1I C 5 (by decide) rfl (mm_ct5 ad q _) (kX5_goes hAD) (cwV 1 C.1.2.2.2.2 gX5_sample_X5_goes rfl rfl rfl (by decide +kernel) ⟨Nat.le_of_ble_eq_true rfl, Nat.le_of_ble_eq_true rfl⟩) (Nat.le_of_ble_eq_true rfl) dX5_sample_34 ⟨rfl, rfl⟩ ⟨Nat.zero_le _, Nat.zero_le _⟩ ?_
    refine r_topc (y := 0) (by decide) ?_
    refine r_if_eqT (tgt := 60) C dX5_sample_37 (by decide) (by decide) ?_
    refine r_iconst (v := 0) C dX5_sample_60 rfl ?_
    exact r_iret C hret hlk9 dX5_sample_61 (by first | (have e9 : mr_smk M.1 x y = 1 := (by rw [mr_smk, if_pos z5]); exact ⟨by rw [if_neg (by rw [e9]; decide)], by rw [e9]⟩) | (have e9 : mr_smk M.1 x y = 1 := (by rw [mr_smk, if_neg z5, if_pos z15]); exact ⟨by rw [if_neg (by rw [e9]; decide)], by rw [e9]⟩) | (have e9 : mr_smk M.1 x y = 0 := (by rw [mr_smk, if_neg z5, if_neg z15]); exact ⟨by rw [if_pos e9]; rfl, by rw [e9]⟩))
  · have hxe := nm_inE (by rw [← hN]; exact z5) hN8
    refine r_iload_n C dX5_sample_8 rfl 2 rfl ?_
    refine r_iconst (v := 0) C dX5_sample_9 rfl ?_
    refine r_bipush (v := (63)) C dX5_sample_10 rfl ?_
    refine r_callS3I C (kX5_isIn hAD) (va_cwS 3 C.1.2.2.2.2 gX5_sample_X5_isIn rfl rfl rfl (by decide +kernel) ⟨Nat.le_of_ble_eq_true rfl, Nat.le_of_ble_eq_true rfl⟩) (Nat.le_of_ble_eq_true rfl) dX5_sample_12 ⟨rfl, rfl⟩ ⟨Nat.zero_le _, Nat.zero_le _⟩ ?_
    refine r_if_eq (tgt := 22) C dX5_sample_15 (by decide) (fun z15 => ?_) (fun z15 => ?_)
    · refine r_iconst (v := 0) C dX5_sample_22 rfl ?_
      refine r_istore_n (lv' := [(3, .int 0), (0, .ref (ad 50)), (1, .int x), (2, .int y)]) C dX5_sample_23 rfl (by decide) rfl ?_
      refine r_aload_n C dX5_sample_24 rfl 1 rfl ?_
      refine r_iload_n C dX5_sample_25 rfl 0 rfl ?_
      refine r_if_eqT (tgt := 33) C dX5_sample_26 (by decide) (by decide) ?_
      refine r_iconst (v := 1) C dX5_sample_33 rfl ?_
      refine r_callV1I C 5 (by decide) rfl (mm_ct5 ad q _) (kX5_goes hAD) (cwV 1 C.1.2.2.2.2 gX5_sample_X5_goes rfl rfl rfl (by decide +kernel) ⟨Nat.le_of_ble_eq_true rfl, Nat.le_of_ble_eq_true rfl⟩) (Nat.le_of_ble_eq_true rfl) dX5_sample_34 ⟨rfl, rfl⟩ ⟨Nat.zero_le _, Nat.zero_le _⟩ ?_
      refine r_topc (y := 0) (by decide) ?_
      refine r_if_eqT (tgt := 60) C dX5_sample_37 (by decide) (by decide) ?_
      refine r_iconst (v := 0) C dX5_sample_60 rfl ?_
      exact r_iret C hret hlk9 dX5_sample_61 (by first | (have e9 : mr_smk M.1 x y = 1 := (by rw [mr_smk, if_pos z5]); exact ⟨by rw [if_neg (by rw [e9]; decide)], by rw [e9]⟩) | (have e9 : mr_smk M.1 x y = 1 := (by rw [mr_smk, if_neg z5, if_pos z15]); exact ⟨by rw [if_neg (by rw [e9]; decide)], by rw [e9]⟩) | (have e9 : mr_smk M.1 x y = 0 := (by rw [mr_smk, if_neg z5, if_neg z15]); exact ⟨by rw [if_pos e9]; rfl, by rw [e9]⟩))
    · refine r_iconst (v := 1) C dX5_sample_18 rfl ?_
      refine r_goto (tgt := 23) C dX5_sample_19 (by decide) ?_
      refine r_istore_n (lv' := [(3, .int 1), (0, .ref (ad 50)), (1, .int x), (2, .int y)]) C dX5_sample_23 rfl (by decide) rfl ?_
      refine r_aload_n C dX5_sample_24 rfl 1 rfl ?_
      refine r_iload_n C dX5_sample_25 rfl 0 rfl ?_
      refine r_if_eqF (tgt := 33) C dX5_sample_26 (by decide) (by decide) ?_
      refine r_iconst (v := 0) C dX5_sample_29 rfl ?_
      refine r_goto (tgt := 34) C dX5_sample_30 (by decide) ?_
      refine r_callV1I C 5 (by decide) rfl (mm_ct5 ad q _) (kX5_goes hAD) (cwV 1 C.1.2.2.2.2 gX5_sample_X5_goes rfl rfl rfl (by decide +kernel) ⟨Nat.le_of_ble_eq_true rfl, Nat.le_of_ble_eq_true rfl⟩) (Nat.le_of_ble_eq_true rfl) dX5_sample_34 ⟨rfl, rfl⟩ ⟨Nat.zero_le _, Nat.zero_le _⟩ ?_
      refine r_topc (y := 1) (by decide) ?_
      refine r_if_eqF (tgt := 60) C dX5_sample_37 (by decide) (by decide) ?_
      refine r_aload_n C dX5_sample_40 rfl 1 rfl ?_
      refine r_aload_n C dX5_sample_41 rfl 1 rfl ?_
      refine r_get5 C inX5 16 (by decide) rfl f41 rfl dX5_sample_42 ?_
      refine r_iload_n C dX5_sample_45 rfl 2 rfl ?_
      refine r_aload_n C dX5_sample_46 rfl 1 rfl ?_
      refine r_get5 C inX5 0 (by decide) rfl f78 rfl dX5_sample_47 ?_
      refine r_iconst (v := 1) C dX5_sample_50 rfl ?_
      refine r_isub C dX5_sample_51 ?_
      refine r_iload_n C dX5_sample_52 rfl 3 rfl ?_
      refine r_isub C dX5_sample_53 ?_
      refine r_callV3I C 5 (by decide) rfl (mm_ct5 ad q _) (kX5_kept hAD (by exact mm_aI_61) (x.toInt.toNat) (by exact hxe.1) (by omega)) (cwV 3 C.1.2.2.2.2 gX5_sample_X5_kept rfl rfl rfl (by decide +kernel) ⟨Nat.le_of_ble_eq_true rfl, Nat.le_of_ble_eq_true rfl⟩) (Nat.le_of_ble_eq_true rfl) dX5_sample_54 ⟨rfl, rfl⟩ ⟨Nat.zero_le _, Nat.zero_le _⟩ ?_
      refine r_goto (tgt := 61) C dX5_sample_57 (by decide) ?_
      exact r_iret C hret hlk9 dX5_sample_61 (by first | (have e9 : mr_smk M.1 x y = 1 := (by rw [mr_smk, if_pos z5]); exact ⟨by rw [if_neg (by rw [e9]; decide)], by rw [e9]⟩) | (have e9 : mr_smk M.1 x y = 1 := (by rw [mr_smk, if_neg z5, if_pos z15]); exact ⟨by rw [if_neg (by rw [e9]; decide)], by rw [e9]⟩) | (have e9 : mr_smk M.1 x y = 0 := (by rw [mr_smk, if_neg z5, if_neg z15]); exact ⟨by rw [if_pos e9]; rfl, by rw [e9]⟩))

abbrev rmX5_calibrated : Room := { frames := 2, cells := 0, slots := 0, locals := 43 }
set_option maxHeartbeats 400000 in
set_option maxRecDepth 100000 in
theorem kX5_calibrated {l : Launch} {D : va_G} {ad : Nat → Nat} {q : Nat → ClassId} {A : Nat → Prop} (hAD : mm_AD ad A) {N : Nat} {M : mm_M} (hN : M.1 50 1 = nI N) (hN8 : N ≤ 8) {x y : Int32} : mm_Kd l D ad q A yX5_calibrated wsX5_calibrated rmX5_calibrated [.ref (ad 50), .int x, .int y] M (some (.int (if nm_in x 0 (M.1 50 1 - 1) = 0 then 0 else if y = 0 then M.1 56 x.toInt.toNat else M.1 57 x.toInt.toNat))) (mm_sI M 50 20 (if nm_in x 0 (M.1 50 1 - 1) = 0 then 1 else 0)) := by
  have inX5 : ∀ w ∈ wsX50, w ∈ wsX5_calibrated := by decide +kernel
  have f26 : Cond.fieldLink RX5 26 "BeamrowModel" "byGain" "[I" ∈ wsX5_calibrated := by decide +kernel
  have f29 : Cond.fieldLink RX5 29 "BeamrowModel" "byLag" "[I" ∈ wsX5_calibrated := by decide +kernel
  refine mm_of (cc := cX5_calibrated) (maxL := 3) (ret := some .int) (own := RX5) rfl hAD (plainFor_of_name (by decide)) rfl (Nat.le_of_ble_eq_true rfl) ⟨rfl, rfl⟩ ?_
  intro pp ee ss mm bl mth cd C hret hlk9
  show mm_G _ _ _ _ _ _ _ _ _ _ _ _ _ _ _ _ _ _ M 0 [(0, .ref (ad 50)), (1, .int x), (2, .int y)] []
  refine r_aload_n C dX5_calibrated_0 rfl 0 rfl ?_
  refine r_aload_n C dX5_calibrated_1 rfl 0 rfl ?_
  refine r_iload_n C dX5_calibrated_2 rfl 1 rfl ?_
  refine r_callV1I C 5 (by decide) rfl (mm_ct5 ad q _) (kX5_isElement hAD) (cwV 1 C.1.2.2.2.2 gX5_calibrated_X5_isElement rfl rfl rfl (by decide +kernel) ⟨Nat.le_of_ble_eq_true rfl, Nat.le_of_ble_eq_true rfl⟩) (Nat.le_of_ble_eq_true rfl) dX5_calibrated_3 ⟨rfl, rfl⟩ ⟨Nat.zero_le _, Nat.zero_le _⟩ ?_
  refine r_if_eq (tgt := 13) C dX5_calibrated_6 (by decide) (fun z6 => ?_) (fun z6 => ?_)
  · refine r_iconst (v := 1) C dX5_calibrated_13 rfl ?_
    refine r_callV1I C 5 (by decide) rfl (mm_ct5 ad q _) (kX5_goes hAD) (cwV 1 C.1.2.2.2.2 gX5_calibrated_X5_goes rfl rfl rfl (by decide +kernel) ⟨Nat.le_of_ble_eq_true rfl, Nat.le_of_ble_eq_true rfl⟩) (Nat.le_of_ble_eq_true rfl) dX5_calibrated_14 ⟨rfl, rfl⟩ ⟨Nat.zero_le _, Nat.zero_le _⟩ ?_
    refine r_topc (y := 0) (by decide) ?_
    refine r_if_eqT (tgt := 42) C dX5_calibrated_17 (by decide) (by decide) ?_
    refine r_iconst (v := 0) C dX5_calibrated_42 rfl ?_
    exact r_iret C hret hlk9 dX5_calibrated_43 (by first | exact ⟨by rw [if_pos z6], by rw [if_pos z6]⟩ | exact ⟨by rw [if_neg z6, if_pos z21]; rfl, by rw [if_neg z6]⟩ | exact ⟨by rw [if_neg z6, if_neg z21]; rfl, by rw [if_neg z6]⟩)
  · have hxe := nm_inE (by rw [← hN]; exact z6) hN8
    refine r_iconst (v := 0) C dX5_calibrated_9 rfl ?_
    refine r_goto (tgt := 14) C dX5_calibrated_10 (by decide) ?_
    refine r_callV1I C 5 (by decide) rfl (mm_ct5 ad q _) (kX5_goes hAD) (cwV 1 C.1.2.2.2.2 gX5_calibrated_X5_goes rfl rfl rfl (by decide +kernel) ⟨Nat.le_of_ble_eq_true rfl, Nat.le_of_ble_eq_true rfl⟩) (Nat.le_of_ble_eq_true rfl) dX5_calibrated_14 ⟨rfl, rfl⟩ ⟨Nat.zero_le _, Nat.zero_le _⟩ ?_
    refine r_topc (y := 1) (by decide) ?_
    refine r_if_eqF (tgt := 42) C dX5_calibrated_17 (by decide) (by decide) ?_
    refine r_iload_n C dX5_calibrated_20 rfl 2 rfl ?_
    refine r_if_eq (tgt := 33) C dX5_calibrated_21 (by decide) (fun z21 => ?_) (fun z21 => ?_)
    · refine r_aload_n C dX5_calibrated_33 rfl 0 rfl ?_
      refine r_get5 C inX5 7 (by decide) rfl f26 rfl dX5_calibrated_34 ?_
      refine r_iload_n C dX5_calibrated_37 rfl 1 rfl ?_
      refine r_iald C mm_aI_56 (x.toInt.toNat) (hxe.1) (by omega) dX5_calibrated_38 ?_
      refine r_goto (tgt := 43) C dX5_calibrated_39 (by decide) ?_
      exact r_iret C hret hlk9 dX5_calibrated_43 (by first | exact ⟨by rw [if_pos z6], by rw [if_pos z6]⟩ | exact ⟨by rw [if_neg z6, if_pos z21]; rfl, by rw [if_neg z6]⟩ | exact ⟨by rw [if_neg z6, if_neg z21]; rfl, by rw [if_neg z6]⟩)
    · refine r_aload_n C dX5_calibrated_24 rfl 0 rfl ?_
      refine r_get5 C inX5 8 (by decide) rfl f29 rfl dX5_calibrated_25 ?_
      refine r_iload_n C dX5_calibrated_28 rfl 1 rfl ?_
      refine r_iald C mm_aI_57 (x.toInt.toNat) (hxe.1) (by omega) dX5_calibrated_29 ?_
      refine r_goto (tgt := 43) C dX5_calibrated_30 (by decide) ?_
      exact r_iret C hret hlk9 dX5_calibrated_43 (by first | exact ⟨by rw [if_pos z6], by rw [if_pos z6]⟩ | exact ⟨by rw [if_neg z6, if_pos z21]; rfl, by rw [if_neg z6]⟩ | exact ⟨by rw [if_neg z6, if_neg z21]; rfl, by rw [if_neg z6]⟩)

def mr_suk (x y : Int32) : Int32 := if nm_in x (-4) 4 = 0 then 1 else if nm_in y 16 47 = 0 then 1 else 0
def mr_eq (F F' : mm_F) : Prop := F 50 0 = F' 50 0 ∧ F 50 15 = F' 50 15 ∧ F 51 = F' 51 ∧ F 54 = F' 54 ∧ F 55 = F' 55 ∧ F 56 = F' 56 ∧ F 57 = F' 57
theorem mr_isK_c {F F' : mm_F} (h : mr_eq F F') {e : Nat} {t : Int32} : mr_isK F e t = mr_isK F' e t := by
  obtain ⟨h1, h2, h3, h4, h5, h6, h7⟩ := h
  unfold mr_isK; rw [h1, h4]
theorem mr_kept_c {F F' : mm_F} (h : mr_eq F F') {r e : Nat} {t : Int32} (hr : F r = F' r) : mr_kept F r e t = mr_kept F' r e t := by
  unfold mr_kept; rw [mr_isK_c h, hr]
theorem mr_ah_c {F F' : mm_F} (h : mr_eq F F') {x : Int32} : ∀ n, mr_ah F x n = mr_ah F' x n
  | 0 => rfl
  | n + 1 => by rw [mr_ah, mr_ah, mr_ah_c h n, h.2.2.2.2.1]
theorem mr_bh_c {F F' : mm_F} (h : mr_eq F F') {x : Int32} : ∀ n, mr_bh F x n = mr_bh F' x n
  | 0 => rfl
  | n + 1 => by rw [mr_bh, mr_bh, mr_bh_c h n, h.2.2.2.2.1]
theorem mr_w_c {F F' : mm_F} (h : mr_eq F F') {x : Int32} {e N : Nat} : mr_w F x e N = mr_w F' x e N := by
  unfold mr_w mr_least; rw [mr_ah_c h, mr_bh_c h, h.2.2.2.2.1, h.2.1]
theorem mr_delay_c {F F' : mm_F} (h : mr_eq F F') {e : Nat} {b : Int32} : mr_delay F e b = mr_delay F' e b := by
  unfold mr_delay; rw [h.2.2.1]
theorem mr_sumN_c {F F' : mm_F} (h : mr_eq F F') {N r : Nat} {b t : Int32} (hr : F r = F' r) : ∀ n, mr_sumN F N r b t n = mr_sumN F' N r b t n
  | 0 => rfl
  | n + 1 => by rw [mr_sumN, mr_sumN, mr_sumN_c h hr n, mr_w_c h, mr_delay_c h, mr_kept_c h hr, h.2.2.2.2.2.1, h.2.2.2.2.2.2]
theorem mr_powN_c {F F' : mm_F} (h : mr_eq F F') {N r : Nat} {b : Int32} (hr : F r = F' r) : ∀ n, mr_powN F N r b n = mr_powN F' N r b n
  | 0 => rfl
  | n + 1 => by rw [mr_powN, mr_powN, mr_powN_c h hr n, mr_sumN_c h hr, h.1]
theorem mr_eq_t {M : mm_M} {x : Int32} : mr_eq (mm_sI M 50 20 x).1 M.1 := ⟨rfl, rfl, rfl, rfl, rfl, rfl, rfl⟩
abbrev rmX5_sum : Room := { frames := 4, cells := 0, slots := 0, locals := 94 }
set_option maxHeartbeats 400000 in
set_option maxRecDepth 100000 in
theorem kX5_sum {l : Launch} {D : va_G} {ad : Nat → Nat} {q : Nat → ClassId} {A : Nat → Prop} (hAD : mm_AD ad A) {N : Nat} {M : mm_M} (hN : M.1 50 1 = nI N) (hN8 : N ≤ 8) (hg : ∀ k : Nat, k < N → 0 < (M.1 56 k).toInt) {x y : Int32} : mm_Kd l D ad q A yX5_sum wsX5_sum rmX5_sum [.ref (ad 50), .int x, .int y] M (some (.long (if mr_suk x y = 0 then mr_sumN M.1 N 61 x (M.1 50 0 - 1 - y) N else 0))) (mm_sI M 50 20 (mr_suk x y)) := by
  have inX5 : ∀ w ∈ wsX50, w ∈ wsX5_sum := by decide +kernel
  have f41 : Cond.fieldLink RX5 41 "BeamrowModel" "samples" "[I" ∈ wsX5_sum := by decide +kernel
  have f78 : Cond.fieldLink RX5 78 "BeamrowModel" "next" "I" ∈ wsX5_sum := by decide +kernel
  refine mm_of (cc := cX5_sum) (maxL := 4) (ret := some .long) (own := RX5) rfl hAD (plainFor_of_name (by decide)) rfl (Nat.le_of_ble_eq_true rfl) ⟨rfl, rfl⟩ ?_
  intro pp ee ss mm bl mth cd C hret hlk9
  show mm_G _ _ _ _ _ _ _ _ _ _ _ _ _ _ _ _ _ _ M 0 [(0, .ref (ad 50)), (1, .int x), (2, .int y)] []
  refine r_iload_n C dX5_sum_0 rfl 1 rfl ?_
  refine r_callS1I C (kX5_isBearing hAD) (va_cwS 1 C.1.2.2.2.2 gX5_sum_X5_isBearing rfl rfl rfl (by decide +kernel) ⟨Nat.le_of_ble_eq_true rfl, Nat.le_of_ble_eq_true rfl⟩) (Nat.le_of_ble_eq_true rfl) dX5_sum_1 ⟨rfl, rfl⟩ ⟨Nat.zero_le _, Nat.zero_le _⟩ ?_
  refine r_if_eq (tgt := 22) C dX5_sum_4 (by decide) (fun z4 => ?_) (fun z4 => ?_)
  · refine r_iconst (v := 0) C dX5_sum_22 rfl ?_
    refine r_istore_n (lv' := [(3, .int 0), (0, .ref (ad 50)), (1, .int x), (2, .int y)]) C dX5_sum_23 rfl (by decide) rfl ?_
    refine r_aload_n C dX5_sum_24 rfl 1 rfl ?_
    refine r_iload_n C dX5_sum_25 rfl 0 rfl ?_
    refine r_if_eqT (tgt := 33) C dX5_sum_26 (by decide) (by decide) ?_
    refine r_iconst (v := 1) C dX5_sum_33 rfl ?_
    refine r_callV1I C 5 (by decide) rfl (mm_ct5 ad q _) (kX5_goes hAD) (cwV 1 C.1.2.2.2.2 gX5_sum_X5_goes rfl rfl rfl (by decide +kernel) ⟨Nat.le_of_ble_eq_true rfl, Nat.le_of_ble_eq_true rfl⟩) (Nat.le_of_ble_eq_true rfl) dX5_sum_34 ⟨rfl, rfl⟩ ⟨Nat.zero_le _, Nat.zero_le _⟩ ?_
    refine r_topc (y := 0) (by decide) ?_
    refine r_if_eqT (tgt := 60) C dX5_sum_37 (by decide) (by decide) ?_
    refine r_lconst (v := 0) C dX5_sum_60 rfl ?_
    exact r_lret C hret hlk9 dX5_sum_61 (by first | (have e9 : mr_suk x y = 1 := (by rw [mr_suk, if_pos z4]); exact ⟨by rw [if_neg (by rw [e9]; decide)], by rw [e9]⟩) | (have e9 : mr_suk x y = 1 := (by rw [mr_suk, if_neg z4, if_pos z15]); exact ⟨by rw [if_neg (by rw [e9]; decide)], by rw [e9]⟩) | (have e9 : mr_suk x y = 0 := (by rw [mr_suk, if_neg z4, if_neg z15]); exact ⟨by rw [if_pos e9]; exact congrArg (fun z => some (Value.long z)) (mr_sumN_c mr_eq_t rfl _), by rw [e9]⟩))
  · refine r_iload_n C dX5_sum_7 rfl 2 rfl ?_
    refine r_bipush (v := (16)) C dX5_sum_8 rfl ?_
    refine r_bipush (v := (47)) C dX5_sum_10 rfl ?_
    refine r_callS3I C (kX5_isIn hAD) (va_cwS 3 C.1.2.2.2.2 gX5_sum_X5_isIn rfl rfl rfl (by decide +kernel) ⟨Nat.le_of_ble_eq_true rfl, Nat.le_of_ble_eq_true rfl⟩) (Nat.le_of_ble_eq_true rfl) dX5_sum_12 ⟨rfl, rfl⟩ ⟨Nat.zero_le _, Nat.zero_le _⟩ ?_
    refine r_if_eq (tgt := 22) C dX5_sum_15 (by decide) (fun z15 => ?_) (fun z15 => ?_)
    · refine r_iconst (v := 0) C dX5_sum_22 rfl ?_
      refine r_istore_n (lv' := [(3, .int 0), (0, .ref (ad 50)), (1, .int x), (2, .int y)]) C dX5_sum_23 rfl (by decide) rfl ?_
      refine r_aload_n C dX5_sum_24 rfl 1 rfl ?_
      refine r_iload_n C dX5_sum_25 rfl 0 rfl ?_
      refine r_if_eqT (tgt := 33) C dX5_sum_26 (by decide) (by decide) ?_
      refine r_iconst (v := 1) C dX5_sum_33 rfl ?_
      refine r_callV1I C 5 (by decide) rfl (mm_ct5 ad q _) (kX5_goes hAD) (cwV 1 C.1.2.2.2.2 gX5_sum_X5_goes rfl rfl rfl (by decide +kernel) ⟨Nat.le_of_ble_eq_true rfl, Nat.le_of_ble_eq_true rfl⟩) (Nat.le_of_ble_eq_true rfl) dX5_sum_34 ⟨rfl, rfl⟩ ⟨Nat.zero_le _, Nat.zero_le _⟩ ?_
      refine r_topc (y := 0) (by decide) ?_
      refine r_if_eqT (tgt := 60) C dX5_sum_37 (by decide) (by decide) ?_
      refine r_lconst (v := 0) C dX5_sum_60 rfl ?_
      exact r_lret C hret hlk9 dX5_sum_61 (by first | (have e9 : mr_suk x y = 1 := (by rw [mr_suk, if_pos z4]); exact ⟨by rw [if_neg (by rw [e9]; decide)], by rw [e9]⟩) | (have e9 : mr_suk x y = 1 := (by rw [mr_suk, if_neg z4, if_pos z15]); exact ⟨by rw [if_neg (by rw [e9]; decide)], by rw [e9]⟩) | (have e9 : mr_suk x y = 0 := (by rw [mr_suk, if_neg z4, if_neg z15]); exact ⟨by rw [if_pos e9]; exact congrArg (fun z => some (Value.long z)) (mr_sumN_c mr_eq_t rfl _), by rw [e9]⟩))
    · refine r_iconst (v := 1) C dX5_sum_18 rfl ?_
      refine r_goto (tgt := 23) C dX5_sum_19 (by decide) ?_
      refine r_istore_n (lv' := [(3, .int 1), (0, .ref (ad 50)), (1, .int x), (2, .int y)]) C dX5_sum_23 rfl (by decide) rfl ?_
      refine r_aload_n C dX5_sum_24 rfl 1 rfl ?_
      refine r_iload_n C dX5_sum_25 rfl 0 rfl ?_
      refine r_if_eqF (tgt := 33) C dX5_sum_26 (by decide) (by decide) ?_
      refine r_iconst (v := 0) C dX5_sum_29 rfl ?_
      refine r_goto (tgt := 34) C dX5_sum_30 (by decide) ?_
      refine r_callV1I C 5 (by decide) rfl (mm_ct5 ad q _) (kX5_goes hAD) (cwV 1 C.1.2.2.2.2 gX5_sum_X5_goes rfl rfl rfl (by decide +kernel) ⟨Nat.le_of_ble_eq_true rfl, Nat.le_of_ble_eq_true rfl⟩) (Nat.le_of_ble_eq_true rfl) dX5_sum_34 ⟨rfl, rfl⟩ ⟨Nat.zero_le _, Nat.zero_le _⟩ ?_
      refine r_topc (y := 1) (by decide) ?_
      refine r_if_eqF (tgt := 60) C dX5_sum_37 (by decide) (by decide) ?_
      refine r_aload_n C dX5_sum_40 rfl 1 rfl ?_
      refine r_aload_n C dX5_sum_41 rfl 1 rfl ?_
      refine r_get5 C inX5 16 (by decide) rfl f41 rfl dX5_sum_42 ?_
      refine r_iload_n C dX5_sum_45 rfl 2 rfl ?_
      refine r_aload_n C dX5_sum_46 rfl 1 rfl ?_
      refine r_get5 C inX5 0 (by decide) rfl f78 rfl dX5_sum_47 ?_
      refine r_iconst (v := 1) C dX5_sum_50 rfl ?_
      refine r_isub C dX5_sum_51 ?_
      refine r_iload_n C dX5_sum_52 rfl 3 rfl ?_
      refine r_isub C dX5_sum_53 ?_
      refine r_callV3J C 5 (by decide) rfl (mm_ct5 ad q _) (kX5_sumOf hAD (by exact mm_aI_61) (by exact hN) (by exact hN8) (by exact hg)) (cwV 3 C.1.2.2.2.2 gX5_sum_X5_sumOf rfl rfl rfl (by decide +kernel) ⟨Nat.le_of_ble_eq_true rfl, Nat.le_of_ble_eq_true rfl⟩) (Nat.le_of_ble_eq_true rfl) dX5_sum_54 ⟨rfl, rfl⟩ ⟨Nat.zero_le _, Nat.zero_le _⟩ ?_
      refine r_goto (tgt := 61) C dX5_sum_57 (by decide) ?_
      exact r_lret C hret hlk9 dX5_sum_61 (by first | (have e9 : mr_suk x y = 1 := (by rw [mr_suk, if_pos z4]); exact ⟨by rw [if_neg (by rw [e9]; decide)], by rw [e9]⟩) | (have e9 : mr_suk x y = 1 := (by rw [mr_suk, if_neg z4, if_pos z15]); exact ⟨by rw [if_neg (by rw [e9]; decide)], by rw [e9]⟩) | (have e9 : mr_suk x y = 0 := (by rw [mr_suk, if_neg z4, if_neg z15]); exact ⟨by rw [if_pos e9]; exact congrArg (fun z => some (Value.long z)) (mr_sumN_c mr_eq_t rfl _), by rw [e9]⟩))

abbrev rmX5_power : Room := { frames := 5, cells := 0, slots := 0, locals := 121 }
set_option maxHeartbeats 400000 in
set_option maxRecDepth 100000 in
theorem kX5_power {l : Launch} {D : va_G} {ad : Nat → Nat} {q : Nat → ClassId} {A : Nat → Prop} (hAD : mm_AD ad A) {N : Nat} {M : mm_M} (hN : M.1 50 1 = nI N) (hN8 : N ≤ 8) (hg : ∀ k : Nat, k < N → 0 < (M.1 56 k).toInt) {x : Int32} : mm_Kd l D ad q A yX5_power wsX5_power rmX5_power [.ref (ad 50), .int x] M (some (.long (if nm_in x (-4) 4 = 0 then 0 else mr_powN M.1 N 61 x 32))) (mm_sI M 50 20 (if nm_in x (-4) 4 = 0 then 1 else 0)) := by
  have inX5 : ∀ w ∈ wsX50, w ∈ wsX5_power := by decide +kernel
  have f41 : Cond.fieldLink RX5 41 "BeamrowModel" "samples" "[I" ∈ wsX5_power := by decide +kernel
  refine mm_of (cc := cX5_power) (maxL := 2) (ret := some .long) (own := RX5) rfl hAD (plainFor_of_name (by decide)) rfl (Nat.le_of_ble_eq_true rfl) ⟨rfl, rfl⟩ ?_
  intro pp ee ss mm bl mth cd C hret hlk9
  show mm_G _ _ _ _ _ _ _ _ _ _ _ _ _ _ _ _ _ _ M 0 [(0, .ref (ad 50)), (1, .int x)] []
  refine r_aload_n C dX5_power_0 rfl 0 rfl ?_
  refine r_iload_n C dX5_power_1 rfl 1 rfl ?_
  refine r_callS1I C (kX5_isBearing hAD) (va_cwS 1 C.1.2.2.2.2 gX5_power_X5_isBearing rfl rfl rfl (by decide +kernel) ⟨Nat.le_of_ble_eq_true rfl, Nat.le_of_ble_eq_true rfl⟩) (Nat.le_of_ble_eq_true rfl) dX5_power_2 ⟨rfl, rfl⟩ ⟨Nat.zero_le _, Nat.zero_le _⟩ ?_
  refine r_if_eq (tgt := 12) C dX5_power_5 (by decide) (fun z5 => ?_) (fun z5 => ?_)
  · refine r_iconst (v := 1) C dX5_power_12 rfl ?_
    refine r_callV1I C 5 (by decide) rfl (mm_ct5 ad q _) (kX5_goes hAD) (cwV 1 C.1.2.2.2.2 gX5_power_X5_goes rfl rfl rfl (by decide +kernel) ⟨Nat.le_of_ble_eq_true rfl, Nat.le_of_ble_eq_true rfl⟩) (Nat.le_of_ble_eq_true rfl) dX5_power_13 ⟨rfl, rfl⟩ ⟨Nat.zero_le _, Nat.zero_le _⟩ ?_
    refine r_topc (y := 0) (by decide) ?_
    refine r_if_eqT (tgt := 31) C dX5_power_16 (by decide) (by decide) ?_
    refine r_lconst (v := 0) C dX5_power_31 rfl ?_
    exact r_lret C hret hlk9 dX5_power_32 (by first | exact ⟨by rw [if_pos z5], by rw [if_pos z5]⟩ | exact ⟨by rw [if_neg z5]; exact congrArg (fun z => some (Value.long z)) (mr_powN_c mr_eq_t rfl _), by rw [if_neg z5]⟩)
  · refine r_iconst (v := 0) C dX5_power_8 rfl ?_
    refine r_goto (tgt := 13) C dX5_power_9 (by decide) ?_
    refine r_callV1I C 5 (by decide) rfl (mm_ct5 ad q _) (kX5_goes hAD) (cwV 1 C.1.2.2.2.2 gX5_power_X5_goes rfl rfl rfl (by decide +kernel) ⟨Nat.le_of_ble_eq_true rfl, Nat.le_of_ble_eq_true rfl⟩) (Nat.le_of_ble_eq_true rfl) dX5_power_13 ⟨rfl, rfl⟩ ⟨Nat.zero_le _, Nat.zero_le _⟩ ?_
    refine r_topc (y := 1) (by decide) ?_
    refine r_if_eqF (tgt := 31) C dX5_power_16 (by decide) (by decide) ?_
    refine r_aload_n C dX5_power_19 rfl 0 rfl ?_
    refine r_aload_n C dX5_power_20 rfl 0 rfl ?_
    refine r_get5 C inX5 16 (by decide) rfl f41 rfl dX5_power_21 ?_
    refine r_iload_n C dX5_power_24 rfl 1 rfl ?_
    refine r_callV2J C 5 (by decide) rfl (mm_ct5 ad q _) (kX5_powerOf hAD (by exact mm_aI_61) (by exact hN) (by exact hN8) (by exact hg)) (cwV 2 C.1.2.2.2.2 gX5_power_X5_powerOf rfl rfl rfl (by decide +kernel) ⟨Nat.le_of_ble_eq_true rfl, Nat.le_of_ble_eq_true rfl⟩) (Nat.le_of_ble_eq_true rfl) dX5_power_25 ⟨rfl, rfl⟩ ⟨Nat.zero_le _, Nat.zero_le _⟩ ?_
    refine r_goto (tgt := 32) C dX5_power_28 (by decide) ?_
    exact r_lret C hret hlk9 dX5_power_32 (by first | exact ⟨by rw [if_pos z5], by rw [if_pos z5]⟩ | exact ⟨by rw [if_neg z5]; exact congrArg (fun z => some (Value.long z)) (mr_powN_c mr_eq_t rfl _), by rw [if_neg z5]⟩)

abbrev rmX5_powerAnew : Room := { frames := 5, cells := 0, slots := 0, locals := 121 }
set_option maxHeartbeats 400000 in
set_option maxRecDepth 100000 in
theorem kX5_powerAnew {l : Launch} {D : va_G} {ad : Nat → Nat} {q : Nat → ClassId} {A : Nat → Prop} (hAD : mm_AD ad A) {N : Nat} {M : mm_M} (hN : M.1 50 1 = nI N) (hN8 : N ≤ 8) (hg : ∀ k : Nat, k < N → 0 < (M.1 56 k).toInt) {x : Int32} : mm_Kd l D ad q A yX5_powerAnew wsX5_powerAnew rmX5_powerAnew [.ref (ad 50), .int x] M (some (.long (if nm_in x (-4) 4 = 0 then 0 else mr_powN M.1 N 61 x 32))) (mm_sI M 50 20 (if nm_in x (-4) 4 = 0 then 1 else 0)) := by
  have inX5 : ∀ w ∈ wsX50, w ∈ wsX5_powerAnew := by decide +kernel
  have f41 : Cond.fieldLink RX5 41 "BeamrowModel" "samples" "[I" ∈ wsX5_powerAnew := by decide +kernel
  refine mm_of (cc := cX5_powerAnew) (maxL := 2) (ret := some .long) (own := RX5) rfl hAD (plainFor_of_name (by decide)) rfl (Nat.le_of_ble_eq_true rfl) ⟨rfl, rfl⟩ ?_
  intro pp ee ss mm bl mth cd C hret hlk9
  show mm_G _ _ _ _ _ _ _ _ _ _ _ _ _ _ _ _ _ _ M 0 [(0, .ref (ad 50)), (1, .int x)] []
  refine r_aload_n C dX5_powerAnew_0 rfl 0 rfl ?_
  refine r_iload_n C dX5_powerAnew_1 rfl 1 rfl ?_
  refine r_callS1I C (kX5_isBearing hAD) (va_cwS 1 C.1.2.2.2.2 gX5_powerAnew_X5_isBearing rfl rfl rfl (by decide +kernel) ⟨Nat.le_of_ble_eq_true rfl, Nat.le_of_ble_eq_true rfl⟩) (Nat.le_of_ble_eq_true rfl) dX5_powerAnew_2 ⟨rfl, rfl⟩ ⟨Nat.zero_le _, Nat.zero_le _⟩ ?_
  refine r_if_eq (tgt := 12) C dX5_powerAnew_5 (by decide) (fun z5 => ?_) (fun z5 => ?_)
  · refine r_iconst (v := 1) C dX5_powerAnew_12 rfl ?_
    refine r_callV1I C 5 (by decide) rfl (mm_ct5 ad q _) (kX5_goes hAD) (cwV 1 C.1.2.2.2.2 gX5_powerAnew_X5_goes rfl rfl rfl (by decide +kernel) ⟨Nat.le_of_ble_eq_true rfl, Nat.le_of_ble_eq_true rfl⟩) (Nat.le_of_ble_eq_true rfl) dX5_powerAnew_13 ⟨rfl, rfl⟩ ⟨Nat.zero_le _, Nat.zero_le _⟩ ?_
    refine r_topc (y := 0) (by decide) ?_
    refine r_if_eqT (tgt := 31) C dX5_powerAnew_16 (by decide) (by decide) ?_
    refine r_lconst (v := 0) C dX5_powerAnew_31 rfl ?_
    exact r_lret C hret hlk9 dX5_powerAnew_32 (by first | exact ⟨by rw [if_pos z5], by rw [if_pos z5]⟩ | exact ⟨by rw [if_neg z5]; exact congrArg (fun z => some (Value.long z)) (mr_powN_c mr_eq_t rfl _), by rw [if_neg z5]⟩)
  · refine r_iconst (v := 0) C dX5_powerAnew_8 rfl ?_
    refine r_goto (tgt := 13) C dX5_powerAnew_9 (by decide) ?_
    refine r_callV1I C 5 (by decide) rfl (mm_ct5 ad q _) (kX5_goes hAD) (cwV 1 C.1.2.2.2.2 gX5_powerAnew_X5_goes rfl rfl rfl (by decide +kernel) ⟨Nat.le_of_ble_eq_true rfl, Nat.le_of_ble_eq_true rfl⟩) (Nat.le_of_ble_eq_true rfl) dX5_powerAnew_13 ⟨rfl, rfl⟩ ⟨Nat.zero_le _, Nat.zero_le _⟩ ?_
    refine r_topc (y := 1) (by decide) ?_
    refine r_if_eqF (tgt := 31) C dX5_powerAnew_16 (by decide) (by decide) ?_
    refine r_aload_n C dX5_powerAnew_19 rfl 0 rfl ?_
    refine r_aload_n C dX5_powerAnew_20 rfl 0 rfl ?_
    refine r_get5 C inX5 16 (by decide) rfl f41 rfl dX5_powerAnew_21 ?_
    refine r_iload_n C dX5_powerAnew_24 rfl 1 rfl ?_
    refine r_callV2J C 5 (by decide) rfl (mm_ct5 ad q _) (kX5_powerOf hAD (by exact mm_aI_61) (by exact hN) (by exact hN8) (by exact hg)) (cwV 2 C.1.2.2.2.2 gX5_powerAnew_X5_powerOf rfl rfl rfl (by decide +kernel) ⟨Nat.le_of_ble_eq_true rfl, Nat.le_of_ble_eq_true rfl⟩) (Nat.le_of_ble_eq_true rfl) dX5_powerAnew_25 ⟨rfl, rfl⟩ ⟨Nat.zero_le _, Nat.zero_le _⟩ ?_
    refine r_goto (tgt := 32) C dX5_powerAnew_28 (by decide) ?_
    exact r_lret C hret hlk9 dX5_powerAnew_32 (by first | exact ⟨by rw [if_pos z5], by rw [if_pos z5]⟩ | exact ⟨by rw [if_neg z5]; exact congrArg (fun z => some (Value.long z)) (mr_powN_c mr_eq_t rfl _), by rw [if_neg z5]⟩)

def mr_fpN (M : mm_M) (N r n : Nat) : mm_M := mm_row M 64 n (fun c => mr_powN M.1 N r (nI c - 4) 32)
def mr_fp (M : mm_M) (N r : Nat) : mm_M := mr_fpN M N r 9
abbrev rmX5_findsPowers : Room := { frames := 5, cells := 0, slots := 0, locals := 121 }
set_option maxHeartbeats 400000 in
set_option maxRecDepth 100000 in
theorem kX5_findsPowers {l : Launch} {D : va_G} {ad : Nat → Nat} {q : Nat → ClassId} {A : Nat → Prop} (hAD : mm_AD ad A) {N : Nat} {M : mm_M} {r : Nat} (hr : mm_aI r 512) (hN : M.1 50 1 = nI N) (hN8 : N ≤ 8) (hg : ∀ k : Nat, k < N → 0 < (M.1 56 k).toInt) : mm_Kd l D ad q A yX5_findsPowers wsX5_findsPowers rmX5_findsPowers [.ref (ad 50), .ref (ad r)] M none (mr_fp M N r) := by
  have inX5 : ∀ w ∈ wsX50, w ∈ wsX5_findsPowers := by decide +kernel
  have f50 : Cond.fieldLink RX5 50 "BeamrowModel" "powers" "[J" ∈ wsX5_findsPowers := by decide +kernel
  refine mm_of (cc := cX5_findsPowers) (maxL := 3) (ret := none) (own := RX5) rfl hAD (plainFor_of_name (by decide)) rfl (Nat.le_of_ble_eq_true rfl) ⟨rfl, rfl⟩ ?_
  intro pp ee ss mm bl mth cd C hret hlk9
  show mm_G _ _ _ _ _ _ _ _ _ _ _ _ _ _ _ _ _ _ M 0 [(0, .ref (ad 50)), (1, .ref (ad r))] []
  refine r_iconst (v := 0) C dX5_findsPowers_0 rfl ?_
  refine r_istore_n (lv' := [(2, .int 0), (0, .ref (ad 50)), (1, .ref (ad r))]) C dX5_findsPowers_1 rfl (by decide) rfl ?_
  have L2 : ∀ (k9 : Nat) (n : Nat) (hn : n ≤ 9), 9 - n < k9 → mm_G pp l ee rmX5_findsPowers ss mm ([.ref (ad 50), .ref (ad r)] : List Value).toArray bl mth cd 0 0 (MQ bl (mm_Q D ad q A (fun v' u => v' = none ∧ u = mr_fp M N r)) ([.ref (ad 50), .ref (ad r)] : List Value).toArray ss 0 0 A) 3 D ad q A (mr_fpN M N r n) 2 [(2, .int (nI n)), (0, .ref (ad 50)), (1, .ref (ad r))] [] := by
    intro k9
    induction k9 with
    | zero => intro n hn h9; exact absurd h9 (Nat.not_lt_zero _)
    | succ k9 ih2 =>
      intro n hn h9
      refine r_iload_n C dX5_findsPowers_2 rfl 0 rfl ?_
      refine r_bipush (v := (9)) C dX5_findsPowers_3 rfl ?_
      refine r_icmp_ge (tgt := 28) C dX5_findsPowers_5 (by decide) (fun z5 => ?_) (fun z5 => ?_)
      · obtain rfl : n = 9 := nm_ge hn (by decide) z5
        exact r_vret C hret hlk9 dX5_findsPowers_28 ⟨by first | rfl | (subst_vars; rfl) | (subst_vars; simp [*]), by first | rfl | (subst_vars; rfl)⟩
      · have hlt : n < 9 := nm_lt (by omega) (by decide) z5
        refine r_aload_n C dX5_findsPowers_8 rfl 1 rfl ?_
        refine r_get5 C inX5 19 (by decide) rfl f50 rfl dX5_findsPowers_9 ?_
        refine r_iload_n C dX5_findsPowers_12 rfl 0 rfl ?_
        refine r_aload_n C dX5_findsPowers_13 rfl 1 rfl ?_
        refine r_aload_n C dX5_findsPowers_14 rfl 2 rfl ?_
        refine r_iload_n C dX5_findsPowers_15 rfl 0 rfl ?_
        refine r_iconst (v := 4) C dX5_findsPowers_16 rfl ?_
        refine r_isub C dX5_findsPowers_17 ?_
        refine r_callV2J C 5 (by decide) rfl (mm_ct5 ad q _) (kX5_powerOf hAD (by exact hr) (by exact hN) (by exact hN8) (by exact hg)) (cwV 2 C.1.2.2.2.2 gX5_findsPowers_X5_powerOf rfl rfl rfl (by decide +kernel) ⟨Nat.le_of_ble_eq_true rfl, Nat.le_of_ble_eq_true rfl⟩) (Nat.le_of_ble_eq_true rfl) dX5_findsPowers_18 ⟨rfl, rfl⟩ ⟨Nat.zero_le _, Nat.zero_le _⟩ ?_
        refine r_last C mm_aJ_64 (n) (nI_toInt (by omega)) (hlt) dX5_findsPowers_21 ?_
        obtain ⟨v2_22, ev2_22⟩ : ∃ y9 : Int32, y9 = (nI n) + 1 := ⟨_, rfl⟩
        refine r_iinc (v := v2_22) (lv' := [(2, .int v2_22), (0, .ref (ad 50)), (1, .ref (ad r))]) C dX5_findsPowers_22 0 rfl (by rw [ev2_22]; rfl) (by decide) rfl ?_
        refine r_goto (tgt := 2) C dX5_findsPowers_25 (by decide) ?_
        refine r_cast (M' := mr_fpN M N r (n + 1)) (lv' := [(2, .int (nI (n + 1))), (0, .ref (ad 50)), (1, .ref (ad r))]) (st' := []) mm_row_s (by rw [ev2_22, nI_1]; first | done | rfl) rfl (ih2 (n + 1) (by omega) (by omega))
  refine r_cast (M' := mr_fpN M N r 0) (lv' := [(2, .int (nI 0)), (0, .ref (ad 50)), (1, .ref (ad r))]) (st' := []) mm_row_0 rfl rfl (L2 (9 - 0 + 1) 0 (by omega) (by omega))

def mr_gr (L : Nat → Int64) : Nat → Nat
  | 0 => 0
  | n + 1 => if lg_cmp (L (n + 1)) (L (mr_gr L n)) ≤ 0 then mr_gr L n else n + 1
theorem mr_gr_le (L : Nat → Int64) : ∀ n, mr_gr L n ≤ n
  | 0 => Nat.le_refl 0
  | n + 1 => by rw [mr_gr]; split; exact Nat.le_succ_of_le (mr_gr_le L n); exact Nat.le_refl _
abbrev rmX5_greatest : Room := { frames := 0, cells := 0, slots := 0, locals := 0 }
set_option maxHeartbeats 400000 in
set_option maxRecDepth 100000 in
theorem kX5_greatest {l : Launch} {D : va_G} {ad : Nat → Nat} {q : Nat → ClassId} {A : Nat → Prop} (hAD : mm_AD ad A) {M : mm_M} : mm_Kd l D ad q A yX5_greatest wsX5_greatest rmX5_greatest [.ref (ad 50)] M (some (.int (nI (mr_gr (M.2 64) 8)))) M := by
  have inX5 : ∀ w ∈ wsX50, w ∈ wsX5_greatest := by decide +kernel
  have f50 : Cond.fieldLink RX5 50 "BeamrowModel" "powers" "[J" ∈ wsX5_greatest := by decide +kernel
  refine mm_of (cc := cX5_greatest) (maxL := 3) (ret := some .int) (own := RX5) rfl hAD (plainFor_of_name (by decide)) rfl (Nat.le_of_ble_eq_true rfl) ⟨rfl, rfl⟩ ?_
  intro pp ee ss mm bl mth cd C hret hlk9
  show mm_G _ _ _ _ _ _ _ _ _ _ _ _ _ _ _ _ _ _ M 0 [(0, .ref (ad 50))] []
  refine r_iconst (v := 0) C dX5_greatest_0 rfl ?_
  refine r_istore_n (lv' := [(1, .int 0), (0, .ref (ad 50))]) C dX5_greatest_1 rfl (by decide) rfl ?_
  refine r_iconst (v := 1) C dX5_greatest_2 rfl ?_
  refine r_istore_n (lv' := [(2, .int 1), (1, .int 0), (0, .ref (ad 50))]) C dX5_greatest_3 rfl (by decide) rfl ?_
  have L4 : ∀ (k9 : Nat) (n : Nat) (hn : n ≤ 8), 8 - n < k9 → mm_G pp l ee rmX5_greatest ss mm ([.ref (ad 50)] : List Value).toArray bl mth cd 0 0 (MQ bl (mm_Q D ad q A (fun v' u => v' = some (.int (nI (mr_gr (M.2 64) 8))) ∧ u = M)) ([.ref (ad 50)] : List Value).toArray ss 0 0 A) 3 D ad q A (M) 4 [(2, .int (nI (n + 1))), (1, .int (nI (mr_gr (M.2 64) n))), (0, .ref (ad 50))] [] := by
    intro k9
    induction k9 with
    | zero => intro n hn h9; exact absurd h9 (Nat.not_lt_zero _)
    | succ k9 ih4 =>
      intro n hn h9
      refine r_iload_n C dX5_greatest_4 rfl 0 rfl ?_
      refine r_bipush (v := (9)) C dX5_greatest_5 rfl ?_
      refine r_icmp_ge (tgt := 38) C dX5_greatest_7 (by decide) (fun z7 => ?_) (fun z7 => ?_)
      · obtain rfl : n = 8 := by have := nm_ge (n := n + 1) (N := 9) (by omega) (by decide) z7; omega
        refine r_iload_n C dX5_greatest_38 rfl 1 rfl ?_
        exact r_iret C hret hlk9 dX5_greatest_39 ⟨by first | rfl | (subst_vars; rfl) | (subst_vars; simp [*]), by first | rfl | (subst_vars; rfl)⟩
      · have hlt : n + 1 < 9 := nm_lt (by omega) (by decide) z7
        refine r_aload_n C dX5_greatest_10 rfl 2 rfl ?_
        refine r_get5 C inX5 19 (by decide) rfl f50 rfl dX5_greatest_11 ?_
        refine r_iload_n C dX5_greatest_14 rfl 0 rfl ?_
        refine r_lald C mm_aJ_64 (n + 1) (nI_toInt (by omega)) (by omega) dX5_greatest_15 ?_
        refine r_aload_n C dX5_greatest_16 rfl 2 rfl ?_
        refine r_get5 C inX5 19 (by decide) rfl f50 rfl dX5_greatest_17 ?_
        refine r_iload_n C dX5_greatest_20 rfl 1 rfl ?_
        refine r_lald C mm_aJ_64 (mr_gr (M.2 64) n) (nI_toInt (by have := mr_gr_le (M.2 64) n; omega)) (by have := mr_gr_le (M.2 64) n; omega) dX5_greatest_21 ?_
        refine r_lcmp C dX5_greatest_22 ?_
        refine r_if_le (tgt := 30) C dX5_greatest_23 (by decide) (fun z23 => ?_) (fun z23 => ?_)
        · refine r_iload_n C dX5_greatest_30 rfl 1 rfl ?_
          refine r_topi (fun v1_31 ev1_31 => ?_)
          refine r_istore_n (lv' := [(1, .int v1_31), (2, .int (nI (n + 1))), (0, .ref (ad 50))]) C dX5_greatest_31 rfl (by decide) rfl ?_
          obtain ⟨v2_32, ev2_32⟩ : ∃ y9 : Int32, y9 = (nI (n + 1)) + 1 := ⟨_, rfl⟩
          refine r_iinc (v := v2_32) (lv' := [(2, .int v2_32), (1, .int v1_31), (0, .ref (ad 50))]) C dX5_greatest_32 1 rfl (by rw [ev2_32]; rfl) (by decide) rfl ?_
          refine r_goto (tgt := 4) C dX5_greatest_35 (by decide) ?_
          refine r_cast (M' := M) (lv' := [(2, .int (nI ((n + 1) + 1))), (1, .int (nI (mr_gr (M.2 64) (n + 1)))), (0, .ref (ad 50))]) (st' := []) rfl (by rw [ev2_32, nI_1, ev1_31, mr_gr]; first | rw [if_pos z23] | rw [if_neg z23]) rfl (ih4 (n + 1) (by omega) (by omega))
        · refine r_iload_n C dX5_greatest_26 rfl 0 rfl ?_
          refine r_goto (tgt := 31) C dX5_greatest_27 (by decide) ?_
          refine r_topi (fun v1_31 ev1_31 => ?_)
          refine r_istore_n (lv' := [(1, .int v1_31), (2, .int (nI (n + 1))), (0, .ref (ad 50))]) C dX5_greatest_31 rfl (by decide) rfl ?_
          obtain ⟨v2_32, ev2_32⟩ : ∃ y9 : Int32, y9 = (nI (n + 1)) + 1 := ⟨_, rfl⟩
          refine r_iinc (v := v2_32) (lv' := [(2, .int v2_32), (1, .int v1_31), (0, .ref (ad 50))]) C dX5_greatest_32 1 rfl (by rw [ev2_32]; rfl) (by decide) rfl ?_
          refine r_goto (tgt := 4) C dX5_greatest_35 (by decide) ?_
          refine r_cast (M' := M) (lv' := [(2, .int (nI ((n + 1) + 1))), (1, .int (nI (mr_gr (M.2 64) (n + 1)))), (0, .ref (ad 50))]) (st' := []) rfl (by rw [ev2_32, nI_1, ev1_31, mr_gr]; first | rw [if_pos z23] | rw [if_neg z23]) rfl (ih4 (n + 1) (by omega) (by omega))
  refine r_cast (M' := M) (lv' := [(2, .int (nI (0 + 1))), (1, .int (nI (mr_gr (M.2 64) 0))), (0, .ref (ad 50))]) (st' := []) rfl rfl rfl (L4 (8 - 0 + 1) 0 (by omega) (by omega))
