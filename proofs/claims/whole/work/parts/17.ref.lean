def mr_ab2 (L : Nat → Int64) (n : Nat) : Int32 := if nI n = 8 then 1 else if lg_cmp (L n) (L (n + 1)) ≤ 0 then 0 else 1
def mr_ab (L : Nat → Int64) (n : Nat) : Int32 := if nI n = 0 then mr_ab2 L n else if lg_cmp (L n) (L (n - 1)) ≤ 0 then 0 else mr_ab2 L n
def mr_pk (L : Nat → Int64) (x : Int32) (most : Int64) (n : Nat) : Int32 := if lg_cmp (L n) 0 ≤ 0 then 0 else if mr_ab L n = 0 then 0 else if lg_cmp (100 * L n) (x.toInt64 * most) < 0 then 0 else 1
def mr_pkN (L : Nat → Int64) (x : Int32) (most : Int64) : Nat → Int32
  | 0 => 0
  | n + 1 => mr_pkN L x most n + mr_pk L x most n
def mr_pkv (L : Nat → Int64) (x : Int32) : Int32 := mr_pkN L x (L (mr_gr L 8)) 9
theorem nm_pr {n : Nat} (h : ¬ nI n = 0) (hn : n ≤ 9) : (nI n - 1).toInt = ((n - 1 : Nat) : Int) ∧ 1 ≤ n := by
  have h1 : n ≠ 0 := fun z => h (by rw [z]; rfl)
  have e : (1 : Int32).toInt = 1 := rfl
  rw [Int32.toInt_sub, nI_toInt (by omega), e, nm_bmI (by omega) (by omega)]
  omega
theorem nm_su {n : Nat} (h : ¬ nI n = 8) (hn : n < 9) : (nI n + 1).toInt = ((n + 1 : Nat) : Int) ∧ n + 1 < 9 := by
  have h1 : n ≠ 8 := fun z => h (by rw [z]; rfl)
  rw [nI_1, nI_toInt (by omega)]
  omega
abbrev rmX5_peaks : Room := { frames := 6, cells := 0, slots := 0, locals := 143 }
set_option maxHeartbeats 400000 in
set_option maxRecDepth 100000 in
theorem kX5_peaks {l : Launch} {D : va_G} {ad : Nat → Nat} {q : Nat → ClassId} {A : Nat → Prop} (hAD : mm_AD ad A) {N : Nat} {M : mm_M} (hN : M.1 50 1 = nI N) (hN8 : N ≤ 8) (hg : ∀ k : Nat, k < N → 0 < (M.1 56 k).toInt) {x : Int32} : mm_Kd l D ad q A yX5_peaks wsX5_peaks rmX5_peaks [.ref (ad 50), .int x] M (some (.int (if nm_in x 1 100 = 0 then 0 else mr_pkv ((mr_fp (mm_sI M 50 20 0) N 61).2 64) x))) (if nm_in x 1 100 = 0 then mm_sI M 50 20 1 else mr_fp (mm_sI M 50 20 0) N 61) := by
  have inX5 : ∀ w ∈ wsX50, w ∈ wsX5_peaks := by decide +kernel
  have f41 : Cond.fieldLink RX5 41 "BeamrowModel" "samples" "[I" ∈ wsX5_peaks := by decide +kernel
  have f50 : Cond.fieldLink RX5 50 "BeamrowModel" "powers" "[J" ∈ wsX5_peaks := by decide +kernel
  have n157 : Cond.constantLong RX5 157 (100) ∈ wsX5_peaks := by decide +kernel
  refine mm_of (cc := cX5_peaks) (maxL := 7) (ret := some .int) (own := RX5) rfl hAD (plainFor_of_name (by decide)) rfl (Nat.le_of_ble_eq_true rfl) ⟨rfl, rfl⟩ ?_
  intro pp ee ss mm bl mth cd C hret hlk9
  show mm_G _ _ _ _ _ _ _ _ _ _ _ _ _ _ _ _ _ _ M 0 [(0, .ref (ad 50)), (1, .int x)] []
  refine r_aload_n C dX5_peaks_0 rfl 0 rfl ?_
  refine r_iload_n C dX5_peaks_1 rfl 1 rfl ?_
  refine r_iconst (v := 1) C dX5_peaks_2 rfl ?_
  refine r_bipush (v := (100)) C dX5_peaks_3 rfl ?_
  refine r_callS3I C (kX5_isIn hAD) (va_cwS 3 C.1.2.2.2.2 gX5_peaks_X5_isIn rfl rfl rfl (by decide +kernel) ⟨Nat.le_of_ble_eq_true rfl, Nat.le_of_ble_eq_true rfl⟩) (Nat.le_of_ble_eq_true rfl) dX5_peaks_5 ⟨rfl, rfl⟩ ⟨Nat.zero_le _, Nat.zero_le _⟩ ?_
  refine r_if_eq (tgt := 15) C dX5_peaks_8 (by decide) (fun z8 => ?_) (fun z8 => ?_)
  · refine r_iconst (v := 1) C dX5_peaks_15 rfl ?_
    refine r_callV1I C 5 (by decide) rfl (mm_ct5 ad q _) (kX5_goes hAD) (cwV 1 C.1.2.2.2.2 gX5_peaks_X5_goes rfl rfl rfl (by decide +kernel) ⟨Nat.le_of_ble_eq_true rfl, Nat.le_of_ble_eq_true rfl⟩) (Nat.le_of_ble_eq_true rfl) dX5_peaks_16 ⟨rfl, rfl⟩ ⟨Nat.zero_le _, Nat.zero_le _⟩ ?_
    refine r_topc (y := 0) (by decide) ?_
    refine r_if_neF (tgt := 24) C dX5_peaks_19 (by decide) (by decide) ?_
    refine r_iconst (v := 0) C dX5_peaks_22 rfl ?_
    exact r_iret C hret hlk9 dX5_peaks_23 ⟨by rw [if_pos z8], by rw [if_pos z8]⟩
  · refine r_iconst (v := 0) C dX5_peaks_11 rfl ?_
    refine r_goto (tgt := 16) C dX5_peaks_12 (by decide) ?_
    refine r_callV1I C 5 (by decide) rfl (mm_ct5 ad q _) (kX5_goes hAD) (cwV 1 C.1.2.2.2.2 gX5_peaks_X5_goes rfl rfl rfl (by decide +kernel) ⟨Nat.le_of_ble_eq_true rfl, Nat.le_of_ble_eq_true rfl⟩) (Nat.le_of_ble_eq_true rfl) dX5_peaks_16 ⟨rfl, rfl⟩ ⟨Nat.zero_le _, Nat.zero_le _⟩ ?_
    refine r_topc (y := 1) (by decide) ?_
    refine r_if_neT (tgt := 24) C dX5_peaks_19 (by decide) (by decide) ?_
    refine r_aload_n C dX5_peaks_24 rfl 0 rfl ?_
    refine r_aload_n C dX5_peaks_25 rfl 0 rfl ?_
    refine r_get5 C inX5 16 (by decide) rfl f41 rfl dX5_peaks_26 ?_
    refine r_callV1V C 5 (by decide) rfl (mm_ct5 ad q _) (kX5_findsPowers hAD (by exact mm_aI_61) (by exact hN) (by exact hN8) (by exact hg)) (cwV 1 C.1.2.2.2.2 gX5_peaks_X5_findsPowers rfl rfl rfl (by decide +kernel) ⟨Nat.le_of_ble_eq_true rfl, Nat.le_of_ble_eq_true rfl⟩) (Nat.le_of_ble_eq_true rfl) dX5_peaks_29 ⟨rfl, rfl⟩ ⟨Nat.zero_le _, Nat.zero_le _⟩ ?_
    refine r_mem (fun M1 eM1 => ?_)
    refine r_aload_n C dX5_peaks_32 rfl 0 rfl ?_
    refine r_get5 C inX5 19 (by decide) rfl f50 rfl dX5_peaks_33 ?_
    refine r_aload_n C dX5_peaks_36 rfl 0 rfl ?_
    refine r_callV0I C 5 (by decide) rfl (mm_ct5 ad q _) (kX5_greatest hAD) (cwV 0 C.1.2.2.2.2 gX5_peaks_X5_greatest rfl rfl rfl (by decide +kernel) ⟨Nat.le_of_ble_eq_true rfl, Nat.le_of_ble_eq_true rfl⟩) (Nat.le_of_ble_eq_true rfl) dX5_peaks_37 ⟨rfl, rfl⟩ ⟨Nat.zero_le _, Nat.zero_le _⟩ ?_
    refine r_lald C mm_aJ_64 (mr_gr (M1.2 64) 8) (nI_toInt (by have := mr_gr_le (M1.2 64) 8; omega)) (by have := mr_gr_le (M1.2 64) 8; omega) dX5_peaks_40 ?_
    refine r_topl (fun v2_41 ev2_41 => ?_)
    refine r_lstore_n (lv' := [(2, .long v2_41), (0, .ref (ad 50)), (1, .int x)]) C dX5_peaks_41 rfl (by decide) rfl ?_
    refine r_iconst (v := 0) C dX5_peaks_42 rfl ?_
    refine r_istore (lv' := [(4, .int 0), (2, .long v2_41), (0, .ref (ad 50)), (1, .int x)]) C dX5_peaks_43 (by decide) rfl ?_
    refine r_iconst (v := 0) C dX5_peaks_45 rfl ?_
    refine r_istore (lv' := [(5, .int 0), (4, .int 0), (2, .long v2_41), (0, .ref (ad 50)), (1, .int x)]) C dX5_peaks_46 (by decide) rfl ?_
    have L48 : ∀ (k9 : Nat) (n : Nat) (hn : n ≤ 9), 9 - n < k9 → mm_G pp l ee rmX5_peaks ss mm ([.ref (ad 50), .int x] : List Value).toArray bl mth cd 0 0 (MQ bl (mm_Q D ad q A (fun v' u => v' = some (.int (if nm_in x 1 100 = 0 then 0 else mr_pkv ((mr_fp (mm_sI M 50 20 0) N 61).2 64) x)) ∧ u = if nm_in x 1 100 = 0 then mm_sI M 50 20 1 else mr_fp (mm_sI M 50 20 0) N 61)) ([.ref (ad 50), .int x] : List Value).toArray ss 0 0 A) 7 D ad q A (M1) 48 [(5, .int (nI n)), (4, .int (mr_pkN (M1.2 64) x v2_41 n)), (2, .long v2_41), (0, .ref (ad 50)), (1, .int x)] [] := by
      intro k9
      induction k9 with
      | zero => intro n hn h9; exact absurd h9 (Nat.not_lt_zero _)
      | succ k9 ih48 =>
        intro n hn h9
        refine r_iload C dX5_peaks_48 0 rfl ?_
        refine r_bipush (v := (9)) C dX5_peaks_50 rfl ?_
        refine r_icmp_ge (tgt := 166) C dX5_peaks_52 (by decide) (fun z52 => ?_) (fun z52 => ?_)
        · obtain rfl : n = 9 := nm_ge hn (by decide) z52
          refine r_iload C dX5_peaks_166 1 rfl ?_
          exact r_iret C hret hlk9 dX5_peaks_168 ⟨by rw [if_neg z8, mr_pkv, ← eM1, ev2_41], by rw [if_neg z8, eM1]⟩
        · have hlt : n < 9 := nm_lt (by omega) (by decide) z52
          refine r_iload C dX5_peaks_55 0 rfl ?_
          refine r_if_eq (tgt := 80) C dX5_peaks_57 (by decide) (fun z57 => ?_) (fun z57 => ?_)
          · refine r_iload C dX5_peaks_80 0 rfl ?_
            refine r_bipush (v := (8)) C dX5_peaks_82 rfl ?_
            refine r_icmp_eq (tgt := 107) C dX5_peaks_84 (by decide) (fun z84 => ?_) (fun z84 => ?_)
            · refine r_iconst (v := 1) C dX5_peaks_107 rfl ?_
              refine r_goto (tgt := 112) C dX5_peaks_108 (by decide) ?_
              refine r_istore (lv' := [(6, .int 1), (5, .int (nI n)), (4, .int (mr_pkN (M1.2 64) x v2_41 n)), (2, .long v2_41), (0, .ref (ad 50)), (1, .int x)]) C dX5_peaks_112 (by decide) rfl ?_
              refine r_iload C dX5_peaks_114 2 rfl ?_
              refine r_aload_n C dX5_peaks_116 rfl 4 rfl ?_
              refine r_get5 C inX5 19 (by decide) rfl f50 rfl dX5_peaks_117 ?_
              refine r_iload C dX5_peaks_120 1 rfl ?_
              refine r_lald C mm_aJ_64 (n) (nI_toInt (by omega)) (hlt) dX5_peaks_122 ?_
              refine r_lconst (v := 0) C dX5_peaks_123 rfl ?_
              refine r_lcmp C dX5_peaks_124 ?_
              refine r_if_le (tgt := 156) C dX5_peaks_125 (by decide) (fun z125 => ?_) (fun z125 => ?_)
              · refine r_iconst (v := 0) C dX5_peaks_156 rfl ?_
                refine r_iadd C dX5_peaks_157 ?_
                refine r_topi (fun v4_158 ev4_158 => ?_)
                refine r_istore (lv' := [(4, .int v4_158), (6, .int 1), (5, .int (nI n)), (2, .long v2_41), (0, .ref (ad 50)), (1, .int x)]) C dX5_peaks_158 (by decide) rfl ?_
                obtain ⟨v5_160, ev5_160⟩ : ∃ y9 : Int32, y9 = (nI n) + 1 := ⟨_, rfl⟩
                refine r_iinc (v := v5_160) (lv' := [(5, .int v5_160), (4, .int v4_158), (6, .int 1), (2, .long v2_41), (0, .ref (ad 50)), (1, .int x)]) C dX5_peaks_160 2 rfl (by rw [ev5_160]; rfl) (by decide) rfl ?_
                refine r_goto (tgt := 48) C dX5_peaks_163 (by decide) ?_
                refine r_sub (lv' := [(5, .int v5_160), (4, .int v4_158), (2, .long v2_41), (0, .ref (ad 50)), (1, .int x)]) [0, 1, 3, 4, 5] rfl ?_
                refine r_cast (M' := M1) (lv' := [(5, .int (nI (n + 1))), (4, .int (mr_pkN (M1.2 64) x v2_41 (n + 1))), (2, .long v2_41), (0, .ref (ad 50)), (1, .int x)]) (st' := []) rfl (by have e9 : mr_ab (M1.2 64) n = 1 := (by rw [mr_ab, if_pos z57, mr_ab2, if_pos z84]); rw [ev5_160, nI_1, ev4_158, mr_pkN, mr_pk, if_pos z125]) rfl (ih48 (n + 1) (by omega) (by omega))
              · refine r_iload C dX5_peaks_128 0 rfl ?_
                refine r_if_eqF (tgt := 156) C dX5_peaks_130 (by decide) (by decide) ?_
                refine r_ldc2 C n157 dX5_peaks_133 ?_
                refine r_aload_n C dX5_peaks_136 rfl 4 rfl ?_
                refine r_get5 C inX5 19 (by decide) rfl f50 rfl dX5_peaks_137 ?_
                refine r_iload C dX5_peaks_140 1 rfl ?_
                refine r_lald C mm_aJ_64 (n) (nI_toInt (by omega)) (hlt) dX5_peaks_142 ?_
                refine r_lmul C dX5_peaks_143 ?_
                refine r_iload_n C dX5_peaks_144 rfl 5 rfl ?_
                refine r_i2l C dX5_peaks_145 ?_
                refine r_lload_n C dX5_peaks_146 rfl 3 rfl ?_
                refine r_lmul C dX5_peaks_147 ?_
                refine r_lcmp C dX5_peaks_148 ?_
                refine r_if_lt (tgt := 156) C dX5_peaks_149 (by decide) (fun z149 => ?_) (fun z149 => ?_)
                · refine r_iconst (v := 0) C dX5_peaks_156 rfl ?_
                  refine r_iadd C dX5_peaks_157 ?_
                  refine r_topi (fun v4_158 ev4_158 => ?_)
                  refine r_istore (lv' := [(4, .int v4_158), (6, .int 1), (5, .int (nI n)), (2, .long v2_41), (0, .ref (ad 50)), (1, .int x)]) C dX5_peaks_158 (by decide) rfl ?_
                  obtain ⟨v5_160, ev5_160⟩ : ∃ y9 : Int32, y9 = (nI n) + 1 := ⟨_, rfl⟩
                  refine r_iinc (v := v5_160) (lv' := [(5, .int v5_160), (4, .int v4_158), (6, .int 1), (2, .long v2_41), (0, .ref (ad 50)), (1, .int x)]) C dX5_peaks_160 2 rfl (by rw [ev5_160]; rfl) (by decide) rfl ?_
                  refine r_goto (tgt := 48) C dX5_peaks_163 (by decide) ?_
                  refine r_sub (lv' := [(5, .int v5_160), (4, .int v4_158), (2, .long v2_41), (0, .ref (ad 50)), (1, .int x)]) [0, 1, 3, 4, 5] rfl ?_
                  refine r_cast (M' := M1) (lv' := [(5, .int (nI (n + 1))), (4, .int (mr_pkN (M1.2 64) x v2_41 (n + 1))), (2, .long v2_41), (0, .ref (ad 50)), (1, .int x)]) (st' := []) rfl (by have e9 : mr_ab (M1.2 64) n = 1 := (by rw [mr_ab, if_pos z57, mr_ab2, if_pos z84]); rw [ev5_160, nI_1, ev4_158, mr_pkN, mr_pk, if_neg z125, if_neg (by rw [e9]; decide), if_pos z149]) rfl (ih48 (n + 1) (by omega) (by omega))
                · refine r_iconst (v := 1) C dX5_peaks_152 rfl ?_
                  refine r_goto (tgt := 157) C dX5_peaks_153 (by decide) ?_
                  refine r_iadd C dX5_peaks_157 ?_
                  refine r_topi (fun v4_158 ev4_158 => ?_)
                  refine r_istore (lv' := [(4, .int v4_158), (6, .int 1), (5, .int (nI n)), (2, .long v2_41), (0, .ref (ad 50)), (1, .int x)]) C dX5_peaks_158 (by decide) rfl ?_
                  obtain ⟨v5_160, ev5_160⟩ : ∃ y9 : Int32, y9 = (nI n) + 1 := ⟨_, rfl⟩
                  refine r_iinc (v := v5_160) (lv' := [(5, .int v5_160), (4, .int v4_158), (6, .int 1), (2, .long v2_41), (0, .ref (ad 50)), (1, .int x)]) C dX5_peaks_160 2 rfl (by rw [ev5_160]; rfl) (by decide) rfl ?_
                  refine r_goto (tgt := 48) C dX5_peaks_163 (by decide) ?_
                  refine r_sub (lv' := [(5, .int v5_160), (4, .int v4_158), (2, .long v2_41), (0, .ref (ad 50)), (1, .int x)]) [0, 1, 3, 4, 5] rfl ?_
                  refine r_cast (M' := M1) (lv' := [(5, .int (nI (n + 1))), (4, .int (mr_pkN (M1.2 64) x v2_41 (n + 1))), (2, .long v2_41), (0, .ref (ad 50)), (1, .int x)]) (st' := []) rfl (by have e9 : mr_ab (M1.2 64) n = 1 := (by rw [mr_ab, if_pos z57, mr_ab2, if_pos z84]); rw [ev5_160, nI_1, ev4_158, mr_pkN, mr_pk, if_neg z125, if_neg (by rw [e9]; decide), if_neg z149]) rfl (ih48 (n + 1) (by omega) (by omega))
            · refine r_aload_n C dX5_peaks_87 rfl 3 rfl ?_
              refine r_get5 C inX5 19 (by decide) rfl f50 rfl dX5_peaks_88 ?_
              refine r_iload C dX5_peaks_91 0 rfl ?_
              refine r_lald C mm_aJ_64 (n) (nI_toInt (by omega)) (hlt) dX5_peaks_93 ?_
              refine r_aload_n C dX5_peaks_94 rfl 3 rfl ?_
              refine r_get5 C inX5 19 (by decide) rfl f50 rfl dX5_peaks_95 ?_
              refine r_iload C dX5_peaks_98 0 rfl ?_
              refine r_iconst (v := 1) C dX5_peaks_100 rfl ?_
              refine r_iadd C dX5_peaks_101 ?_
              refine r_lald C mm_aJ_64 (n + 1) ((nm_su z84 hlt).1) ((nm_su z84 hlt).2) dX5_peaks_102 ?_
              refine r_lcmp C dX5_peaks_103 ?_
              refine r_if_le (tgt := 111) C dX5_peaks_104 (by decide) (fun z104 => ?_) (fun z104 => ?_)
              · refine r_iconst (v := 0) C dX5_peaks_111 rfl ?_
                refine r_istore (lv' := [(6, .int 0), (5, .int (nI n)), (4, .int (mr_pkN (M1.2 64) x v2_41 n)), (2, .long v2_41), (0, .ref (ad 50)), (1, .int x)]) C dX5_peaks_112 (by decide) rfl ?_
                refine r_iload C dX5_peaks_114 2 rfl ?_
                refine r_aload_n C dX5_peaks_116 rfl 4 rfl ?_
                refine r_get5 C inX5 19 (by decide) rfl f50 rfl dX5_peaks_117 ?_
                refine r_iload C dX5_peaks_120 1 rfl ?_
                refine r_lald C mm_aJ_64 (n) (nI_toInt (by omega)) (hlt) dX5_peaks_122 ?_
                refine r_lconst (v := 0) C dX5_peaks_123 rfl ?_
                refine r_lcmp C dX5_peaks_124 ?_
                refine r_if_le (tgt := 156) C dX5_peaks_125 (by decide) (fun z125 => ?_) (fun z125 => ?_)
                · refine r_iconst (v := 0) C dX5_peaks_156 rfl ?_
                  refine r_iadd C dX5_peaks_157 ?_
                  refine r_topi (fun v4_158 ev4_158 => ?_)
                  refine r_istore (lv' := [(4, .int v4_158), (6, .int 0), (5, .int (nI n)), (2, .long v2_41), (0, .ref (ad 50)), (1, .int x)]) C dX5_peaks_158 (by decide) rfl ?_
                  obtain ⟨v5_160, ev5_160⟩ : ∃ y9 : Int32, y9 = (nI n) + 1 := ⟨_, rfl⟩
                  refine r_iinc (v := v5_160) (lv' := [(5, .int v5_160), (4, .int v4_158), (6, .int 0), (2, .long v2_41), (0, .ref (ad 50)), (1, .int x)]) C dX5_peaks_160 2 rfl (by rw [ev5_160]; rfl) (by decide) rfl ?_
                  refine r_goto (tgt := 48) C dX5_peaks_163 (by decide) ?_
                  refine r_sub (lv' := [(5, .int v5_160), (4, .int v4_158), (2, .long v2_41), (0, .ref (ad 50)), (1, .int x)]) [0, 1, 3, 4, 5] rfl ?_
                  refine r_cast (M' := M1) (lv' := [(5, .int (nI (n + 1))), (4, .int (mr_pkN (M1.2 64) x v2_41 (n + 1))), (2, .long v2_41), (0, .ref (ad 50)), (1, .int x)]) (st' := []) rfl (by have e9 : mr_ab (M1.2 64) n = 0 := (by rw [mr_ab, if_pos z57, mr_ab2, if_neg z84, if_pos z104]); rw [ev5_160, nI_1, ev4_158, mr_pkN, mr_pk, if_pos z125]) rfl (ih48 (n + 1) (by omega) (by omega))
                · refine r_iload C dX5_peaks_128 0 rfl ?_
                  refine r_if_eqT (tgt := 156) C dX5_peaks_130 (by decide) (by decide) ?_
                  refine r_iconst (v := 0) C dX5_peaks_156 rfl ?_
                  refine r_iadd C dX5_peaks_157 ?_
                  refine r_topi (fun v4_158 ev4_158 => ?_)
                  refine r_istore (lv' := [(4, .int v4_158), (6, .int 0), (5, .int (nI n)), (2, .long v2_41), (0, .ref (ad 50)), (1, .int x)]) C dX5_peaks_158 (by decide) rfl ?_
                  obtain ⟨v5_160, ev5_160⟩ : ∃ y9 : Int32, y9 = (nI n) + 1 := ⟨_, rfl⟩
                  refine r_iinc (v := v5_160) (lv' := [(5, .int v5_160), (4, .int v4_158), (6, .int 0), (2, .long v2_41), (0, .ref (ad 50)), (1, .int x)]) C dX5_peaks_160 2 rfl (by rw [ev5_160]; rfl) (by decide) rfl ?_
                  refine r_goto (tgt := 48) C dX5_peaks_163 (by decide) ?_
                  refine r_sub (lv' := [(5, .int v5_160), (4, .int v4_158), (2, .long v2_41), (0, .ref (ad 50)), (1, .int x)]) [0, 1, 3, 4, 5] rfl ?_
                  refine r_cast (M' := M1) (lv' := [(5, .int (nI (n + 1))), (4, .int (mr_pkN (M1.2 64) x v2_41 (n + 1))), (2, .long v2_41), (0, .ref (ad 50)), (1, .int x)]) (st' := []) rfl (by have e9 : mr_ab (M1.2 64) n = 0 := (by rw [mr_ab, if_pos z57, mr_ab2, if_neg z84, if_pos z104]); rw [ev5_160, nI_1, ev4_158, mr_pkN, mr_pk, if_neg z125, if_pos e9]) rfl (ih48 (n + 1) (by omega) (by omega))
              · refine r_iconst (v := 1) C dX5_peaks_107 rfl ?_
                refine r_goto (tgt := 112) C dX5_peaks_108 (by decide) ?_
                refine r_istore (lv' := [(6, .int 1), (5, .int (nI n)), (4, .int (mr_pkN (M1.2 64) x v2_41 n)), (2, .long v2_41), (0, .ref (ad 50)), (1, .int x)]) C dX5_peaks_112 (by decide) rfl ?_
                refine r_iload C dX5_peaks_114 2 rfl ?_
                refine r_aload_n C dX5_peaks_116 rfl 4 rfl ?_
                refine r_get5 C inX5 19 (by decide) rfl f50 rfl dX5_peaks_117 ?_
                refine r_iload C dX5_peaks_120 1 rfl ?_
                refine r_lald C mm_aJ_64 (n) (nI_toInt (by omega)) (hlt) dX5_peaks_122 ?_
                refine r_lconst (v := 0) C dX5_peaks_123 rfl ?_
                refine r_lcmp C dX5_peaks_124 ?_
                refine r_if_le (tgt := 156) C dX5_peaks_125 (by decide) (fun z125 => ?_) (fun z125 => ?_)
                · refine r_iconst (v := 0) C dX5_peaks_156 rfl ?_
                  refine r_iadd C dX5_peaks_157 ?_
                  refine r_topi (fun v4_158 ev4_158 => ?_)
                  refine r_istore (lv' := [(4, .int v4_158), (6, .int 1), (5, .int (nI n)), (2, .long v2_41), (0, .ref (ad 50)), (1, .int x)]) C dX5_peaks_158 (by decide) rfl ?_
                  obtain ⟨v5_160, ev5_160⟩ : ∃ y9 : Int32, y9 = (nI n) + 1 := ⟨_, rfl⟩
                  refine r_iinc (v := v5_160) (lv' := [(5, .int v5_160), (4, .int v4_158), (6, .int 1), (2, .long v2_41), (0, .ref (ad 50)), (1, .int x)]) C dX5_peaks_160 2 rfl (by rw [ev5_160]; rfl) (by decide) rfl ?_
                  refine r_goto (tgt := 48) C dX5_peaks_163 (by decide) ?_
                  refine r_sub (lv' := [(5, .int v5_160), (4, .int v4_158), (2, .long v2_41), (0, .ref (ad 50)), (1, .int x)]) [0, 1, 3, 4, 5] rfl ?_
                  refine r_cast (M' := M1) (lv' := [(5, .int (nI (n + 1))), (4, .int (mr_pkN (M1.2 64) x v2_41 (n + 1))), (2, .long v2_41), (0, .ref (ad 50)), (1, .int x)]) (st' := []) rfl (by have e9 : mr_ab (M1.2 64) n = 1 := (by rw [mr_ab, if_pos z57, mr_ab2, if_neg z84, if_neg z104]); rw [ev5_160, nI_1, ev4_158, mr_pkN, mr_pk, if_pos z125]) rfl (ih48 (n + 1) (by omega) (by omega))
                · refine r_iload C dX5_peaks_128 0 rfl ?_
                  refine r_if_eqF (tgt := 156) C dX5_peaks_130 (by decide) (by decide) ?_
                  refine r_ldc2 C n157 dX5_peaks_133 ?_
                  refine r_aload_n C dX5_peaks_136 rfl 4 rfl ?_
                  refine r_get5 C inX5 19 (by decide) rfl f50 rfl dX5_peaks_137 ?_
                  refine r_iload C dX5_peaks_140 1 rfl ?_
                  refine r_lald C mm_aJ_64 (n) (nI_toInt (by omega)) (hlt) dX5_peaks_142 ?_
                  refine r_lmul C dX5_peaks_143 ?_
                  refine r_iload_n C dX5_peaks_144 rfl 5 rfl ?_
                  refine r_i2l C dX5_peaks_145 ?_
                  refine r_lload_n C dX5_peaks_146 rfl 3 rfl ?_
                  refine r_lmul C dX5_peaks_147 ?_
                  refine r_lcmp C dX5_peaks_148 ?_
                  refine r_if_lt (tgt := 156) C dX5_peaks_149 (by decide) (fun z149 => ?_) (fun z149 => ?_)
                  · refine r_iconst (v := 0) C dX5_peaks_156 rfl ?_
                    refine r_iadd C dX5_peaks_157 ?_
                    refine r_topi (fun v4_158 ev4_158 => ?_)
                    refine r_istore (lv' := [(4, .int v4_158), (6, .int 1), (5, .int (nI n)), (2, .long v2_41), (0, .ref (ad 50)), (1, .int x)]) C dX5_peaks_158 (by decide) rfl ?_
                    obtain ⟨v5_160, ev5_160⟩ : ∃ y9 : Int32, y9 = (nI n) + 1 := ⟨_, rfl⟩
                    refine r_iinc (v := v5_160) (lv' := [(5, .int v5_160), (4, .int v4_158), (6, .int 1), (2, .long v2_41), (0, .ref (ad 50)), (1, .int x)]) C dX5_peaks_160 2 rfl (by rw [ev5_160]; rfl) (by decide) rfl ?_
                    refine r_goto (tgt := 48) C dX5_peaks_163 (by decide) ?_
                    refine r_sub (lv' := [(5, .int v5_160), (4, .int v4_158), (2, .long v2_41), (0, .ref (ad 50)), (1, .int x)]) [0, 1, 3, 4, 5] rfl ?_
                    refine r_cast (M' := M1) (lv' := [(5, .int (nI (n + 1))), (4, .int (mr_pkN (M1.2 64) x v2_41 (n + 1))), (2, .long v2_41), (0, .ref (ad 50)), (1, .int x)]) (st' := []) rfl (by have e9 : mr_ab (M1.2 64) n = 1 := (by rw [mr_ab, if_pos z57, mr_ab2, if_neg z84, if_neg z104]); rw [ev5_160, nI_1, ev4_158, mr_pkN, mr_pk, if_neg z125, if_neg (by rw [e9]; decide), if_pos z149]) rfl (ih48 (n + 1) (by omega) (by omega))
                  · refine r_iconst (v := 1) C dX5_peaks_152 rfl ?_
                    refine r_goto (tgt := 157) C dX5_peaks_153 (by decide) ?_
                    refine r_iadd C dX5_peaks_157 ?_
                    refine r_topi (fun v4_158 ev4_158 => ?_)
                    refine r_istore (lv' := [(4, .int v4_158), (6, .int 1), (5, .int (nI n)), (2, .long v2_41), (0, .ref (ad 50)), (1, .int x)]) C dX5_peaks_158 (by decide) rfl ?_
                    obtain ⟨v5_160, ev5_160⟩ : ∃ y9 : Int32, y9 = (nI n) + 1 := ⟨_, rfl⟩
                    refine r_iinc (v := v5_160) (lv' := [(5, .int v5_160), (4, .int v4_158), (6, .int 1), (2, .long v2_41), (0, .ref (ad 50)), (1, .int x)]) C dX5_peaks_160 2 rfl (by rw [ev5_160]; rfl) (by decide) rfl ?_
                    refine r_goto (tgt := 48) C dX5_peaks_163 (by decide) ?_
                    refine r_sub (lv' := [(5, .int v5_160), (4, .int v4_158), (2, .long v2_41), (0, .ref (ad 50)), (1, .int x)]) [0, 1, 3, 4, 5] rfl ?_
                    refine r_cast (M' := M1) (lv' := [(5, .int (nI (n + 1))), (4, .int (mr_pkN (M1.2 64) x v2_41 (n + 1))), (2, .long v2_41), (0, .ref (ad 50)), (1, .int x)]) (st' := []) rfl (by have e9 : mr_ab (M1.2 64) n = 1 := (by rw [mr_ab, if_pos z57, mr_ab2, if_neg z84, if_neg z104]); rw [ev5_160, nI_1, ev4_158, mr_pkN, mr_pk, if_neg z125, if_neg (by rw [e9]; decide), if_neg z149]) rfl (ih48 (n + 1) (by omega) (by omega))
          · refine r_aload_n C dX5_peaks_60 rfl 3 rfl ?_
            refine r_get5 C inX5 19 (by decide) rfl f50 rfl dX5_peaks_61 ?_
            refine r_iload C dX5_peaks_64 0 rfl ?_
            refine r_lald C mm_aJ_64 (n) (nI_toInt (by omega)) (hlt) dX5_peaks_66 ?_
            refine r_aload_n C dX5_peaks_67 rfl 3 rfl ?_
            refine r_get5 C inX5 19 (by decide) rfl f50 rfl dX5_peaks_68 ?_
            refine r_iload C dX5_peaks_71 0 rfl ?_
            refine r_iconst (v := 1) C dX5_peaks_73 rfl ?_
            refine r_isub C dX5_peaks_74 ?_
            refine r_lald C mm_aJ_64 (n - 1) ((nm_pr z57 (by omega)).1) (by omega) dX5_peaks_75 ?_
            refine r_lcmp C dX5_peaks_76 ?_
            refine r_if_le (tgt := 111) C dX5_peaks_77 (by decide) (fun z77 => ?_) (fun z77 => ?_)
            · refine r_iconst (v := 0) C dX5_peaks_111 rfl ?_
              refine r_istore (lv' := [(6, .int 0), (5, .int (nI n)), (4, .int (mr_pkN (M1.2 64) x v2_41 n)), (2, .long v2_41), (0, .ref (ad 50)), (1, .int x)]) C dX5_peaks_112 (by decide) rfl ?_
              refine r_iload C dX5_peaks_114 2 rfl ?_
              refine r_aload_n C dX5_peaks_116 rfl 4 rfl ?_
              refine r_get5 C inX5 19 (by decide) rfl f50 rfl dX5_peaks_117 ?_
              refine r_iload C dX5_peaks_120 1 rfl ?_
              refine r_lald C mm_aJ_64 (n) (nI_toInt (by omega)) (hlt) dX5_peaks_122 ?_
              refine r_lconst (v := 0) C dX5_peaks_123 rfl ?_
              refine r_lcmp C dX5_peaks_124 ?_
              refine r_if_le (tgt := 156) C dX5_peaks_125 (by decide) (fun z125 => ?_) (fun z125 => ?_)
              · refine r_iconst (v := 0) C dX5_peaks_156 rfl ?_
                refine r_iadd C dX5_peaks_157 ?_
                refine r_topi (fun v4_158 ev4_158 => ?_)
                refine r_istore (lv' := [(4, .int v4_158), (6, .int 0), (5, .int (nI n)), (2, .long v2_41), (0, .ref (ad 50)), (1, .int x)]) C dX5_peaks_158 (by decide) rfl ?_
                obtain ⟨v5_160, ev5_160⟩ : ∃ y9 : Int32, y9 = (nI n) + 1 := ⟨_, rfl⟩
                refine r_iinc (v := v5_160) (lv' := [(5, .int v5_160), (4, .int v4_158), (6, .int 0), (2, .long v2_41), (0, .ref (ad 50)), (1, .int x)]) C dX5_peaks_160 2 rfl (by rw [ev5_160]; rfl) (by decide) rfl ?_
                refine r_goto (tgt := 48) C dX5_peaks_163 (by decide) ?_
                refine r_sub (lv' := [(5, .int v5_160), (4, .int v4_158), (2, .long v2_41), (0, .ref (ad 50)), (1, .int x)]) [0, 1, 3, 4, 5] rfl ?_
                refine r_cast (M' := M1) (lv' := [(5, .int (nI (n + 1))), (4, .int (mr_pkN (M1.2 64) x v2_41 (n + 1))), (2, .long v2_41), (0, .ref (ad 50)), (1, .int x)]) (st' := []) rfl (by have e9 : mr_ab (M1.2 64) n = 0 := (by rw [mr_ab, if_neg z57, if_pos z77]); rw [ev5_160, nI_1, ev4_158, mr_pkN, mr_pk, if_pos z125]) rfl (ih48 (n + 1) (by omega) (by omega))
              · refine r_iload C dX5_peaks_128 0 rfl ?_
                refine r_if_eqT (tgt := 156) C dX5_peaks_130 (by decide) (by decide) ?_
                refine r_iconst (v := 0) C dX5_peaks_156 rfl ?_
                refine r_iadd C dX5_peaks_157 ?_
                refine r_topi (fun v4_158 ev4_158 => ?_)
                refine r_istore (lv' := [(4, .int v4_158), (6, .int 0), (5, .int (nI n)), (2, .long v2_41), (0, .ref (ad 50)), (1, .int x)]) C dX5_peaks_158 (by decide) rfl ?_
                obtain ⟨v5_160, ev5_160⟩ : ∃ y9 : Int32, y9 = (nI n) + 1 := ⟨_, rfl⟩
                refine r_iinc (v := v5_160) (lv' := [(5, .int v5_160), (4, .int v4_158), (6, .int 0), (2, .long v2_41), (0, .ref (ad 50)), (1, .int x)]) C dX5_peaks_160 2 rfl (by rw [ev5_160]; rfl) (by decide) rfl ?_
                refine r_goto (tgt := 48) C dX5_peaks_163 (by decide) ?_
                refine r_sub (lv' := [(5, .int v5_160), (4, .int v4_158), (2, .long v2_41), (0, .ref (ad 50)), (1, .int x)]) [0, 1, 3, 4, 5] rfl ?_
                refine r_cast (M' := M1) (lv' := [(5, .int (nI (n + 1))), (4, .int (mr_pkN (M1.2 64) x v2_41 (n + 1))), (2, .long v2_41), (0, .ref (ad 50)), (1, .int x)]) (st' := []) rfl (by have e9 : mr_ab (M1.2 64) n = 0 := (by rw [mr_ab, if_neg z57, if_pos z77]); rw [ev5_160, nI_1, ev4_158, mr_pkN, mr_pk, if_neg z125, if_pos e9]) rfl (ih48 (n + 1) (by omega) (by omega))
            · refine r_iload C dX5_peaks_80 0 rfl ?_
              refine r_bipush (v := (8)) C dX5_peaks_82 rfl ?_
              refine r_icmp_eq (tgt := 107) C dX5_peaks_84 (by decide) (fun z84 => ?_) (fun z84 => ?_)
              · refine r_iconst (v := 1) C dX5_peaks_107 rfl ?_
                refine r_goto (tgt := 112) C dX5_peaks_108 (by decide) ?_
                refine r_istore (lv' := [(6, .int 1), (5, .int (nI n)), (4, .int (mr_pkN (M1.2 64) x v2_41 n)), (2, .long v2_41), (0, .ref (ad 50)), (1, .int x)]) C dX5_peaks_112 (by decide) rfl ?_
                refine r_iload C dX5_peaks_114 2 rfl ?_
                refine r_aload_n C dX5_peaks_116 rfl 4 rfl ?_
                refine r_get5 C inX5 19 (by decide) rfl f50 rfl dX5_peaks_117 ?_
                refine r_iload C dX5_peaks_120 1 rfl ?_
                refine r_lald C mm_aJ_64 (n) (nI_toInt (by omega)) (hlt) dX5_peaks_122 ?_
                refine r_lconst (v := 0) C dX5_peaks_123 rfl ?_
                refine r_lcmp C dX5_peaks_124 ?_
                refine r_if_le (tgt := 156) C dX5_peaks_125 (by decide) (fun z125 => ?_) (fun z125 => ?_)
                · refine r_iconst (v := 0) C dX5_peaks_156 rfl ?_
                  refine r_iadd C dX5_peaks_157 ?_
                  refine r_topi (fun v4_158 ev4_158 => ?_)
                  refine r_istore (lv' := [(4, .int v4_158), (6, .int 1), (5, .int (nI n)), (2, .long v2_41), (0, .ref (ad 50)), (1, .int x)]) C dX5_peaks_158 (by decide) rfl ?_
                  obtain ⟨v5_160, ev5_160⟩ : ∃ y9 : Int32, y9 = (nI n) + 1 := ⟨_, rfl⟩
                  refine r_iinc (v := v5_160) (lv' := [(5, .int v5_160), (4, .int v4_158), (6, .int 1), (2, .long v2_41), (0, .ref (ad 50)), (1, .int x)]) C dX5_peaks_160 2 rfl (by rw [ev5_160]; rfl) (by decide) rfl ?_
                  refine r_goto (tgt := 48) C dX5_peaks_163 (by decide) ?_
                  refine r_sub (lv' := [(5, .int v5_160), (4, .int v4_158), (2, .long v2_41), (0, .ref (ad 50)), (1, .int x)]) [0, 1, 3, 4, 5] rfl ?_
                  refine r_cast (M' := M1) (lv' := [(5, .int (nI (n + 1))), (4, .int (mr_pkN (M1.2 64) x v2_41 (n + 1))), (2, .long v2_41), (0, .ref (ad 50)), (1, .int x)]) (st' := []) rfl (by have e9 : mr_ab (M1.2 64) n = 1 := (by rw [mr_ab, if_neg z57, if_neg z77, mr_ab2, if_pos z84]); rw [ev5_160, nI_1, ev4_158, mr_pkN, mr_pk, if_pos z125]) rfl (ih48 (n + 1) (by omega) (by omega))
                · refine r_iload C dX5_peaks_128 0 rfl ?_
                  refine r_if_eqF (tgt := 156) C dX5_peaks_130 (by decide) (by decide) ?_
                  refine r_ldc2 C n157 dX5_peaks_133 ?_
                  refine r_aload_n C dX5_peaks_136 rfl 4 rfl ?_
                  refine r_get5 C inX5 19 (by decide) rfl f50 rfl dX5_peaks_137 ?_
                  refine r_iload C dX5_peaks_140 1 rfl ?_
                  refine r_lald C mm_aJ_64 (n) (nI_toInt (by omega)) (hlt) dX5_peaks_142 ?_
                  refine r_lmul C dX5_peaks_143 ?_
                  refine r_iload_n C dX5_peaks_144 rfl 5 rfl ?_
                  refine r_i2l C dX5_peaks_145 ?_
                  refine r_lload_n C dX5_peaks_146 rfl 3 rfl ?_
                  refine r_lmul C dX5_peaks_147 ?_
                  refine r_lcmp C dX5_peaks_148 ?_
                  refine r_if_lt (tgt := 156) C dX5_peaks_149 (by decide) (fun z149 => ?_) (fun z149 => ?_)
                  · refine r_iconst (v := 0) C dX5_peaks_156 rfl ?_
                    refine r_iadd C dX5_peaks_157 ?_
                    refine r_topi (fun v4_158 ev4_158 => ?_)
                    refine r_istore (lv' := [(4, .int v4_158), (6, .int 1), (5, .int (nI n)), (2, .long v2_41), (0, .ref (ad 50)), (1, .int x)]) C dX5_peaks_158 (by decide) rfl ?_
                    obtain ⟨v5_160, ev5_160⟩ : ∃ y9 : Int32, y9 = (nI n) + 1 := ⟨_, rfl⟩
                    refine r_iinc (v := v5_160) (lv' := [(5, .int v5_160), (4, .int v4_158), (6, .int 1), (2, .long v2_41), (0, .ref (ad 50)), (1, .int x)]) C dX5_peaks_160 2 rfl (by rw [ev5_160]; rfl) (by decide) rfl ?_
                    refine r_goto (tgt := 48) C dX5_peaks_163 (by decide) ?_
                    refine r_sub (lv' := [(5, .int v5_160), (4, .int v4_158), (2, .long v2_41), (0, .ref (ad 50)), (1, .int x)]) [0, 1, 3, 4, 5] rfl ?_
                    refine r_cast (M' := M1) (lv' := [(5, .int (nI (n + 1))), (4, .int (mr_pkN (M1.2 64) x v2_41 (n + 1))), (2, .long v2_41), (0, .ref (ad 50)), (1, .int x)]) (st' := []) rfl (by have e9 : mr_ab (M1.2 64) n = 1 := (by rw [mr_ab, if_neg z57, if_neg z77, mr_ab2, if_pos z84]); rw [ev5_160, nI_1, ev4_158, mr_pkN, mr_pk, if_neg z125, if_neg (by rw [e9]; decide), if_pos z149]) rfl (ih48 (n + 1) (by omega) (by omega))
                  · refine r_iconst (v := 1) C dX5_peaks_152 rfl ?_
                    refine r_goto (tgt := 157) C dX5_peaks_153 (by decide) ?_
                    refine r_iadd C dX5_peaks_157 ?_
                    refine r_topi (fun v4_158 ev4_158 => ?_)
                    refine r_istore (lv' := [(4, .int v4_158), (6, .int 1), (5, .int (nI n)), (2, .long v2_41), (0, .ref (ad 50)), (1, .int x)]) C dX5_peaks_158 (by decide) rfl ?_
                    obtain ⟨v5_160, ev5_160⟩ : ∃ y9 : Int32, y9 = (nI n) + 1 := ⟨_, rfl⟩
                    refine r_iinc (v := v5_160) (lv' := [(5, .int v5_160), (4, .int v4_158), (6, .int 1), (2, .long v2_41), (0, .ref (ad 50)), (1, .int x)]) C dX5_peaks_160 2 rfl (by rw [ev5_160]; rfl) (by decide) rfl ?_
                    refine r_goto (tgt := 48) C dX5_peaks_163 (by decide) ?_
                    refine r_sub (lv' := [(5, .int v5_160), (4, .int v4_158), (2, .long v2_41), (0, .ref (ad 50)), (1, .int x)]) [0, 1, 3, 4, 5] rfl ?_
                    refine r_cast (M' := M1) (lv' := [(5, .int (nI (n + 1))), (4, .int (mr_pkN (M1.2 64) x v2_41 (n + 1))), (2, .long v2_41), (0, .ref (ad 50)), (1, .int x)]) (st' := []) rfl (by have e9 : mr_ab (M1.2 64) n = 1 := (by rw [mr_ab, if_neg z57, if_neg z77, mr_ab2, if_pos z84]); rw [ev5_160, nI_1, ev4_158, mr_pkN, mr_pk, if_neg z125, if_neg (by rw [e9]; decide), if_neg z149]) rfl (ih48 (n + 1) (by omega) (by omega))
              · refine r_aload_n C dX5_peaks_87 rfl 3 rfl ?_
                refine r_get5 C inX5 19 (by decide) rfl f50 rfl dX5_peaks_88 ?_
                refine r_iload C dX5_peaks_91 0 rfl ?_
                refine r_lald C mm_aJ_64 (n) (nI_toInt (by omega)) (hlt) dX5_peaks_93 ?_
                refine r_aload_n C dX5_peaks_94 rfl 3 rfl ?_
                refine r_get5 C inX5 19 (by decide) rfl f50 rfl dX5_peaks_95 ?_
                refine r_iload C dX5_peaks_98 0 rfl ?_
                refine r_iconst (v := 1) C dX5_peaks_100 rfl ?_
                refine r_iadd C dX5_peaks_101 ?_
                refine r_lald C mm_aJ_64 (n + 1) ((nm_su z84 hlt).1) ((nm_su z84 hlt).2) dX5_peaks_102 ?_
                refine r_lcmp C dX5_peaks_103 ?_
                refine r_if_le (tgt := 111) C dX5_peaks_104 (by decide) (fun z104 => ?_) (fun z104 => ?_)
                · refine r_iconst (v := 0) C dX5_peaks_111 rfl ?_
                  refine r_istore (lv' := [(6, .int 0), (5, .int (nI n)), (4, .int (mr_pkN (M1.2 64) x v2_41 n)), (2, .long v2_41), (0, .ref (ad 50)), (1, .int x)]) C dX5_peaks_112 (by decide) rfl ?_
                  refine r_iload C dX5_peaks_114 2 rfl ?_
                  refine r_aload_n C dX5_peaks_116 rfl 4 rfl ?_
                  refine r_get5 C inX5 19 (by decide) rfl f50 rfl dX5_peaks_117 ?_
                  refine r_iload C dX5_peaks_120 1 rfl ?_
                  refine r_lald C mm_aJ_64 (n) (nI_toInt (by omega)) (hlt) dX5_peaks_122 ?_
                  refine r_lconst (v := 0) C dX5_peaks_123 rfl ?_
                  refine r_lcmp C dX5_peaks_124 ?_
                  refine r_if_le (tgt := 156) C dX5_peaks_125 (by decide) (fun z125 => ?_) (fun z125 => ?_)
                  · refine r_iconst (v := 0) C dX5_peaks_156 rfl ?_
                    refine r_iadd C dX5_peaks_157 ?_
                    refine r_topi (fun v4_158 ev4_158 => ?_)
                    refine r_istore (lv' := [(4, .int v4_158), (6, .int 0), (5, .int (nI n)), (2, .long v2_41), (0, .ref (ad 50)), (1, .int x)]) C dX5_peaks_158 (by decide) rfl ?_
                    obtain ⟨v5_160, ev5_160⟩ : ∃ y9 : Int32, y9 = (nI n) + 1 := ⟨_, rfl⟩
                    refine r_iinc (v := v5_160) (lv' := [(5, .int v5_160), (4, .int v4_158), (6, .int 0), (2, .long v2_41), (0, .ref (ad 50)), (1, .int x)]) C dX5_peaks_160 2 rfl (by rw [ev5_160]; rfl) (by decide) rfl ?_
                    refine r_goto (tgt := 48) C dX5_peaks_163 (by decide) ?_
                    refine r_sub (lv' := [(5, .int v5_160), (4, .int v4_158), (2, .long v2_41), (0, .ref (ad 50)), (1, .int x)]) [0, 1, 3, 4, 5] rfl ?_
                    refine r_cast (M' := M1) (lv' := [(5, .int (nI (n + 1))), (4, .int (mr_pkN (M1.2 64) x v2_41 (n + 1))), (2, .long v2_41), (0, .ref (ad 50)), (1, .int x)]) (st' := []) rfl (by have e9 : mr_ab (M1.2 64) n = 0 := (by rw [mr_ab, if_neg z57, if_neg z77, mr_ab2, if_neg z84, if_pos z104]); rw [ev5_160, nI_1, ev4_158, mr_pkN, mr_pk, if_pos z125]) rfl (ih48 (n + 1) (by omega) (by omega))
                  · refine r_iload C dX5_peaks_128 0 rfl ?_
                    refine r_if_eqT (tgt := 156) C dX5_peaks_130 (by decide) (by decide) ?_
                    refine r_iconst (v := 0) C dX5_peaks_156 rfl ?_
                    refine r_iadd C dX5_peaks_157 ?_
                    refine r_topi (fun v4_158 ev4_158 => ?_)
                    refine r_istore (lv' := [(4, .int v4_158), (6, .int 0), (5, .int (nI n)), (2, .long v2_41), (0, .ref (ad 50)), (1, .int x)]) C dX5_peaks_158 (by decide) rfl ?_
                    obtain ⟨v5_160, ev5_160⟩ : ∃ y9 : Int32, y9 = (nI n) + 1 := ⟨_, rfl⟩
                    refine r_iinc (v := v5_160) (lv' := [(5, .int v5_160), (4, .int v4_158), (6, .int 0), (2, .long v2_41), (0, .ref (ad 50)), (1, .int x)]) C dX5_peaks_160 2 rfl (by rw [ev5_160]; rfl) (by decide) rfl ?_
                    refine r_goto (tgt := 48) C dX5_peaks_163 (by decide) ?_
                    refine r_sub (lv' := [(5, .int v5_160), (4, .int v4_158), (2, .long v2_41), (0, .ref (ad 50)), (1, .int x)]) [0, 1, 3, 4, 5] rfl ?_
                    refine r_cast (M' := M1) (lv' := [(5, .int (nI (n + 1))), (4, .int (mr_pkN (M1.2 64) x v2_41 (n + 1))), (2, .long v2_41), (0, .ref (ad 50)), (1, .int x)]) (st' := []) rfl (by have e9 : mr_ab (M1.2 64) n = 0 := (by rw [mr_ab, if_neg z57, if_neg z77, mr_ab2, if_neg z84, if_pos z104]); rw [ev5_160, nI_1, ev4_158, mr_pkN, mr_pk, if_neg z125, if_pos e9]) rfl (ih48 (n + 1) (by omega) (by omega))
                · refine r_iconst (v := 1) C dX5_peaks_107 rfl ?_
                  refine r_goto (tgt := 112) C dX5_peaks_108 (by decide) ?_
                  refine r_istore (lv' := [(6, .int 1), (5, .int (nI n)), (4, .int (mr_pkN (M1.2 64) x v2_41 n)), (2, .long v2_41), (0, .ref (ad 50)), (1, .int x)]) C dX5_peaks_112 (by decide) rfl ?_
                  refine r_iload C dX5_peaks_114 2 rfl ?_
                  refine r_aload_n C dX5_peaks_116 rfl 4 rfl ?_
                  refine r_get5 C inX5 19 (by decide) rfl f50 rfl dX5_peaks_117 ?_
                  refine r_iload C dX5_peaks_120 1 rfl ?_
                  refine r_lald C mm_aJ_64 (n) (nI_toInt (by omega)) (hlt) dX5_peaks_122 ?_
                  refine r_lconst (v := 0) C dX5_peaks_123 rfl ?_
                  refine r_lcmp C dX5_peaks_124 ?_
                  refine r_if_le (tgt := 156) C dX5_peaks_125 (by decide) (fun z125 => ?_) (fun z125 => ?_)
                  · refine r_iconst (v := 0) C dX5_peaks_156 rfl ?_
                    refine r_iadd C dX5_peaks_157 ?_
                    refine r_topi (fun v4_158 ev4_158 => ?_)
                    refine r_istore (lv' := [(4, .int v4_158), (6, .int 1), (5, .int (nI n)), (2, .long v2_41), (0, .ref (ad 50)), (1, .int x)]) C dX5_peaks_158 (by decide) rfl ?_
                    obtain ⟨v5_160, ev5_160⟩ : ∃ y9 : Int32, y9 = (nI n) + 1 := ⟨_, rfl⟩
                    refine r_iinc (v := v5_160) (lv' := [(5, .int v5_160), (4, .int v4_158), (6, .int 1), (2, .long v2_41), (0, .ref (ad 50)), (1, .int x)]) C dX5_peaks_160 2 rfl (by rw [ev5_160]; rfl) (by decide) rfl ?_
                    refine r_goto (tgt := 48) C dX5_peaks_163 (by decide) ?_
                    refine r_sub (lv' := [(5, .int v5_160), (4, .int v4_158), (2, .long v2_41), (0, .ref (ad 50)), (1, .int x)]) [0, 1, 3, 4, 5] rfl ?_
                    refine r_cast (M' := M1) (lv' := [(5, .int (nI (n + 1))), (4, .int (mr_pkN (M1.2 64) x v2_41 (n + 1))), (2, .long v2_41), (0, .ref (ad 50)), (1, .int x)]) (st' := []) rfl (by have e9 : mr_ab (M1.2 64) n = 1 := (by rw [mr_ab, if_neg z57, if_neg z77, mr_ab2, if_neg z84, if_neg z104]); rw [ev5_160, nI_1, ev4_158, mr_pkN, mr_pk, if_pos z125]) rfl (ih48 (n + 1) (by omega) (by omega))
                  · refine r_iload C dX5_peaks_128 0 rfl ?_
                    refine r_if_eqF (tgt := 156) C dX5_peaks_130 (by decide) (by decide) ?_
                    refine r_ldc2 C n157 dX5_peaks_133 ?_
                    refine r_aload_n C dX5_peaks_136 rfl 4 rfl ?_
                    refine r_get5 C inX5 19 (by decide) rfl f50 rfl dX5_peaks_137 ?_
                    refine r_iload C dX5_peaks_140 1 rfl ?_
                    refine r_lald C mm_aJ_64 (n) (nI_toInt (by omega)) (hlt) dX5_peaks_142 ?_
                    refine r_lmul C dX5_peaks_143 ?_
                    refine r_iload_n C dX5_peaks_144 rfl 5 rfl ?_
                    refine r_i2l C dX5_peaks_145 ?_
                    refine r_lload_n C dX5_peaks_146 rfl 3 rfl ?_
                    refine r_lmul C dX5_peaks_147 ?_
                    refine r_lcmp C dX5_peaks_148 ?_
                    refine r_if_lt (tgt := 156) C dX5_peaks_149 (by decide) (fun z149 => ?_) (fun z149 => ?_)
                    · refine r_iconst (v := 0) C dX5_peaks_156 rfl ?_
                      refine r_iadd C dX5_peaks_157 ?_
                      refine r_topi (fun v4_158 ev4_158 => ?_)
                      refine r_istore (lv' := [(4, .int v4_158), (6, .int 1), (5, .int (nI n)), (2, .long v2_41), (0, .ref (ad 50)), (1, .int x)]) C dX5_peaks_158 (by decide) rfl ?_
                      obtain ⟨v5_160, ev5_160⟩ : ∃ y9 : Int32, y9 = (nI n) + 1 := ⟨_, rfl⟩
                      refine r_iinc (v := v5_160) (lv' := [(5, .int v5_160), (4, .int v4_158), (6, .int 1), (2, .long v2_41), (0, .ref (ad 50)), (1, .int x)]) C dX5_peaks_160 2 rfl (by rw [ev5_160]; rfl) (by decide) rfl ?_
                      refine r_goto (tgt := 48) C dX5_peaks_163 (by decide) ?_
                      refine r_sub (lv' := [(5, .int v5_160), (4, .int v4_158), (2, .long v2_41), (0, .ref (ad 50)), (1, .int x)]) [0, 1, 3, 4, 5] rfl ?_
                      refine r_cast (M' := M1) (lv' := [(5, .int (nI (n + 1))), (4, .int (mr_pkN (M1.2 64) x v2_41 (n + 1))), (2, .long v2_41), (0, .ref (ad 50)), (1, .int x)]) (st' := []) rfl (by have e9 : mr_ab (M1.2 64) n = 1 := (by rw [mr_ab, if_neg z57, if_neg z77, mr_ab2, if_neg z84, if_neg z104]); rw [ev5_160, nI_1, ev4_158, mr_pkN, mr_pk, if_neg z125, if_neg (by rw [e9]; decide), if_pos z149]) rfl (ih48 (n + 1) (by omega) (by omega))
                    · refine r_iconst (v := 1) C dX5_peaks_152 rfl ?_
                      refine r_goto (tgt := 157) C dX5_peaks_153 (by decide) ?_
                      refine r_iadd C dX5_peaks_157 ?_
                      refine r_topi (fun v4_158 ev4_158 => ?_)
                      refine r_istore (lv' := [(4, .int v4_158), (6, .int 1), (5, .int (nI n)), (2, .long v2_41), (0, .ref (ad 50)), (1, .int x)]) C dX5_peaks_158 (by decide) rfl ?_
                      obtain ⟨v5_160, ev5_160⟩ : ∃ y9 : Int32, y9 = (nI n) + 1 := ⟨_, rfl⟩
                      refine r_iinc (v := v5_160) (lv' := [(5, .int v5_160), (4, .int v4_158), (6, .int 1), (2, .long v2_41), (0, .ref (ad 50)), (1, .int x)]) C dX5_peaks_160 2 rfl (by rw [ev5_160]; rfl) (by decide) rfl ?_
                      refine r_goto (tgt := 48) C dX5_peaks_163 (by decide) ?_
                      refine r_sub (lv' := [(5, .int v5_160), (4, .int v4_158), (2, .long v2_41), (0, .ref (ad 50)), (1, .int x)]) [0, 1, 3, 4, 5] rfl ?_
                      refine r_cast (M' := M1) (lv' := [(5, .int (nI (n + 1))), (4, .int (mr_pkN (M1.2 64) x v2_41 (n + 1))), (2, .long v2_41), (0, .ref (ad 50)), (1, .int x)]) (st' := []) rfl (by have e9 : mr_ab (M1.2 64) n = 1 := (by rw [mr_ab, if_neg z57, if_neg z77, mr_ab2, if_neg z84, if_neg z104]); rw [ev5_160, nI_1, ev4_158, mr_pkN, mr_pk, if_neg z125, if_neg (by rw [e9]; decide), if_neg z149]) rfl (ih48 (n + 1) (by omega) (by omega))
    refine r_cast (M' := M1) (lv' := [(5, .int (nI 0)), (4, .int (mr_pkN (M1.2 64) x v2_41 0)), (2, .long v2_41), (0, .ref (ad 50)), (1, .int x)]) (st' := []) rfl rfl rfl (L48 (9 - 0 + 1) 0 (by omega) (by omega))

def mr_allN (F : mm_F) (N : Nat) : Nat → Int32
  | 0 => 0
  | n + 1 => mr_allN F N n + mr_w F (nI n) n N
def mr_meN (M : mm_M) (N : Nat) (b : Int32) (n : Nat) : mm_M := mm_rowI M 63 n (fun c => (nm_fdJ (mr_sumN M.1 N 62 b (M.1 50 0 - 1 - 47 + nI c) N) (mr_allN M.1 N N).toInt64).toInt32)
def mr_tick1 (F : mm_F) (b : Int32) (n k : Nat) : Int32 := F 50 0 - 1 - 47 + nI n + mr_delay F k b + F 57 k
def mr_tk1 (M : mm_M) (b : Int32) (n k : Nat) : mm_M := if M.1 55 k = 0 then M else if mr_isK M.1 k (mr_tick1 M.1 b n k) = 0 then M else mm_sI M 62 (64 * k + (mr_tick1 M.1 b n k).toInt.toNat % 64) (M.1 62 (64 * k + (mr_tick1 M.1 b n k).toInt.toNat % 64) - M.1 63 n)
def mr_tkI (M : mm_M) (b : Int32) (n : Nat) : Nat → mm_M
  | 0 => M
  | k + 1 => mr_tk1 (mr_tkI M b n k) b n k
def mr_tkO (M : mm_M) (N : Nat) (b : Int32) : Nat → mm_M
  | 0 => M
  | n + 1 => mr_tkI (mr_tkO M N b n) b n N
def mr_takes (M : mm_M) (N : Nat) (b : Int32) : mm_M := mr_tkO (mr_meN M N b 32) N b 32
theorem mr_eq_63 {M : mm_M} {n : Nat} {f : Nat → Int32} : mr_eq (mm_rowI M 63 n f).1 M.1 :=
  ⟨mm_rowI_o (by decide), mm_rowI_o (by decide), funext fun _ => mm_rowI_o (by decide), funext fun _ => mm_rowI_o (by decide), funext fun _ => mm_rowI_o (by decide), funext fun _ => mm_rowI_o (by decide), funext fun _ => mm_rowI_o (by decide)⟩
theorem mr_me_s {M : mm_M} {N : Nat} {b : Int32} {n : Nat} : mm_sI (mr_meN M N b n) 63 n (nm_fdJ (mr_sumN (mr_meN M N b n).1 N 62 b ((mr_meN M N b n).1 50 0 - 1 - 47 + nI n) N) (mr_allN M.1 N N).toInt64).toInt32 = mr_meN M N b (n + 1) := by
  have e1 : ∀ t, mr_sumN (mr_meN M N b n).1 N 62 b t N = mr_sumN M.1 N 62 b t N := fun t => mr_sumN_c mr_eq_63 (funext fun _ => mm_rowI_o (by decide)) N
  have e2 : (mr_meN M N b n).1 50 0 = M.1 50 0 := mm_rowI_o (by decide)
  rw [e1, e2]
  exact mm_rowI_s
theorem mr_tk1_o {M : mm_M} {b : Int32} {n k a j : Nat} (h : a ≠ 62) : (mr_tk1 M b n k).1 a j = M.1 a j := by
  unfold mr_tk1
  split
  · rfl
  · split
    · rfl
    · exact mm_sI_k h
theorem mr_tkI_o {M : mm_M} {b : Int32} {n a j : Nat} (h : a ≠ 62) : ∀ k, (mr_tkI M b n k).1 a j = M.1 a j
  | 0 => rfl
  | k + 1 => by rw [mr_tkI, mr_tk1_o h, mr_tkI_o h k]
theorem mr_tkO_o {M : mm_M} {N : Nat} {b : Int32} {a j : Nat} (h : a ≠ 62) : ∀ n, (mr_tkO M N b n).1 a j = M.1 a j
  | 0 => rfl
  | n + 1 => by rw [mr_tkO, mr_tkI_o h, mr_tkO_o h n]
theorem mr_takes_o {M : mm_M} {N : Nat} {b : Int32} {a j : Nat} (h : a ≠ 62) (h2 : a ≠ 63) : (mr_takes M N b).1 a j = M.1 a j := by
  rw [mr_takes, mr_tkO_o h]; exact mm_rowI_o h2
abbrev rmX5_takes : Room := { frames := 4, cells := 0, slots := 0, locals := 94 }
set_option maxHeartbeats 400000 in
set_option maxRecDepth 100000 in
theorem kX5_takes {l : Launch} {D : va_G} {ad : Nat → Nat} {q : Nat → ClassId} {A : Nat → Prop} (hAD : mm_AD ad A) {N : Nat} {M : mm_M} (hN : M.1 50 1 = nI N) (hN8 : N ≤ 8) (hg : ∀ k : Nat, k < N → 0 < (M.1 56 k).toInt) {b : Int32} (hall : 0 < (mr_allN M.1 N N).toInt64.toInt) : mm_Kd l D ad q A yX5_takes wsX5_takes rmX5_takes [.ref (ad 50), .int b] M none (mr_takes M N b) := by
  have inX5 : ∀ w ∈ wsX50, w ∈ wsX5_takes := by decide +kernel
  have f22 : Cond.fieldLink RX5 22 "BeamrowModel" "isAlive" "[Z" ∈ wsX5_takes := by decide +kernel
  have f29 : Cond.fieldLink RX5 29 "BeamrowModel" "byLag" "[I" ∈ wsX5_takes := by decide +kernel
  have f44 : Cond.fieldLink RX5 44 "BeamrowModel" "left" "[I" ∈ wsX5_takes := by decide +kernel
  have f47 : Cond.fieldLink RX5 47 "BeamrowModel" "means" "[I" ∈ wsX5_takes := by decide +kernel
  have f61 : Cond.fieldLink RX5 61 "BeamrowModel" "elements" "I" ∈ wsX5_takes := by decide +kernel
  have f78 : Cond.fieldLink RX5 78 "BeamrowModel" "next" "I" ∈ wsX5_takes := by decide +kernel
  refine mm_of (cc := cX5_takes) (maxL := 6) (ret := none) (own := RX5) rfl hAD (plainFor_of_name (by decide)) rfl (Nat.le_of_ble_eq_true rfl) ⟨rfl, rfl⟩ ?_
  intro pp ee ss mm bl mth cd C hret hlk9
  show mm_G _ _ _ _ _ _ _ _ _ _ _ _ _ _ _ _ _ _ M 0 [(0, .ref (ad 50)), (1, .int b)] []
  refine r_iconst (v := 0) C dX5_takes_0 rfl ?_
  refine r_istore_n (lv' := [(2, .int 0), (0, .ref (ad 50)), (1, .int b)]) C dX5_takes_1 rfl (by decide) rfl ?_
  refine r_iconst (v := 0) C dX5_takes_2 rfl ?_
  refine r_istore_n (lv' := [(3, .int 0), (2, .int 0), (0, .ref (ad 50)), (1, .int b)]) C dX5_takes_3 rfl (by decide) rfl ?_
  have L4 : ∀ (k9 : Nat) (n : Nat) (hn : n ≤ N), N - n < k9 → mm_G pp l ee rmX5_takes ss mm ([.ref (ad 50), .int b] : List Value).toArray bl mth cd 0 0 (MQ bl (mm_Q D ad q A (fun v' u => v' = none ∧ u = mr_takes M N b)) ([.ref (ad 50), .int b] : List Value).toArray ss 0 0 A) 6 D ad q A (M) 4 [(3, .int (nI n)), (2, .int (mr_allN M.1 N n)), (0, .ref (ad 50)), (1, .int b)] [] := by
    intro k9
    induction k9 with
    | zero => intro n hn h9; exact absurd h9 (Nat.not_lt_zero _)
    | succ k9 ih4 =>
      intro n hn h9
      refine r_iload_n C dX5_takes_4 rfl 0 rfl ?_
      refine r_aload_n C dX5_takes_5 rfl 2 rfl ?_
      refine r_get5 C inX5 1 (by decide) rfl f61 rfl dX5_takes_6 ?_
      refine r_icmp_ge (tgt := 26) C dX5_takes_9 (by decide) (fun z9 => ?_) (fun z9 => ?_)
      · rw [hN] at z9
        obtain rfl : N = n := (nm_ge hn (by omega) z9).symm
        refine r_iconst (v := 0) C dX5_takes_26 rfl ?_
        refine r_istore_n (lv' := [(3, .int 0), (2, .int (mr_allN M.1 N N)), (0, .ref (ad 50)), (1, .int b)]) C dX5_takes_27 rfl (by decide) rfl ?_
        have L28 : ∀ (k9 : Nat) (n : Nat) (hn : n ≤ 32), 32 - n < k9 → mm_G pp l ee rmX5_takes ss mm ([.ref (ad 50), .int b] : List Value).toArray bl mth cd 0 0 (MQ bl (mm_Q D ad q A (fun v' u => v' = none ∧ u = mr_takes M N b)) ([.ref (ad 50), .int b] : List Value).toArray ss 0 0 A) 6 D ad q A (mr_meN M N b n) 28 [(3, .int (nI n)), (2, .int (mr_allN M.1 N N)), (0, .ref (ad 50)), (1, .int b)] [] := by
          intro k9
          induction k9 with
          | zero => intro n hn h9; exact absurd h9 (Nat.not_lt_zero _)
          | succ k9 ih28 =>
            intro n hn h9
            refine r_iload_n C dX5_takes_28 rfl 0 rfl ?_
            refine r_bipush (v := (32)) C dX5_takes_29 rfl ?_
            refine r_icmp_ge (tgt := 72) C dX5_takes_31 (by decide) (fun z31 => ?_) (fun z31 => ?_)
            · obtain rfl : n = 32 := nm_ge hn (by decide) z31
              refine r_iconst (v := 0) C dX5_takes_72 rfl ?_
              refine r_istore_n (lv' := [(3, .int 0), (2, .int (mr_allN M.1 N N)), (0, .ref (ad 50)), (1, .int b)]) C dX5_takes_73 rfl (by decide) rfl ?_
              have L74 : ∀ (k9 : Nat) (n : Nat) (hn : n ≤ 32), 32 - n < k9 → mm_G pp l ee rmX5_takes ss mm ([.ref (ad 50), .int b] : List Value).toArray bl mth cd 0 0 (MQ bl (mm_Q D ad q A (fun v' u => v' = none ∧ u = mr_takes M N b)) ([.ref (ad 50), .int b] : List Value).toArray ss 0 0 A) 6 D ad q A (mr_tkO (mr_meN M N b 32) N b n) 74 [(3, .int (nI n)), (0, .ref (ad 50)), (1, .int b)] [] := by
                intro k9
                induction k9 with
                | zero => intro n hn h9; exact absurd h9 (Nat.not_lt_zero _)
                | succ k9 ih74 =>
                  intro n hn h9
                  refine r_iload_n C dX5_takes_74 rfl 0 rfl ?_
                  refine r_bipush (v := (32)) C dX5_takes_75 rfl ?_
                  refine r_icmp_ge (tgt := 179) C dX5_takes_77 (by decide) (fun z77 => ?_) (fun z77 => ?_)
                  · obtain rfl : n = 32 := nm_ge hn (by decide) z77
                    exact r_vret C hret hlk9 dX5_takes_179 ⟨by first | rfl | (subst_vars; rfl) | (subst_vars; simp [*]), by first | rfl | (subst_vars; rfl)⟩
                  · have hlt : n < 32 := nm_lt (by omega) (by decide) z77
                    refine r_iconst (v := 0) C dX5_takes_80 rfl ?_
                    refine r_istore (lv' := [(4, .int 0), (3, .int (nI n)), (0, .ref (ad 50)), (1, .int b)]) C dX5_takes_81 (by decide) rfl ?_
                    have L83 : ∀ (k9 : Nat) (k : Nat) (hk : k ≤ N), N - k < k9 → mm_G pp l ee rmX5_takes ss mm ([.ref (ad 50), .int b] : List Value).toArray bl mth cd 0 0 (MQ bl (mm_Q D ad q A (fun v' u => v' = none ∧ u = mr_takes M N b)) ([.ref (ad 50), .int b] : List Value).toArray ss 0 0 A) 6 D ad q A (mr_tkI (mr_tkO (mr_meN M N b 32) N b n) b n k) 83 [(4, .int (nI k)), (3, .int (nI n)), (0, .ref (ad 50)), (1, .int b)] [] := by
                      intro k9
                      induction k9 with
                      | zero => intro k hk h9; exact absurd h9 (Nat.not_lt_zero _)
                      | succ k9 ih83 =>
                        intro k hk h9
                        refine r_iload C dX5_takes_83 0 rfl ?_
                        refine r_aload_n C dX5_takes_85 rfl 2 rfl ?_
                        refine r_get5 C inX5 1 (by decide) rfl f61 rfl dX5_takes_86 ?_
                        refine r_icmp_ge (tgt := 173) C dX5_takes_89 (by decide) (fun z89 => ?_) (fun z89 => ?_)
                        · rw [show (mr_tkI (mr_tkO (mr_meN M N b 32) N b n) b n k).1 50 1 = nI N from by rw [mr_tkI_o (by decide), mr_tkO_o (by decide)]; exact (mm_rowI_o (by decide)).trans hN] at z89
                          obtain rfl : N = k := (nm_ge hk (by omega) z89).symm
                          obtain ⟨v3_173, ev3_173⟩ : ∃ y9 : Int32, y9 = (nI n) + 1 := ⟨_, rfl⟩
                          refine r_iinc (v := v3_173) (lv' := [(3, .int v3_173), (4, .int (nI N)), (0, .ref (ad 50)), (1, .int b)]) C dX5_takes_173 1 rfl (by rw [ev3_173]; rfl) (by decide) rfl ?_
                          refine r_goto (tgt := 74) C dX5_takes_176 (by decide) ?_
                          refine r_sub (lv' := [(3, .int v3_173), (0, .ref (ad 50)), (1, .int b)]) [0, 2, 3] rfl ?_
                          refine r_cast (M' := mr_tkO (mr_meN M N b 32) N b (n + 1)) (lv' := [(3, .int (nI (n + 1))), (0, .ref (ad 50)), (1, .int b)]) (st' := []) rfl (by rw [ev3_173, nI_1]; first | done | rfl) rfl (ih74 (n + 1) (by omega) (by omega))
                        · rw [show (mr_tkI (mr_tkO (mr_meN M N b 32) N b n) b n k).1 50 1 = nI N from by rw [mr_tkI_o (by decide), mr_tkO_o (by decide)]; exact (mm_rowI_o (by decide)).trans hN] at z89
                          have hltk : k < N := nm_lt (by omega) (by omega) z89
                          refine r_aload_n C dX5_takes_92 rfl 2 rfl ?_
                          refine r_get5 C inX5 0 (by decide) rfl f78 rfl dX5_takes_93 ?_
                          refine r_iconst (v := 1) C dX5_takes_96 rfl ?_
                          refine r_isub C dX5_takes_97 ?_
                          refine r_bipush (v := (47)) C dX5_takes_98 rfl ?_
                          refine r_isub C dX5_takes_100 ?_
                          refine r_iload_n C dX5_takes_101 rfl 1 rfl ?_
                          refine r_iadd C dX5_takes_102 ?_
                          refine r_aload_n C dX5_takes_103 rfl 2 rfl ?_
                          refine r_iload C dX5_takes_104 0 rfl ?_
                          refine r_iload_n C dX5_takes_106 rfl 3 rfl ?_
                          refine r_callV2I C 5 (by decide) rfl (mm_ct5 ad q _) (kX5_delay hAD (k) (nI_toInt (by omega)) (by omega)) (cwV 2 C.1.2.2.2.2 gX5_takes_X5_delay rfl rfl rfl (by decide +kernel) ⟨Nat.le_of_ble_eq_true rfl, Nat.le_of_ble_eq_true rfl⟩) (Nat.le_of_ble_eq_true rfl) dX5_takes_107 ⟨rfl, rfl⟩ ⟨Nat.zero_le _, Nat.zero_le _⟩ ?_
                          refine r_iadd C dX5_takes_110 ?_
                          refine r_aload_n C dX5_takes_111 rfl 2 rfl ?_
                          refine r_get5 C inX5 8 (by decide) rfl f29 rfl dX5_takes_112 ?_
                          refine r_iload C dX5_takes_115 0 rfl ?_
                          refine r_iald C mm_aI_57 (k) (nI_toInt (by omega)) (by omega) dX5_takes_117 ?_
                          refine r_iadd C dX5_takes_118 ?_
                          refine r_topi (fun v5_119 ev5_119 => ?_)
                          refine r_istore (lv' := [(5, .int v5_119), (4, .int (nI k)), (3, .int (nI n)), (0, .ref (ad 50)), (1, .int b)]) C dX5_takes_119 (by decide) rfl ?_
                          refine r_aload_n C dX5_takes_121 rfl 3 rfl ?_
                          refine r_get5 C inX5 6 (by decide) rfl f22 rfl dX5_takes_122 ?_
                          refine r_iload C dX5_takes_125 1 rfl ?_
                          refine r_zald C (k) (nI_toInt (by omega)) (by omega) dX5_takes_127 ?_
                          refine r_if_eq (tgt := 167) C dX5_takes_128 (by decide) (fun z128 => ?_) (fun z128 => ?_)
                          · obtain ⟨v4_167, ev4_167⟩ : ∃ y9 : Int32, y9 = (nI k) + 1 := ⟨_, rfl⟩
                            refine r_iinc (v := v4_167) (lv' := [(4, .int v4_167), (5, .int v5_119), (3, .int (nI n)), (0, .ref (ad 50)), (1, .int b)]) C dX5_takes_167 1 rfl (by rw [ev4_167]; rfl) (by decide) rfl ?_
                            refine r_goto (tgt := 83) C dX5_takes_170 (by decide) ?_
                            refine r_sub (lv' := [(4, .int v4_167), (3, .int (nI n)), (0, .ref (ad 50)), (1, .int b)]) [0, 2, 3, 4] rfl ?_
                            refine r_cast (M' := mr_tkI (mr_tkO (mr_meN M N b 32) N b n) b n (k + 1)) (lv' := [(4, .int (nI (k + 1))), (3, .int (nI n)), (0, .ref (ad 50)), (1, .int b)]) (st' := []) (by rw [mr_tkI, mr_tk1]; first | (rw [if_pos z128]; done) | (rw [if_neg z128, if_pos (by rw [mr_tick1, ← ev5_119]; exact z139)]; done) | (rw [if_neg z128, if_neg (by rw [mr_tick1, ← ev5_119]; exact z139), mr_tick1, ← ev5_119]; done)) (by rw [ev4_167, nI_1]; first | done | rfl) rfl (ih83 (k + 1) (by omega) (by omega))
                          · refine r_aload_n C dX5_takes_131 rfl 3 rfl ?_
                            refine r_iload C dX5_takes_132 1 rfl ?_
                            refine r_iload C dX5_takes_134 0 rfl ?_
                            refine r_callV2I C 5 (by decide) rfl (mm_ct5 ad q _) (kX5_isKept hAD (k) (nI_toInt (by omega)) (by omega)) (cwV 2 C.1.2.2.2.2 gX5_takes_X5_isKept rfl rfl rfl (by decide +kernel) ⟨Nat.le_of_ble_eq_true rfl, Nat.le_of_ble_eq_true rfl⟩) (Nat.le_of_ble_eq_true rfl) dX5_takes_136 ⟨rfl, rfl⟩ ⟨Nat.zero_le _, Nat.zero_le _⟩ ?_
                            refine r_if_eq (tgt := 167) C dX5_takes_139 (by decide) (fun z139 => ?_) (fun z139 => ?_)
                            · obtain ⟨v4_167, ev4_167⟩ : ∃ y9 : Int32, y9 = (nI k) + 1 := ⟨_, rfl⟩
                              refine r_iinc (v := v4_167) (lv' := [(4, .int v4_167), (5, .int v5_119), (3, .int (nI n)), (0, .ref (ad 50)), (1, .int b)]) C dX5_takes_167 1 rfl (by rw [ev4_167]; rfl) (by decide) rfl ?_
                              refine r_goto (tgt := 83) C dX5_takes_170 (by decide) ?_
                              refine r_sub (lv' := [(4, .int v4_167), (3, .int (nI n)), (0, .ref (ad 50)), (1, .int b)]) [0, 2, 3, 4] rfl ?_
                              refine r_cast (M' := mr_tkI (mr_tkO (mr_meN M N b 32) N b n) b n (k + 1)) (lv' := [(4, .int (nI (k + 1))), (3, .int (nI n)), (0, .ref (ad 50)), (1, .int b)]) (st' := []) (by rw [mr_tkI, mr_tk1]; first | (rw [if_pos z128]; done) | (rw [if_neg z128, if_pos (by rw [mr_tick1, ← ev5_119]; exact z139)]; done) | (rw [if_neg z128, if_neg (by rw [mr_tick1, ← ev5_119]; exact z139), mr_tick1, ← ev5_119]; done)) (by rw [ev4_167, nI_1]; first | done | rfl) rfl (ih83 (k + 1) (by omega) (by omega))
                            · refine r_aload_n C dX5_takes_142 rfl 3 rfl ?_
                              refine r_get5 C inX5 17 (by decide) rfl f44 rfl dX5_takes_143 ?_
                              refine r_bipush (v := (64)) C dX5_takes_146 rfl ?_
                              refine r_iload C dX5_takes_148 1 rfl ?_
                              refine r_imul C dX5_takes_150 ?_
                              refine r_iload C dX5_takes_151 0 rfl ?_
                              refine r_bipush (v := (64)) C dX5_takes_153 rfl ?_
                              refine r_irem C dX5_takes_155 (by decide) ?_
                              refine r_iadd C dX5_takes_156 ?_
                              refine r_dup2_11 C dX5_takes_157 rfl rfl ?_
                              refine r_iald C mm_aI_62 (64 * k + v5_119.toInt.toNat % 64) (nm_kx (nI_toInt (by omega)) (by omega) (mr_isK_pos z139)) (by omega) dX5_takes_158 ?_
                              refine r_aload_n C dX5_takes_159 rfl 3 rfl ?_
                              refine r_get5 C inX5 18 (by decide) rfl f47 rfl dX5_takes_160 ?_
                              refine r_iload_n C dX5_takes_163 rfl 2 rfl ?_
                              refine r_iald C mm_aI_63 (n) (nI_toInt (by omega)) (hlt) dX5_takes_164 ?_
                              refine r_isub C dX5_takes_165 ?_
                              refine r_iast C mm_aI_62 (64 * k + v5_119.toInt.toNat % 64) (nm_kx (nI_toInt (by omega)) (by omega) (mr_isK_pos z139)) (by omega) dX5_takes_166 ?_
                              obtain ⟨v4_167, ev4_167⟩ : ∃ y9 : Int32, y9 = (nI k) + 1 := ⟨_, rfl⟩
                              refine r_iinc (v := v4_167) (lv' := [(4, .int v4_167), (5, .int v5_119), (3, .int (nI n)), (0, .ref (ad 50)), (1, .int b)]) C dX5_takes_167 1 rfl (by rw [ev4_167]; rfl) (by decide) rfl ?_
                              refine r_goto (tgt := 83) C dX5_takes_170 (by decide) ?_
                              refine r_sub (lv' := [(4, .int v4_167), (3, .int (nI n)), (0, .ref (ad 50)), (1, .int b)]) [0, 2, 3, 4] rfl ?_
                              refine r_cast (M' := mr_tkI (mr_tkO (mr_meN M N b 32) N b n) b n (k + 1)) (lv' := [(4, .int (nI (k + 1))), (3, .int (nI n)), (0, .ref (ad 50)), (1, .int b)]) (st' := []) (by rw [mr_tkI, mr_tk1]; first | (rw [if_pos z128]; done) | (rw [if_neg z128, if_pos (by rw [mr_tick1, ← ev5_119]; exact z139)]; done) | (rw [if_neg z128, if_neg (by rw [mr_tick1, ← ev5_119]; exact z139), mr_tick1, ← ev5_119]; done)) (by rw [ev4_167, nI_1]; first | done | rfl) rfl (ih83 (k + 1) (by omega) (by omega))
                    refine r_cast (M' := mr_tkI (mr_tkO (mr_meN M N b 32) N b n) b n 0) (lv' := [(4, .int (nI 0)), (3, .int (nI n)), (0, .ref (ad 50)), (1, .int b)]) (st' := []) rfl rfl rfl (L83 (N - 0 + 1) 0 (Nat.zero_le _) (by omega))
              refine r_sub (lv' := [(3, .int 0), (0, .ref (ad 50)), (1, .int b)]) [0, 2, 3] rfl ?_
              refine r_cast (M' := mr_tkO (mr_meN M N b 32) N b 0) (lv' := [(3, .int (nI 0)), (0, .ref (ad 50)), (1, .int b)]) (st' := []) rfl rfl rfl (L74 (32 - 0 + 1) 0 (by omega) (by omega))
            · have hlt : n < 32 := nm_lt (by omega) (by decide) z31
              refine r_aload_n C dX5_takes_34 rfl 2 rfl ?_
              refine r_get5 C inX5 18 (by decide) rfl f47 rfl dX5_takes_35 ?_
              refine r_iload_n C dX5_takes_38 rfl 0 rfl ?_
              refine r_aload_n C dX5_takes_39 rfl 2 rfl ?_
              refine r_aload_n C dX5_takes_40 rfl 2 rfl ?_
              refine r_get5 C inX5 17 (by decide) rfl f44 rfl dX5_takes_41 ?_
              refine r_iload_n C dX5_takes_44 rfl 3 rfl ?_
              refine r_aload_n C dX5_takes_45 rfl 2 rfl ?_
              refine r_get5 C inX5 0 (by decide) rfl f78 rfl dX5_takes_46 ?_
              refine r_iconst (v := 1) C dX5_takes_49 rfl ?_
              refine r_isub C dX5_takes_50 ?_
              refine r_bipush (v := (47)) C dX5_takes_51 rfl ?_
              refine r_isub C dX5_takes_53 ?_
              refine r_iload_n C dX5_takes_54 rfl 0 rfl ?_
              refine r_iadd C dX5_takes_55 ?_
              refine r_callV3J C 5 (by decide) rfl (mm_ct5 ad q _) (kX5_sumOf hAD (by exact mm_aI_62) (by exact (mm_rowI_o (by decide)).trans hN) (by exact hN8) (by intro k9 hk9; rw [show (mr_meN M N b n).1 56 k9 = M.1 56 k9 from mm_rowI_o (by decide)]; exact hg k9 hk9)) (cwV 3 C.1.2.2.2.2 gX5_takes_X5_sumOf rfl rfl rfl (by decide +kernel) ⟨Nat.le_of_ble_eq_true rfl, Nat.le_of_ble_eq_true rfl⟩) (Nat.le_of_ble_eq_true rfl) dX5_takes_56 ⟨rfl, rfl⟩ ⟨Nat.zero_le _, Nat.zero_le _⟩ ?_
              refine r_iload_n C dX5_takes_59 rfl 1 rfl ?_
              refine r_i2l C dX5_takes_60 ?_
              refine r_callS2J C (kX5_down hAD (by exact hall)) (va_cwS 2 C.1.2.2.2.2 gX5_takes_X5_down rfl rfl rfl (by decide +kernel) ⟨Nat.le_of_ble_eq_true rfl, Nat.le_of_ble_eq_true rfl⟩) (Nat.le_of_ble_eq_true rfl) dX5_takes_61 ⟨rfl, rfl⟩ ⟨Nat.zero_le _, Nat.zero_le _⟩ ?_
              refine r_l2i C dX5_takes_64 ?_
              refine r_iast C mm_aI_63 (n) (nI_toInt (by omega)) (hlt) dX5_takes_65 ?_
              obtain ⟨v3_66, ev3_66⟩ : ∃ y9 : Int32, y9 = (nI n) + 1 := ⟨_, rfl⟩
              refine r_iinc (v := v3_66) (lv' := [(3, .int v3_66), (2, .int (mr_allN M.1 N N)), (0, .ref (ad 50)), (1, .int b)]) C dX5_takes_66 0 rfl (by rw [ev3_66]; rfl) (by decide) rfl ?_
              refine r_goto (tgt := 28) C dX5_takes_69 (by decide) ?_
              refine r_cast (M' := mr_meN M N b (n + 1)) (lv' := [(3, .int (nI (n + 1))), (2, .int (mr_allN M.1 N N)), (0, .ref (ad 50)), (1, .int b)]) (st' := []) mr_me_s (by rw [ev3_66, nI_1]; first | done | rfl) rfl (ih28 (n + 1) (by omega) (by omega))
        refine r_cast (M' := mr_meN M N b 0) (lv' := [(3, .int (nI 0)), (2, .int (mr_allN M.1 N N)), (0, .ref (ad 50)), (1, .int b)]) (st' := []) mm_rowI_0 rfl rfl (L28 (32 - 0 + 1) 0 (by omega) (by omega))
      · rw [hN] at z9
        have hlt : n < N := nm_lt (by omega) (by omega) z9
        refine r_iload_n C dX5_takes_12 rfl 1 rfl ?_
        refine r_aload_n C dX5_takes_13 rfl 2 rfl ?_
        refine r_iload_n C dX5_takes_14 rfl 0 rfl ?_
        refine r_callV1I C 5 (by decide) rfl (mm_ct5 ad q _) (kX5_weight hAD (by exact hN) (by exact hN8) (n) (nI_toInt (by omega)) (by omega)) (cwV 1 C.1.2.2.2.2 gX5_takes_X5_weight rfl rfl rfl (by decide +kernel) ⟨Nat.le_of_ble_eq_true rfl, Nat.le_of_ble_eq_true rfl⟩) (Nat.le_of_ble_eq_true rfl) dX5_takes_15 ⟨rfl, rfl⟩ ⟨Nat.zero_le _, Nat.zero_le _⟩ ?_
        refine r_iadd C dX5_takes_18 ?_
        refine r_topi (fun v2_19 ev2_19 => ?_)
        refine r_istore_n (lv' := [(2, .int v2_19), (3, .int (nI n)), (0, .ref (ad 50)), (1, .int b)]) C dX5_takes_19 rfl (by decide) rfl ?_
        obtain ⟨v3_20, ev3_20⟩ : ∃ y9 : Int32, y9 = (nI n) + 1 := ⟨_, rfl⟩
        refine r_iinc (v := v3_20) (lv' := [(3, .int v3_20), (2, .int v2_19), (0, .ref (ad 50)), (1, .int b)]) C dX5_takes_20 1 rfl (by rw [ev3_20]; rfl) (by decide) rfl ?_
        refine r_goto (tgt := 4) C dX5_takes_23 (by decide) ?_
        refine r_cast (M' := M) (lv' := [(3, .int (nI (n + 1))), (2, .int (mr_allN M.1 N (n + 1))), (0, .ref (ad 50)), (1, .int b)]) (st' := []) rfl (by rw [ev3_20, nI_1, ev2_19]; rfl) rfl (ih4 (n + 1) (by omega) (by omega))
  refine r_cast (M' := M) (lv' := [(3, .int (nI 0)), (2, .int (mr_allN M.1 N 0)), (0, .ref (ad 50)), (1, .int b)]) (st' := []) rfl rfl rfl (L4 (N - 0 + 1) 0 (Nat.zero_le _) (by omega))
