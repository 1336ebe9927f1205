/-- G: the nine powers -/
theorem mk_fp_1 {P : mm_M} : ∀ n, (mc_fpM P n).1 = P.1
  | 0 => rfl
  | n + 1 => by rw [mc_fpM, mm_sL_1]; unfold mc_steer; rw [mk_st_1, mk_fp_1 n]
theorem mk_fp_o {P : mm_M} {k c : Nat} (h1 : k ≠ 4) (h2 : k ≠ 5) : ∀ n, (mc_fpM P n).2 k c = P.2 k c
  | 0 => rfl
  | n + 1 => by rw [mc_fpM, mm_sL_k h2]; unfold mc_steer; rw [mk_st_o h1, mk_fp_o h1 h2 n]
theorem mk_b9 {k : Nat} (hk : k < 9) : (nI k - 4).toInt = (k : Int) - 4 := by
  have e4 : (4 : Int32).toInt = 4 := rfl
  have hni : (nI k).toInt = (k : Int) := nI_toInt (by omega)
  rw [mk_is, hni, e4] <;> rw [hni, e4] <;> omega
theorem mk_fp {M P : mm_M} {F : mm_F} {r N S T : Nat} (h : mk_R M N S T) (hT : T ≤ 60000) (hP : mk_P M P F r N T) : ∀ n, n ≤ 9 → ∀ k, k < n → (mc_fpM P n).2 5 k = mr_powN F N r (nI k - 4) 32
  | 0, _, k, hk => absurd hk (Nat.not_lt_zero k)
  | n + 1, hn, k, hk => by
    have hN8 := h.N8
    have hP' : mk_P M (mc_fpM P n) F r N T := hP.same (mk_fp_1 n) (fun k c h1 h2 => mk_fp_o (by omega) (by omega) n) hN8
    rw [mc_fpM]
    by_cases z : k = n
    · subst z
      rw [mm_sL_s, mk_pow h hT hP' (by rw [mk_b9 (by omega)]; omega) 32 (Nat.le_refl 32)]
    · rw [mm_sL_j z]
      unfold mc_steer
      rw [mk_st_o (by decide), mk_fp h hT hP n (by omega) k (by omega)]
/-- the greatest, of the class: not under 0 -/
def mk_G (L : Nat → Int64) : Nat → Int64
  | 0 => 0
  | n + 1 => if L n < mk_G L n then mk_G L n else L n
theorem mk_fpG {P : mm_M} {L : Nat → Int64} (hL : ∀ n k, n ≤ 9 → k < n → (mc_fpM P n).2 5 k = L k) : ∀ n, n ≤ 9 → mc_fpG P n = mk_G L n
  | 0, _ => rfl
  | n + 1, hn => by rw [mc_fpG, mk_G, mk_fpG hL n (by omega), hL (n + 1) n hn (by omega)]
theorem mk_le {x y : Int64} : (lg_cmp x y ≤ 0) ↔ x.toInt ≤ y.toInt := by
  have h := lg_gt0 (x := x) (y := y)
  constructor
  · intro k
    refine Int.not_lt.mp fun z => ?_
    have h1 := Int32.lt_iff_toInt_lt.mp (h.mpr (Int64.lt_iff_toInt_lt.mpr z))
    have h2 := Int32.le_iff_toInt_le.mp k
    omega
  · intro k
    refine Int32.le_iff_toInt_le.mpr (Int.not_lt.mp fun z => ?_)
    have := Int64.lt_iff_toInt_lt.mp (h.mp (Int32.lt_iff_toInt_lt.mpr z))
    omega
theorem mk_G_gr (L : Nat → Int64) : ∀ n, (mk_G L (n + 1)).toInt = if (L (mr_gr L n)).toInt < 0 then 0 else (L (mr_gr L n)).toInt
  | 0 => by
    show (if L 0 < (0 : Int64) then (0 : Int64) else L 0).toInt = if (L 0).toInt < 0 then 0 else (L 0).toInt
    by_cases z : L 0 < 0
    · rw [if_pos z, if_pos (nm_0J.mp z)]; rfl
    · rw [if_neg z, if_neg (fun k => z (nm_0J.mpr k))]
  | n + 1 => by
    have ih := mk_G_gr L n
    show (if L (n + 1) < mk_G L (n + 1) then mk_G L (n + 1) else L (n + 1)).toInt = _
    rw [mr_gr]
    by_cases z : lg_cmp (L (n + 1)) (L (mr_gr L n)) ≤ 0
    · rw [if_pos z]
      have z2 := mk_le.mp z
      by_cases y : L (n + 1) < mk_G L (n + 1)
      · rw [if_pos y, ih]
      · rw [if_neg y]
        have y2 : ¬ (L (n + 1)).toInt < (mk_G L (n + 1)).toInt := fun k => y (Int64.lt_iff_toInt_lt.mpr k)
        rw [ih] at y2
        by_cases x : (L (mr_gr L n)).toInt < 0
        · rw [if_pos x] at y2; omega
        · rw [if_neg x] at y2; rw [if_neg x]; omega
    · rw [if_neg z]
      have z2 : ¬ (L (n + 1)).toInt ≤ (L (mr_gr L n)).toInt := fun k => z (mk_le.mpr k)
      by_cases y : L (n + 1) < mk_G L (n + 1)
      · rw [if_pos y, ih]
        have y2 := Int64.lt_iff_toInt_lt.mp y
        rw [ih] at y2
        by_cases x : (L (mr_gr L n)).toInt < 0
        · rw [if_pos x] at y2 ⊢; rw [if_pos (by omega)]
        · rw [if_neg x] at y2; omega
      · rw [if_neg y]
        have y2 : ¬ (L (n + 1)).toInt < (mk_G L (n + 1)).toInt := fun k => y (Int64.lt_iff_toInt_lt.mpr k)
        rw [ih] at y2
        by_cases x : (L (mr_gr L n)).toInt < 0
        · rw [if_pos x] at y2; rw [if_neg y2]
        · rw [if_neg x] at y2; rw [if_neg (by omega)]
theorem mk_gr_ge (L : Nat → Int64) : ∀ n k, k ≤ n → (L k).toInt ≤ (L (mr_gr L n)).toInt
  | 0, k, h => by rw [show k = 0 from by omega]; exact Int.le_refl _
  | n + 1, k, h => by
    rw [mr_gr]
    by_cases z : lg_cmp (L (n + 1)) (L (mr_gr L n)) ≤ 0
    · rw [if_pos z]
      by_cases y : k = n + 1
      · rw [y]; exact mk_le.mp z
      · exact mk_gr_ge L n k (by omega)
    · rw [if_neg z]
      by_cases y : k = n + 1
      · rw [y]; exact Int.le_refl _
      · have := mk_gr_ge L n k (by omega)
        have z2 : ¬ (L (n + 1)).toInt ≤ (L (mr_gr L n)).toInt := fun k => z (mk_le.mpr k)
        omega
theorem mk_gr_fst (L : Nat → Int64) : ∀ n k, k < mr_gr L n → (L k).toInt < (L (mr_gr L n)).toInt
  | 0, k, h => absurd h (Nat.not_lt_zero k)
  | n + 1, k, h => by
    rw [mr_gr] at h ⊢
    by_cases z : lg_cmp (L (n + 1)) (L (mr_gr L n)) ≤ 0
    · rw [if_pos z] at h ⊢
      exact mk_gr_fst L n k h
    · rw [if_neg z] at h ⊢
      have := mk_gr_ge L n k (by omega)
      have z2 : ¬ (L (n + 1)).toInt ≤ (L (mr_gr L n)).toInt := fun k => z (mk_le.mpr k)
      omega
theorem mk_G_pos (L : Nat → Int64) {k : Nat} (hk : k ≤ 8) (hp : 0 < (L k).toInt) : mk_G L 9 = L (mr_gr L 8) := by
  have h1 := mk_G_gr L 8
  have h2 := mk_gr_ge L 8 k hk
  rw [if_neg (by omega)] at h1
  exact Int64.toInt_inj.mp h1
/-- H: the peaks -/
theorem mk_pAt {P : mm_M} {L : Nat → Int64} (hL : ∀ k, k < 9 → P.2 5 k = L k) {k : Nat} (hk : k < 9) : mc_pAt P (nI k) = L k := by
  unfold mc_pAt
  have h1 : ¬ nI k < 0 := fun z => by have := Int32.lt_iff_toInt_lt.mp z; rw [nI_toInt (by omega)] at this; have e0 : (0 : Int32).toInt = 0 := rfl; omega
  have h2 : ¬ nI 9 ≤ nI k := nI_ge hk (by decide)
  rw [if_neg h1, if_neg h2, nI_toInt (by omega)]
  exact hL k hk
theorem mk_pAt_lo {P : mm_M} : mc_pAt P (nI 0 - 1) = 0 := by unfold mc_pAt; rw [if_pos (by decide)]
theorem mk_pAt_hi {P : mm_M} : mc_pAt P (nI 8 + 1) = 0 := by unfold mc_pAt; rw [if_neg (by decide), if_pos (by decide)]
theorem mk_nIm {k : Nat} (hk : k < 9) (h0 : k ≠ 0) : nI k - 1 = nI (k - 1) := by
  have e1 : (1 : Int32).toInt = 1 := rfl
  have hni : (nI k).toInt = (k : Int) := nI_toInt (by omega)
  apply Int32.toInt_inj.mp
  rw [mk_is, hni, e1, nI_toInt (by omega)]
  · omega
  · rw [hni, e1]; omega
  · rw [hni, e1]; omega
theorem mk_peak {P : mm_M} {L : Nat → Int64} (hL : ∀ k, k < 9 → P.2 5 k = L k) {k : Nat} (hk : k < 9) : mc_peak P (nI k) = if lg_cmp (L k) 0 ≤ 0 then 0 else if mr_ab L k = 0 then 0 else 1 := by
  unfold mc_peak
  rw [mk_pAt hL hk]
  by_cases z : lg_cmp (L k) 0 ≤ 0
  · rw [if_pos z, if_pos z]
  · rw [if_neg z, if_neg z]
    unfold mr_ab
    have hb : (if lg_cmp (L k) (mc_pAt P (nI k + 1)) ≤ 0 then (0 : Int32) else 1) = mr_ab2 L k := by
      unfold mr_ab2
      by_cases y : k = 8
      · subst y; rw [mk_pAt_hi, if_neg z, if_pos (show nI 8 = 8 from rfl)]
      · have y2 : ¬ nI k = 8 := fun q => by have := congrArg Int32.toInt q; rw [nI_toInt (by omega)] at this; have e8 : (8 : Int32).toInt = 8 := rfl; omega
        rw [if_neg y2, nI_1, mk_pAt hL (by omega)]
    rw [hb]
    by_cases y : k = 0
    · subst y
      rw [mk_pAt_lo, if_neg z, if_pos (show nI 0 = 0 from rfl)]
      unfold mr_ab2
      split
      · rfl
      · split <;> rfl
    · have y2 : ¬ nI k = 0 := fun q => y ((mk_nI0 (by omega)).mp q)
      rw [mk_nIm hk y, mk_pAt hL (by omega), if_neg y2]
      by_cases x : lg_cmp (L k) (L (k - 1)) ≤ 0
      · rw [if_pos x]; rfl
      · rw [if_neg x]
        unfold mr_ab2
        split
        · rfl
        · split <;> rfl
theorem mk_pkN {P : mm_M} {L : Nat → Int64} (hL : ∀ k, k < 9 → P.2 5 k = L k) {x : Int32} : ∀ n, n ≤ 9 → mc_pkN P (mk_G L 9) x n = mr_pkN L x (L (mr_gr L 8)) n
  | 0, _ => rfl
  | n + 1, hn => by
    rw [mc_pkN, mr_pkN, mk_peak hL (by omega), mk_pkN hL n (by omega), hL n (by omega)]
    unfold mr_pk
    by_cases z : lg_cmp (L n) 0 ≤ 0
    · rw [if_pos z, if_pos z, if_pos rfl, Int32.add_zero]
    · rw [if_neg z, if_neg z]
      by_cases y : mr_ab L n = 0
      · rw [if_pos y, if_pos y, if_pos rfl, Int32.add_zero]
      · rw [if_neg y, if_neg y, if_neg (by decide)]
        have hp : 0 < (L n).toInt := Int.not_le.mp fun k => z (mk_le.mpr k)
        rw [mk_G_pos L (show n ≤ 8 by omega) hp, Int64.mul_comm (L n) 100, Int64.mul_comm (L (mr_gr L 8)) x.toInt64]
        split
        · rw [Int32.add_zero]
        · rfl
/-- the powers' row of the reference -/
def mk_L (F : mm_F) (N r : Nat) : Nat → Int64 := fun k => mr_powN F N r (nI k - 4) 32
theorem mk_gr_c {L L' : Nat → Int64} : ∀ n, (∀ k, k ≤ n → L k = L' k) → mr_gr L n = mr_gr L' n
  | 0, _ => rfl
  | n + 1, h => by
    rw [mr_gr, mr_gr, mk_gr_c n (fun k hk => h k (by omega)), h (n + 1) (Nat.le_refl _), h (mr_gr L' n) (Nat.le_trans (mr_gr_le L' n) (by omega))]
theorem mk_pk_c {L L' : Nat → Int64} (h : ∀ k, k < 9 → L k = L' k) {x : Int32} {m : Int64} : ∀ n, n ≤ 9 → mr_pkN L x m n = mr_pkN L' x m n
  | 0, _ => rfl
  | n + 1, hn => by
    rw [mr_pkN, mr_pkN, mk_pk_c h n (by omega)]
    have e2 : mr_ab2 L n = mr_ab2 L' n := by
      unfold mr_ab2
      by_cases y : n = 8
      · subst y; rw [if_pos (show nI 8 = 8 from rfl), if_pos (show nI 8 = 8 from rfl)]
      · have y2 : ¬ nI n = 8 := fun q => by have := congrArg Int32.toInt q; rw [nI_toInt (by omega)] at this; have e8 : (8 : Int32).toInt = 8 := rfl; omega
        rw [if_neg y2, if_neg y2, h n (by omega), h (n + 1) (by omega)]
    have e1 : mr_ab L n = mr_ab L' n := by unfold mr_ab; rw [e2, h n (by omega), h (n - 1) (by omega)]
    have e3 : mr_pk L x m n = mr_pk L' x m n := by unfold mr_pk; rw [e1, h n (by omega)]
    rw [e3]
theorem mk_peaks {M : mm_M} {N S T : Nat} (h : mk_R M N S T) (hT : T ≤ 60000) {x : Int32} {L' : Nat → Int64} (hL' : ∀ k, k < 9 → L' k = mk_L M.1 N 61 k) : mc_pkN (mc_fpM (mc_laM M 8) 9) (mc_fpG (mc_laM M 8) 9) x 9 = mr_pkv L' x := by
  have hf := mk_fp h hT (mk_P0 h hT)
  have hL : ∀ n k, n ≤ 9 → k < n → (mc_fpM (mc_laM M 8) n).2 5 k = mk_L M.1 N 61 k := fun n k h1 h2 => hf n h1 k h2
  unfold mr_pkv
  rw [mk_fpG hL 9 (Nat.le_refl 9), mk_pkN (fun k hk => hL 9 k (Nat.le_refl 9) hk) 9 (Nat.le_refl 9), mk_pk_c hL' 9 (Nat.le_refl 9), mk_gr_c 8 (fun k hk => hL' k (by omega)), hL' _ (Nat.lt_succ_of_le (mr_gr_le _ 8))]
