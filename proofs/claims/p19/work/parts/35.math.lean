/-- K: hearing -/
theorem mk_R2.tr {C F C' F' : mm_F} {N S T : Nat} (h : mk_R2 C F N S T) (hc : ∀ k j : Nat, k < 50 → C' k j = C k j) (hf : ∀ k j : Nat, 50 ≤ k → k < 62 → ¬ (k = 50 ∧ j = 20) → F' k j = F k j) : mk_R2 C' F' N S T := by
  have hN := h.N8
  have hS := h.S4
  refine ⟨?_, ?_, hN, ?_, ?_, hS, ?_, ?_, ?_, ?_, ?_, ?_, ?_, ?_, fun j hj => ?_, fun j hj => ?_, fun e he => ?_, fun e he => ?_, fun e h1 h2 => ?_, fun e he c hc9 => ?_, fun e he c hc9 => ?_⟩
  · rw [hc _ _ (by omega)]; exact h.cN
  · rw [hf _ _ (by omega) (by omega) (by omega)]; exact h.rN
  · rw [hc _ _ (by omega)]; exact h.cS
  · rw [hf _ _ (by omega) (by omega) (by omega)]; exact h.rS
  · rw [hc _ _ (by omega)]; exact h.cT
  · rw [hf _ _ (by omega) (by omega) (by omega)]; exact h.rT
  · rw [hc _ _ (by omega), hf _ _ (by omega) (by omega) (by omega)]; exact h.sh
  · rw [hf _ _ (by omega) (by omega) (by omega)]; exact h.shB
  · rw [hc _ _ (by omega), hf _ _ (by omega) (by omega) (by omega)]; exact h.ha
  · rw [hf _ _ (by omega) (by omega) (by omega)]; exact h.haB
  · rw [hc _ _ (by omega), hf _ _ (by omega) (by omega) (by omega)]; exact h.hs
  · rw [hf _ _ (by omega) (by omega) (by omega)]; exact h.hsB
  · rw [hc _ _ (by omega), hc _ _ (by omega), hc _ _ (by omega), hf _ _ (by omega) (by omega) (by omega), hf _ _ (by omega) (by omega) (by omega), hf _ _ (by omega) (by omega) (by omega)]; exact h.so j hj
  · rw [hf _ _ (by omega) (by omega) (by omega), hf _ _ (by omega) (by omega) (by omega), hf _ _ (by omega) (by omega) (by omega)]; exact h.soB j hj
  · rw [hc (10 + e) 3 (by omega), hc (10 + e) 4 (by omega), hc (10 + e) 5 (by omega), hc (10 + e) 6 (by omega), hc (10 + e) 7 (by omega), hc (10 + e) 8 (by omega), hc (10 + e) 9 (by omega), hc (18 + e) 1 (by omega), hc (18 + e) 2 (by omega), hf 55 e (by omega) (by omega) (by omega), hf 51 e (by omega) (by omega) (by omega), hf 52 e (by omega) (by omega) (by omega), hf 53 e (by omega) (by omega) (by omega), hf 56 e (by omega) (by omega) (by omega), hf 57 e (by omega) (by omega) (by omega), hf 54 e (by omega) (by omega) (by omega)]; exact h.el e he
  · rw [hf 55 e (by omega) (by omega) (by omega), hf 51 e (by omega) (by omega) (by omega), hf 52 e (by omega) (by omega) (by omega), hf 53 e (by omega) (by omega) (by omega), hf 56 e (by omega) (by omega) (by omega), hf 57 e (by omega) (by omega) (by omega), hf 54 e (by omega) (by omega) (by omega)]; exact h.elB e he
  · rw [hc (10 + e) 3 (by omega), hc (10 + e) 4 (by omega), hc (10 + e) 8 (by omega), hc (10 + e) 9 (by omega), hc (18 + e) 1 (by omega), hc (18 + e) 2 (by omega)]; exact h.up e h1 h2
  · rw [hc _ _ (by omega), hf _ _ (by omega) (by omega) (by omega)]; exact h.sl e he c hc9
  · rw [hf _ _ (by omega) (by omega) (by omega)]; exact h.slB e he c hc9
/-- what a hearing leaves, of the class and of the reference -/
theorem mk_he1_o {M : mm_M} {S n k j : Nat} (h3 : ¬ (k = 3 ∧ j = 1)) (h26 : k ≠ 26 + n) (h18 : ¬ (k = 18 + n ∧ j = 2)) : (mc_he1 M S n).1 k j = M.1 k j := by
  have h9 : ∀ x : Int32, (mc_add (mm_sI M 3 1 (mc_dr M)) n x).1 k j = M.1 k j := by
    intro x
    unfold mc_add
    rw [mm_sI_1, if_neg h18, mm_sI_1, if_neg (fun z => h26 z.1), mm_sI_1, if_neg h3]
  unfold mc_he1
  split
  · rfl
  · split <;> exact h9 _
theorem mk_heN_o {M : mm_M} {S k j : Nat} (h3 : ¬ (k = 3 ∧ j = 1)) : ∀ n, (∀ i, i < n → k ≠ 26 + i ∧ ¬ (k = 18 + i ∧ j = 2)) → (mc_heN M S n).1 k j = M.1 k j
  | 0, _ => rfl
  | n + 1, h => by rw [mc_heN, mk_he1_o h3 (h n (by omega)).1 (h n (by omega)).2, mk_heN_o h3 n (fun i hi => h i (by omega))]
theorem mk_heE_o {M : mm_M} {S k j : Nat} (h1 : ¬ (k = 50 ∧ j = 14)) : ∀ n, (∀ i c, i < n → c < 64 → ¬ (k = 61 ∧ j = 64 * i + c)) → (mr_heE M S n).1 k j = M.1 k j
  | 0, _ => rfl
  | n + 1, h => by
    rw [mr_heE]
    unfold mr_hears
    rw [mm_sI_1, if_neg (fun z => h n _ (by omega) (Nat.mod_lt _ (by decide)) z), mm_sI_1, if_neg h1, mk_heE_o h1 n (fun i c hi hc => h i c (by omega) hc)]
/-- one draw -/
theorem mk_dr {x : Int32} (h : 0 ≤ x.toInt ∧ x.toInt ≤ 65536) : 0 ≤ (75 * x + 74 - (75 * x + 74) / 65537 * 65537).toInt ∧ (75 * x + 74 - (75 * x + 74) / 65537 * 65537).toInt ≤ 65536 := by
  have e75 : (75 : Int32).toInt = 75 := rfl
  have e74 : (74 : Int32).toInt = 74 := rfl
  have eM : (65537 : Int32).toInt = 65537 := rfl
  have s1 : (75 * x).toInt = 75 * x.toInt := by rw [mk_im, e75] <;> rw [e75] <;> omega
  have s2 : (75 * x + 74).toInt = 75 * x.toInt + 74 := by rw [mk_ia, s1, e74] <;> rw [s1, e74] <;> omega
  rw [nm_fm_x1 (by rw [eM]; omega) (by rw [s2]; omega)]
  unfold nm_fmI
  rw [s2, eM, nm_ofI (by omega) (by omega)]
  omega
theorem mk_fmB {x y : Int32} (hx : 0 ≤ x.toInt) (hy : 0 < y.toInt) : 0 ≤ (x - x / y * y).toInt ∧ (x - x / y * y).toInt < y.toInt := by
  rw [nm_fm_x1 hy hx]
  unfold nm_fmI
  have h1 := Int.emod_nonneg x.toInt (show y.toInt ≠ 0 by omega)
  have h2 := Int.emod_lt_of_pos x.toInt hy
  have := nm_rngI y
  rw [nm_ofI (by omega) (by omega)]
  exact ⟨h1, h2⟩
theorem mk_mod {x y : Int32} (hy : 0 < y.toInt) : x - x / y * y + (if 0 ≤ x - x / y * y then 0 else y) = nm_fmI x y := by
  have e0 : (0 : Int32).toInt = 0 := rfl
  by_cases hx : 0 ≤ x.toInt
  · have hB := mk_fmB hx hy
    rw [if_pos (Int32.le_iff_toInt_le.mpr (by rw [e0]; exact hB.1)), Int32.add_zero, nm_fm_x1 hy hx]
  · have hx2 : x.toInt < 0 := by omega
    by_cases z : x - x / y * y = 0
    · have hle : (0 : Int32) ≤ x - x / y * y := Int32.le_iff_toInt_le.mpr (by rw [z]; exact Int.le_refl _)
      rw [if_pos hle, Int32.add_zero, nm_fm_x2 hy hx2 z]
    · have h1 := nm_flmul hy hx2
      have hr := nm_rngI y
      have hz : ¬ x.toInt.tdiv y.toInt * y.toInt = x.toInt := fun k => z ((nm_fmr hy hx2).mpr k)
      have hn : ¬ (0 : Int32) ≤ x - x / y * y := by
        intro k
        have k2 := Int32.le_iff_toInt_le.mp k
        rw [nm_fmA hy, nm_ofI (by omega) (by omega), e0] at k2
        omega
      rw [if_neg hn, nm_fm_x3 hy hx2 z]
theorem mk_wave {M : mm_M} {F : mm_F} {i : Nat} (h1 : M.1 (6 + i) 1 = F 59 i) (h2 : M.1 (6 + i) 2 = F 60 i) (hp : 2 ≤ (F 60 i).toInt) (x : Int32) : mc_wave M i x = mr_wave F i x := by
  have e0 : (0 : Int32).toInt = 0 := rfl
  have hy : 0 < (F 60 i).toInt := by omega
  unfold mc_wave mr_wave mr_wr
  rw [h1, h2, if_pos (Int32.lt_iff_toInt_lt.mpr (by rw [e0]; exact hy)), mk_mod hy]
theorem mk_waveB {F : mm_F} {i : Nat} (h : 1 ≤ (F 59 i).toInt ∧ (F 59 i).toInt ≤ 100) (x : Int32) : -100 ≤ (mr_wave F i x).toInt ∧ (mr_wave F i x).toInt ≤ 100 := by
  unfold mr_wave
  split
  · rw [mk_in (by omega)]; omega
  · omega
theorem mk_wv {M : mm_M} {F : mm_F} {S N i : Nat} (hd : ∀ b, mc_delay M i b = mr_delay F i b) (hl : M.1 (10 + i) 7 = F 53 i) (ht : M.1 0 8 = F 50 0) (hso : ∀ j : Nat, j < S → M.1 (6 + j) 0 = F 58 j ∧ M.1 (6 + j) 1 = F 59 j ∧ M.1 (6 + j) 2 = F 60 j) (hB : ∀ j : Nat, j < S → (1 ≤ (F 59 j).toInt ∧ (F 59 j).toInt ≤ 100) ∧ 2 ≤ (F 60 j).toInt) (hS : S ≤ 4) : ∀ n, n ≤ S → mc_wvN M i n = mr_wvN F i n ∧ -(100 * (n : Int)) ≤ (mr_wvN F i n).toInt ∧ (mr_wvN F i n).toInt ≤ 100 * (n : Int)
  | 0, _ => ⟨rfl, by show -(100 * ((0 : Nat) : Int)) ≤ (0 : Int32).toInt; decide, by show (0 : Int32).toInt ≤ 100 * ((0 : Nat) : Int); decide⟩
  | n + 1, hn => by
    obtain ⟨h1, h2, h3⟩ := mk_wv (N := N) hd hl ht hso hB hS n (by omega)
    have hw := mk_waveB (hB n (by omega)).1 (F 50 0 - mr_delay F i (F 58 n) - F 53 i)
    rw [mc_wvN, mr_wvN, h1, ht, hl, (hso n (by omega)).1, hd, mk_wave (hso n (by omega)).2.1 (hso n (by omega)).2.2 (hB n (by omega)).2]
    refine ⟨rfl, ?_, ?_⟩ <;> rw [mk_ia] <;> omega
theorem mk_samp {M M1 : mm_M} {F : mm_F} {S N e : Nat} (hwv : mc_wvN M1 e S = mr_wvN F e S ∧ -(100 * (S : Int)) ≤ (mr_wvN F e S).toInt ∧ (mr_wvN F e S).toInt ≤ 100 * (S : Int)) (hS : S ≤ 4) (hg : M.1 (10 + e) 6 = F 52 e) (hgB : 32 ≤ (F 52 e).toInt ∧ (F 52 e).toInt ≤ 96) (hd : mc_dr M = mr_dr F) (hdB : 0 ≤ (mr_dr F).toInt ∧ (mr_dr F).toInt ≤ 65536) (ha : M.1 3 0 = F 50 13) (haB : 0 ≤ (F 50 13).toInt ∧ (F 50 13).toInt ≤ 50) : nm_fdI (mc_wvN M1 e S * M.1 (10 + e) 6) 64 + mc_drv M = mr_samp F e S ∧ -1000 ≤ (mr_samp F e S).toInt ∧ (mr_samp F e S).toInt ≤ 1000 := by
  have e2 : (2 : Int32).toInt = 2 := rfl
  have e1 : (1 : Int32).toInt = 1 := rfl
  have e0 : (0 : Int32).toInt = 0 := rfl
  have hb : -38400 ≤ (mr_wvN F e S).toInt * (F 52 e).toInt ∧ (mr_wvN F e S).toInt * (F 52 e).toInt ≤ 38400 := by
    have a1 : -400 ≤ (mr_wvN F e S).toInt ∧ (mr_wvN F e S).toInt ≤ 400 := by omega
    have h1 := Int.mul_le_mul_of_nonneg_right a1.2 (show 0 ≤ (F 52 e).toInt by omega)
    have h2 := Int.mul_le_mul_of_nonneg_right a1.1 (show 0 ≤ (F 52 e).toInt by omega)
    omega
  have p1 : (mr_wvN F e S * F 52 e).toInt = (mr_wvN F e S).toInt * (F 52 e).toInt := mk_im (by omega) (by omega)
  have p2 : ((mr_wvN F e S).toInt64 * (F 52 e).toInt64).toInt = (mr_wvN F e S).toInt * (F 52 e).toInt := by rw [mk_jm, mk_w, mk_w] <;> rw [mk_w, mk_w] <;> omega
  have s1 : (2 * F 50 13).toInt = 2 * (F 50 13).toInt := by rw [mk_im, e2] <;> rw [e2] <;> omega
  have s2 : (2 * F 50 13 + 1).toInt = 2 * (F 50 13).toInt + 1 := by rw [mk_ia, s1, e1] <;> rw [s1, e1] <;> omega
  have hdv : mc_drv M = mr_dr F - mr_dr F / (2 * F 50 13 + 1) * (2 * F 50 13 + 1) - F 50 13 := by
    unfold mc_drv
    rw [ha, hd, if_neg (fun k => by have := Int32.le_iff_toInt_le.mp k; rw [s2, e0] at this; omega)]
  have hfm := mk_fmB (x := mr_dr F) (y := 2 * F 50 13 + 1) hdB.1 (by rw [s2]; omega)
  rw [s2] at hfm
  have s3 : (mr_dr F - mr_dr F / (2 * F 50 13 + 1) * (2 * F 50 13 + 1) - F 50 13).toInt = (mr_dr F - mr_dr F / (2 * F 50 13 + 1) * (2 * F 50 13 + 1)).toInt - (F 50 13).toInt := mk_is (by omega) (by omega)
  have hq : nm_fdI (mr_wvN F e S * F 52 e) 64 = (nm_fdJ ((mr_wvN F e S).toInt64 * (F 52 e).toInt64) 64).toInt32 := mk_fd64 _ _ (p2.trans p1.symm)
  have hqB : -600 ≤ (nm_fdI (mr_wvN F e S * F 52 e) 64).toInt ∧ (nm_fdI (mr_wvN F e S * F 52 e) 64).toInt ≤ 600 := by
    have e64 : (64 : Int32).toInt = 64 := rfl
    unfold nm_fdI
    rw [p1, e64, nm_ofI (by omega) (by omega)]
    omega
  unfold mr_samp
  rw [hwv.1, hg, hdv, hq]
  rw [hq] at hqB
  refine ⟨rfl, ?_, ?_⟩ <;> rw [mk_ia, s3] <;> (try rw [s3]) <;> omega
