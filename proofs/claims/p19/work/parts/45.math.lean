theorem mj_hear {M M1 : mm_M} {N S T : Nat} (h : mk_R M N S T) {n : Nat} (hn : T + n ≤ 60000) (h1 : M1.1 = (mc_hrN M S n).1) : mk_R (mr_hrN (mm_sI M1 50 20 0) N S n) N S (T + n) ∧ (mr_hrN (mm_sI M1 50 20 0) N S n).1 50 0 = (mc_hrN M S n).1 0 8 ∧ (mr_hrN (mm_sI M1 50 20 0) N S n).1 50 20 = 0 := by
  have hh := mk_hearR h hn (M1 := M1) h1
  have h0 : mk_R2 M.1 (mm_sI M1 50 20 0).1 N S T := mk_R2.tr h (fun _ _ _ => rfl) (fun k j hk _ h3 => by rw [mm_sI_1, if_neg h3, h1, mk_hr_hi hk])
  have h2 := mk_hrN2 (A := M) (B := mm_sI M1 50 20 0) h0 n hn
  refine ⟨mk_R2.tr h2 (fun k j hk => by rw [mk_hr_lo hk, mm_sI_k (by omega), h1]) (fun _ _ _ _ _ => rfl), ?_, ?_⟩
  · rw [h2.rT, h2.cT]
  · rw [mr_hrN_o (by decide) (Or.inr (by decide)) n, mm_sI_s]
/-- calibrating, whole -/
theorem mj_o {M : mm_M} {F : mm_F} {N S T : Nat} (h : mk_R M N S T) (hF : mr_eq F M.1) : (mr_low F N 0 = -99 → mc_lowI M 8 0 = 8) ∧ (¬ mr_low F N 0 = -99 → mc_lowI M 8 0 = mr_o F N ∧ mr_o F N < N ∧ (¬ M.1 55 (mr_o F N) = 0) ∧ ∀ j, j < mr_o F N → M.1 55 j = 0) := by
  have hN8 := h.N8
  have h55 : F 55 = M.1 55 := hF.2.2.2.2.1
  constructor
  · intro hz
    have hd := mk_low_n N 0 (by omega) hz
    rw [mk_lowI_n 8 0 (fun j _ hj => ?_)]
    rw [h.lv j (by omega)]
    by_cases z : j < N
    · rw [if_pos z, ← h55]; exact hd j (Nat.zero_le _) (by omega)
    · rw [if_neg z]
  · intro hz
    obtain ⟨h1, h2, h3, h4⟩ := mr_o_c hN8 hz
    rw [h55] at h3
    refine ⟨mk_lowI (by rw [h.lv _ (by omega), if_pos h2]; exact h3) 8 0 (Nat.zero_le _) (by omega) (fun j _ hj => ?_), h2, h3, fun j hj => by rw [← h55]; exact h4 j hj⟩
    rw [h.lv j (by omega), if_pos (by omega), ← h55]
    exact h4 j hj
theorem mj_sq {M : mm_M} {F : mm_F} {N S T : Nat} (h : mk_R M N S T) (hT : T ≤ 60000) (hF : mr_eq F M.1) (h61 : F 61 = M.1 61) {x : Int32} (hb : -4 ≤ x.toInt ∧ x.toInt ≤ 4) (hz : ¬ mr_low F N 0 = -99) : mc_sq M x = mr_sq F N x ∧ 0 ≤ (mr_sq F N x).toInt := by
  obtain ⟨h1, h2, h3, _⟩ := (mj_o h hF).2 hz
  have hP := mk_P1 h hT hF h61
  unfold mc_sq mr_sq
  rw [h1]
  exact ⟨mk_ag h hT hP rfl (fun i => by rw [mc_laM_1]) h2 h2 h3 h3 hb (by decide) 32 (Nat.le_refl 32), (mk_sqB h hF h61 h2 32 (Nat.le_refl 32)).1⟩
theorem mj_cak {M : mm_M} {F : mm_F} {N S T : Nat} (h : mk_R M N S T) (hT : T ≤ 60000) (hF : mr_eq F M.1) (h61 : F 61 = M.1 61) {x : Int32} : mr_cak F N x = mc_cak M x := by
  unfold mr_cak mc_cak
  by_cases a : nm_in x (-4) 4 = 0
  · rw [if_pos a, if_pos a]
  · rw [if_neg a, if_neg a]
    by_cases b : mr_low F N 0 = -99
    · rw [if_pos b, if_pos ((mj_o h hF).1 b)]
    · obtain ⟨h1, h2, h3, _⟩ := (mj_o h hF).2 b
      have hN8 := h.N8
      have hs := mj_sq h hT hF h61 (mj_b a) b
      rw [if_neg b, if_neg (show ¬ mc_lowI M 8 0 = 8 by omega), hs.1]
      by_cases c : mr_sq F N x = 0
      · rw [c, if_pos (show lg_cmp 0 0 = 0 by decide), if_neg (show ¬ 0 < lg_cmp 0 0 by decide)]
      · have hc : (mr_sq F N x).toInt ≠ 0 := fun k => c (Int64.toInt_inj.mp k)
        have hlt : (0 : Int64) < mr_sq F N x := Int64.lt_iff_toInt_lt.mpr (by show (0 : Int) < _; omega)
        rw [if_neg (fun k => c (lg_eq0.mp k)), if_pos (lg_gt0.mpr hlt)]
theorem mj_calibrate {M M1 : mm_M} {N S T : Nat} (h : mk_R M N S T) (hT : T ≤ 60000) {x : Int32} (hc : mc_cak M x = 0) (h1 : M1.1 = (mc_hoM (mc_laM M 8) (mc_lowI M 8 0) (mc_sq M x) x 8).1) : mk_R (mr_cbM (mm_sI M1 50 20 0) (mr_o M1.1 N) (mr_sq M1.1 N x) x N) N S T ∧ mr_cbV (mm_sI M1 50 20 0) (mr_o M1.1 N) (mr_sq M1.1 N x) x N = mc_hoV (mc_laM M 8) (mc_lowI M 8 0) (mc_sq M x) x 8 ∧ (mr_cbM (mm_sI M1 50 20 0) (mr_o M1.1 N) (mr_sq M1.1 N x) x N).1 50 20 = 0 := by
  have hN8 := h.N8
  -- first, of the memory before
  have hc' := hc
  unfold mc_cak at hc'
  have a : ¬ nm_in x (-4) 4 = 0 := fun k => by rw [if_pos k] at hc'; exact absurd hc' (by decide)
  rw [if_neg a] at hc'
  have b8 : ¬ mc_lowI M 8 0 = 8 := fun k => by rw [if_pos k] at hc'; exact absurd hc' (by decide)
  rw [if_neg b8] at hc'
  have hpos : 0 < lg_cmp (mc_sq M x) 0 := Classical.byContradiction fun k => by rw [if_neg k] at hc'; exact absurd hc' (by decide)
  have hz0 : ¬ mr_low M.1 N 0 = -99 := fun k => b8 ((mj_o h ⟨rfl, rfl, rfl, rfl, rfl, rfl, rfl⟩).1 k)
  obtain ⟨o1, o2, o3, o4⟩ := (mj_o h ⟨rfl, rfl, rfl, rfl, rfl, rfl, rfl⟩).2 hz0
  generalize hog : mr_o M.1 N = o at *
  rw [o1] at h1
  have hup := mk_hoUp (P := mc_laM M 8) (y := mc_sq M x) (b := x) o2 (fun i g1 g2 => by rw [mc_laM_1]; exact (h.up i g1 g2).2.1) (8 - N) (by omega)
  rw [show N + (8 - N) = 8 from by omega] at hup
  -- the class changes no cell of the reference
  have hcal0 := mk_cal (B1 := M) h hT (mk_P0 h hT) o2 o3 o4 (mj_b a) hpos N (Nat.le_refl N)
  have hM1 : ∀ k j : Nat, 50 ≤ k → M1.1 k j = M.1 k j := fun k j hk => by rw [h1, hup.1]; exact hcal0.1.xo k j (by omega)
  have hrow : ∀ k, 50 ≤ k → M1.1 k = M.1 k := fun k hk => funext fun j => hM1 k j hk
  have hF1 : mr_eq M1.1 M.1 := ⟨hM1 _ _ (by decide), hM1 _ _ (by decide), hrow _ (by decide), hrow _ (by decide), hrow _ (by decide), hrow _ (by decide), hrow _ (by decide)⟩
  have hz1 : ¬ mr_low M1.1 N 0 = -99 := fun k => b8 ((mj_o h hF1).1 k)
  have ho1 : mr_o M1.1 N = o := ((mj_o h hF1).2 hz1).1.symm.trans o1
  have hs1 := (mj_sq h hT hF1 (hrow 61 (by decide)) (mj_b a) hz1).1
  have hB : ∀ k j : Nat, 50 ≤ k → ¬ (k = 50 ∧ j = 20) → (mm_sI M1 50 20 0).1 k j = M.1 k j := fun k j hk h3 => by rw [mm_sI_1, if_neg h3, hM1 k j hk]
  have hFB : mr_eq (mm_sI M1 50 20 0).1 M.1 := mr_eq_tr mr_eq_t hF1
  have h61 : (mm_sI M1 50 20 0).1 61 = M.1 61 := funext fun j => hB 61 j (by decide) (by omega)
  have hcal := mk_cal (B1 := mm_sI M1 50 20 0) h hT (mk_P1 h hT hFB h61) o2 o3 o4 (mj_b a) hpos N (Nat.le_refl N)
  rw [ho1, ← hs1, o1]
  have h2 : mk_R2 M.1 (mm_sI M1 50 20 0).1 N S T := mk_R2.tr h (fun _ _ _ => rfl) (fun k j hk _ h3 => hB k j hk h3)
  have h3 := mk_C_R h2 hcal.1
  refine ⟨mk_R2.tr h3 (fun k j hk => ?_) (fun _ _ _ _ _ => rfl), ?_, ?_⟩
  · rw [mr_cbM_o (by omega) (by omega), mm_sI_k (by omega), h1, hup.1]
  · rw [hup.2]; exact hcal.2.symm
  · rw [mr_cbM_o (by decide) (by decide), mm_sI_s]
theorem mj_hq {M M1 : mm_M} {N S T : Nat} (h : mk_R M N S T) (h1 : ∀ k j : Nat, 50 ≤ k → M1.1 k j = M.1 k j) {x : Int32} : ∀ o : Nat, o < N → 0 ≤ (mr_agN M1.1 o 0 o x 32).toInt := by
  intro o ho
  have hrow : ∀ k, 50 ≤ k → M1.1 k = M.1 k := fun k hk => funext fun j => h1 k j hk
  exact (mk_sqB h ⟨h1 _ _ (by decide), h1 _ _ (by decide), hrow _ (by decide), hrow _ (by decide), hrow _ (by decide), hrow _ (by decide), hrow _ (by decide)⟩ (hrow 61 (by decide)) ho 32 (Nat.le_refl 32)).1
