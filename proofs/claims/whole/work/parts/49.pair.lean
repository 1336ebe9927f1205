theorem mq_if {c : Prop} [Decidable c] {X M : mm_M} {k j : Nat} {v : Int64} (hX : X.1 = M.1) : (if c then mm_sL X k j v else M).1 = M.1 := by
  split
  · exact hX
  · rfl
theorem mq_fpR {X : mm_M} {N S T r n : Nat} (h : mk_R X n S T) : mk_R (mr_fp X N r) n S T := h
theorem mq_sample {M M1 : mm_M} {N S T : Nat} (h : mk_R M N S T) (hT : T ≤ 59000) {x y : Int32} (h1 : M1 = if mc_smk M x y = 0 then mm_sL M 65 0 (mc_at M x.toInt.toNat (63 - y)).toInt64 else M) : M1.1 50 1 = nI N ∧ mq (mm_sI M1 50 20 (mr_smk M1.1 x y)) (mc_smk M x y) (if mr_smk M1.1 x y = 0 then mr_kept M1.1 61 x.toInt.toNat (M1.1 50 0 - 1 - y) else 0).toInt64 T := by
  have e1 : M1.1 = M.1 := by rw [h1]; split <;> rfl
  obtain ⟨r1, r2⟩ := mj_sample h (by omega) e1 (x := x) (y := y)
  refine ⟨by rw [e1]; exact h.rN, ?_, fun z0 => ?_, N, S, T, by omega, mj_20 h e1 _⟩
  · rw [mm_sI_s, r1]
  · rw [r1, if_pos z0, r2 z0]
    rw [if_pos z0] at h1
    show M1.2 65 0 = _
    rw [h1]; exact mm_sL_s
theorem mq_calibrated {M M1 : mm_M} {N S T : Nat} (h : mk_R M N S T) {x y : Int32} (h1 : M1 = if mc_alk M x = 0 then mm_sL M 65 0 (if y = 0 then M.1 (10 + x.toInt.toNat) 8 else M.1 (10 + x.toInt.toNat) 9).toInt64 else M) : M1.1 50 1 = nI N ∧ mq (mm_sI M1 50 20 (if nm_in x 0 (M1.1 50 1 - 1) = 0 then 1 else 0)) (mc_alk M x) (if nm_in x 0 (M1.1 50 1 - 1) = 0 then 0 else if y = 0 then M1.1 56 x.toInt.toNat else M1.1 57 x.toInt.toNat).toInt64 T := by
  have e1 : M1.1 = M.1 := by rw [h1]; split <;> rfl
  obtain ⟨r1, r2⟩ := mj_calibrated h e1 (x := x) (y := y)
  refine ⟨by rw [e1]; exact h.rN, ?_, fun z0 => ?_, N, S, T, by omega, mj_20 h e1 _⟩
  · rw [mm_sI_s, r1]
  · rw [r2 z0]
    rw [if_pos z0] at h1
    show M1.2 65 0 = _
    rw [h1]; exact mm_sL_s
theorem mq_steer1 {M : mm_M} {b : Int32} : (mc_steer (mc_laM M 8) b).1 = M.1 := (mk_st_1 8).trans (mc_laM_1 8)
theorem mq_sum {M M1 : mm_M} {N S T : Nat} (h : mk_R M N S T) (hT : T ≤ 59000) {x y : Int32} (h1 : M1 = if mr_suk x y = 0 then mm_sL (mc_steer (mc_laM M 8) x) 65 0 ((mc_steer (mc_laM M 8) x).2 4 (47 - y.toInt).toNat) else M) : (M1.1 50 1 = nI N ∧ ∀ k : Nat, k < N → 0 < (M1.1 56 k).toInt) ∧ mq (mm_sI M1 50 20 (mr_suk x y)) (mr_suk x y) (if mr_suk x y = 0 then mr_sumN M1.1 N 61 x (M1.1 50 0 - 1 - y) N else 0) T := by
  have e1 : M1.1 = M.1 := by rw [h1]; exact mq_if mq_steer1
  refine ⟨⟨by rw [e1]; exact h.rN, mj_gain h (fun j => by rw [e1])⟩, mm_sI_s, fun z0 => ?_, N, S, T, by omega, mj_20 h e1 _⟩
  rw [if_pos z0, mj_sum h (by omega) e1 z0]
  rw [if_pos z0] at h1
  show M1.2 65 0 = _
  rw [h1]; exact mm_sL_s
theorem mq_power {M M1 : mm_M} {N S T : Nat} (h : mk_R M N S T) (hT : T ≤ 59000) {x : Int32} (h1 : M1 = if mc_bek x = 0 then mm_sL (mc_steer (mc_laM M 8) x) 65 0 (mc_pwN (mc_steer (mc_laM M 8) x) 32) else M) : (M1.1 50 1 = nI N ∧ ∀ k : Nat, k < N → 0 < (M1.1 56 k).toInt) ∧ mq (mm_sI M1 50 20 (if nm_in x (-4) 4 = 0 then 1 else 0)) (mc_bek x) (if nm_in x (-4) 4 = 0 then 0 else mr_powN M1.1 N 61 x 32) T := by
  have e1 : M1.1 = M.1 := by rw [h1]; exact mq_if mq_steer1
  refine ⟨⟨by rw [e1]; exact h.rN, mj_gain h (fun j => by rw [e1])⟩, mm_sI_s, fun z0 => ?_, N, S, T, by omega, mj_20 h e1 _⟩
  have a : ¬ nm_in x (-4) 4 = 0 := fun k => by unfold mc_bek at z0; rw [if_pos k] at z0; exact absurd z0 (by decide)
  rw [if_neg a, if_neg a, e1, ← (mk_power h (by omega) (mj_b a)).1]
  rw [if_pos z0] at h1
  show M1.2 65 0 = _
  rw [h1]; exact mm_sL_s
theorem mq_powerAnew {M M1 : mm_M} {N S T : Nat} (h : mk_R M N S T) (hT : T ≤ 59000) {x : Int32} (h1 : M1 = if mc_bek x = 0 then mm_sL (mc_laM M 8) 65 0 (mc_ppO (mc_laM M 8) x 8) else M) : (M1.1 50 1 = nI N ∧ ∀ k : Nat, k < N → 0 < (M1.1 56 k).toInt) ∧ mq (mm_sI M1 50 20 (if nm_in x (-4) 4 = 0 then 1 else 0)) (mc_bek x) (if nm_in x (-4) 4 = 0 then 0 else mr_powN M1.1 N 61 x 32) T := by
  have e1 : M1.1 = M.1 := by rw [h1]; exact mq_if (mc_laM_1 8)
  refine ⟨⟨by rw [e1]; exact h.rN, mj_gain h (fun j => by rw [e1])⟩, mm_sI_s, fun z0 => ?_, N, S, T, by omega, mj_20 h e1 _⟩
  have a : ¬ nm_in x (-4) 4 = 0 := fun k => by unfold mc_bek at z0; rw [if_pos k] at z0; exact absurd z0 (by decide)
  rw [if_neg a, if_neg a, e1, ← (mk_power h (by omega) (mj_b a)).2]
  rw [if_pos z0] at h1
  show M1.2 65 0 = _
  rw [h1]; exact mm_sL_s
theorem mq_peaks {M M1 : mm_M} {N S T : Nat} (h : mk_R M N S T) (hT : T ≤ 59000) {x : Int32} (h1 : M1 = if mc_hek x = 0 then mm_sL (mc_fpM (mc_laM M 8) 9) 65 0 (mc_pkN (mc_fpM (mc_laM M 8) 9) (mc_fpG (mc_laM M 8) 9) x 9).toInt64 else M) : (M1.1 50 1 = nI N ∧ ∀ k : Nat, k < N → 0 < (M1.1 56 k).toInt) ∧ mq (if nm_in x 1 100 = 0 then mm_sI M1 50 20 1 else mr_fp (mm_sI M1 50 20 0) N 61) (mc_hek x) (if nm_in x 1 100 = 0 then 0 else mr_pkv ((mr_fp (mm_sI M1 50 20 0) N 61).2 64) x).toInt64 T := by
  have e1 : M1.1 = M.1 := by rw [h1]; exact mq_if ((mk_fp_1 9).trans (mc_laM_1 8))
  refine ⟨⟨by rw [e1]; exact h.rN, mj_gain h (fun j => by rw [e1])⟩, ?_⟩
  unfold mc_hek at h1 ⊢
  by_cases a : nm_in x 1 100 = 0
  · rw [if_pos a, if_pos a, if_pos a]
    exact ⟨mm_sI_s, fun k => absurd k (by decide), N, S, T, by omega, mj_20 h e1 _⟩
  · rw [if_neg a, if_neg a, if_neg a]
    refine ⟨show (mm_sI M1 50 20 0).1 50 20 = 0 from mm_sI_s, fun _ => ?_, N, S, T, by omega, mq_fpR (mj_20 h e1 0)⟩
    rw [if_neg a, if_pos rfl] at h1
    have e65 : (mr_fp (mm_sI M1 50 20 0) N 61).2 65 0 = M1.2 65 0 := mm_row_o (by decide)
    rw [mj_peaks h (by omega) e1, e65, h1]
    exact mm_sL_s
theorem mq_fd65 {N : Nat} : ∀ (r : Nat) (M : mm_M), (mr_fd N r M).2.2 65 0 = M.2 65 0
  | 0, M => by
    rw [mr_fd]
    split <;> exact mm_row_o (by decide)
  | r + 1, M => by
    rw [mr_fd]
    split
    · exact mm_row_o (by decide)
    · rw [mq_fd65 r]
      have hI : ∀ (X : mm_M) (b : Int32) (n k : Nat), (mr_tkI X b n k).2 = X.2 := by
        intro X b n k
        induction k with
        | zero => rfl
        | succ k ih =>
          rw [mr_tkI]
          unfold mr_tk1
          split
          · exact ih
          · split
            · exact ih
            · exact ih
      have hO : ∀ (X : mm_M) (b : Int32) (n : Nat), (mr_tkO X N b n).2 = X.2 := by
        intro X b n
        induction n with
        | zero => rfl
        | succ n ih => rw [mr_tkO, hI, ih]
      unfold mr_takes
      rw [hO]
      show (mr_fp M N 62).2 65 0 = M.2 65 0
      exact mm_row_o (k := 64) (by decide)
theorem mq_found {M M1 : mm_M} {N S T : Nat} (h : mk_R M N S T) (hT : T ≤ 59000) {x : Int32} (h1 : M1 = if mc_fok x = 0 then mm_sL (mc_fd (mc_laA M 8) x.toInt.toNat (mc_fpM (mc_laM M 8) 9) (mc_strong (mc_laM M 8))).2 65 0 (mc_fd (mc_laA M 8) x.toInt.toNat (mc_fpM (mc_laM M 8) 9) (mc_strong (mc_laM M 8))).1.toInt64 else M) : (M1.1 50 1 = nI N ∧ (∀ k : Nat, k < N → 0 < (M1.1 56 k).toInt) ∧ ((∃ k : Nat, k < N ∧ ¬ M1.1 55 k = 0) → 0 < (mr_allN M1.1 N N).toInt64.toInt)) ∧ mq (if nm_in x 0 5 = 0 then mm_sI M1 50 20 1 else (mr_fd N x.toInt.toNat (mr_fd0 M1)).2) (mc_fok x) (if nm_in x 0 5 = 0 then 0 else (mr_fd N x.toInt.toNat (mr_fd0 M1)).1).toInt64 T := by
  unfold mc_fok at h1 ⊢
  by_cases a : nm_in x 0 5 = 0
  · rw [if_pos a, if_neg (by decide)] at h1
    rw [if_pos a, if_pos a, if_pos a]
    have e1 : M1.1 = M.1 := by rw [h1]
    exact ⟨⟨by rw [e1]; exact h.rN, mj_gain h (fun j => by rw [e1]), mj_all h e1⟩, mm_sI_s, fun k => absurd k (by decide), N, S, T, by omega, mj_20 h e1 _⟩
  · rw [if_neg a, if_pos rfl] at h1
    rw [if_neg a, if_neg a, if_neg a]
    have hr : x.toInt.toNat ≤ 5 := by
      have := mj_in a
      have e5 : (5 : Int32).toInt = 5 := rfl
      omega
    have f0 := mj_found h (by omega) (rfl : M.1 = M.1) hr
    have e1 : M1.1 = M.1 := by rw [h1]; exact f0.2.1
    obtain ⟨r1, _, r3, r4⟩ := mj_found h (by omega) e1 hr
    refine ⟨⟨by rw [e1]; exact h.rN, mj_gain h (fun j => by rw [e1]), mj_all h e1⟩, r3, fun _ => ?_, N, S, T, by omega, r4⟩
    rw [mq_fd65, r1]
    show M1.2 65 0 = _
    rw [h1]; exact mm_sL_s
theorem mq_hear {M M1 : mm_M} {N S T : Nat} (h : mk_R M N S T) (hT : T ≤ 59000) {x : Int32} (h1 : M1 = if mc_hek x = 0 then mm_sL (mc_hrN M S x.toInt.toNat) 65 0 ((mc_hrN M S x.toInt.toNat).1 0 8).toInt64 else M) : (M1.1 50 1 = nI N ∧ M1.1 50 9 = nI S ∧ (∀ k : Nat, k < S → ¬ M1.1 60 k = 0) ∧ (¬ 2 * M1.1 50 13 + 1 = 0) ∧ (0 ≤ (M1.1 50 0).toInt ∧ (M1.1 50 0).toInt < 1000000)) ∧ mq (if nm_in x 1 100 = 0 then mm_sI M1 50 20 1 else mr_hrN (mm_sI M1 50 20 0) N S x.toInt.toNat) (mc_hek x) (if nm_in x 1 100 = 0 then 0 else (mr_hrN (mm_sI M1 50 20 0) N S x.toInt.toNat).1 50 0).toInt64 T := by
  have hi : ∀ k j : Nat, 50 ≤ k → M1.1 k j = M.1 k j := by
    intro k j hk
    rw [h1]
    split
    · exact mk_hr_hi hk _
    · rfl
  have e2 : (2 : Int32).toInt = 2 := rfl
  have e1 : (1 : Int32).toInt = 1 := rfl
  have e0 : (0 : Int32).toInt = 0 := rfl
  have hp : ∀ k : Nat, k < S → ¬ M1.1 60 k = 0 := fun k hk z => by
    rw [hi _ _ (by decide)] at z
    have := (h.soB k hk).2.2.1
    rw [z, e0] at this
    omega
  have ha := h.haB
  have hlo : ¬ 2 * M1.1 50 13 + 1 = 0 := fun z => by
    rw [hi _ _ (by decide)] at z
    have s1 : (2 * M.1 50 13).toInt = 2 * (M.1 50 13).toInt := by rw [mk_im, e2] <;> rw [e2] <;> omega
    have s2 : (2 * M.1 50 13 + 1).toInt = 2 * (M.1 50 13).toInt + 1 := by rw [mk_ia, s1, e1] <;> rw [s1, e1] <;> omega
    rw [z, e0] at s2
    omega
  have hnx : 0 ≤ (M1.1 50 0).toInt ∧ (M1.1 50 0).toInt < 1000000 := by
    rw [hi _ _ (by decide), h.rT, nI_toInt (by omega)]
    omega
  refine ⟨⟨by rw [hi _ _ (by decide)]; exact h.rN, by rw [hi _ _ (by decide)]; exact h.rS, hp, hlo, hnx⟩, ?_⟩
  unfold mc_hek at h1 ⊢
  by_cases a : nm_in x 1 100 = 0
  · rw [if_pos a, if_neg (by decide)] at h1
    rw [if_pos a, if_pos a, if_pos a]
    exact ⟨mm_sI_s, fun k => absurd k (by decide), N, S, T, by omega, mj_20 h (by rw [h1]) _⟩
  · rw [if_neg a, if_pos rfl] at h1
    rw [if_neg a, if_neg a, if_neg a]
    have hx := mj_in a
    have e100 : (100 : Int32).toInt = 100 := rfl
    obtain ⟨r1, r2, r3⟩ := mj_hear h (M1 := M1) (n := x.toInt.toNat) (by omega) (by rw [h1]; rfl)
    refine ⟨r3, fun _ => ?_, N, S, T + x.toInt.toNat, by omega, r1⟩
    have h2 : ∀ n, (mr_hrN (mm_sI M1 50 20 0) N S n).2 = M1.2 := by
      intro n
      have hE : ∀ (X : mm_M) (n : Nat), (mr_heE X S n).2 = X.2 := by
        intro X n
        induction n with
        | zero => rfl
        | succ n ih => rw [mr_heE]; exact ih
      induction n with
      | zero => rfl
      | succ n ih => rw [mr_hrN]; exact (hE _ N).trans ih
    rw [h2, r2, h1]
    exact mm_sL_s
theorem mq_calibrate {M M1 : mm_M} {N S T : Nat} (h : mk_R M N S T) (hT : T ≤ 59000) {x : Int32} (h1 : M1 = if mc_cak M x = 0 then mm_sL (mc_hoM (mc_laM M 8) (mc_lowI M 8 0) (mc_sq M x) x 8) 65 0 (mc_hoV (mc_laM M 8) (mc_lowI M 8 0) (mc_sq M x) x 8).toInt64 else (if nm_in x (-4) 4 = 0 then M else if mc_lowI M 8 0 = 8 then M else mc_laM M 8)) : (M1.1 50 1 = nI N ∧ ∀ o : Nat, o < N → 0 ≤ (mr_agN M1.1 o 0 o x 32).toInt) ∧ mq (if mr_cak M1.1 N x = 0 then mr_cbM (mm_sI M1 50 20 0) (mr_o M1.1 N) (mr_sq M1.1 N x) x N else mm_sI M1 50 20 (mr_cak M1.1 N x)) (mc_cak M x) (if mr_cak M1.1 N x = 0 then mr_cbV (mm_sI M1 50 20 0) (mr_o M1.1 N) (mr_sq M1.1 N x) x N else 0).toInt64 T := by
  have ho : ∀ (X : mm_M) (k : Nat) (y : Int64) (n a j : Nat), k < 40 → n ≤ 40 → 50 ≤ a → (mc_hoM X k y x n).1 a j = X.1 a j := by
    intro X k y n a j hk hn ha
    induction n with
    | zero => rw [mc_hoM, mm_sI_k (by omega), mm_sI_k (by omega)]
    | succ n ih =>
      have ih := ih (by omega)
      rw [mc_hoM]
      split
      · exact ih
      · split
        · exact ih
        · unfold mc_fitM
          split
          · rw [mm_sI_k (by omega), mm_sI_k (by omega)]; exact ih
          · exact ih
  have hlow : mc_lowI M 8 0 ≤ 8 := by
    have h8 : ∀ r k, mc_lowI M r k ≤ k + r := by
      intro r
      induction r with
      | zero => intro k; exact Nat.le_refl _
      | succ r ih =>
        intro k
        rw [mc_lowI]
        split
        · have := ih (k + 1); omega
        · omega
    have := h8 8 0
    omega
  have hi : ∀ k j : Nat, 50 ≤ k → M1.1 k j = M.1 k j := by
    intro k j hk
    rw [h1]
    split
    · show (mc_hoM (mc_laM M 8) (mc_lowI M 8 0) (mc_sq M x) x 8).1 k j = M.1 k j
      rw [ho _ _ _ _ _ _ (by omega) (by omega) hk, mc_laM_1]
    · split
      · rfl
      · split
        · rfl
        · rw [mc_laM_1]
  have hrow : ∀ k, 50 ≤ k → M1.1 k = M.1 k := fun k hk => funext fun j => hi k j hk
  have hF1 : mr_eq M1.1 M.1 := ⟨hi _ _ (by decide), hi _ _ (by decide), hrow _ (by decide), hrow _ (by decide), hrow _ (by decide), hrow _ (by decide), hrow _ (by decide)⟩
  have hcode := mj_cak h (by omega) hF1 (hrow 61 (by decide)) (x := x)
  refine ⟨⟨by rw [hi _ _ (by decide)]; exact h.rN, mj_hq h hi⟩, ?_⟩
  rw [hcode]
  by_cases z0 : mc_cak M x = 0
  · rw [if_pos z0] at h1
    rw [if_pos z0, if_pos z0]
    obtain ⟨r1, r2, r3⟩ := mj_calibrate h (by omega) z0 (M1 := M1) (by rw [h1]; rfl)
    refine ⟨r3.trans z0.symm, fun _ => ?_, N, S, T, by omega, r1⟩
    have h2 : ∀ (X : mm_M) (o : Nat) (y : Int64) (n : Nat), (mr_cbM X o y x n).2 = X.2 := by
      intro X o y n
      induction n with
      | zero => rfl
      | succ n ih =>
        rw [mr_cbM]
        split
        · exact ih
        · split
          · exact ih
          · exact ih
    rw [h2, r2]
    show M1.2 65 0 = _
    rw [h1]; exact mm_sL_s
  · rw [if_neg z0, if_neg z0]
    refine ⟨mm_sI_s, fun k => absurd k z0, N, S, T, by omega, ?_⟩
    rw [if_neg z0] at h1
    have e1 : M1.1 = M.1 := by
      rw [h1]
      split
      · rfl
      · split
        · rfl
        · exact mc_laM_1 8
    exact mj_20 h e1 _
