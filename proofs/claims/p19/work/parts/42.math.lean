/-- each call: the class's answer against the reference's -/
theorem mj_keep {M M2 : mm_M} {N S T : Nat} (h : mk_R M N S T) (hc : ∀ k j : Nat, k < 50 → M2.1 k j = M.1 k j) (hf : ∀ k j : Nat, 50 ≤ k → k < 62 → ¬ (k = 50 ∧ j = 20) → M2.1 k j = M.1 k j) : mk_R M2 N S T := mk_R2.tr h hc hf
theorem mj_20 {M M1 : mm_M} {N S T : Nat} (h : mk_R M N S T) (h1 : M1.1 = M.1) (v : Int32) : mk_R (mm_sI M1 50 20 v) N S T := mj_keep h (fun k j hk => by rw [mm_sI_k (by omega), h1]) (fun k j _ _ h3 => by rw [mm_sI_1, if_neg h3, h1])
theorem mj_gain {M M1 : mm_M} {N S T : Nat} (h : mk_R M N S T) (h1 : ∀ j, M1.1 56 j = M.1 56 j) : ∀ k : Nat, k < N → 0 < (M1.1 56 k).toInt := fun k hk => by rw [h1]; have := (h.elB k hk).2.2.2.2.1; omega
theorem mj_N1 {N : Nat} (hN : N ≤ 8) : (nI N - 1).toInt = (N : Int) - 1 := by
  have e1 : (1 : Int32).toInt = 1 := rfl
  have hTi : (nI N).toInt = (N : Int) := nI_toInt (by omega)
  rw [mk_is, hTi, e1] <;> rw [hTi, e1] <;> omega
theorem mj_isEl {M : mm_M} {N S T : Nat} (h : mk_R M N S T) (x : Int32) : mc_isEl M x = nm_in x 0 (M.1 50 1 - 1) ∧ (¬ nm_in x 0 (M.1 50 1 - 1) = 0 → x.toInt = (x.toInt.toNat : Int) ∧ x.toInt.toNat < N) := by
  have hN8 := h.N8
  have e0 : (0 : Int32).toInt = 0 := rfl
  have hN := mj_N1 hN8
  have hTi : (nI N).toInt = (N : Int) := nI_toInt (by omega)
  have h8 : (nI 8).toInt = 8 := nI_toInt (by omega)
  have hz := mk_inT (x := x) (y := 0) (z := M.1 50 1 - 1)
  rw [h.rN, hN, e0] at hz
  constructor
  · unfold mc_isEl nm_in
    rw [h.cN, h.rN]
    by_cases a : x < 0
    · rw [if_pos a, if_pos a]
    · rw [if_neg a, if_neg a]
      by_cases b : nI N ≤ x
      · have b2 := Int32.le_iff_toInt_le.mp b
        rw [if_pos b, if_pos (Int32.lt_iff_toInt_lt.mpr (by rw [hN]; omega))]
      · have b2 : ¬ (N : Int) ≤ x.toInt := fun k => b (Int32.le_iff_toInt_le.mpr (by rw [hTi]; exact k))
        rw [if_neg b, if_neg (fun k => by have := Int32.le_iff_toInt_le.mp k; omega), if_neg (fun k => by have := Int32.lt_iff_toInt_lt.mp k; omega)]
  · intro k
    rw [h.rN] at k
    have k2 : ¬ (x.toInt < 0 ∨ (N : Int) - 1 < x.toInt) := fun q => k (hz.mpr q)
    omega
theorem mj_in {x y z : Int32} (h : ¬ nm_in x y z = 0) : y.toInt ≤ x.toInt ∧ x.toInt ≤ z.toInt := nm_inT h
theorem mj_sample {M M1 : mm_M} {N S T : Nat} (h : mk_R M N S T) (hT : T ≤ 60000) (h1 : M1.1 = M.1) {x y : Int32} : mr_smk M1.1 x y = mc_smk M x y ∧ (mc_smk M x y = 0 → mr_kept M1.1 61 x.toInt.toNat (M1.1 50 0 - 1 - y) = mc_at M x.toInt.toNat (63 - y)) := by
  have hE := mj_isEl h x
  rw [h1]
  have hcode : mr_smk M.1 x y = mc_smk M x y := by unfold mr_smk mc_smk; rw [hE.1]
  refine ⟨hcode, fun hc => ?_⟩
  rw [← hcode] at hc
  unfold mr_smk at hc
  by_cases a : nm_in x 0 (M.1 50 1 - 1) = 0
  · rw [if_pos a] at hc; exact absurd hc (by decide)
  · rw [if_neg a] at hc
    by_cases b : nm_in y 0 63 = 0
    · rw [if_pos b] at hc; exact absurd hc (by decide)
    · have hy := mj_in b
      have e0 : (0 : Int32).toInt = 0 := rfl
      have e63 : (63 : Int32).toInt = 63 := rfl
      have e1 : (1 : Int32).toInt = 1 := rfl
      rw [e0, e63] at hy
      have hTi : (nI T).toInt = (T : Int) := nI_toInt (by omega)
      have s1 : (63 - y).toInt = 63 - y.toInt := by rw [mk_is, e63] <;> rw [e63] <;> omega
      have s2 : (nI T - 1).toInt = (T : Int) - 1 := by rw [mk_is, hTi, e1] <;> rw [hTi, e1] <;> omega
      have s3 : (nI T - 1 - y).toInt = (T : Int) - 1 - y.toInt := by rw [mk_is, s2] <;> rw [s2] <;> omega
      rw [h.rT]
      exact (mk_at h hT (hE.2 a).2 (x := 63 - y) (t := nI T - 1 - y) (by rw [s1]; omega) (by rw [s1, s3]; omega)).symm
theorem mj_calibrated {M M1 : mm_M} {N S T : Nat} (h : mk_R M N S T) (h1 : M1.1 = M.1) {x y : Int32} : (if nm_in x 0 (M1.1 50 1 - 1) = 0 then (1 : Int32) else 0) = mc_alk M x ∧ (mc_alk M x = 0 → (if nm_in x 0 (M1.1 50 1 - 1) = 0 then 0 else if y = 0 then M1.1 56 x.toInt.toNat else M1.1 57 x.toInt.toNat) = if y = 0 then M.1 (10 + x.toInt.toNat) 8 else M.1 (10 + x.toInt.toNat) 9) := by
  have hE := mj_isEl h x
  rw [h1]
  have hcode : (if nm_in x 0 (M.1 50 1 - 1) = 0 then (1 : Int32) else 0) = mc_alk M x := by unfold mc_alk; rw [hE.1]
  refine ⟨hcode, fun hc => ?_⟩
  rw [← hcode] at hc
  by_cases a : nm_in x 0 (M.1 50 1 - 1) = 0
  · rw [if_pos a] at hc; exact absurd hc (by decide)
  · rw [if_neg a]
    have hq := h.el _ (hE.2 a).2
    rw [hq.2.2.2.2.2.1, hq.2.2.2.2.2.2.1]
theorem mj_b {x : Int32} (h : ¬ nm_in x (-4) 4 = 0) : -4 ≤ x.toInt ∧ x.toInt ≤ 4 := by
  have := mj_in h
  have e4 : (4 : Int32).toInt = 4 := rfl
  have em : (-4 : Int32).toInt = -4 := rfl
  rw [e4, em] at this
  exact this
theorem mj_sum {M M1 : mm_M} {N S T : Nat} (h : mk_R M N S T) (hT : T ≤ 60000) (h1 : M1.1 = M.1) {x y : Int32} (hc : mr_suk x y = 0) : mr_sumN M1.1 N 61 x (M1.1 50 0 - 1 - y) N = (mc_steer (mc_laM M 8) x).2 4 (47 - y.toInt).toNat := by
  unfold mr_suk at hc
  by_cases a : nm_in x (-4) 4 = 0
  · rw [if_pos a] at hc; exact absurd hc (by decide)
  · rw [if_neg a] at hc
    by_cases b : nm_in y 16 47 = 0
    · rw [if_pos b] at hc; exact absurd hc (by decide)
    · have hy := mj_in b
      have e16 : (16 : Int32).toInt = 16 := rfl
      have e47 : (47 : Int32).toInt = 47 := rfl
      have e1 : (1 : Int32).toInt = 1 := rfl
      rw [e16, e47] at hy
      have hTi : (nI T).toInt = (T : Int) := nI_toInt (by omega)
      have s2 : (nI T - 1).toInt = (T : Int) - 1 := by rw [mk_is, hTi, e1] <;> rw [hTi, e1] <;> omega
      have s3 : (nI T - 1 - y).toInt = (T : Int) - 1 - y.toInt := by rw [mk_is, s2] <;> rw [s2] <;> omega
      rw [h1, h.rT]
      exact (mk_steer h hT (mk_P0 h hT) (mj_b a) (by omega) (by rw [s3]; omega)).symm
theorem mj_peaks {M M1 : mm_M} {N S T : Nat} (h : mk_R M N S T) (hT : T ≤ 60000) (h1 : M1.1 = M.1) {x : Int32} : mr_pkv ((mr_fp (mm_sI M1 50 20 0) N 61).2 64) x = mc_pkN (mc_fpM (mc_laM M 8) 9) (mc_fpG (mc_laM M 8) 9) x 9 := by
  refine (mk_peaks h hT (fun k hk => ?_)).symm
  have : (mr_fp (mm_sI M1 50 20 0) N 61).2 64 k = mr_powN (mm_sI M1 50 20 0).1 N 61 (nI k - 4) 32 := mm_row_i hk
  rw [this, mr_powN_c mr_eq_t ((mm_sI_o 61 (by decide)).1), h1]
  rfl
theorem mj_fd0 {M M1 : mm_M} {N S T : Nat} (h : mk_R M N S T) (hT : T ≤ 60000) (h1 : M1.1 = M.1) : mk_P M (mc_laM M 8) (mr_fd0 M1).1 62 N T ∧ mk_bd (mr_fd0 M1).1 62 N T 1000 := by
  have hN8 := h.N8
  have h0 := mk_P0 h hT
  have hfe : mr_eq (mr_fd0 M1).1 M.1 := by
    have e : ∀ k j : Nat, k ≠ 62 → ¬ (k = 50 ∧ j = 20) → (mr_fd0 M1).1 k j = M.1 k j := fun k j a b => by unfold mr_fd0; rw [mm_rowI_o a, mm_sI_1, if_neg b, h1]
    exact ⟨e _ _ (by decide) (by decide), e _ _ (by decide) (by decide), funext fun j => e _ _ (by decide) (by omega), funext fun j => e _ _ (by decide) (by omega), funext fun j => e _ _ (by decide) (by omega), funext fun j => e _ _ (by decide) (by omega), funext fun j => e _ _ (by decide) (by omega)⟩
  have hk : ∀ e, e < N → ∀ t, mr_kept (mr_fd0 M1).1 62 e t = mr_kept M.1 61 e t := by
    intro e he t
    unfold mr_kept
    rw [mr_isK_c hfe]
    have hi : 64 * e + t.toInt.toNat % 64 < 512 := by have := Nat.mod_lt t.toInt.toNat (show 64 > 0 by decide); omega
    have : (mr_fd0 M1).1 62 (64 * e + t.toInt.toNat % 64) = M.1 61 (64 * e + t.toInt.toNat % 64) := by
      unfold mr_fd0
      rw [mm_rowI_i hi, h1]
    rw [this]
  refine ⟨⟨h0.p1, hfe, h0.w, fun e he z c hc t ht => ?_⟩, fun e he c hc t ht => ?_⟩
  · rw [hk e he]; exact h0.tu e he z c hc t ht
  · rw [hk e he]; exact mk_keptB h he
theorem mj_K : ∀ r, r ≤ 5 → 1000 ≤ mk_K r
  | 0, _ => by decide
  | 1, _ => by decide
  | 2, _ => by decide
  | 3, _ => by decide
  | 4, _ => by decide
  | 5, _ => by decide
theorem mj_found {M M1 : mm_M} {N S T : Nat} (h : mk_R M N S T) (hT : T ≤ 60000) (h1 : M1.1 = M.1) {r : Nat} (hr : r ≤ 5) : (mr_fd N r (mr_fd0 M1)).1 = (mc_fd (mc_laA M 8) r (mc_fpM (mc_laM M 8) 9) (mc_strong (mc_laM M 8))).1 ∧ (mc_fd (mc_laA M 8) r (mc_fpM (mc_laM M 8) 9) (mc_strong (mc_laM M 8))).2.1 = M.1 ∧ (mr_fd N r (mr_fd0 M1)).2.1 50 20 = 0 ∧ mk_R (mr_fd N r (mr_fd0 M1)).2 N S T := by
  have h0 := mj_fd0 h hT h1
  have hf := mk_found h hT r (mc_laM M 8) (mr_fd0 M1) 1000 (mj_K r hr) h0.1 h0.2
  have e : ∀ k j : Nat, k ≠ 62 → k ≠ 63 → ¬ (k = 50 ∧ j = 20) → (mr_fd N r (mr_fd0 M1)).2.1 k j = M.1 k j := fun k j a b c => by
    rw [hf.2.2 k j a b]
    unfold mr_fd0
    rw [mm_rowI_o a, mm_sI_1, if_neg c, h1]
  refine ⟨hf.1.symm, hf.2.1, ?_, mj_keep h (fun k j hk => e k j (by omega) (by omega) (by omega)) (fun k j a b c => e k j (by omega) (by omega) c)⟩
  rw [hf.2.2 50 20 (by decide) (by decide)]
  unfold mr_fd0
  rw [mm_rowI_o (by decide), mm_sI_s]
theorem mj_all {M M1 : mm_M} {N S T : Nat} (h : mk_R M N S T) (h1 : M1.1 = M.1) : (∃ k : Nat, k < N ∧ ¬ M1.1 55 k = 0) → 0 < (mr_allN M1.1 N N).toInt64.toInt := by
  rw [h1]
  intro hx
  have := mk_Wpos h N (Nat.le_refl N) hx
  rw [mk_w, mk_all h ⟨rfl, rfl, rfl, rfl, rfl, rfl, rfl⟩ N (Nat.le_refl N)]
  omega
