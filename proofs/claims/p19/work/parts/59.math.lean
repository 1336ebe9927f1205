/-- calibrating, and a second time -/
theorem mz_agc {F F' : mm_F} (hc : ∀ k j : Nat, 50 ≤ k → k ≠ 56 → k ≠ 57 → ¬ (k = 50 ∧ j = 20) → F' k j = F k j) {e o : Nat} {t b : Int32} : ∀ n, mr_agN F' e t o b n = mr_agN F e t o b n
  | 0 => rfl
  | n + 1 => by
    have h50 := hc 50 0 (by decide) (by decide) (by decide) (by decide)
    have h54 : F' 54 = F 54 := funext fun j => hc 54 j (by decide) (by decide) (by decide) (by omega)
    have h51 : F' 51 = F 51 := funext fun j => hc 51 j (by decide) (by decide) (by decide) (by omega)
    have h61 : F' 61 = F 61 := funext fun j => hc 61 j (by decide) (by decide) (by decide) (by omega)
    have hk : ∀ e t, mr_kept F' 61 e t = mr_kept F 61 e t := fun e t => by unfold mr_kept mr_isK; rw [h50, h54, h61]
    have hd : ∀ e, mr_delay F' e b = mr_delay F e b := fun e => by unfold mr_delay; rw [h51]
    rw [mr_agN, mr_agN, mz_agc hc n, h50, hk, hk, hd, hd]
theorem mz_bLc {F F' : mm_F} (hc : ∀ k j : Nat, 50 ≤ k → k ≠ 56 → k ≠ 57 → ¬ (k = 50 ∧ j = 20) → F' k j = F k j) {e o : Nat} {b : Int32} : ∀ n, mr_bL F' e o b n = mr_bL F e o b n
  | 0 => rfl
  | n + 1 => by rw [mr_bL, mr_bL, mz_bLc hc n, mz_agc hc 32, mz_agc hc 32]
theorem mz_fitc {F F' : mm_F} (hc : ∀ k j : Nat, 50 ≤ k → k ≠ 56 → k ≠ 57 → ¬ (k = 50 ∧ j = 20) → F' k j = F k j) {e o : Nat} {b : Int32} {y : Int64} : mr_fitG F' e o b y = mr_fitG F e o b y := by
  unfold mr_fitG; rw [mz_bLc hc 6, mz_agc hc 32]
theorem mz_lowc {F F' : mm_F} (hc : ∀ k j : Nat, 50 ≤ k → k ≠ 56 → k ≠ 57 → ¬ (k = 50 ∧ j = 20) → F' k j = F k j) : ∀ r k, mr_low F' r k = mr_low F r k
  | 0, _ => rfl
  | r + 1, k => by rw [mr_low, mr_low, hc 55 k (by decide) (by decide) (by decide) (by omega), mz_lowc hc r (k + 1)]
theorem mz_oc {F F' : mm_F} (hc : ∀ k j : Nat, 50 ≤ k → k ≠ 56 → k ≠ 57 → ¬ (k = 50 ∧ j = 20) → F' k j = F k j) {N : Nat} : mr_o F' N = mr_o F N := by unfold mr_o; rw [mz_lowc hc]
theorem mz_sqc {F F' : mm_F} (hc : ∀ k j : Nat, 50 ≤ k → k ≠ 56 → k ≠ 57 → ¬ (k = 50 ∧ j = 20) → F' k j = F k j) {N : Nat} {x : Int32} : mr_sq F' N x = mr_sq F N x := by unfold mr_sq; rw [mz_oc hc, mz_agc hc]
theorem mz_cakc {F F' : mm_F} (hc : ∀ k j : Nat, 50 ≤ k → k ≠ 56 → k ≠ 57 → ¬ (k = 50 ∧ j = 20) → F' k j = F k j) {N : Nat} {x : Int32} : mr_cak F' N x = mr_cak F N x := by unfold mr_cak; rw [mz_lowc hc, mz_sqc hc]
theorem mz_bec0 {F : mm_F} {e : Nat} {g t : Int32} (h1 : F 56 e = g) (h2 : F 57 e = t) : mr_becV F e g t = 0 := by
  unfold mr_becV
  rw [if_neg (fun h => h h1), if_pos h2]
/-- how many become others -/
theorem mz_cbN {M : mm_M} {o : Nat} {y : Int64} {b : Int32} : ∀ n, ∃ c : Nat, mr_cbV M o y b n = nI c ∧ c ≤ 1 + (n - (o + 1))
  | 0 => by
    rw [mr_cbV]
    split
    · exact ⟨0, rfl, by omega⟩
    · exact ⟨1, rfl, by omega⟩
  | n + 1 => by
    obtain ⟨c, h1, h2⟩ := mz_cbN (M := M) (o := o) (y := y) (b := b) n
    rw [mr_cbV]
    split
    · exact ⟨c, h1, by omega⟩
    · split
      · exact ⟨c, h1, by omega⟩
      · split
        · exact ⟨c, h1, by omega⟩
        · exact ⟨c + 1, by rw [h1]; exact mz_add c 1, by omega⟩
/-- what stands behind -/
theorem mz_cbF {M : mm_M} {o : Nat} {y : Int64} {b : Int32} : ∀ n, ((mr_cbM M o y b n).1 56 o = 64 ∧ (mr_cbM M o y b n).1 57 o = 0) ∧ ∀ e : Nat, o < e → e < n → ¬ M.1 55 e = 0 → (mr_cbM M o y b n).1 56 e = mr_fitG M.1 e o b y ∧ (mr_cbM M o y b n).1 57 e = mr_bL M.1 e o b 6
  | 0 => by
    refine ⟨⟨?_, mm_sI_s⟩, fun e _ h => absurd h (Nat.not_lt_zero e)⟩
    rw [mr_cbM, mm_sI_k (by decide), mm_sI_s]
  | n + 1 => by
    obtain ⟨h1, h2⟩ := mz_cbF (M := M) (o := o) (y := y) (b := b) n
    rw [mr_cbM]
    split
    · exact ⟨h1, fun e a b c => h2 e a (by omega) c⟩
    · rename_i z
      split
      · rename_i z2
        refine ⟨h1, fun e a b c => ?_⟩
        by_cases q : e = n
        · rw [q] at c; exact absurd z2 c
        · exact h2 e a (by omega) c
      · have hc : ∀ k j : Nat, 50 ≤ k → k ≠ 56 → k ≠ 57 → ¬ (k = 50 ∧ j = 20) → (mr_cbM M o y b n).1 k j = M.1 k j := fun k j _ a b _ => mr_cbM_o a b n
        rw [mz_fitc hc, mz_bLc hc 6]
        refine ⟨⟨?_, ?_⟩, fun e a b c => ?_⟩
        · rw [mm_sI_k (by decide), mm_sI_j (by omega)]; exact h1.1
        · rw [mm_sI_j (by omega), mm_sI_k (by decide)]; exact h1.2
        · by_cases q : e = n
          · subst q
            exact ⟨by rw [mm_sI_k (by decide), mm_sI_s], mm_sI_s⟩
          · rw [mm_sI_k (by decide), mm_sI_j q, mm_sI_j q, mm_sI_k (by decide)]
            exact h2 e a (by omega) c
/-- a second time nothing becomes another -/
theorem mz_cb2 {B B2 : mm_M} {N o : Nat} {y : Int64} {b : Int32} (h2 : ∀ k j : Nat, 50 ≤ k → ¬ (k = 50 ∧ j = 20) → B2.1 k j = (mr_cbM B o y b N).1 k j) : ∀ n, n ≤ N → (∀ k j : Nat, (mr_cbM B2 o y b n).1 k j = B2.1 k j) ∧ mr_cbV B2 o y b n = 0
  | 0, _ => by
    have hF := (mz_cbF (M := B) (o := o) (y := y) (b := b) N).1
    have a1 : B2.1 56 o = 64 := (h2 56 o (by decide) (by omega)).trans hF.1
    have a2 : B2.1 57 o = 0 := (h2 57 o (by decide) (by omega)).trans hF.2
    refine ⟨fun k j => ?_, ?_⟩
    · have e1 := mz_same (M := B2) (k := 56) (j := o) a1
      have e2 : (mm_sI (mm_sI B2 56 o 64) 57 o 0).1 = (mm_sI B2 56 o 64).1 := mz_same (by rw [e1]; exact a2)
      rw [mr_cbM, e2, e1]
    · rw [mr_cbV, if_pos (mz_bec0 a1 a2)]
  | n + 1, hn => by
    obtain ⟨i1, i2⟩ := mz_cb2 h2 n (by omega)
    have hF := (mz_cbF (M := B) (o := o) (y := y) (b := b) N).2
    rw [mr_cbM, mr_cbV]
    by_cases z : n ≤ o
    · rw [if_pos z, if_pos z]; exact ⟨i1, i2⟩
    · rw [if_neg z, if_neg z]
      by_cases z2 : B2.1 55 n = 0
      · rw [if_pos z2, if_pos z2]; exact ⟨i1, i2⟩
      · rw [if_neg z2, if_neg z2]
        have e55 : B2.1 55 n = B.1 55 n := by rw [h2 55 n (by decide) (by omega), mr_cbM_o (by decide) (by decide)]
        have hf := hF n (by omega) (by omega) (by rw [← e55]; exact z2)
        have hc : ∀ k j : Nat, 50 ≤ k → k ≠ 56 → k ≠ 57 → ¬ (k = 50 ∧ j = 20) → (mr_cbM B2 o y b n).1 k j = B.1 k j := fun k j a c d f => by rw [i1, h2 k j a f, mr_cbM_o c d]
        have g1 : mr_fitG (mr_cbM B2 o y b n).1 n o b y = mr_fitG B.1 n o b y := mz_fitc hc
        have g2 : mr_bL (mr_cbM B2 o y b n).1 n o b 6 = mr_bL B.1 n o b 6 := mz_bLc hc 6
        rw [g1, g2]
        have a1 : (mr_cbM B2 o y b n).1 56 n = mr_fitG B.1 n o b y := by rw [i1, h2 56 n (by decide) (by omega)]; exact hf.1
        have a2 : (mr_cbM B2 o y b n).1 57 n = mr_bL B.1 n o b 6 := by rw [i1, h2 57 n (by decide) (by omega)]; exact hf.2
        refine ⟨fun k j => ?_, ?_⟩
        · have e1 := mz_same (M := mr_cbM B2 o y b n) (k := 56) (j := n) a1
          have e2 : (mm_sI (mm_sI (mr_cbM B2 o y b n) 56 n (mr_fitG B.1 n o b y)) 57 n (mr_bL B.1 n o b 6)).1 = (mm_sI (mr_cbM B2 o y b n) 56 n (mr_fitG B.1 n o b y)).1 := mz_same (by rw [e1]; exact a2)
          rw [e2, e1, i1]
        · rw [if_pos (mz_bec0 a1 a2)]; exact i2
theorem mz_hoM_o {y : Int64} {b : Int32} {X : mm_M} {o : Nat} (ho : o < 8) {k j : Nat} (h : ¬ (10 ≤ k ∧ k < 18 ∧ (j = 8 ∨ j = 9))) : ∀ n, n ≤ 8 → (mc_hoM X o y b n).1 k j = X.1 k j
  | 0, _ => by rw [mc_hoM, mm_sI_1, if_neg (by omega), mm_sI_1, if_neg (by omega)]
  | n + 1, hn => by
    have ih := mz_hoM_o (y := y) (b := b) (X := X) ho h n (by omega)
    rw [mc_hoM]
    split
    · exact ih
    · split
      · exact ih
      · unfold mc_fitM
        split
        · rw [mm_sI_1, if_neg (by omega), mm_sI_1, if_neg (by omega)]; exact ih
        · exact ih
theorem mz_gh_ca {M : mm_M} {o : Nat} {y : Int64} {b x : Int32} {n : Nat} : ∀ k j : Nat, k < 50 ∨ 65 ≤ k → M.1 k j = (mr_cbM (mm_sI M 50 20 x) o y b n).1 k j := fun k j hk => by
  rw [mr_cbM_o (by omega) (by omega), mm_sI_k (by omega)]
theorem mz_cb_2 {M : mm_M} {o : Nat} {y : Int64} {b : Int32} : ∀ n, (mr_cbM M o y b n).2 = M.2
  | 0 => rfl
  | n + 1 => by
    rw [mr_cbM]
    split
    · exact mz_cb_2 n
    · split
      · exact mz_cb_2 n
      · exact mz_cb_2 n
theorem mz_gh_ca2 {M : mm_M} {o : Nat} {y : Int64} {b x : Int32} {n : Nat} : M.2 = (mr_cbM (mm_sI M 50 20 x) o y b n).2 := (mz_cb_2 (M := mm_sI M 50 20 x) n).symm
theorem mz_cx {M : mm_M} {x : Int32} : (if nm_in x (-4) 4 = 0 then M else if mc_lowI M 8 0 = 8 then M else mc_laM M 8).1 = M.1 := by
  split
  · rfl
  · split
    · rfl
    · exact mc_laM_1 8
/-- the three ways of a calibration with a bearing that there is -/
theorem mz_cak02 {M : mm_M} {x : Int32} (h : ¬ nm_in x (-4) 4 = 0) : mc_cak M x = 0 ∨ mc_cak M x = 2 := by
  unfold mc_cak
  rw [if_neg h]
  split
  · exact Or.inr rfl
  · split
    · exact Or.inl rfl
    · exact Or.inr rfl
/-- the first time -/
theorem mz_ca {M : mm_M} {N S T : Nat} (h : mz_I M N S T) (hT : T ≤ 58000) {x : Int32} (hc : mc_cak M x = 0) {M1 : mm_M} (h1 : M1 = mc_hoM (mc_laM M 8) (mc_lowI M 8 0) (mc_sq M x) x 8) {M2 : mm_M} (h2 : M2 = mr_cbM (mm_sI M1 50 20 0) (mr_o M1.1 N) (mr_sq M1.1 N x) x N) : mz_I M2 N S T ∧ (∃ o c : Nat, o < N ∧ mr_low M.1 N 0 = nI o ∧ mr_o M.1 N = o ∧ (¬ M.1 55 o = 0) ∧ (∀ j : Nat, j < o → M.1 55 j = 0) ∧ mc_hoV (mc_laM M 8) (mc_lowI M 8 0) (mc_sq M x) x 8 = nI c ∧ c ≤ N - o ∧ M2.1 56 o = 64 ∧ M2.1 57 o = 0) ∧ (∀ k j : Nat, 50 ≤ k → k ≠ 56 → k ≠ 57 → ¬ (k = 50 ∧ j = 20) → M2.1 k j = M.1 k j) ∧ mr_o M1.1 N = mr_o M.1 N ∧ mr_sq M1.1 N x = mr_sq M.1 N x := by
  have hj := mj_calibrate h.R (by omega : T ≤ 60000) hc (M1 := M1) (by rw [h1])
  rw [← h2] at hj
  have hN8 := h.R.N8
  have hlow : ¬ mr_low M.1 N 0 = -99 := fun k => by
    have e8 := (mj_o h.R (mz_eqr M.1)).1 k
    have a : ¬ nm_in x (-4) 4 = 0 := fun k => by rw [mc_cak, if_pos k] at hc; exact absurd hc (by decide)
    rw [mc_cak, if_neg a, if_pos e8] at hc
    exact absurd hc (by decide)
  obtain ⟨o1, o2, o3, o4⟩ := (mj_o h.R (mz_eqr M.1)).2 hlow
  have hoc := mr_o_c hN8 hlow
  have hM1 : ∀ k j : Nat, ¬ (10 ≤ k ∧ k < 18 ∧ (j = 8 ∨ j = 9)) → M1.1 k j = M.1 k j := fun k j hk => by rw [h1, mz_hoM_o (by omega) hk 8 (Nat.le_refl 8), mc_laM_1]
  have hcc : ∀ k j : Nat, 50 ≤ k → k ≠ 56 → k ≠ 57 → ¬ (k = 50 ∧ j = 20) → M1.1 k j = M.1 k j := fun k j a _ _ _ => hM1 k j (by omega)
  have eo : mr_o M1.1 N = mr_o M.1 N := mz_oc hcc
  have es : mr_sq M1.1 N x = mr_sq M.1 N x := mz_sqc hcc
  have hhi : ∀ k j : Nat, ¬ (10 ≤ k ∧ k < 18 ∧ (j = 8 ∨ j = 9)) → k ≠ 56 → k ≠ 57 → ¬ (k = 50 ∧ j = 20) → M2.1 k j = M.1 k j := fun k j a b c d => by rw [h2, mr_cbM_o b c, mm_sI_1, if_neg d, hM1 k j a]
  have hF := (mz_cbF (M := mm_sI M1 50 20 0) (o := mr_o M1.1 N) (y := mr_sq M1.1 N x) (b := x) N).1
  rw [← h2, eo] at hF
  obtain ⟨c, c1, c2⟩ := mz_cbN (M := mm_sI M1 50 20 0) (o := mr_o M1.1 N) (y := mr_sq M1.1 N x) (b := x) N
  refine ⟨⟨hj.1, h.B.tr (fun j => hhi 61 j (by omega) (by omega) (by omega) (by omega)), (hhi 65 0 (by omega) (by omega) (by omega) (by omega)).trans h.m0, (hhi 65 1 (by omega) (by omega) (by omega) (by omega)).trans h.m1, (hhi 65 2 (by omega) (by omega) (by omega) (by omega)).trans h.m2, ?_, ?_, fun k hk => ?_⟩, ⟨mr_o M.1 N, c, o2, hoc.1, rfl, o3, o4, ?_, ?_, hF.1, hF.2⟩, fun k j a b c d => hhi k j (by omega) b c d, eo, es⟩
  · rw [hhi 65 3 (by omega) (by omega) (by omega) (by omega), hhi 3 0 (by omega) (by omega) (by omega) (by omega)]; exact h.m3
  · rw [hhi 65 4 (by omega) (by omega) (by omega) (by omega), hhi 0 7 (by omega) (by omega) (by omega) (by omega)]; exact h.m4
  · rw [hhi 66 _ (by omega) (by omega) (by omega) (by omega), hhi 66 _ (by omega) (by omega) (by omega) (by omega), hhi 55 k (by omega) (by omega) (by omega) (by omega), hhi 54 k (by omega) (by omega) (by omega) (by omega)]; exact h.e k hk
  · rw [← hj.2.1]; exact c1
  · rw [eo] at c2; omega
/-- the second time -/
theorem mz_ca2 {M M1 M2 Mw : mm_M} {N S T : Nat} (h : mz_I M N S T) (hT : T ≤ 58000) {x : Int32} (hb : ¬ nm_in x (-4) 4 = 0) (hc : mc_cak M x = 0) (h2 : M2 = mr_cbM (mm_sI M1 50 20 0) (mr_o M1.1 N) (mr_sq M1.1 N x) x N) (hI2 : mz_I M2 N S T) (ho : mr_o M1.1 N = mr_o M.1 N) (hs : mr_sq M1.1 N x = mr_sq M.1 N x) (hh : ∀ k j : Nat, 50 ≤ k → k ≠ 56 → k ≠ 57 → ¬ (k = 50 ∧ j = 20) → M2.1 k j = M.1 k j) (hw : Mw.1 = M2.1) : mc_cak Mw x = 0 ∧ mc_hoV (mc_laM Mw 8) (mc_lowI Mw 8 0) (mc_sq Mw x) x 8 = 0 := by
  have hRw := hI2.R.eq hw
  have hcF : ∀ k j : Nat, 50 ≤ k → k ≠ 56 → k ≠ 57 → ¬ (k = 50 ∧ j = 20) → Mw.1 k j = M.1 k j := fun k j a b c d => by rw [hw]; exact hh k j a b c d
  have k0 : mr_cak M.1 N x = 0 := (mj_cak h.R (by omega) (mz_eqr _) rfl).trans hc
  have k1 : mr_cak Mw.1 N x = 0 := (mz_cakc hcF).trans k0
  have hcw : mc_cak Mw x = 0 := (mj_cak hRw (by omega) (mz_eqr _) rfl).symm.trans k1
  refine ⟨hcw, ?_⟩
  have hj := (mj_calibrate hRw (by omega : T ≤ 60000) hcw (M1 := mc_hoM (mc_laM Mw 8) (mc_lowI Mw 8 0) (mc_sq Mw x) x 8) rfl).2.1
  rw [← hj]
  have hlow : mc_lowI Mw 8 0 < 8 := by
    have hl : ¬ mr_low Mw.1 N 0 = -99 := fun k => by
      have e8 := (mj_o hRw (mz_eqr Mw.1)).1 k
      unfold mc_cak at hcw
      rw [if_neg hb, if_pos e8] at hcw; exact absurd hcw (by decide)
    have := (mj_o hRw (mz_eqr Mw.1)).2 hl
    have hN8 := hRw.N8
    omega
  have hX : ∀ k j : Nat, 50 ≤ k → (mc_hoM (mc_laM Mw 8) (mc_lowI Mw 8 0) (mc_sq Mw x) x 8).1 k j = M2.1 k j := fun k j hk => by
    rw [mz_hoM_o hlow (by omega) 8 (Nat.le_refl 8), mc_laM_1, hw]
  generalize mc_hoM (mc_laM Mw 8) (mc_lowI Mw 8 0) (mc_sq Mw x) x 8 = X at hX ⊢
  have hcX : ∀ k j : Nat, 50 ≤ k → k ≠ 56 → k ≠ 57 → ¬ (k = 50 ∧ j = 20) → X.1 k j = M.1 k j := fun k j a b c d => by rw [hX k j a]; exact hh k j a b c d
  have e1 : mr_o X.1 N = mr_o M.1 N := mz_oc hcX
  have e2 : mr_sq X.1 N x = mr_sq M.1 N x := mz_sqc hcX
  rw [e1, e2]
  rw [ho, hs] at h2
  exact (mz_cb2 (B := mm_sI M1 50 20 0) (B2 := mm_sI X 50 20 0) (fun k j a d => by rw [mm_sI_1, if_neg d, hX k j a, h2]) N (Nat.le_refl N)).2
theorem mz_ca3 {M Mw : mm_M} {N S T : Nat} (h : mz_I M N S T) (hT : T ≤ 58000) (hw : Mw.1 = M.1) {x : Int32} (hc : mc_cak Mw x = 0) {M3 : mm_M} (h3 : M3 = mr_cbM (mm_sI (mc_hoM (mc_laM Mw 8) (mc_lowI Mw 8 0) (mc_sq Mw x) x 8) 50 20 0) (mr_o (mc_hoM (mc_laM Mw 8) (mc_lowI Mw 8 0) (mc_sq Mw x) x 8).1 N) (mr_sq (mc_hoM (mc_laM Mw 8) (mc_lowI Mw 8 0) (mc_sq Mw x) x 8).1 N x) x N) : mz_I M3 N S T := (mz_ca (h.eq hw) hT hc rfl h3).1
/-- the lowest, as the law looks for it: from the last on, d of them looked at -/
def mz_lo (F : mm_F) (N : Nat) : Nat → Int32
  | 0 => -1
  | d + 1 => if F 55 (N - 1 - d) = 1 then nI (N - 1 - d) else mz_lo F N d
theorem mz_loT {F : mm_F} {N d : Nat} (z : F 55 (N - 1 - d) = 1) : mz_lo F N (d + 1) = nI (N - 1 - d) := if_pos z
theorem mz_loF {F : mm_F} {N d : Nat} (z : ¬ F 55 (N - 1 - d) = 1) : mz_lo F N (d + 1) = mz_lo F N d := if_neg z
theorem mz_loo {F : mm_F} {N o : Nat} (ho : o < N) (h1 : F 55 o = 1) (h0 : ∀ j : Nat, j < o → F 55 j = 0) : ∀ d, d ≤ N → N - o ≤ d → mz_lo F N d = nI o
  | 0, _, h => absurd h (by omega)
  | d + 1, hd, h => by
    by_cases z : N - 1 - d = o
    · rw [mz_loT (by rw [z]; exact h1), z]
    · rw [mz_loF (by rw [h0 _ (by omega)]; decide)]
      exact mz_loo ho h1 h0 d (by omega) (by omega)
theorem mz_lneg {k : Nat} (hk : k < 100) : (nI k - 1).toInt = (k : Int) - 1 := mz_sub (nI_toInt (by omega)) rfl (by omega)
theorem mz_lT {N d : Nat} (hN : N ≤ 8) (hd : d ≤ N) (z : nI (N - d) - 1 < 0) : d = N := by
  rw [Int32.lt_iff_toInt_lt, mz_lneg (by omega), show (0 : Int32).toInt = 0 from rfl] at z; omega
theorem mz_lF {N d : Nat} (hN : N ≤ 8) (hd : d ≤ N) (z : ¬ nI (N - d) - 1 < 0) : d < N := by
  rw [Int32.lt_iff_toInt_lt, mz_lneg (by omega), show (0 : Int32).toInt = 0 from rfl] at z; omega
theorem mz_lk {N d : Nat} (hN : N ≤ 8) (hd : d < N) : nI (N - d) - 1 = nI (N - 1 - d) := by
  apply Int32.toInt_inj.mp
  rw [mz_lneg (by omega), nI_toInt (by omega)]; omega
theorem mz_dec {N d : Nat} (hN : N ≤ 8) (hd : d < N) : nI (N - 1 - d) + Int32.ofInt (-1) = nI (N - (d + 1)) - 1 := by
  have h : Int32.ofInt (-1) = -1 := by decide
  rw [h, show N - (d + 1) = N - 1 - d by omega, Int32.sub_eq_add_neg]
