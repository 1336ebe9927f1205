/-- the weights together -/
def mk_W (M : mm_M) (N : Nat) : Nat → Nat
  | 0 => 0
  | n + 1 => mk_W M N n + mk_wt M n N
theorem mk_WB {M : mm_M} {N S T : Nat} (h : mk_R M N S T) : ∀ n, n ≤ N → mk_W M N n ≤ 5 * n
  | 0, _ => Nat.le_refl _
  | n + 1, hn => by have := mk_WB h n (by omega); have := (mk_wtB h (e := n) (by omega)).1; rw [mk_W]; omega
theorem mk_all {M : mm_M} {F : mm_F} {N S T : Nat} (h : mk_R M N S T) (hF : mr_eq F M.1) : ∀ n, n ≤ N → (mr_allN F N n).toInt = (mk_W M N n : Int)
  | 0, _ => rfl
  | n + 1, hn => by
    have ih := mk_all h hF n (by omega)
    have hB := (mk_wtB h (e := n) (by omega)).1
    have hW := mk_WB h n (by omega)
    have hN8 := h.N8
    have e1 : (nI (mk_wt M n N)).toInt = (mk_wt M n N : Int) := nI_toInt (by omega)
    rw [mr_allN, mk_W, mr_w_c hF, mk_w_r h (by omega)]
    exact (mk_ia (by rw [ih, e1]; omega) (by rw [ih, e1]; omega)).trans (by rw [ih, e1]; omega)
theorem mk_laA {M : mm_M} {N S T : Nat} (h : mk_R M N S T) : ∀ n, n ≤ 8 → (mc_laA M n).toInt = (mk_W M N (if n ≤ N then n else N) : Int)
  | 0, _ => by rw [if_pos (Nat.zero_le _)]; rfl
  | n + 1, hn => by
    have ih := mk_laA h n (by omega)
    have hN8 := h.N8
    rw [mc_laA]
    by_cases z : n < N
    · have hB := (mk_wtB h (e := n) z).1
      have hW := mk_WB h n (by omega)
      rw [if_pos (show n ≤ N by omega)] at ih
      have e1 : (mc_w M n).toInt64.toInt = (mk_wt M n N : Int) := by rw [mk_w, mk_w_c h z]; exact nI_toInt (by omega)
      rw [if_pos (show n + 1 ≤ N by omega), mk_W]
      exact (mk_ja (by rw [ih, e1]; omega) (by rw [ih, e1]; omega)).trans (by rw [ih, e1]; omega)
    · have e0 : (0 : Int32).toInt64 = 0 := rfl
      rw [mk_w_n h (by omega) (by omega), e0, Int64.add_zero, ih, if_neg (show ¬ n + 1 ≤ N by omega)]
      by_cases y : n ≤ N
      · rw [if_pos y, show n = N from by omega]
      · rw [if_neg y]
theorem mk_laA8 {M : mm_M} {N S T : Nat} (h : mk_R M N S T) : (mc_laA M 8).toInt = (mk_W M N N : Int) := by
  have hN8 := h.N8
  rw [mk_laA h 8 (Nat.le_refl 8)]
  by_cases y : 8 ≤ N
  · rw [if_pos y, show N = 8 from by omega]
  · rw [if_neg y]
theorem mk_toldB {x g : Int32} {B : Nat} (hB : B ≤ 100000000) (hx : -(B : Int) ≤ x.toInt ∧ x.toInt ≤ (B : Int)) (hg : 16 ≤ g.toInt ∧ g.toInt ≤ 255) : -(4 * (B : Int)) ≤ (nm_fdJ (64 * x.toInt64) g.toInt64).toInt ∧ (nm_fdJ (64 * x.toInt64) g.toInt64).toInt ≤ 4 * (B : Int) := by
  have e64 : (64 : Int64).toInt = 64 := rfl
  have s1 : (64 * x.toInt64).toInt = 64 * x.toInt := (mk_jm (by rw [e64, mk_w]; omega) (by rw [e64, mk_w]; omega)).trans (by rw [e64, mk_w])
  have h4 : 4 * (B : Int) * 16 ≤ 4 * (B : Int) * g.toInt := Int.mul_le_mul_of_nonneg_left hg.1 (by omega)
  have h1 : 64 * x.toInt / g.toInt ≤ 4 * (B : Int) := Int.ediv_le_of_le_mul (by omega) (by omega)
  have h2 : -(4 * (B : Int)) ≤ 64 * x.toInt / g.toInt := Int.le_ediv_of_mul_le (by omega) (by rw [Int.neg_mul]; omega)
  unfold nm_fdJ
  rw [s1, mk_w, nm_ofJ (by omega) (by omega)]
  exact ⟨h2, h1⟩
def mk_bd (F : mm_F) (r N T B : Nat) : Prop := ∀ e : Nat, e < N → ∀ c : Nat, c < 64 → ∀ t : Int32, t.toInt = (T : Int) - 64 + (c : Int) → -(B : Int) ≤ (mr_kept F r e t).toInt ∧ (mr_kept F r e t).toInt ≤ (B : Int)
theorem mk_sumB {M : mm_M} {F : mm_F} {r N S T B : Nat} (h : mk_R M N S T) (hT : T ≤ 60000) (hF : mr_eq F M.1) (hbd : mk_bd F r N T B) (hB : B ≤ 10000000) {b t : Int32} (hb : -4 ≤ b.toInt ∧ b.toInt ≤ 4) {c : Nat} (hc : c < 32) (ht : t.toInt = (T : Int) - 48 + (c : Int)) : ∀ n, n ≤ N → -(4 * (B : Int) * (mk_W M N n : Int)) ≤ (mr_sumN F N r b t n).toInt ∧ (mr_sumN F N r b t n).toInt ≤ 4 * (B : Int) * (mk_W M N n : Int)
  | 0, _ => by
    have e0 : (mr_sumN F N r b t 0).toInt = 0 := rfl
    rw [e0, mk_W]
    omega
  | n + 1, hn => by
    have ih := mk_sumB h hT hF hbd hB hb hc ht n (by omega)
    have hN8 := h.N8
    have hWB := mk_WB h n (by omega)
    have hw := (mk_wtB h (e := n) (by omega)).1
    have hft := mk_ft h (e := n) (by omega) hb
    have hg := (h.elB n (by omega)).2.2.2.2.1
    have s2 : (t + mr_delay M.1 n b).toInt = t.toInt + (mr_delay M.1 n b).toInt := mk_ia (by omega) (by omega)
    have hy : (t + mr_delay M.1 n b + M.1 57 n).toInt = t.toInt + (mr_delay M.1 n b).toInt + (M.1 57 n).toInt := (mk_ia (by rw [s2]; omega) (by rw [s2]; omega)).trans (by rw [s2])
    have hk := hbd n (by omega) ((16 + (mr_delay M.1 n b).toInt + (M.1 57 n).toInt).toNat + c) (by omega) (t + mr_delay M.1 n b + M.1 57 n) (by omega)
    have htd := mk_toldB (g := M.1 56 n) (by omega) hk hg
    rw [mr_sumN, mk_W, mr_w_c hF, mk_w_r h (by omega), mr_delay_c hF, hF.2.2.2.2.2.2, hF.2.2.2.2.2.1]
    have ew : (nI (mk_wt M n N)).toInt64.toInt = (mk_wt M n N : Int) := by rw [mk_w]; exact nI_toInt (by omega)
    generalize nm_fdJ (64 * (mr_kept F r n (t + mr_delay M.1 n b + M.1 57 n)).toInt64) (M.1 56 n).toInt64 = v at *
    generalize mk_wt M n N = w at *
    have hp1 : (w : Int) * v.toInt ≤ (w : Int) * (4 * (B : Int)) := Int.mul_le_mul_of_nonneg_left htd.2 (by omega)
    have hp2 : (w : Int) * (-(4 * (B : Int))) ≤ (w : Int) * v.toInt := Int.mul_le_mul_of_nonneg_left htd.1 (by omega)
    have hp3 : (w : Int) * (4 * (B : Int)) ≤ 5 * (4 * (B : Int)) := Int.mul_le_mul_of_nonneg_right (by omega) (by omega)
    have hp4 : 4 * (B : Int) * (mk_W M N n : Int) ≤ 4 * (B : Int) * 40 := Int.mul_le_mul_of_nonneg_left (by omega) (by omega)
    have e3 : (w : Int) * (-(4 * (B : Int))) = -((w : Int) * (4 * (B : Int))) := Int.mul_neg _ _
    have e4 : 4 * (B : Int) * ((mk_W M N n + w : Nat) : Int) = 4 * (B : Int) * (mk_W M N n : Int) + (w : Int) * (4 * (B : Int)) := by rw [Int.natCast_add, Int.mul_add, Int.mul_comm (w : Int)]
    rw [e4]
    rw [e3] at hp2
    have s3 : ((nI w).toInt64 * v).toInt = (w : Int) * v.toInt := (mk_jm (by rw [ew]; omega) (by rw [ew]; omega)).trans (by rw [ew])
    have s4 := mk_ja (x := mr_sumN F N r b t n) (y := (nI w).toInt64 * v) (by rw [s3]; omega) (by rw [s3]; omega)
    rw [s4, s3]
    omega
/-- the powers are not under 0 -/
theorem mk_powB {M : mm_M} {F : mm_F} {r N S T B : Nat} (h : mk_R M N S T) (hT : T ≤ 60000) (hF : mr_eq F M.1) (hbd : mk_bd F r N T B) (hB : B ≤ 3125000) {b : Int32} (hb : -4 ≤ b.toInt ∧ b.toInt ≤ 4) : ∀ n, n ≤ 32 → 0 ≤ (mr_powN F N r b n).toInt ∧ (mr_powN F N r b n).toInt ≤ 250000000000000000 * (n : Int)
  | 0, _ => ⟨Int.le_refl _, Int.le_refl _⟩
  | n + 1, hn => by
    have ih := mk_powB h hT hF hbd hB hb n (by omega)
    have hN8 := h.N8
    have hWB := mk_WB h N (Nat.le_refl N)
    have hs := mk_sumB h hT hF hbd (by omega) hb (show n < 32 by omega) (mk_tick (hF.1.trans h.rT) hT (show n < 32 by omega)) N (Nat.le_refl N)
    have hp4 : 4 * (B : Int) * (mk_W M N N : Int) ≤ 4 * (B : Int) * 40 := Int.mul_le_mul_of_nonneg_left (by omega) (by omega)
    rw [mr_powN]
    generalize mr_sumN F N r b (F 50 0 - 1 - (47 - nI n)) N = v at *
    have hv : -500000000 ≤ v.toInt ∧ v.toInt ≤ 500000000 := by omega
    have hq0 : 0 ≤ v.toInt * v.toInt := by
      rcases Int.le_total 0 v.toInt with k | k
      · exact Int.mul_nonneg k k
      · exact Int.mul_nonneg_of_nonpos_of_nonpos k k
    have hq1 : v.toInt * v.toInt ≤ 250000000000000000 := by
      rcases Int.le_total 0 v.toInt with k | k
      · have := Int.mul_le_mul hv.2 hv.2 k (by omega)
        omega
      · have := Int.mul_le_mul (show -v.toInt ≤ 500000000 by omega) (show -v.toInt ≤ 500000000 by omega) (show 0 ≤ -v.toInt by omega) (by omega)
        rw [Int.neg_mul_neg] at this
        omega
    have s1 : (v * v).toInt = v.toInt * v.toInt := mk_jm (by omega) (by omega)
    have s2 := mk_ja (x := mr_powN F N r b n) (y := v * v) (by rw [s1]; omega) (by rw [s1]; omega)
    rw [s2, s1]
    omega
theorem mk_LB {M : mm_M} {F : mm_F} {r N S T B : Nat} (h : mk_R M N S T) (hT : T ≤ 60000) (hF : mr_eq F M.1) (hbd : mk_bd F r N T B) (hB : B ≤ 3125000) {k : Nat} (hk : k < 9) : 0 ≤ (mk_L F N r k).toInt := (mk_powB h hT hF hbd hB (b := nI k - 4) (by rw [mk_b9 hk]; omega) 32 (Nat.le_refl 32)).1
/-- the strongest -/
theorem mk_fs {M : mm_M} {G : Int64} {g : Nat} (hg : M.2 5 g = G) : ∀ r k, k ≤ g → g < k + r → (∀ j, k ≤ j → j < g → ¬ M.2 5 j = G) → mc_fs M G r k = nI g - 4
  | 0, k, h1, h2, _ => by omega
  | r + 1, k, h1, h2, h3 => by
    rw [mc_fs]
    by_cases z : k = g
    · subst z; rw [if_pos (lg_eq0.mpr hg)]
    · rw [if_neg (fun q => h3 k (Nat.le_refl k) (by omega) (lg_eq0.mp q)), mk_fs hg r (k + 1) (by omega) (by omega) (fun j a b => h3 j (by omega) b)]
theorem mk_strong {M P : mm_M} {F : mm_F} {r N S T : Nat} (h : mk_R M N S T) (hT : T ≤ 60000) (hP : mk_P M P F r N T) (hp : ∀ k, k < 9 → 0 ≤ (mk_L F N r k).toInt) : mc_strong P = if mk_L F N r (mr_gr (mk_L F N r) 8) = 0 then -99 else nI (mr_gr (mk_L F N r) 8) - 4 := by
  have hf := mk_fp h hT hP
  have hL : ∀ n k, n ≤ 9 → k < n → (mc_fpM P n).2 5 k = mk_L F N r k := fun n k h1 h2 => hf n h1 k h2
  have hg := mr_gr_le (mk_L F N r) 8
  have hfst := mk_gr_fst (mk_L F N r) 8
  have hG : mk_G (mk_L F N r) 9 = mk_L F N r (mr_gr (mk_L F N r) 8) := by
    apply Int64.toInt_inj.mp
    rw [mk_G_gr, if_neg (by have := hp (mr_gr (mk_L F N r) 8) (by omega); omega)]
  unfold mc_strong
  rw [mk_fpG hL 9 (Nat.le_refl 9), hG]
  have hp0 := hp (mr_gr (mk_L F N r) 8) (by omega)
  by_cases z : mk_L F N r (mr_gr (mk_L F N r) 8) = 0
  · rw [if_pos z, z, if_neg (by decide)]
  · have hz : (mk_L F N r (mr_gr (mk_L F N r) 8)).toInt ≠ 0 := fun k => z (Int64.toInt_inj.mp k)
    have hlt : (0 : Int64) < mk_L F N r (mr_gr (mk_L F N r) 8) := Int64.lt_iff_toInt_lt.mpr (by show (0 : Int) < _; omega)
    rw [if_neg z, if_pos (lg_gt0.mpr hlt)]
    refine mk_fs (hL 9 _ (Nat.le_refl 9) (by omega)) 9 0 (Nat.zero_le _) (by omega) (fun j _ hj => ?_)
    rw [hL 9 j (Nat.le_refl 9) (by omega)]
    intro q
    have := hfst j hj
    rw [q] at this
    exact absurd this (Int.lt_irrefl _)
