theorem mk_trimv {X : mm_M} {F : mm_F} {e : Nat} {g t : Int32} (h1 : X.1 (10 + e) 8 = F 56 e) (h2 : X.1 (10 + e) 9 = F 57 e) : mc_trimv X e g t = mr_becV F e g t := by
  unfold mc_trimv mr_becV
  rw [h1, h2]
  by_cases z : F 56 e = g
  · rw [if_neg (show ¬ ¬ g = F 56 e from fun k => k z.symm), if_neg (show ¬ ¬ F 56 e = g from fun k => k z)]
    by_cases y : F 57 e = t
    · rw [if_pos y, if_pos y.symm]
    · rw [if_neg y, if_neg (show ¬ t = F 57 e from fun k => y k.symm)]
  · rw [if_pos (show ¬ g = F 56 e from fun k => z k.symm), if_pos z]
theorem mk_cal {M P B1 : mm_M} {N S T o : Nat} (h : mk_R M N S T) (hT : T ≤ 60000) (hP : mk_P M P B1.1 61 N T) (ho : o < N) (zo : ¬ M.1 55 o = 0) (hlo : ∀ j, j < o → M.1 55 j = 0) {b : Int32} (hb : -4 ≤ b.toInt ∧ b.toInt ≤ 4) {y : Int64} (hy : 0 < lg_cmp y 0) : ∀ n, n ≤ N → mk_C M P (mc_hoM P o y b n) (mr_cbM B1 o y b n) B1 N ∧ mc_hoV P o y b n = mr_cbV B1 o y b n
  | 0, _ => by
    have c0 : mk_C M P P B1 B1 N := by
      refine ⟨rfl, fun k j _ => by rw [hP.p1], fun _ _ _ _ => rfl, fun e he => ?_, fun e he => ?_⟩
      · rw [hP.p1, hP.fe.2.2.2.2.2.1, hP.fe.2.2.2.2.2.2]; exact ⟨(h.el e he).2.2.2.2.2.1, (h.el e he).2.2.2.2.2.2.1⟩
      · rw [hP.fe.2.2.2.2.2.1, hP.fe.2.2.2.2.2.2]; exact ⟨(h.elB e he).2.2.2.2.1, (h.elB e he).2.2.2.2.2.1⟩
    rw [mc_hoM, mr_cbM, mc_hoV, mr_cbV]
    exact ⟨mk_C_s c0 ho (by decide) (by decide), by rw [mk_trimv (c0.eq o ho).1 (c0.eq o ho).2]⟩
  | n + 1, hn => by
    obtain ⟨ih, iv⟩ := mk_cal h hT hP ho zo hlo hb hy n (by omega)
    have h4 : P.1 (10 + n) 4 = M.1 55 n := by rw [hP.p1]; exact (h.el n (by omega)).2.1
    have h5 : B1.1 55 n = M.1 55 n := by rw [hP.fe.2.2.2.2.1]
    rw [mc_hoM, mr_cbM, mc_hoV, mr_cbV, h4, h5]
    by_cases z1 : n = o
    · rw [if_pos z1, if_pos (show n ≤ o by omega), if_pos z1, if_pos (show n ≤ o by omega)]; exact ⟨ih, iv⟩
    · rw [if_neg z1, if_neg z1]
      by_cases z2 : n ≤ o
      · rw [if_pos (hlo n (by omega)), if_pos z2, if_pos (hlo n (by omega)), if_pos z2]; exact ⟨ih, iv⟩
      · rw [if_neg z2, if_neg z2]
        by_cases z3 : M.1 55 n = 0
        · rw [if_pos z3, if_pos z3, if_pos z3, if_pos z3]; exact ⟨ih, iv⟩
        · rw [if_neg z3, if_neg z3, if_neg z3, if_neg z3]
          generalize mc_hoM P o y b n = X at *
          generalize mr_cbM B1 o y b n = Y at *
          have hX5 : ∀ i : Nat, X.1 (10 + i) 5 = M.1 (10 + i) 5 := fun i => ih.xo _ _ (by omega)
          have e1 : mc_bL X n o b 6 = mr_bL Y.1 n o b 6 := (mk_bL h hT hP ih.x2 hX5 (by omega) ho z3 zo hb 6 (Nat.le_refl 6)).trans (mk_bLc ih.yo 6).symm
          have hlB := mk_bLB (F := Y.1) (e := n) (o := o) (b := b) 6 (Nat.le_refl 6)
          have e2 : mc_fitG X n o y b = mr_fitG Y.1 n o b y := by
            unfold mc_fitG mr_fitG
            rw [mk_gn, e1, mk_ag h hT hP ih.x2 hX5 (show n < N by omega) ho z3 zo hb hlB 32 (Nat.le_refl 32), mk_agc ih.yo 32]
          have hgB : 16 ≤ (mr_fitG Y.1 n o b y).toInt ∧ (mr_fitG Y.1 n o b y).toInt ≤ 255 := by unfold mr_fitG; exact mk_gnB
          have e3 : mc_fitM X n o y b = mm_sI (mm_sI X (10 + n) 8 (mr_fitG Y.1 n o b y)) (10 + n) 9 (mr_bL Y.1 n o b 6) := by unfold mc_fitM; rw [if_pos hy, e2, e1]
          have e4 : mc_fitV X n o y b = mr_becV Y.1 n (mr_fitG Y.1 n o b y) (mr_bL Y.1 n o b 6) := by
            unfold mc_fitV
            rw [if_pos hy, e2, e1, mk_trimv (ih.eq n (by omega)).1 (ih.eq n (by omega)).2]
          rw [e3, e4, iv]
          exact ⟨mk_C_s ih (by omega) hgB hlB, rfl⟩
theorem mk_hoUp {P : mm_M} {N o : Nat} {y : Int64} {b : Int32} (ho : o < N) (hup : ∀ i : Nat, N ≤ i → i < 8 → P.1 (10 + i) 4 = 0) : ∀ d, N + d ≤ 8 → mc_hoM P o y b (N + d) = mc_hoM P o y b N ∧ mc_hoV P o y b (N + d) = mc_hoV P o y b N
  | 0, _ => ⟨rfl, rfl⟩
  | d + 1, hd => by
    have ih := mk_hoUp (y := y) (b := b) ho hup d (by omega)
    rw [← Nat.add_assoc, mc_hoM, mc_hoV, if_neg (by omega), if_pos (hup _ (by omega) (by omega)), if_neg (by omega), if_pos (hup _ (by omega) (by omega))]
    exact ih
theorem mk_C_R {M P X Y B1 : mm_M} {N S T : Nat} (h : mk_R2 M.1 B1.1 N S T) (hC : mk_C M P X Y B1 N) : mk_R2 X.1 Y.1 N S T := by
  have hN := h.N8
  have hS := h.S4
  have c0 := hC.xo
  have f0 := hC.yo
  refine ⟨?_, ?_, hN, ?_, ?_, hS, ?_, ?_, ?_, ?_, ?_, ?_, ?_, ?_, fun j hj => ?_, fun j hj => ?_, fun e he => ?_, fun e he => ?_, fun e h1 h2 => ?_, fun e he c hc9 => ?_, fun e he c hc9 => ?_⟩
  · rw [c0 _ _ (by omega)]; exact h.cN
  · rw [f0 _ _ (by omega) (by omega)]; exact h.rN
  · rw [c0 _ _ (by omega)]; exact h.cS
  · rw [f0 _ _ (by omega) (by omega)]; exact h.rS
  · rw [c0 _ _ (by omega)]; exact h.cT
  · rw [f0 _ _ (by omega) (by omega)]; exact h.rT
  · rw [c0 _ _ (by omega), f0 _ _ (by omega) (by omega)]; exact h.sh
  · rw [f0 _ _ (by omega) (by omega)]; exact h.shB
  · rw [c0 _ _ (by omega), f0 _ _ (by omega) (by omega)]; exact h.ha
  · rw [f0 _ _ (by omega) (by omega)]; exact h.haB
  · rw [c0 _ _ (by omega), f0 _ _ (by omega) (by omega)]; exact h.hs
  · rw [f0 _ _ (by omega) (by omega)]; exact h.hsB
  · rw [c0 (6 + j) 0 (by omega), c0 (6 + j) 1 (by omega), c0 (6 + j) 2 (by omega), f0 58 j (by omega) (by omega), f0 59 j (by omega) (by omega), f0 60 j (by omega) (by omega)]; exact h.so j hj
  · rw [f0 58 j (by omega) (by omega), f0 59 j (by omega) (by omega), f0 60 j (by omega) (by omega)]; exact h.soB j hj
  · rw [c0 (10 + e) 3 (by omega), c0 (10 + e) 4 (by omega), c0 (10 + e) 5 (by omega), c0 (10 + e) 6 (by omega), c0 (10 + e) 7 (by omega), c0 (18 + e) 1 (by omega), c0 (18 + e) 2 (by omega), f0 55 e (by omega) (by omega), f0 51 e (by omega) (by omega), f0 52 e (by omega) (by omega), f0 53 e (by omega) (by omega), f0 54 e (by omega) (by omega)]
    have hE := h.el e he
    have hq := hC.eq e he
    exact ⟨hE.1, hE.2.1, hE.2.2.1, hE.2.2.2.1, hE.2.2.2.2.1, hq.1, hq.2, hE.2.2.2.2.2.2.2.1, hE.2.2.2.2.2.2.2.2⟩
  · rw [f0 55 e (by omega) (by omega), f0 51 e (by omega) (by omega), f0 52 e (by omega) (by omega), f0 53 e (by omega) (by omega), f0 54 e (by omega) (by omega)]
    have hB := h.elB e he
    have hq := hC.bd e he
    exact ⟨hB.1, hB.2.1, hB.2.2.1, hB.2.2.2.1, hq.1, hq.2, hB.2.2.2.2.2.2⟩
  · rw [c0 (10 + e) 3 (by omega), c0 (10 + e) 4 (by omega), c0 (10 + e) 8 (by omega), c0 (10 + e) 9 (by omega), c0 (18 + e) 1 (by omega), c0 (18 + e) 2 (by omega)]; exact h.up e h1 h2
  · rw [c0 _ _ (by omega), f0 _ _ (by omega) (by omega)]; exact h.sl e he c hc9
  · rw [f0 _ _ (by omega) (by omega)]; exact h.slB e he c hc9
/-- the lowest living -/
theorem mk_lowI {M : mm_M} {g : Nat} (zg : ¬ M.1 (10 + g) 4 = 0) : ∀ r k, k ≤ g → g < k + r → (∀ j, k ≤ j → j < g → M.1 (10 + j) 4 = 0) → mc_lowI M r k = g
  | 0, k, h1, h2, _ => by omega
  | r + 1, k, h1, h2, h3 => by
    rw [mc_lowI]
    by_cases z : k = g
    · subst z; rw [if_neg zg]
    · rw [if_pos (h3 k (Nat.le_refl k) (by omega)), mk_lowI zg r (k + 1) (by omega) (by omega) (fun j a b => h3 j (by omega) b)]
theorem mk_lowI_n {M : mm_M} : ∀ r k, (∀ j, k ≤ j → j < k + r → M.1 (10 + j) 4 = 0) → mc_lowI M r k = k + r
  | 0, k, _ => rfl
  | r + 1, k, h => by rw [mc_lowI, if_pos (h k (Nat.le_refl k) (by omega)), mk_lowI_n r (k + 1) (fun j a b => h j (by omega) (by omega))]; omega
theorem mk_low_n {F : mm_F} : ∀ r k, k + r ≤ 8 → mr_low F r k = -99 → ∀ j, k ≤ j → j < k + r → F 55 j = 0
  | 0, k, _, _, j, h1, h2 => by omega
  | r + 1, k, hk, h, j, h1, h2 => by
    rw [mr_low] at h
    by_cases z : F 55 k = 0
    · rw [if_pos z] at h
      by_cases y : j = k
      · rw [y]; exact z
      · exact mk_low_n r (k + 1) (by omega) h j (by omega) (by omega)
    · rw [if_neg z] at h
      have := congrArg Int32.toInt h
      rw [nI_toInt (by omega)] at this
      have e9 : (-99 : Int32).toInt = -99 := rfl
      omega
theorem mk_sqB {M : mm_M} {F : mm_F} {N S T o : Nat} (h : mk_R M N S T) (hF : mr_eq F M.1) (h61 : F 61 = M.1 61) (ho : o < N) {b : Int32} : ∀ n, n ≤ 32 → 0 ≤ (mr_agN F o 0 o b n).toInt ∧ (mr_agN F o 0 o b n).toInt ≤ 1000000 * (n : Int)
  | 0, _ => ⟨Int.le_refl _, Int.le_refl _⟩
  | n + 1, hn => by
    have ih := mk_sqB h hF h61 ho (b := b) n (by omega)
    rw [mr_agN, Int32.add_zero]
    have hk := mk_keptB h ho (t := F 50 0 - 1 - (47 - nI n) + mr_delay F o b)
    rw [← mr_kept_c hF h61] at hk
    generalize mr_kept F 61 o (F 50 0 - 1 - (47 - nI n) + mr_delay F o b) = v at *
    have hq0 : 0 ≤ v.toInt * v.toInt := by
      rcases Int.le_total 0 v.toInt with k | k
      · exact Int.mul_nonneg k k
      · exact Int.mul_nonneg_of_nonpos_of_nonpos k k
    have hq1 : v.toInt * v.toInt ≤ 1000000 := by
      rcases Int.le_total 0 v.toInt with k | k
      · have := Int.mul_le_mul hk.2 hk.2 k (by omega)
        omega
      · have := Int.mul_le_mul (show -v.toInt ≤ 1000 by omega) (show -v.toInt ≤ 1000 by omega) (show 0 ≤ -v.toInt by omega) (by omega)
        rw [Int.neg_mul_neg] at this
        omega
    have s1 : (v.toInt64 * v.toInt64).toInt = v.toInt * v.toInt := (mk_jm (by rw [mk_w]; omega) (by rw [mk_w]; omega)).trans (by rw [mk_w])
    have s2 := mk_ja (x := mr_agN F o 0 o b n) (y := v.toInt64 * v.toInt64) (by rw [s1]; omega) (by rw [s1]; omega)
    rw [s2, s1]
    omega
