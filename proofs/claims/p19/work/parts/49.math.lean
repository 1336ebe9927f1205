/-- hearing: the samples' bounds, and which samples go on -/
theorem mz_wvB {F : mm_F} {i S : Nat} (hB : ∀ j : Nat, j < S → 1 ≤ (F 59 j).toInt ∧ (F 59 j).toInt ≤ 100) (hS : S ≤ 4) : ∀ n, n ≤ S → -(100 * (n : Int)) ≤ (mr_wvN F i n).toInt ∧ (mr_wvN F i n).toInt ≤ 100 * (n : Int)
  | 0, _ => ⟨by show -(100 * ((0 : Nat) : Int)) ≤ (0 : Int32).toInt; decide, by show (0 : Int32).toInt ≤ 100 * ((0 : Nat) : Int); decide⟩
  | n + 1, hn => by
    have ih := mz_wvB (i := i) hB hS n (by omega)
    have hw := mk_waveB (hB n (by omega)) (F 50 0 - mr_delay F i (F 58 n) - F 53 i)
    rw [mr_wvN]
    refine ⟨?_, ?_⟩ <;> rw [mk_ia] <;> omega
theorem mz_sampB {F : mm_F} {S e : Nat} (hB : ∀ j : Nat, j < S → 1 ≤ (F 59 j).toInt ∧ (F 59 j).toInt ≤ 100) (hS : S ≤ 4) (hgB : 32 ≤ (F 52 e).toInt ∧ (F 52 e).toInt ≤ 96) (hdB : 0 ≤ (mr_dr F).toInt ∧ (mr_dr F).toInt ≤ 65536) (haB : 0 ≤ (F 50 13).toInt ∧ (F 50 13).toInt ≤ 50) : -651 ≤ (mr_samp F e S).toInt ∧ (mr_samp F e S).toInt ≤ 650 := by
  have e2 : (2 : Int32).toInt = 2 := rfl
  have e1 : (1 : Int32).toInt = 1 := rfl
  have hwv := mz_wvB (i := e) hB hS S (Nat.le_refl S)
  have hb : -38400 ≤ (mr_wvN F e S).toInt * (F 52 e).toInt ∧ (mr_wvN F e S).toInt * (F 52 e).toInt ≤ 38400 := by
    have a1 : -400 ≤ (mr_wvN F e S).toInt ∧ (mr_wvN F e S).toInt ≤ 400 := by omega
    have h1 := Int.mul_le_mul_of_nonneg_right a1.2 (show 0 ≤ (F 52 e).toInt by omega)
    have h2 := Int.mul_le_mul_of_nonneg_right a1.1 (show 0 ≤ (F 52 e).toInt by omega)
    omega
  have p1 : (mr_wvN F e S * F 52 e).toInt = (mr_wvN F e S).toInt * (F 52 e).toInt := mk_im (by omega) (by omega)
  have p2 : ((mr_wvN F e S).toInt64 * (F 52 e).toInt64).toInt = (mr_wvN F e S).toInt * (F 52 e).toInt := by rw [mk_jm, mk_w, mk_w] <;> rw [mk_w, mk_w] <;> omega
  have s1 : (2 * F 50 13).toInt = 2 * (F 50 13).toInt := by rw [mk_im, e2] <;> rw [e2] <;> omega
  have s2 : (2 * F 50 13 + 1).toInt = 2 * (F 50 13).toInt + 1 := by rw [mk_ia, s1, e1] <;> rw [s1, e1] <;> omega
  have hfm := mk_fmB (x := mr_dr F) (y := 2 * F 50 13 + 1) hdB.1 (by rw [s2]; omega)
  rw [s2] at hfm
  have s3 : (mr_dr F - mr_dr F / (2 * F 50 13 + 1) * (2 * F 50 13 + 1) - F 50 13).toInt = (mr_dr F - mr_dr F / (2 * F 50 13 + 1) * (2 * F 50 13 + 1)).toInt - (F 50 13).toInt := mk_is (by omega) (by omega)
  have hq : nm_fdI (mr_wvN F e S * F 52 e) 64 = (nm_fdJ ((mr_wvN F e S).toInt64 * (F 52 e).toInt64) 64).toInt32 := mk_fd64 _ _ (p2.trans p1.symm)
  have hqB : -600 ≤ (nm_fdI (mr_wvN F e S * F 52 e) 64).toInt ∧ (nm_fdI (mr_wvN F e S * F 52 e) 64).toInt ≤ 600 := by
    have e64 : (64 : Int32).toInt = 64 := rfl
    unfold nm_fdI
    rw [p1, e64, nm_ofI (by omega) (by omega)]
    omega
  unfold mr_samp
  rw [hq] at hqB
  refine ⟨?_, ?_⟩ <;> rw [mk_ia, s3] <;> (try rw [s3]) <;> omega
theorem mz_heE61 {B : mm_M} {S : Nat} : ∀ n, n ≤ 8 → ∀ e : Nat, e < 8 → ∀ c : Nat, c < 64 → (mr_heE B S n).1 61 (64 * e + c) = if e < n ∧ c = (B.1 50 0).toInt.toNat % 64 then (if B.1 55 e = 0 then 0 else mr_samp (mr_heE B S e).1 e S) else B.1 61 (64 * e + c)
  | 0, _, e, _, c, _ => by rw [if_neg (by omega)]; rfl
  | n + 1, hn, e, he, c, hc => by
    have ih := mz_heE61 (B := B) (S := S) n (by omega) e he c hc
    have e50 : (mr_heE B S n).1 50 0 = B.1 50 0 := mr_heE_o (by decide) (by decide) n
    have e55 : (mr_heE B S n).1 55 n = B.1 55 n := mr_heE_o (by decide) (Or.inl (by decide)) n
    have ht : (B.1 50 0).toInt.toNat % 64 < 64 := Nat.mod_lt _ (by decide)
    rw [mr_heE, mr_hears, mm_sI_1, e50, e55]
    by_cases z : e = n ∧ c = (B.1 50 0).toInt.toNat % 64
    · obtain ⟨rfl, hz⟩ := z
      rw [if_pos (show 61 = 61 ∧ 64 * e + c = 64 * e + (B.1 50 0).toInt.toNat % 64 from ⟨rfl, by omega⟩), if_pos (show e < e + 1 ∧ c = (B.1 50 0).toInt.toNat % 64 from ⟨by omega, hz⟩)]
    · rw [if_neg (fun k => z (by omega)), mm_sI_k (by decide), ih]
      by_cases y : e < n ∧ c = (B.1 50 0).toInt.toNat % 64
      · rw [if_pos y, if_pos (show e < n + 1 ∧ c = (B.1 50 0).toInt.toNat % 64 from ⟨by omega, y.2⟩)]
      · rw [if_neg y, if_neg (fun k => by
          rcases Nat.lt_succ_iff_lt_or_eq.mp k.1 with q | q
          · exact y ⟨q, k.2⟩
          · exact z ⟨q, k.2⟩)]
theorem mz_tick61 {B : mm_M} {N S : Nat} (j : Nat) : (mr_tick B N S).1 61 j = (mr_heE B S N).1 61 j := mm_sI_k (by decide)
theorem mz_tickB {A B : mm_M} {N S T : Nat} (h : mk_R2 A.1 B.1 N S T) (hT : T ≤ 60000) (hB : mz_B B.1) : mz_B (mr_tick B N S).1 := by
  intro e he c hc
  rw [mz_tick61, mz_heE61 N h.N8 e he c hc]
  split
  · rename_i z
    split
    · decide
    · have h14 := (mk_he h hT e (by omega)).1.2
      have eo : ∀ k j : Nat, k ≠ 61 → (k ≠ 50 ∨ j ≠ 14) → (mr_heE B S e).1 k j = B.1 k j := fun k j a b => mr_heE_o a b e
      refine mz_sampB (fun j hj => ?_) h.S4 ?_ (mk_dr h14) ?_
      · rw [eo 59 j (by decide) (by omega)]; exact (h.soB j hj).2.1
      · rw [eo 52 e (by decide) (by omega)]; exact (h.elB e z.1).2.2.1
      · rw [eo 50 13 (by decide) (by decide)]; exact h.haB
  · exact hB e he c hc
theorem mz_hrB {A B : mm_M} {N S T : Nat} (h : mk_R2 A.1 B.1 N S T) (hB : mz_B B.1) : ∀ n, T + n ≤ 60000 → mz_B (mr_hrN B N S n).1
  | 0, _ => hB
  | n + 1, hn => by rw [mr_hrN]; exact mz_tickB (T := T + n) (mk_hrN2 h n (by omega)) (by omega) (mz_hrB h hB n (by omega))
theorem mz_hrS {B : mm_M} {N S T : Nat} (hN : N ≤ 8) (hB0 : B.1 50 0 = nI T) : ∀ n, T + n ≤ 60000 → ∀ e : Nat, e < N → ∀ t : Nat, T + n ≤ t + 64 → t < T + n → (t < T → (mr_hrN B N S n).1 61 (64 * e + t % 64) = B.1 61 (64 * e + t % 64)) ∧ (T ≤ t → B.1 55 e = 0 → (mr_hrN B N S n).1 61 (64 * e + t % 64) = 0)
  | 0, _, e, he, t, _, h2 => ⟨fun _ => rfl, fun h => absurd h (by omega)⟩
  | n + 1, hn, e, he, t, h1, h2 => by
    have e50 : (mr_hrN B N S n).1 50 0 = nI (T + n) := by rw [mr_hrN_n n, hB0, mz_add]
    have e55 : (mr_hrN B N S n).1 55 e = B.1 55 e := mr_hrN_o (by decide) (Or.inl (by decide)) n
    have en : (nI (T + n)).toInt.toNat = T + n := by rw [nI_toInt (by omega)]; rfl
    rw [mr_hrN, mz_tick61, mz_heE61 N hN e (by omega) (t % 64) (Nat.mod_lt _ (by decide)), e50, en, e55]
    by_cases z : t = T + n
    · subst z
      rw [if_pos ⟨he, rfl⟩]
      exact ⟨fun h => absurd h (by omega), fun _ hd => if_pos hd⟩
    · rw [if_neg (by omega)]
      exact mz_hrS hN hB0 n (by omega) e he t (by omega) (by omega)
theorem mz_gh_he {M : mm_M} {N S n : Nat} {x : Int32} : ∀ k j : Nat, k < 50 ∨ 65 ≤ k → M.1 k j = (mr_hrN (mm_sI M 50 20 x) N S n).1 k j := fun k j hk => by
  rw [mr_hrN_o (by omega) (Or.inl (by omega)) n, mm_sI_k (by omega)]
theorem mz_mm {M Mw : mm_M} {N S T : Nat} (h : mz_I M N S T) (hw : Mw.1 = M.1) {v : Int32} : mk_R (mm_sI Mw 65 0 v) N S T := h.R.low (fun k j hk => by rw [mm_sI_k (by omega), hw])
theorem mz_he {M Mw : mm_M} {N S T n : Nat} (h : mz_I M N S T) (hT : T ≤ 58000) (hn : n ≤ 100) (hw : Mw.1 = M.1) {M2 : mm_M} (h2 : M2 = mr_hrN (mm_sI (mc_hrN (mm_sI Mw 65 0 (nI (T + n))) S (nI n).toInt.toNat) 50 20 0) N S (nI n).toInt.toNat) : mz_I M2 N S (T + n) ∧ (mc_hrN (mm_sI Mw 65 0 (nI (T + n))) S (nI n).toInt.toNat).1 0 8 = nI (T + n) ∧ (∀ k : Nat, k < N → ∀ t : Nat, T + n ≤ t + 64 → t < T + n → (t < T → M2.1 61 (64 * k + t % 64) = M.1 61 (64 * k + t % 64)) ∧ (T ≤ t → M.1 55 k = 0 → M2.1 61 (64 * k + t % 64) = 0)) ∧ ∀ j : Nat, M2.1 55 j = M.1 55 j ∧ M2.1 54 j = M.1 54 j := by
  have en : (nI n).toInt.toNat = n := by rw [nI_toInt (by omega)]; rfl
  rw [en] at h2 ⊢
  have hRm := mz_mm h hw (v := nI (T + n))
  have hj := mj_hear hRm (n := n) (by omega) (M1 := mc_hrN (mm_sI Mw 65 0 (nI (T + n))) S n) rfl
  rw [← h2] at hj
  have hb : ∀ k j : Nat, 50 ≤ k → ¬ (k = 50 ∧ j = 20) → ¬ (k = 65 ∧ j = 0) → (mm_sI (mc_hrN (mm_sI Mw 65 0 (nI (T + n))) S n) 50 20 0).1 k j = M.1 k j := fun k j a b c => by
    rw [mm_sI_1, if_neg b, mk_hr_hi a, mm_sI_1, if_neg c, hw]
  have ho : ∀ k j : Nat, k ≠ 61 → k ≠ 50 → M2.1 k j = (mm_sI (mc_hrN (mm_sI Mw 65 0 (nI (T + n))) S n) 50 20 0).1 k j := fun k j a b => by
    rw [h2]; exact mr_hrN_o a (Or.inl b) n
  have hi : ∀ k j : Nat, 50 < k → k ≠ 61 → ¬ (k = 65 ∧ j = 0) → M2.1 k j = M.1 k j := fun k j a b c => by rw [ho k j b (by omega), hb k j (by omega) (by omega) c]
  have lo : ∀ k j : Nat, k < 10 → ¬ (k = 3 ∧ j = 1) → ¬ (k = 0 ∧ j = 8) → M2.1 k j = M.1 k j := fun k j a b c => by
    rw [ho k j (by omega) (by omega), mm_sI_k (by omega)]
    have q : ∀ n, (mc_hrN (mm_sI Mw 65 0 (nI (T + n))) S n).1 k j = (mm_sI Mw 65 0 (nI (T + n))).1 k j := fun n => by
      generalize mm_sI Mw 65 0 (nI (T + n)) = Z
      induction n with
      | zero => rfl
      | succ n ih => rw [mc_hrN, mc_tick, mm_sI_1, if_neg c, mk_heN_o b 8 (fun i hi => by omega), ih]
    rw [q n, mm_sI_k (by omega), hw]
  have e650 : M2.1 65 0 = nI (T + n) := by rw [ho 65 0 (by decide) (by decide), mm_sI_k (by decide), mk_hr_hi (by decide), mm_sI_s]
  have hR2 : mk_R2 (mm_sI Mw 65 0 (nI (T + n))).1 (mm_sI (mc_hrN (mm_sI Mw 65 0 (nI (T + n))) S n) 50 20 0).1 N S T := mk_R2.tr hRm (fun _ _ _ => rfl) (fun k j hk hk2 h3 => by rw [hb k j hk h3 (by omega), mm_sI_k (by omega), hw])
  have hB0 : mz_B (mm_sI (mc_hrN (mm_sI Mw 65 0 (nI (T + n))) S n) 50 20 0).1 := h.B.tr (fun j => hb 61 j (by decide) (by omega) (by omega))
  refine ⟨⟨hj.1, by rw [h2]; exact mz_hrB hR2 hB0 n (by omega), e650, (hi 65 1 (by decide) (by decide) (by omega)).trans h.m1, (hi 65 2 (by decide) (by decide) (by omega)).trans h.m2, ?_, ?_, fun k hk => ?_⟩, ?_, fun k hk t h1 h3 => ?_, fun j => ⟨hi 55 j (by decide) (by decide) (by omega), hi 54 j (by decide) (by decide) (by omega)⟩⟩
  · rw [hi 65 3 (by decide) (by decide) (by omega), lo 3 0 (by decide) (by decide) (by decide)]; exact h.m3
  · rw [hi 65 4 (by decide) (by decide) (by omega), lo 0 7 (by decide) (by decide) (by decide)]; exact h.m4
  · rw [hi 66 _ (by decide) (by decide) (by omega), hi 66 _ (by decide) (by decide) (by omega), hi 55 k (by decide) (by decide) (by omega), hi 54 k (by decide) (by decide) (by omega)]; exact h.e k hk
  · exact (mk_hearR hRm (by omega) (M1 := mc_hrN (mm_sI Mw 65 0 (nI (T + n))) S n) rfl).2
  · have hs := mz_hrS (B := mm_sI (mc_hrN (mm_sI Mw 65 0 (nI (T + n))) S n) 50 20 0) (N := N) (S := S) (T := T) h.R.N8 (by rw [hb 50 0 (by decide) (by decide) (by decide)]; exact h.R.rT) n (by omega) k hk t h1 h3
    rw [← h2, hb 61 _ (by decide) (by omega) (by omega), hb 55 k (by decide) (by omega) (by omega)] at hs
    exact hs
theorem mz_63 {n : Nat} (hn : n ≤ 63) : (63 : Int32) - nI n = nI (63 - n) := by
  have e : (nI n).toInt = (n : Int) := nI_toInt (by omega)
  apply Int32.toInt_inj.mp
  rw [mz_sub (a := 63) rfl e (by omega), nI_toInt (by omega)]
  omega
theorem mz_in63n {n : Nat} (hn : n ≤ 63) : ¬ nm_in (63 - nI n) 0 63 = 0 := by
  rw [mz_63 hn]; exact mz_inr (l := 0) (h := 63) rfl rfl (by omega) (by omega) (by omega)
theorem mz_shift {M M2 : mm_M} {N S T n k : Nat} (h : mz_I M N S T) (hT : T ≤ 58000) (hn : 1 ≤ n ∧ n ≤ 63) (hk : k < N) (h2 : mk_R M2 N S (T + n)) (hs : ∀ k : Nat, k < N → ∀ t : Nat, T + n ≤ t + 64 → t < T + n → (t < T → M2.1 61 (64 * k + t % 64) = M.1 61 (64 * k + t % 64)) ∧ (T ≤ t → M.1 55 k = 0 → M2.1 61 (64 * k + t % 64) = 0)) (h54 : ∀ j : Nat, M2.1 55 j = M.1 55 j ∧ M2.1 54 j = M.1 54 j) : mr_kept M2.1 61 k (M2.1 50 0 - 1 - 63) = mr_kept M.1 61 k (M.1 50 0 - 1 - (63 - nI n)) := by
  have hb := (h.R.elB k hk).2.2.2.2.2.2
  have a := mz_kept h.R (by omega) hk (b := 63 - n) (by omega)
  have b := mz_kept h2 (by omega) hk (b := 63) (by omega)
  rw [mz_63 hn.2, a]
  refine b.trans ?_
  rw [(h54 k).2]
  by_cases z : (T : Int) - 1 - ((63 - n : Nat) : Int) < (M.1 54 k).toInt
  · rw [if_pos z, if_pos (by omega)]
  · rw [if_neg z, if_neg (by omega)]
    have e1 : (((T + n : Nat) : Int) - 1 - ((63 : Nat) : Int)).toNat = T + n - 64 := by omega
    have e2 : ((T : Int) - 1 - ((63 - n : Nat) : Int)).toNat = T + n - 64 := by omega
    rw [e1, e2]
    exact (hs k hk (T + n - 64) (by omega) (by omega)).1 (by omega)
theorem mz_deadS {M M2 : mm_M} {N S T n k : Nat} (h : mz_I M N S T) (hT : T ≤ 58000) (hn : 1 ≤ n ∧ n ≤ 100) (hk : k < N) (h2 : mk_R M2 N S (T + n)) (hs : ∀ k : Nat, k < N → ∀ t : Nat, T + n ≤ t + 64 → t < T + n → (t < T → M2.1 61 (64 * k + t % 64) = M.1 61 (64 * k + t % 64)) ∧ (T ≤ t → M.1 55 k = 0 → M2.1 61 (64 * k + t % 64) = 0)) (h54 : ∀ j : Nat, M2.1 55 j = M.1 55 j ∧ M2.1 54 j = M.1 54 j) (z : ¬ M2.1 55 k = 1) (Y : Nat) : mr_kept M2.1 61 k (M2.1 50 0 - 1 - nI ((Y % n) % 64)) = 0 := by
  have hy : Y % n < n := Nat.mod_lt _ (by omega)
  have hd : M.1 55 k = 0 := by
    rw [(h54 k).1] at z
    exact (h.R.elB k hk).1.resolve_right z
  have hbB := (h2.elB k hk).2.2.2.2.2.2
  rw [mz_kept h2 (by omega) hk (b := (Y % n) % 64) (by omega)]
  split
  · rfl
  · have e1 : (((T + n : Nat) : Int) - 1 - (((Y % n) % 64 : Nat) : Int)).toNat = T + n - 1 - (Y % n) % 64 := by omega
    rw [e1]
    exact (hs k hk (T + n - 1 - (Y % n) % 64) (by omega) (by omega)).2 (by omega) hd
theorem mz_n100 (Y : Nat) : 1 ≤ 1 + (Y % 100) ∧ 1 + (Y % 100) ≤ 100 := by omega
theorem mz_n25 (Y : Nat) : 1 ≤ 1 + (Y % 25) ∧ 1 + (Y % 25) ≤ 100 := by omega
theorem mz_hekn {n : Nat} (hn : 1 ≤ n ∧ n ≤ 100) : mc_hek (nI n) = 0 := if_neg (mz_inr (l := 1) (h := 100) rfl rfl (by omega) (by omega) (by omega))
theorem mz_nz {N : Nat} (h : 0 < N) (h2 : N < 2147483648) : ¬ nI N = 0 := fun z => by
  have := congrArg Int32.toInt z
  rw [nI_toInt h2, show (0 : Int32).toInt = 0 from rfl] at this; omega
