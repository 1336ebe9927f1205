/-- D: what is laid out -/
theorem mk_turn_o {M : mm_M} {i k c : Nat} (h : k ≠ 42 + i) : (mc_turn M i).2 k c = M.2 k c := by
  unfold mc_turn
  split
  · rfl
  · split
    · rfl
    · exact mm_row_o h
theorem mk_layOut_o {M : mm_M} {i k c : Nat} {w : Int32} (h1 : k ≠ 10 + i) (h2 : k ≠ 34 + i) (h3 : k ≠ 42 + i) : (mc_layOut M i w).2 k c = M.2 k c := by
  unfold mc_layOut
  split
  · exact mm_sL_k h1
  · rw [mk_turn_o h3]
    unfold mc_layN
    rw [mm_row_o h2, mm_sL_k h1]
theorem mk_layOut_w {M : mm_M} {i : Nat} {w : Int32} : (mc_layOut M i w).2 (10 + i) 10 = w.toInt64 := by
  unfold mc_layOut
  split
  · exact mm_sL_s
  · rw [mk_turn_o (by omega)]
    unfold mc_layN
    rw [mm_row_o (by omega), mm_sL_s]
theorem mk_at_c {M M' : mm_M} (h : M.1 = M'.1) (i : Nat) (x : Int32) : mc_at M i x = mc_at M' i x := by unfold mc_at mc_keeps; rw [h]
theorem mk_layOut_r {M : mm_M} {i c : Nat} {w : Int32} (hw : ¬ lg_cmp w.toInt64 0 ≤ 0) (hg : ¬ M.1 (10 + i) 8 ≤ 0) (hc : c < 64) : (mc_layOut M i w).2 (34 + i) c = (mc_at M i (nI c)).toInt64 ∧ (mc_layOut M i w).2 (42 + i) c = nm_fdJ ((mc_layOut M i w).2 (34 + i) c * 64) (M.1 (10 + i) 8).toInt64 := by
  have e : mc_layOut M i w = mc_turnN (mc_layN (mm_sL M (10 + i) 10 w.toInt64) i 64) i 64 := by
    unfold mc_layOut
    rw [if_neg hw]
    unfold mc_turn
    have e10 : (mc_layN (mm_sL M (10 + i) 10 w.toInt64) i 64).2 (10 + i) 10 = w.toInt64 := by
      unfold mc_layN
      rw [mm_row_o (by omega), mm_sL_s]
    have e8 : (mc_layN (mm_sL M (10 + i) 10 w.toInt64) i 64).1 (10 + i) 8 = M.1 (10 + i) 8 := rfl
    rw [e10, if_neg hw, e8, if_neg hg]
  have e34 : (mc_layN (mm_sL M (10 + i) 10 w.toInt64) i 64).2 (34 + i) c = (mc_at M i (nI c)).toInt64 := by
    unfold mc_layN
    rw [mm_row_i hc]
    rfl
  rw [e]
  unfold mc_turnN
  rw [mm_row_o (show 34 + i ≠ 42 + i by omega), mm_row_i hc]
  exact ⟨e34, rfl⟩
theorem mk_la {M : mm_M} : ∀ n i, i < n → n ≤ 8 → (mc_laM M n).2 (10 + i) 10 = (mc_w M i).toInt64 ∧ (¬ lg_cmp (mc_w M i).toInt64 0 ≤ 0 → ¬ M.1 (10 + i) 8 ≤ 0 → ∀ c, c < 64 → (mc_laM M n).2 (34 + i) c = (mc_at M i (nI c)).toInt64 ∧ (mc_laM M n).2 (42 + i) c = nm_fdJ ((mc_laM M n).2 (34 + i) c * 64) (M.1 (10 + i) 8).toInt64)
  | 0, i, h, _ => absurd h (Nat.not_lt_zero i)
  | n + 1, i, h, h8 => by
    rw [mc_laM_s]
    by_cases z : i = n
    · subst z
      refine ⟨mk_layOut_w, fun hw hg c hc => ?_⟩
      have := mk_layOut_r (M := mc_laM M i) (c := c) hw (by rw [mc_laM_1]; exact hg) hc
      rw [mc_laM_1] at this
      rw [mk_at_c (mc_laM_1 (M := M) i)] at this
      exact this
    · obtain ⟨h1, h2⟩ := mk_la (M := M) n i (by omega) (by omega)
      rw [mk_layOut_o (by omega) (by omega) (by omega)]
      refine ⟨h1, fun hw hg c hc => ?_⟩
      rw [mk_layOut_o (by omega) (by omega) (by omega), mk_layOut_o (by omega) (by omega) (by omega)]
      exact h2 hw hg c hc
/-- what the class has laid out, against a row of the reference -/
def mk_P (M P : mm_M) (F : mm_F) (r N T : Nat) : Prop := (P.1 = M.1) ∧ (mr_eq F M.1) ∧ (∀ i : Nat, i < 8 → P.2 (10 + i) 10 = (mc_w M i).toInt64) ∧ (∀ e : Nat, e < N → ¬ M.1 55 e = 0 → ∀ c : Nat, c < 64 → ∀ t : Int32, t.toInt = (T : Int) - 64 + (c : Int) → P.2 (34 + e) c = (mr_kept F r e t).toInt64 ∧ P.2 (42 + e) c = nm_fdJ (P.2 (34 + e) c * 64) (M.1 56 e).toInt64)
theorem mk_P.p1 {M P : mm_M} {F : mm_F} {r N T : Nat} (h : mk_P M P F r N T) : P.1 = M.1 := h.1
theorem mk_P.fe {M P : mm_M} {F : mm_F} {r N T : Nat} (h : mk_P M P F r N T) : mr_eq F M.1 := h.2.1
theorem mk_P.w {M P : mm_M} {F : mm_F} {r N T : Nat} (h : mk_P M P F r N T) : ∀ i : Nat, i < 8 → P.2 (10 + i) 10 = (mc_w M i).toInt64 := h.2.2.1
theorem mk_P.tu {M P : mm_M} {F : mm_F} {r N T : Nat} (h : mk_P M P F r N T) : ∀ e : Nat, e < N → ¬ M.1 55 e = 0 → ∀ c : Nat, c < 64 → ∀ t : Int32, t.toInt = (T : Int) - 64 + (c : Int) → P.2 (34 + e) c = (mr_kept F r e t).toInt64 ∧ P.2 (42 + e) c = nm_fdJ (P.2 (34 + e) c * 64) (M.1 56 e).toInt64 := h.2.2.2
theorem mk_wpos {M : mm_M} {N S T : Nat} (h : mk_R M N S T) {e : Nat} (he : e < N) (z : ¬ M.1 55 e = 0) : ¬ lg_cmp (mc_w M e).toInt64 0 ≤ 0 := by
  rw [mk_w_c h he]
  have h1 := (mk_wtB h he).1
  have h2 := (mk_wtB h he).2 z
  have hp : 0 < lg_cmp (nI (mk_wt M e N)).toInt64 0 := lg_gt0.mpr (Int64.lt_iff_toInt_lt.mpr (by rw [mk_w, nI_toInt (by omega)]; show (0 : Int) < _; omega))
  exact fun k => absurd (Int32.lt_iff_toInt_lt.mp hp) (by have := Int32.le_iff_toInt_le.mp k; omega)
theorem mk_gpos {M : mm_M} {N S T : Nat} (h : mk_R M N S T) {e : Nat} (he : e < N) : ¬ M.1 (10 + e) 8 ≤ 0 := by
  intro k
  rw [(h.el e he).2.2.2.2.2.1] at k
  have := Int32.le_iff_toInt_le.mp k
  have hb := (h.elB e he).2.2.2.2.1
  have e0 : (0 : Int32).toInt = 0 := rfl
  omega
theorem mk_P0 {M : mm_M} {N S T : Nat} (h : mk_R M N S T) (hT : T ≤ 60000) : mk_P M (mc_laM M 8) M.1 61 N T := by
  refine ⟨mc_laM_1 8, ⟨rfl, rfl, rfl, rfl, rfl, rfl, rfl⟩, fun i hi => (mk_la 8 i hi (Nat.le_refl 8)).1, fun e he z c hc t ht => ?_⟩
  have hN8 := h.N8
  have h2 := (mk_la (M := M) 8 e (by omega) (Nat.le_refl 8)).2 (mk_wpos h he z) (mk_gpos h he) c hc
  rw [(h.el e he).2.2.2.2.2.1] at h2
  refine ⟨?_, h2.2⟩
  rw [h2.1, mk_at h hT he (x := nI c) (t := t) (by rw [nI_toInt (by omega)]; omega) (by rw [nI_toInt (by omega)]; exact ht)]
theorem mk_told {M P : mm_M} {F : mm_F} {r N S T : Nat} (h : mk_R M N S T) (hT : T ≤ 60000) (hP : mk_P M P F r N T) {e : Nat} (he : e < N) (z : ¬ M.1 55 e = 0) {b t : Int32} (hb : -4 ≤ b.toInt ∧ b.toInt ≤ 4) {c : Nat} (hc : c < 32) (ht : t.toInt = (T : Int) - 48 + (c : Int)) : mc_told P e (mc_ft P e b + nI c) = nm_fdJ (64 * (mr_kept F r e (t + mr_delay F e b + F 57 e)).toInt64) (F 56 e).toInt64 := by
  have hE := h.el e he
  have hB := h.elB e he
  have e16 : (16 : Int32).toInt = 16 := rfl
  have e0 : (0 : Int32).toInt = 0 := rfl
  have hd : mc_delay P e b = mr_delay M.1 e b := by unfold mc_delay; rw [hP.p1, hE.2.2.1]; unfold mr_delay; rw [mk_fd4]
  have hdB := mk_delayB (F := M.1) (e := e) (b := b) hB.2.1 hb
  have hl : P.1 (10 + e) 9 = M.1 57 e := by rw [hP.p1]; exact hE.2.2.2.2.2.2.1
  have hlB := hB.2.2.2.2.2.1
  have hcI : (nI c).toInt = (c : Int) := nI_toInt (by omega)
  have hft : (mc_ft P e b).toInt = 16 + (mr_delay M.1 e b).toInt + (M.1 57 e).toInt := by
    unfold mc_ft
    rw [hd, hl]
    have s1 : (16 + mr_delay M.1 e b).toInt = 16 + (mr_delay M.1 e b).toInt := by rw [mk_ia] <;> rw [e16] <;> omega
    rw [mk_ia, s1] <;> rw [s1] <;> omega
  have hx : (mc_ft P e b + nI c).toInt = 16 + (mr_delay M.1 e b).toInt + (M.1 57 e).toInt + (c : Int) := by
    rw [mk_ia, hft, hcI] <;> rw [hft, hcI] <;> omega
  have s2 : (t + mr_delay M.1 e b).toInt = t.toInt + (mr_delay M.1 e b).toInt := mk_ia (by omega) (by omega)
  have hy : (t + mr_delay M.1 e b + M.1 57 e).toInt = t.toInt + (mr_delay M.1 e b).toInt + (M.1 57 e).toInt := by
    rw [mk_ia, s2] <;> rw [s2] <;> omega
  rw [mr_delay_c hP.fe, hP.fe.2.2.2.2.2.2, hP.fe.2.2.2.2.2.1]
  generalize hxx : mc_ft P e b + nI c = x at *
  generalize t + mr_delay M.1 e b + M.1 57 e = y at *
  have h1 : ¬ x < 0 := fun k => by have := Int32.lt_iff_toInt_lt.mp k; rw [e0] at this; omega
  have h2 : ¬ nI 64 ≤ x := fun k => by have := Int32.le_iff_toInt_le.mp k; rw [nI_toInt (by omega)] at this; omega
  have hq := hP.tu e he z x.toInt.toNat (by omega) y (by omega)
  unfold mc_told
  rw [if_neg h1, if_neg h2, hq.2, hq.1, Int64.mul_comm]
/-- E: the sums -/
theorem mk_tell_o {M : mm_M} {i k c : Nat} {b : Int32} (h : k ≠ 4) : (mc_tell M i b).2 k c = M.2 k c := by
  unfold mc_tell
  split
  · rfl
  · exact mc_tellN_o h
theorem mk_tell_1 {M : mm_M} {i : Nat} {b : Int32} : (mc_tell M i b).1 = M.1 := by
  unfold mc_tell
  split <;> rfl
theorem mk_st_1 {M : mm_M} {b : Int32} : ∀ n, (mc_stN M b n).1 = M.1
  | 0 => rfl
  | n + 1 => by rw [mc_stN, mk_tell_1, mk_st_1 n]
theorem mk_st_o {M : mm_M} {b : Int32} {k c : Nat} (h : k ≠ 4) : ∀ n, (mc_stN M b n).2 k c = M.2 k c
  | 0 => mm_row_o h
  | n + 1 => by rw [mc_stN, mk_tell_o h, mk_st_o h n]
theorem mk_P.same {M P P' : mm_M} {F : mm_F} {r N T : Nat} (hP : mk_P M P F r N T) (h1 : P'.1 = P.1) (h2 : ∀ k c : Nat, 10 ≤ k → k < 50 → P'.2 k c = P.2 k c) (hN : N ≤ 8) : mk_P M P' F r N T := by
  refine ⟨h1.trans hP.p1, hP.fe, fun i hi => by rw [h2 _ _ (by omega) (by omega)]; exact hP.w i hi, fun e he z c hc t ht => ?_⟩
  rw [h2 _ _ (by omega) (by omega), h2 _ _ (by omega) (by omega)]
  exact hP.tu e he z c hc t ht
theorem mk_0J : lg_cmp (0 : Int32).toInt64 0 ≤ 0 := by decide
theorem mk_sum {M P : mm_M} {F : mm_F} {r N S T : Nat} (h : mk_R M N S T) (hT : T ≤ 60000) (hP : mk_P M P F r N T) {b t : Int32} (hb : -4 ≤ b.toInt ∧ b.toInt ≤ 4) {c : Nat} (hc : c < 32) (ht : t.toInt = (T : Int) - 48 + (c : Int)) : ∀ n, n ≤ 8 → (mc_stN P b n).2 4 c = mr_sumN F N r b t (if n ≤ N then n else N)
  | 0, _ => by
    rw [if_pos (Nat.zero_le _), mc_stN]
    unfold mc_fill
    rw [mm_row_i hc]
    rfl
  | n + 1, h8 => by
    have ih := mk_sum h hT hP hb hc ht n (by omega)
    have hN8 := h.N8
    have hP' : mk_P M (mc_stN P b n) F r N T := hP.same (mk_st_1 n) (fun k c h1 h2 => mk_st_o (by omega) n) hN8
    rw [mc_stN]
    unfold mc_tell
    rw [hP'.w n (by omega)]
    by_cases z : n < N
    · rw [if_pos (show n + 1 ≤ N by omega), mr_sumN]
      rw [if_pos (show n ≤ N by omega)] at ih
      have hww : mr_w F (nI n) n N = mc_w M n := by rw [mr_w_c hP.fe, mk_w_r h z, mk_w_c h z]
      rw [hww]
      by_cases y : M.1 55 n = 0
      · have hw0 : mc_w M n = 0 := by rw [mk_w_c h z]; unfold mk_wt; rw [if_pos y]; rfl
        rw [hw0, if_pos mk_0J, ih]
        have : (0 : Int32).toInt64 = 0 := rfl
        rw [this, Int64.zero_mul, Int64.add_zero]
      · rw [if_neg (mk_wpos h z y)]
        unfold mc_tellN
        rw [mm_row_i hc, ih, hP'.w n (by omega), mk_told h hT hP' z y hb hc ht]
    · rw [mk_w_n h (by omega) (by omega), if_pos mk_0J, ih, if_neg (show ¬ n + 1 ≤ N by omega)]
      by_cases y : n ≤ N
      · rw [if_pos y, show n = N from by omega]
      · rw [if_neg y]
theorem mk_steer {M P : mm_M} {F : mm_F} {r N S T : Nat} (h : mk_R M N S T) (hT : T ≤ 60000) (hP : mk_P M P F r N T) {b t : Int32} (hb : -4 ≤ b.toInt ∧ b.toInt ≤ 4) {c : Nat} (hc : c < 32) (ht : t.toInt = (T : Int) - 48 + (c : Int)) : (mc_steer P b).2 4 c = mr_sumN F N r b t N := by
  have hN8 := h.N8
  unfold mc_steer
  rw [mk_sum h hT hP hb hc ht 8 (Nat.le_refl 8)]
  by_cases y : 8 ≤ N
  · rw [if_pos y, show N = 8 from by omega]
  · rw [if_neg y]
theorem mk_tick {F : mm_F} {T n : Nat} (hF : F 50 0 = nI T) (hT : T ≤ 60000) (hn : n < 32) : (F 50 0 - 1 - (47 - nI n)).toInt = (T : Int) - 48 + (n : Int) := by
  have e1 : (1 : Int32).toInt = 1 := rfl
  have e47 : (47 : Int32).toInt = 47 := rfl
  have hTi : (nI T).toInt = (T : Int) := nI_toInt (by omega)
  have hni : (nI n).toInt = (n : Int) := nI_toInt (by omega)
  rw [hF]
  have s1 : (nI T - 1).toInt = (T : Int) - 1 := by rw [mk_is, hTi, e1] <;> rw [hTi, e1] <;> omega
  have s2 : (47 - nI n).toInt = 47 - (n : Int) := by rw [mk_is, hni, e47] <;> rw [hni, e47] <;> omega
  rw [mk_is, s1, s2]
  · omega
  · rw [s1, s2]; omega
  · rw [s1, s2]; omega
/-- F: the powers -/
theorem mk_pow {M P : mm_M} {F : mm_F} {r N S T : Nat} (h : mk_R M N S T) (hT : T ≤ 60000) (hP : mk_P M P F r N T) {b : Int32} (hb : -4 ≤ b.toInt ∧ b.toInt ≤ 4) : ∀ n, n ≤ 32 → mc_pwN (mc_steer P b) n = mr_powN F N r b n
  | 0, _ => rfl
  | n + 1, hn => by
    rw [mc_pwN, mr_powN, mk_pow h hT hP hb n (by omega), mk_steer h hT hP hb (show n < 32 by omega) (mk_tick (hP.fe.1.trans h.rT) hT (show n < 32 by omega))]
