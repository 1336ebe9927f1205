/-- one whole taking -/
theorem mk_taI_up {M X : mm_M} {N n : Nat} {b : Int32} {y : Int64} (hw : ∀ i : Nat, N ≤ i → i < 8 → (mc_taI X n b y N).2 (10 + i) 10 = 0) : ∀ d, N + d ≤ 8 → mc_taI X n b y (N + d) = mc_taI X n b y N
  | 0, _ => rfl
  | d + 1, hd => by
    have z0 : lg_cmp (0 : Int64) 0 ≤ 0 := by decide
    rw [← Nat.add_assoc, mc_taI, mk_taI_up (M := M) hw d (by omega)]
    unfold mc_take
    rw [hw (N + d) (by omega) (by omega), if_pos z0]
theorem mk_tu_1 {X : mm_M} : ∀ n, (mc_tuN X n).1 = X.1
  | 0 => rfl
  | n + 1 => by rw [mc_tuN, mc_turn_1, mk_tu_1 n]
theorem mk_tu_o {X : mm_M} {k c : Nat} : ∀ n, (∀ i, i < n → k ≠ 42 + i) → (mc_tuN X n).2 k c = X.2 k c
  | 0, _ => rfl
  | n + 1, h => by rw [mc_tuN, mk_turn_o (h n (by omega)), mk_tu_o n (fun i hi => h i (by omega))]
theorem mk_tu_r {X : mm_M} {e c : Nat} (hc : c < 64) (hw : ¬ lg_cmp (X.2 (10 + e) 10) 0 ≤ 0) (hg : ¬ X.1 (10 + e) 8 ≤ 0) : ∀ n, e < n → n ≤ 8 → (mc_tuN X n).2 (42 + e) c = nm_fdJ (X.2 (34 + e) c * 64) (X.1 (10 + e) 8).toInt64
  | 0, h, _ => absurd h (Nat.not_lt_zero e)
  | n + 1, h, h8 => by
    rw [mc_tuN]
    by_cases z : e = n
    · subst z
      unfold mc_turn
      rw [mk_tu_o e (fun i hi => by omega), if_neg hw, mk_tu_1, if_neg hg]
      unfold mc_turnN
      rw [mm_row_i hc, mk_tu_o e (fun i hi => by omega), mk_tu_1]
    · rw [mk_turn_o (by omega), mk_tu_r hc hw hg n (by omega) (by omega)]
theorem mk_mean {s s' d d' : Int64} {W : Nat} {B : Nat} (hB : B ≤ 10000000) (hW : 0 < W) (hs : -(4 * (B : Int) * (W : Int)) ≤ s.toInt ∧ s.toInt ≤ 4 * (B : Int) * (W : Int)) (he : s' = s) (hd : d.toInt = (W : Int)) (hd' : d'.toInt = (W : Int)) : (nm_fdJ s' d').toInt = (nm_fdJ s d).toInt32.toInt ∧ -(4 * (B : Int)) ≤ (nm_fdJ s d).toInt32.toInt ∧ (nm_fdJ s d).toInt32.toInt ≤ 4 * (B : Int) := by
  have h1 : s.toInt / (W : Int) ≤ 4 * (B : Int) := Int.ediv_le_of_le_mul (by omega) hs.2
  have h2 : -(4 * (B : Int)) ≤ s.toInt / (W : Int) := Int.le_ediv_of_mul_le (by omega) (by rw [Int.neg_mul]; exact hs.1)
  unfold nm_fdJ
  rw [he, hd, hd', mk_o, nm_ofJ (by omega) (by omega), nm_ofI (by omega) (by omega)]
  exact ⟨rfl, h2, h1⟩
theorem mk_take {M P B1 : mm_M} {N S T B : Nat} (h : mk_R M N S T) (hT : T ≤ 60000) (hP : mk_P M P B1.1 62 N T) {b : Int32} (hb : -4 ≤ b.toInt ∧ b.toInt ≤ 4) (hbd : mk_bd B1.1 62 N T B) (hB : B ≤ 10000000) (hW : 0 < mk_W M N N) : mk_P M (mc_takeAll P b (mc_laA M 8)) (mr_takes B1 N b).1 62 N T ∧ mk_bd (mr_takes B1 N b).1 62 N T (5 * B) := by
  have hN8 := h.N8
  have hA := mk_laA8 h
  have hpos : 0 < lg_cmp (mc_laA M 8) 0 := lg_gt0.mpr (Int64.lt_iff_toInt_lt.mpr (by rw [hA]; show (0 : Int) < _; omega))
  unfold mc_takeAll mr_takes
  rw [if_pos hpos]
  obtain ⟨sm, hsm⟩ : ∃ sm : Nat → Int64, sm = (mc_steer P b).2 4 := ⟨_, rfl⟩
  obtain ⟨me, hme⟩ : ∃ me : Nat → Int32, me = (mr_meN B1 N b 32).1 63 := ⟨_, rfl⟩
  have hF0 : mr_eq (mr_meN B1 N b 32).1 M.1 := mr_eq_tr mr_eq_63 hP.fe
  have h62 : (mr_meN B1 N b 32).1 62 = B1.1 62 := funext fun c => mm_rowI_o (by decide)
  have hkc : ∀ e t, mr_kept (mr_meN B1 N b 32).1 62 e t = mr_kept B1.1 62 e t := fun e t => mr_kept_c mr_eq_63 h62
  have q0 : mk_Q M (mc_steer P b) (mr_meN B1 N b 32).1 N T 0 0 B b sm me := by
    refine ⟨(mk_st_1 8).trans hP.p1, hF0, fun i hi => ?_, fun c _ => by rw [hsm], fun c _ => by rw [hme], fun e he z c hc t ht => ?_, fun e he c hc t ht => ?_⟩
    · unfold mc_steer; rw [mk_st_o (by omega)]; exact hP.w i hi
    · unfold mc_steer; rw [mk_st_o (by omega), hkc]; exact (hP.tu e he z c hc t ht).1
    · rw [hkc]
      have := hbd e he c hc t ht
      exact ⟨by omega, fun _ => this⟩
  have hmean : ∀ n, n < 32 → (nm_fdJ (sm n) (mc_laA M 8)).toInt = (me n).toInt ∧ -(4 * (B : Int)) ≤ (me n).toInt ∧ (me n).toInt ≤ 4 * (B : Int) := by
    intro n hn
    have e1 : (1 : Int32).toInt = 1 := rfl
    have e47 : (47 : Int32).toInt = 47 := rfl
    have hTi : (nI T).toInt = (T : Int) := nI_toInt (by omega)
    have hni : (nI n).toInt = (n : Int) := nI_toInt (by omega)
    have ht : (B1.1 50 0 - 1 - 47 + nI n).toInt = (T : Int) - 48 + (n : Int) := by
      rw [hP.fe.1, h.rT]
      have s1 : (nI T - 1).toInt = (T : Int) - 1 := by rw [mk_is, hTi, e1] <;> rw [hTi, e1] <;> omega
      have s2 : (nI T - 1 - 47).toInt = (T : Int) - 48 := (mk_is (by rw [s1, e47]; omega) (by rw [s1, e47]; omega)).trans (by rw [s1, e47]; omega)
      exact (mk_ia (by rw [s2, hni]; omega) (by rw [s2, hni]; omega)).trans (by rw [s2, hni])
    have e2 : me n = (nm_fdJ (mr_sumN B1.1 N 62 b (B1.1 50 0 - 1 - 47 + nI n) N) (mr_allN B1.1 N N).toInt64).toInt32 := by
      rw [hme]; exact mm_rowI_i hn
    rw [e2]
    exact mk_mean hB hW (mk_sumB h hT hP.fe hbd hB hb hn ht N (Nat.le_refl N)) (by rw [hsm]; exact mk_steer h hT hP hb hn ht) (by rw [mk_w]; exact mk_all h hP.fe N (Nat.le_refl N)) hA
  have hout : ∀ n, n ≤ 32 → mk_Q M (mc_taO (mc_steer P b) b (mc_laA M 8) n) (mr_tkO (mr_meN B1 N b 32) N b n).1 N T n 0 B b sm me := by
    intro n
    induction n with
    | zero => intro _; exact q0
    | succ n ih =>
      intro hn
      have i1 := ih (by omega)
      rw [mc_taO, mr_tkO]
      have hsn : (mc_taO (mc_steer P b) b (mc_laA M 8) n).2 4 n = sm n := i1.s4 n (by omega)
      rw [hsn]
      generalize mc_taO (mc_steer P b) b (mc_laA M 8) n = X at *
      generalize mr_tkO (mr_meN B1 N b 32) N b n = Y at *
      have hm := hmean n (by omega)
      have hin : ∀ k, k ≤ N → mk_Q M (mc_taI X n b (nm_fdJ (sm n) (mc_laA M 8)) k) (mr_tkI Y b n k).1 N T n k B b sm me := by
        intro k
        induction k with
        | zero => intro _; exact i1
        | succ k ih2 =>
          intro hk
          rw [mc_taI, mr_tkI]
          exact mk_Q_s h hT hb (by omega) (by omega) (by omega) (ih2 (by omega)) hm.1 hm.2
      have hN := hin N (Nat.le_refl N)
      have hup := mk_taI_up (M := M) (X := X) (N := N) (n := n) (b := b) (y := nm_fdJ (sm n) (mc_laA M 8)) (fun i h1 h2 => by rw [hN.w i h2, mk_w_n h h1 h2]; rfl) (8 - N) (by omega)
      rw [show N + (8 - N) = 8 from by omega] at hup
      rw [hup]
      exact mk_Q_n hN
  have hF := hout 32 (Nat.le_refl 32)
  generalize mc_taO (mc_steer P b) b (mc_laA M 8) 32 = X at *
  generalize mr_tkO (mr_meN B1 N b 32) N b 32 = Y at *
  refine ⟨⟨(mk_tu_1 8).trans hF.p1, hF.fe, fun i hi => ?_, fun e he z c hc t ht => ?_⟩, fun e he c hc t ht => ?_⟩
  · rw [mk_tu_o 8 (fun j hj => by omega)]; exact hF.w i hi
  · have h34 : (mc_tuN X 8).2 (34 + e) c = X.2 (34 + e) c := mk_tu_o 8 (fun j hj => by omega)
    have hw : ¬ lg_cmp (X.2 (10 + e) 10) 0 ≤ 0 := by rw [hF.w e (by omega)]; exact mk_wpos h he z
    have hg : ¬ X.1 (10 + e) 8 ≤ 0 := by rw [hF.p1]; exact mk_gpos h he
    refine ⟨by rw [h34]; exact hF.la e he z c hc t ht, ?_⟩
    rw [h34, mk_tu_r hc hw hg 8 (by omega) (Nat.le_refl 8), hF.p1, (h.el e he).2.2.2.2.2.1]
  · have := (hF.bd e he c hc t ht).1
    omega
/-- finding, whole -/
def mk_K : Nat → Nat
  | 0 => 3125000
  | n + 1 => mk_K n / 5
theorem mk_KB : ∀ n, mk_K n ≤ 3125000
  | 0 => Nat.le_refl _
  | n + 1 => by have := mk_KB n; rw [mk_K]; omega
theorem mk_take_1 {X : mm_M} {b : Int32} {y : Int64} {k : Nat} {n : Int32} : (mc_take X k n b y).1 = X.1 := by
  unfold mc_take
  split
  · rfl
  · split
    · rfl
    · split
      · rfl
      · split <;> rfl
theorem mk_alive {M : mm_M} {N : Nat} (hx : ¬ ∀ k, k < N → M.1 55 k = 0) : ∃ k, k < N ∧ ¬ M.1 55 k = 0 := Classical.byContradiction fun q => hx fun k hk => Classical.byContradiction fun w => q ⟨k, hk, w⟩
theorem mk_Wpos {M : mm_M} {N S T : Nat} (h : mk_R M N S T) : ∀ n, n ≤ N → (∃ k, k < n ∧ ¬ M.1 55 k = 0) → 0 < mk_W M N n
  | 0, _, ⟨k, hk, _⟩ => absurd hk (Nat.not_lt_zero k)
  | n + 1, hn, ⟨k, hk, z⟩ => by
    rw [mk_W]
    by_cases y : k = n
    · subst y
      have := (mk_wtB h (e := k) (by omega)).2 z
      omega
    · have := mk_Wpos h n (by omega) ⟨k, by omega, z⟩
      omega
theorem mk_found {M : mm_M} {N S T : Nat} (h : mk_R M N S T) (hT : T ≤ 60000) : ∀ (r : Nat) (P B1 : mm_M) (B : Nat), B ≤ mk_K r → mk_P M P B1.1 62 N T → mk_bd B1.1 62 N T B → (mc_fd (mc_laA M 8) r (mc_fpM P 9) (mc_strong P)).1 = (mr_fd N r B1).1 ∧ (mc_fd (mc_laA M 8) r (mc_fpM P 9) (mc_strong P)).2.1 = M.1 ∧ ∀ k j : Nat, k ≠ 62 → k ≠ 63 → (mr_fd N r B1).2.1 k j = B1.1 k j := by
  intro r
  have hN8 := h.N8
  induction r with
  | zero =>
    intro P B1 B hBK hP hbd
    have hp : ∀ k, k < 9 → 0 ≤ (mk_L B1.1 N 62 k).toInt := fun k hk => mk_LB h hT hP.fe hbd (Nat.le_trans hBK (mk_KB 0)) hk
    have hL : ∀ k, k < 9 → (mr_fp B1 N 62).2 64 k = mk_L B1.1 N 62 k := fun k hk => mm_row_i hk
    have hg : mr_fdg B1 N = mr_gr (mk_L B1.1 N 62) 8 := mk_gr_c 8 (fun k hk => hL k (by omega))
    have hgl := mr_gr_le (mk_L B1.1 N 62) 8
    have hS := mk_strong h hT hP hp
    rw [mc_fd, mr_fd, hg, hL _ (by omega), hS]
    by_cases z : mk_L B1.1 N 62 (mr_gr (mk_L B1.1 N 62) 8) = 0
    · rw [if_pos z, if_pos (lg_eq0.mpr z)]
      exact ⟨rfl, (mk_fp_1 9).trans hP.p1, fun _ _ _ _ => rfl⟩
    · rw [if_neg z, if_neg (fun q => z (lg_eq0.mp q))]
      exact ⟨rfl, (mk_fp_1 9).trans hP.p1, fun _ _ _ _ => rfl⟩
  | succ r ih =>
    intro P B1 B hBK hP hbd
    have hp : ∀ k, k < 9 → 0 ≤ (mk_L B1.1 N 62 k).toInt := fun k hk => mk_LB h hT hP.fe hbd (Nat.le_trans hBK (mk_KB (r + 1))) hk
    have hL : ∀ k, k < 9 → (mr_fp B1 N 62).2 64 k = mk_L B1.1 N 62 k := fun k hk => mm_row_i hk
    have hg : mr_fdg B1 N = mr_gr (mk_L B1.1 N 62) 8 := mk_gr_c 8 (fun k hk => hL k (by omega))
    have hgl := mr_gr_le (mk_L B1.1 N 62) 8
    have hS := mk_strong h hT hP hp
    rw [mc_fd, mr_fd, hg, hL _ (by omega), hS]
    by_cases z : mk_L B1.1 N 62 (mr_gr (mk_L B1.1 N 62) 8) = 0
    · rw [if_pos z, if_pos (lg_eq0.mpr z), if_pos rfl]
      exact ⟨rfl, (mk_fp_1 9).trans hP.p1, fun _ _ _ _ => rfl⟩
    · have hbv := mk_b9 (k := mr_gr (mk_L B1.1 N 62) 8) (by omega)
      have hne : ¬ nI (mr_gr (mk_L B1.1 N 62) 8) - 4 = -99 := fun q => by rw [q] at hbv; have : (-99 : Int32).toInt = -99 := rfl; omega
      rw [if_neg z, if_neg (fun q => z (lg_eq0.mp q)), if_neg hne]
      have hW : 0 < mk_W M N N := by
        refine mk_Wpos h N (Nat.le_refl N) (mk_alive fun q => z ?_)
        exact mr_pow_dead (fun k hk => by rw [hP.fe.2.2.2.2.1]; exact q k hk) 32
      have hP2 : mk_P M (mc_fpM P 9) (mr_fp B1 N 62).1 62 N T := hP.same (mk_fp_1 9) (fun k c h1 h2 => mk_fp_o (by omega) (by omega) 9) hN8
      have ht := mk_take (B := B) h hT hP2 (b := nI (mr_gr (mk_L B1.1 N 62) 8) - 4) (by omega) hbd (by have := mk_KB (r + 1); omega) hW
      have hr := ih (mc_takeAll (mc_fpM P 9) (nI (mr_gr (mk_L B1.1 N 62) 8) - 4) (mc_laA M 8)) (mr_takes (mr_fp B1 N 62) N (nI (mr_gr (mk_L B1.1 N 62) 8) - 4)) (5 * B) (by rw [mk_K] at hBK; omega) ht.1 ht.2
      exact ⟨hr.1, hr.2.1, fun k j h1 h2 => (hr.2.2 k j h1 h2).trans (mr_takes_o h1 h2)⟩
