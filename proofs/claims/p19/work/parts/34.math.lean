/-- I: the power told anew -/
def mk_S (f : Nat → Int64) : Nat → Int64
  | 0 => 0
  | n + 1 => mk_S f n + f n
theorem mk_S_c {f g : Nat → Int64} : ∀ n, (∀ k, k < n → f k = g k) → mk_S f n = mk_S g n
  | 0, _ => rfl
  | n + 1, h => by rw [mk_S, mk_S, mk_S_c n (fun k hk => h k (by omega)), h n (Nat.lt_succ_self n)]
theorem mk_S_0 : ∀ n, mk_S (fun _ => 0) n = 0
  | 0 => rfl
  | n + 1 => by rw [mk_S, mk_S_0 n, Int64.add_zero]
theorem mk_S_add {f g : Nat → Int64} : ∀ n, mk_S (fun k => f k + g k) n = mk_S f n + mk_S g n
  | 0 => rfl
  | n + 1 => by rw [mk_S, mk_S, mk_S, mk_S_add n]; grind
theorem mk_S_mul {x : Int64} {f : Nat → Int64} : ∀ n, mk_S (fun k => x * f k) n = x * mk_S f n
  | 0 => by rw [mk_S, mk_S, Int64.mul_zero]
  | n + 1 => by rw [mk_S, mk_S, mk_S_mul n]; grind
theorem mk_S_swap {f : Nat → Nat → Int64} {m : Nat} : ∀ n, mk_S (fun i => mk_S (fun c => f i c) m) n = mk_S (fun c => mk_S (fun i => f i c) n) m
  | 0 => by rw [mk_S]; exact (mk_S_0 m).symm
  | n + 1 => by
    rw [mk_S, mk_S_swap n, ← mk_S_add]
    exact mk_S_c m (fun k _ => rfl)
/-- what an element tells at a place, with its weight -/
def mk_e (P : mm_M) (b : Int32) (i c : Nat) : Int64 := if lg_cmp (P.2 (10 + i) 10) 0 ≤ 0 then 0 else P.2 (10 + i) 10 * mc_told P i (mc_ft P i b + nI c)
theorem mk_told_c {P P' : mm_M} {i : Nat} {x : Int32} (h2 : ∀ k c : Nat, 10 ≤ k → k < 50 → P'.2 k c = P.2 k c) (hi : i < 8) : mc_told P' i x = mc_told P i x := by
  unfold mc_told
  split
  · rfl
  · split
    · rfl
    · exact h2 _ _ (by omega) (by omega)
theorem mk_ft_c {P P' : mm_M} {i : Nat} {b : Int32} (h : P'.1 = P.1) : mc_ft P' i b = mc_ft P i b := by unfold mc_ft mc_delay; rw [h]
theorem mk_st_e {P : mm_M} {b : Int32} {c : Nat} (hc : c < 32) : ∀ n, n ≤ 8 → (mc_stN P b n).2 4 c = mk_S (fun i => mk_e P b i c) n
  | 0, _ => by rw [mc_stN]; unfold mc_fill; rw [mm_row_i hc]; rfl
  | n + 1, hn => by
    have ih := mk_st_e (P := P) (b := b) hc n (by omega)
    have hw : (mc_stN P b n).2 (10 + n) 10 = P.2 (10 + n) 10 := mk_st_o (by omega) n
    rw [mc_stN, mk_S, ← ih]
    unfold mc_tell
    show _ = (mc_stN P b n).2 4 c + mk_e P b n c
    unfold mk_e
    rw [hw]
    by_cases z : lg_cmp (P.2 (10 + n) 10) 0 ≤ 0
    · rw [if_pos z, if_pos z, Int64.add_zero]
    · rw [if_neg z, if_neg z]
      unfold mc_tellN
      rw [mm_row_i hc, hw, mk_ft_c (mk_st_1 n), mk_told_c (P := P) (fun k c h1 h2 => mk_st_o (by omega) n) (by omega)]
theorem mk_tw {P : mm_M} {b : Int32} {i k : Nat} : mc_tw P i k b * P.2 (10 + i) 10 * P.2 (10 + k) 10 = mk_S (fun c => mk_e P b i c * mk_e P b k c) 32 := by
  unfold mc_tw
  by_cases z : lg_cmp (P.2 (10 + i) 10) 0 ≤ 0
  · rw [if_pos z, Int64.zero_mul, Int64.zero_mul, ← mk_S_0 32]
    exact mk_S_c 32 (fun c _ => by show 0 = mk_e P b i c * _; unfold mk_e; rw [if_pos z, Int64.zero_mul])
  · rw [if_neg z]
    by_cases y : lg_cmp (P.2 (10 + k) 10) 0 ≤ 0
    · rw [if_pos y, Int64.zero_mul, Int64.zero_mul, ← mk_S_0 32]
      exact mk_S_c 32 (fun c _ => by show 0 = mk_e P b i c * mk_e P b k c; unfold mk_e; rw [if_pos y, Int64.mul_zero])
    · rw [if_neg y]
      generalize (32 : Nat) = n
      induction n with
      | zero => rw [mc_twN, mk_S, Int64.zero_mul, Int64.zero_mul]
      | succ n ih =>
        rw [mc_twN, mk_S, ← ih]
        show _ = _ + mk_e P b i n * mk_e P b k n
        unfold mk_e
        rw [if_neg z, if_neg y]
        grind
theorem mk_ppI {P : mm_M} {b : Int32} {i : Nat} {acc : Int64} : ∀ k, mc_ppI P b i acc k = acc + mk_S (fun k => mk_S (fun c => mk_e P b i c * mk_e P b k c) 32) k
  | 0 => by rw [mc_ppI, mk_S, Int64.add_zero]
  | k + 1 => by rw [mc_ppI, mk_S, mk_ppI k, mk_tw, Int64.add_assoc]
theorem mk_ppO {P : mm_M} {b : Int32} : ∀ n, mc_ppO P b n = mk_S (fun i => mk_S (fun k => mk_S (fun c => mk_e P b i c * mk_e P b k c) 32) 8) n
  | 0 => rfl
  | n + 1 => by rw [mc_ppO, mk_S, mk_ppI, mk_ppO n]
theorem mk_pp {P : mm_M} {b : Int32} : mc_ppO P b 8 = mc_pwN (mc_steer P b) 32 := by
  have hA : ∀ n, n ≤ 32 → mc_pwN (mc_steer P b) n = mk_S (fun c => mk_S (fun i => mk_e P b i c) 8 * mk_S (fun i => mk_e P b i c) 8) n := by
    intro n
    induction n with
    | zero => intro _; rfl
    | succ n ih =>
      intro hn
      rw [mc_pwN, mk_S, ih (by omega)]
      unfold mc_steer
      rw [mk_st_e (by omega) 8 (Nat.le_refl 8)]
  rw [mk_ppO, hA 32 (Nat.le_refl 32)]
  have e1 : mk_S (fun i => mk_S (fun k => mk_S (fun c => mk_e P b i c * mk_e P b k c) 32) 8) 8 = mk_S (fun i => mk_S (fun c => mk_e P b i c * mk_S (fun k => mk_e P b k c) 8) 32) 8 :=
    mk_S_c 8 (fun i _ => by
      show mk_S (fun k => mk_S (fun c => mk_e P b i c * mk_e P b k c) 32) 8 = mk_S (fun c => mk_e P b i c * mk_S (fun k => mk_e P b k c) 8) 32
      rw [mk_S_swap (f := fun k c => mk_e P b i c * mk_e P b k c)]
      exact mk_S_c 32 (fun c _ => mk_S_mul 8))
  rw [e1, mk_S_swap (f := fun i c => mk_e P b i c * mk_S (fun k => mk_e P b k c) 8)]
  refine mk_S_c 32 (fun c _ => ?_)
  show mk_S (fun i => mk_e P b i c * mk_S (fun k => mk_e P b k c) 8) 8 = _
  rw [← mk_S_mul]
  exact mk_S_c 8 (fun i _ => Int64.mul_comm _ _)
theorem mk_power {M : mm_M} {N S T : Nat} (h : mk_R M N S T) (hT : T ≤ 60000) {b : Int32} (hb : -4 ≤ b.toInt ∧ b.toInt ≤ 4) : mc_pwN (mc_steer (mc_laM M 8) b) 32 = mr_powN M.1 N 61 b 32 ∧ mc_ppO (mc_laM M 8) b 8 = mr_powN M.1 N 61 b 32 :=
  ⟨mk_pow h hT (mk_P0 h hT) hb 32 (Nat.le_refl 32), mk_pp.trans (mk_pow h hT (mk_P0 h hT) hb 32 (Nat.le_refl 32))⟩
