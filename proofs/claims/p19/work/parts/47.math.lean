/-- the samples' bounds -/
def mz_B (F : mm_F) : Prop := ∀ e : Nat, e < 8 → ∀ c : Nat, c < 64 → -651 ≤ (F 61 (64 * e + c)).toInt ∧ (F 61 (64 * e + c)).toInt ≤ 650
theorem mz_nle {x y : Int32} (h : y.toInt < x.toInt) : ¬ x ≤ y := fun z => by rw [Int32.le_iff_toInt_le] at z; omega
theorem mz_nlt {x y : Int32} (h : y.toInt ≤ x.toInt) : ¬ x < y := fun z => by rw [Int32.lt_iff_toInt_lt] at z; omega
theorem mz_cge {x : Int64} (h : 0 ≤ x.toInt) : ¬ lg_cmp x 0 < 0 := fun z => by
  have e : (0 : Int64).toInt = 0 := rfl
  rw [lg_lt0, Int64.lt_iff_toInt_lt, e] at z; omega
theorem mz_J0 {x : Int64} (h : x.toInt = 0) : x = 0 := Int64.toInt_inj.mp h
theorem mz_sub4 {i : Nat} (hi : i < 1000) : (nI i - 4).toInt = (i : Int) - 4 := mz_sub (nI_toInt (by omega)) rfl (by omega)
theorem mz_b9i {i : Nat} (hi : i < 9) : ¬ nm_in (nI i - 4) (-4) 4 = 0 := by
  have e := mz_sub4 (i := i) (by omega)
  have e1 : (-4 : Int32).toInt = -4 := rfl
  have e2 : (4 : Int32).toInt = 4 := rfl
  exact mz_inn (by rw [e, e1]; omega) (by rw [e, e2]; omega)
theorem mz_b9 (X : Nat) : ¬ nm_in (nI (X % 9) - 4) (-4) 4 = 0 := mz_b9i (Nat.mod_lt _ (by decide))
theorem mz_inr {a : Nat} {y z : Int32} {l h : Int} (hy : y.toInt = l) (hz : z.toInt = h) (ha : a < 2147483648) (h1 : l ≤ (a : Int)) (h2 : (a : Int) ≤ h) : ¬ nm_in (nI a) y z = 0 := by
  have e : (nI a).toInt = (a : Int) := nI_toInt ha
  exact mz_inn (by rw [e, hy]; exact h1) (by rw [e, hz]; exact h2)
theorem mz_h100 (X : Nat) : ¬ nm_in (nI (1 + X % 100)) 1 100 = 0 := mz_inr (l := 1) (h := 100) rfl rfl (by omega) (by omega) (by omega)
theorem mz_in63 (X : Nat) : ¬ nm_in (nI (X % 64)) 0 63 = 0 := mz_inr (l := 0) (h := 63) rfl rfl (by omega) (by omega) (by omega)
theorem mz_in47 {j : Nat} (hj : j < 32) : ¬ nm_in (nI (16 + j)) 16 47 = 0 := mz_inr (l := 16) (h := 47) rfl rfl (by omega) (by omega) (by omega)
theorem mz_i4 (i : Nat) : nI i - 4 + Int32.ofInt 1 = nI (i + 1) - 4 := by
  have h : Int32.ofInt 1 = nI 1 := by decide
  rw [h, ← mz_add i 1, Int32.sub_eq_add_neg, Int32.sub_eq_add_neg, Int32.add_assoc, Int32.add_assoc, Int32.add_comm (-4) (nI 1)]
theorem mz_ge48 {j : Nat} (h : j ≤ 32) (z : (48 : Int32) ≤ nI (16 + j)) : j = 32 := by
  have e : (nI (16 + j)).toInt = ((16 + j : Nat) : Int) := nI_toInt (by omega)
  have e2 : (48 : Int32).toInt = 48 := rfl
  rw [Int32.le_iff_toInt_le, e, e2] at z; omega
theorem mz_lt48 {j : Nat} (h : j ≤ 32) (z : ¬ (48 : Int32) ≤ nI (16 + j)) : j < 32 := by
  have e : (nI (16 + j)).toInt = ((16 + j : Nat) : Int) := nI_toInt (by omega)
  have e2 : (48 : Int32).toInt = 48 := rfl
  rw [Int32.le_iff_toInt_le, e, e2] at z; omega
theorem mz_ge5 {i : Nat} (h : i ≤ 9) (z : (5 : Int32) ≤ nI i - 4) : i = 9 := by
  have e := mz_sub4 (i := i) (by omega)
  have e2 : (5 : Int32).toInt = 5 := rfl
  rw [Int32.le_iff_toInt_le, e, e2] at z; omega
theorem mz_lt5 {i : Nat} (h : i ≤ 9) (z : ¬ (5 : Int32) ≤ nI i - 4) : i < 9 := by
  have e := mz_sub4 (i := i) (by omega)
  have e2 : (5 : Int32).toInt = 5 := rfl
  rw [Int32.le_iff_toInt_le, e, e2] at z; omega
theorem mz_t {T b : Nat} (hT : T ≤ 60000) (hb : b ≤ 64) : (nI T - 1 - nI b).toInt = (T : Int) - 1 - (b : Int) := by
  have hTi : (nI T).toInt = (T : Int) := nI_toInt (by omega)
  have e1 : (1 : Int32).toInt = 1 := rfl
  have s1 : (nI T - 1).toInt = (T : Int) - 1 := mz_sub hTi e1 (by omega)
  exact mz_sub s1 (nI_toInt (by omega)) (by omega)
theorem mz_eqr (F : mm_F) : mr_eq F F := ⟨rfl, rfl, rfl, rfl, rfl, rfl, rfl⟩
theorem mz_kept {M : mm_M} {N S T k b : Nat} (h : mk_R M N S T) (hT : T ≤ 60000) (hk : k < N) (hb : b < 64) : mr_kept M.1 61 k (M.1 50 0 - 1 - nI b) = if (T : Int) - 1 - (b : Int) < (M.1 54 k).toInt then 0 else M.1 61 (64 * k + ((T : Int) - 1 - (b : Int)).toNat % 64) := by
  have e := mz_t (T := T) (b := b) hT (by omega)
  rw [h.rT, mk_kq h hT (mz_eqr _) hk (by rw [e]; omega), e]
theorem mz_k1 {M : mm_M} {N S T k : Nat} (h : mk_R M N S T) (hB : mz_B M.1) (hT : T ≤ 59000) (hk : k < N) (X : Nat) : ((15 : Int32).toInt < (M.1 (10 + k) 8).toInt ∧ (M.1 (10 + k) 8).toInt < (256 : Int32).toInt) ∧ ((-4 : Int32).toInt < (M.1 (10 + k) 9).toInt ∧ (M.1 (10 + k) 9).toInt < (4 : Int32).toInt) ∧ (((-651 : Int32).toInt ≤ (mr_kept M.1 61 k (M.1 50 0 - 1 - nI (X % 64))).toInt ∧ (mr_kept M.1 61 k (M.1 50 0 - 1 - nI (X % 64))).toInt ≤ (650 : Int32).toInt) ∧ (¬ M.1 54 k ≤ nI T - 1 - nI (X % 64) → mr_kept M.1 61 k (M.1 50 0 - 1 - nI (X % 64)) = 0)) := by
  have hb : X % 64 < 64 := Nat.mod_lt _ (by decide)
  have hN8 := h.N8
  have e15 : (15 : Int32).toInt = 15 := rfl
  have e256 : (256 : Int32).toInt = 256 := rfl
  have em4 : (-4 : Int32).toInt = -4 := rfl
  have e4 : (4 : Int32).toInt = 4 := rfl
  have em : (-651 : Int32).toInt = -651 := rfl
  have e650 : (650 : Int32).toInt = 650 := rfl
  have e0 : (0 : Int32).toInt = 0 := rfl
  have h1 := h.el k hk
  have h2 := h.elB k hk
  have hg : M.1 (10 + k) 8 = M.1 56 k := h1.2.2.2.2.2.1
  have hl : M.1 (10 + k) 9 = M.1 57 k := h1.2.2.2.2.2.2.1
  have hgB := h2.2.2.2.2.1
  have hlB := h2.2.2.2.2.2.1
  rw [hg, hl, e15, e256, em4, e4, em, e650, mz_kept h (by omega) hk hb]
  refine ⟨⟨by omega, by omega⟩, ⟨by omega, by omega⟩, ?_, fun z => if_pos ?_⟩
  · split
    · rw [e0]; omega
    · exact hB k (by omega) _ (Nat.mod_lt _ (by decide))
  · rw [Int32.le_iff_toInt_le, mz_t (by omega) (by omega)] at z; omega
/-- how many are alive -/
def mz_al (F : mm_F) : Nat → Int32
  | 0 => 0
  | n + 1 => mz_al F n + F 55 n
theorem mz_alN {M : mm_M} {N S T : Nat} (h : mk_R M N S T) : ∀ n, n ≤ N → ∃ c : Nat, c ≤ n ∧ mz_al M.1 n = nI c ∧ (c = 0 → ∀ k, k < n → M.1 55 k = 0)
  | 0, _ => ⟨0, Nat.le_refl 0, rfl, fun _ k hk => absurd hk (Nat.not_lt_zero k)⟩
  | n + 1, hn => by
    obtain ⟨c, h1, h2, h3⟩ := mz_alN h n (by omega)
    rcases (h.elB n (by omega)).1 with z | z
    · refine ⟨c, by omega, ?_, fun hc k hk => ?_⟩
      · rw [mz_al, h2, z]; simp
      · rcases Nat.lt_succ_iff_lt_or_eq.mp hk with h4 | rfl
        · exact h3 hc k h4
        · exact z
    · refine ⟨c + 1, by omega, ?_, fun hc => absurd hc (Nat.succ_ne_zero c)⟩
      rw [mz_al, h2, z]; exact mz_add c 1
theorem mz_al0 {M : mm_M} {N S T : Nat} (h : mk_R M N S T) (z : ¬ 0 < mz_al M.1 N) : ∀ k, k < N → M.1 55 k = 0 := by
  obtain ⟨c, h1, h2, h3⟩ := mz_alN h N (Nat.le_refl N)
  have hN8 := h.N8
  refine h3 ?_
  rw [h2, Int32.lt_iff_toInt_lt, nI_toInt (by omega), show (0 : Int32).toInt = 0 from rfl] at z
  omega
theorem mz_dead {F : mm_F} {N : Nat} (h : ∀ k, k < N → F 55 k = 0) (i : Nat) : mk_L F N 61 i = 0 := mr_pow_dead h 32
/-- the powers' bounds -/
def mz_LL (L : Nat → Int64) : Prop := ∀ i : Nat, i < 9 → 0 ≤ (L i).toInt ∧ (L i).toInt ≤ 819200000000
theorem mz_sq {x : Int} (h1 : -160000 ≤ x) (h2 : x ≤ 160000) : 0 ≤ x * x ∧ x * x ≤ 25600000000 := by
  rcases Int.le_total 0 x with h | h
  · have a := Int.mul_le_mul h2 h2 h (by omega)
    have b := Int.mul_nonneg h h
    omega
  · have hn : 0 ≤ -x := by omega
    have a := Int.mul_le_mul (show -x ≤ 160000 by omega) (show -x ≤ 160000 by omega) hn (by omega)
    have b := Int.mul_nonneg hn hn
    have e : -x * -x = x * x := Int.neg_mul_neg x x
    omega
theorem mz_powB {M : mm_M} {N S T : Nat} (h : mk_R M N S T) (hT : T ≤ 60000) {b : Int32} (hb : -4 ≤ b.toInt ∧ b.toInt ≤ 4) : ∀ n, n ≤ 32 → 0 ≤ (mr_powN M.1 N 61 b n).toInt ∧ (mr_powN M.1 N 61 b n).toInt ≤ 25600000000 * (n : Int)
  | 0, _ => ⟨Int.le_refl 0, Int.le_refl 0⟩
  | n + 1, hn => by
    have ih := mz_powB h hT hb n (by omega)
    have ht := mk_tick h.rT hT (n := n) (by omega)
    have hs := mk_sumB h hT (mz_eqr M.1) (B := 1000) (fun e he c hc t ht => mk_keptB h he) (by omega) hb (c := n) (by omega) ht N (Nat.le_refl N)
    have hW := mk_WB h N (Nat.le_refl N)
    have hN8 := h.N8
    have hq := mz_sq (x := (mr_sumN M.1 N 61 b (M.1 50 0 - 1 - (47 - nI n)) N).toInt) (by omega) (by omega)
    have em := mk_jm (x := mr_sumN M.1 N 61 b (M.1 50 0 - 1 - (47 - nI n)) N) (y := mr_sumN M.1 N 61 b (M.1 50 0 - 1 - (47 - nI n)) N) (by omega) (by omega)
    have ea := mk_ja (x := mr_powN M.1 N 61 b n) (y := mr_sumN M.1 N 61 b (M.1 50 0 - 1 - (47 - nI n)) N * mr_sumN M.1 N 61 b (M.1 50 0 - 1 - (47 - nI n)) N) (by rw [em]; omega) (by rw [em]; omega)
    rw [mr_powN, ea, em]
    omega
theorem mz_L0 {M : mm_M} {N S T : Nat} (h : mk_R M N S T) (hT : T ≤ 59000) : mz_LL (mk_L M.1 N 61) := fun i hi => by
  have h1 := mz_powB h (by omega) (b := nI i - 4) (by rw [mz_sub4 (by omega)]; omega) 32 (Nat.le_refl 32)
  exact ⟨h1.1, by have := h1.2; show (mr_powN M.1 N 61 (nI i - 4) 32).toInt ≤ _; omega⟩
/-- the law's sum of squares, from the newest on -/
def mz_ss (F : mm_F) (N : Nat) (b : Int32) : Nat → Int64
  | 0 => 0
  | j + 1 => mz_ss F N b j + mr_sumN F N 61 b (F 50 0 - 1 - nI (16 + j)) N * mr_sumN F N 61 b (F 50 0 - 1 - nI (16 + j)) N
theorem mz_S_sh {f : Nat → Int64} : ∀ n, mk_S f (n + 1) = f 0 + mk_S (fun i => f (i + 1)) n
  | 0 => by show (0 : Int64) + f 0 = f 0 + 0; rw [Int64.zero_add, Int64.add_zero]
  | n + 1 => by
    have ih := mz_S_sh (f := f) n
    show mk_S f (n + 1) + f (n + 1) = f 0 + (mk_S (fun i => f (i + 1)) n + f (n + 1))
    rw [ih, Int64.add_assoc]
theorem mz_S_rev {f : Nat → Int64} : ∀ n, mk_S (fun i => f (n - 1 - i)) n = mk_S f n
  | 0 => rfl
  | n + 1 => by
    rw [mz_S_sh (f := fun i => f (n + 1 - 1 - i)) n]
    have e : mk_S (fun i => f (n + 1 - 1 - (i + 1))) n = mk_S (fun i => f (n - 1 - i)) n := mk_S_c n (fun k _ => by rw [show n + 1 - 1 - (k + 1) = n - 1 - k by omega])
    have e1 : n + 1 - 1 - 0 = n := by omega
    rw [e, mz_S_rev n, e1]
    show f n + mk_S f n = mk_S f n + f n
    rw [Int64.add_comm]
theorem mz_ssS (F : mm_F) (N : Nat) (b : Int32) : ∀ n, mz_ss F N b n = mk_S (fun j => mr_sumN F N 61 b (F 50 0 - 1 - nI (16 + j)) N * mr_sumN F N 61 b (F 50 0 - 1 - nI (16 + j)) N) n
  | 0 => rfl
  | n + 1 => by rw [mz_ss, mz_ssS F N b n]; rfl
theorem mz_47 : ∀ i : Nat, i < 32 → (47 : Int32) - nI i = nI (16 + (32 - 1 - i)) := by decide
theorem mz_pwS (F : mm_F) (N : Nat) (b : Int32) : ∀ n, n ≤ 32 → mr_powN F N 61 b n = mk_S (fun i => mr_sumN F N 61 b (F 50 0 - 1 - nI (16 + (32 - 1 - i))) N * mr_sumN F N 61 b (F 50 0 - 1 - nI (16 + (32 - 1 - i))) N) n
  | 0, _ => rfl
  | n + 1, hn => by rw [mr_powN, mz_pwS F N b n (by omega), mz_47 n (by omega)]; rfl
theorem mz_ssP (F : mm_F) (N : Nat) (b : Int32) : mr_powN F N 61 b 32 = mz_ss F N b 32 := by
  rw [mz_pwS F N b 32 (Nat.le_refl 32), mz_ssS]
  exact mz_S_rev (f := fun j => mr_sumN F N 61 b (F 50 0 - 1 - nI (16 + j)) N * mr_sumN F N 61 b (F 50 0 - 1 - nI (16 + j)) N) 32
/-- the law's greatest -/
def mz_m (L : Nat → Int64) : Nat → Int64
  | 0 => 0
  | i + 1 => if lg_cmp (L i) (mz_m L i) ≤ 0 then mz_m L i else L i
def mz_g (L : Nat → Int64) : Nat → Int32
  | 0 => -99
  | i + 1 => if lg_cmp (L i) (mz_m L i) ≤ 0 then mz_g L i else nI i - 4
theorem mz_mT {L : Nat → Int64} {i : Nat} (z : lg_cmp (L i) (mz_m L i) ≤ 0) : mz_m L (i + 1) = mz_m L i := if_pos z
theorem mz_mF {L : Nat → Int64} {i : Nat} (z : ¬ lg_cmp (L i) (mz_m L i) ≤ 0) : mz_m L (i + 1) = L i := if_neg z
theorem mz_gT {L : Nat → Int64} {i : Nat} (z : lg_cmp (L i) (mz_m L i) ≤ 0) : mz_g L (i + 1) = mz_g L i := if_pos z
theorem mz_gF {L : Nat → Int64} {i : Nat} (z : ¬ lg_cmp (L i) (mz_m L i) ≤ 0) : mz_g L (i + 1) = nI i - 4 := if_neg z
theorem mz_gr {L : Nat → Int64} (hL : mz_LL L) : ∀ n, n ≤ 8 → mz_m L (n + 1) = L (mr_gr L n) ∧ mz_g L (n + 1) = if L (mr_gr L n) = 0 then -99 else nI (mr_gr L n) - 4
  | 0, _ => by
    have h0 := (hL 0 (by omega)).1
    have e0 : (0 : Int64).toInt = 0 := rfl
    by_cases z : lg_cmp (L 0) (mz_m L 0) ≤ 0
    · have hz : L 0 = 0 := mz_J0 (by have := mk_le.mp z; have e : mz_m L 0 = 0 := rfl; rw [e, e0] at this; omega)
      refine ⟨(mz_mT z).trans hz.symm, (mz_gT z).trans ?_⟩
      show (-99 : Int32) = if L 0 = 0 then -99 else nI 0 - 4
      rw [if_pos hz]
    · refine ⟨mz_mF z, (mz_gF z).trans ?_⟩
      show nI 0 - 4 = if L 0 = 0 then -99 else nI 0 - 4
      rw [if_neg (fun hz => z (by rw [hz]; show lg_cmp 0 0 ≤ 0; decide))]
  | n + 1, hn => by
    have ih := mz_gr hL n (by omega)
    have hgr := mr_gr_le L n
    by_cases z : lg_cmp (L (n + 1)) (mz_m L (n + 1)) ≤ 0
    · have e : mr_gr L (n + 1) = mr_gr L n := if_pos (by rw [← ih.1]; exact z)
      rw [e]
      exact ⟨(mz_mT z).trans ih.1, (mz_gT z).trans ih.2⟩
    · have e : mr_gr L (n + 1) = n + 1 := if_neg (by rw [← ih.1]; exact z)
      rw [e]
      refine ⟨mz_mF z, (mz_gF z).trans ?_⟩
      rw [if_neg (fun hz => z (mk_le.mpr (by rw [hz, ih.1]; exact (hL _ (by omega)).1)))]
theorem mz_fd0 {M : mm_M} {N : Nat} (hN : N ≤ 8) (hL : mz_LL (mk_L M.1 N 61)) : (mr_fd N 0 (mr_fd0 M)).1 = mz_g (mk_L M.1 N 61) 9 := (mz_fd_0 hN).trans (mz_gr hL 8 (Nat.le_refl 8)).2.symm
theorem mz_n99 : ∀ g : Nat, g ≤ 8 → ¬ nI g - 4 = -99 := by decide
theorem mz_fdN {M : mm_M} {N r : Nat} (hN : N ≤ 8) (hL : mz_LL (mk_L M.1 N 61)) (z : mz_g (mk_L M.1 N 61) 9 = -99) : (mr_fd N (1 + r) (mr_fd0 M)).1 = -99 := by
  have hg := (mz_gr hL 8 (Nat.le_refl 8)).2
  rw [z] at hg
  by_cases h0 : mk_L M.1 N 61 (mr_gr (mk_L M.1 N 61) 8) = 0
  · rw [Nat.add_comm]; exact mz_fd_s hN h0
  · rw [if_neg h0] at hg; exact absurd hg.symm (mz_n99 _ (mr_gr_le _ 8))
/-- the peaks, counted -/
def mz_pc (L : Nat → Int64) (x : Int32) (m : Int64) : Nat → Nat
  | 0 => 0
  | n + 1 => mz_pc L x m n + (if mr_pk L x m n = 0 then 0 else 1)
theorem mz_pk01 (L : Nat → Int64) (x : Int32) (m : Int64) (n : Nat) : mr_pk L x m n = 0 ∨ mr_pk L x m n = 1 := by
  unfold mr_pk
  split
  · exact Or.inl rfl
  · split
    · exact Or.inl rfl
    · split
      · exact Or.inl rfl
      · exact Or.inr rfl
theorem mz_pcN (L : Nat → Int64) (x : Int32) (m : Int64) : ∀ n, mr_pkN L x m n = nI (mz_pc L x m n) ∧ mz_pc L x m n ≤ n
  | 0 => ⟨rfl, Nat.le_refl 0⟩
  | n + 1 => by
    have ih := mz_pcN L x m n
    rcases mz_pk01 L x m n with z | z
    · have e : mz_pc L x m (n + 1) = mz_pc L x m n := by rw [mz_pc, if_pos z, Nat.add_zero]
      exact ⟨by rw [mr_pkN, z, ih.1, e]; simp, by omega⟩
    · have e : mz_pc L x m (n + 1) = mz_pc L x m n + 1 := by rw [mz_pc, if_neg (by rw [z]; decide)]
      exact ⟨by rw [mr_pkN, z, ih.1, e]; exact mz_add _ 1, by omega⟩
theorem mz_pcI (L : Nat → Int64) (x : Int32) : (mr_pkv L x).toInt = (mz_pc L x (L (mr_gr L 8)) 9 : Int) := by
  have h := mz_pcN L x (L (mr_gr L 8)) 9
  rw [mr_pkv, h.1, nI_toInt (by omega)]
theorem mz_pk0 (L : Nat → Int64) (x : Int32) : (0 : Int32).toInt ≤ (mr_pkv L x).toInt := by
  rw [mz_pcI, show (0 : Int32).toInt = 0 from rfl]; omega
theorem mz_nI8 : ∀ n : Nat, n < 8 → ¬ nI n = 8 ∧ ¬ nI (n + 1) = 0 := by decide
theorem mz_adj (L : Nat → Int64) (x : Int32) (m : Int64) {n : Nat} (hn : n < 8) : (if mr_pk L x m n = 0 then 0 else 1) + (if mr_pk L x m (n + 1) = 0 then 0 else 1) ≤ 1 := by
  by_cases z1 : mr_pk L x m n = 0
  · rw [if_pos z1]; split <;> omega
  · by_cases z2 : mr_pk L x m (n + 1) = 0
    · rw [if_pos z2]; split <;> omega
    · exfalso
      have h1 : ¬ mr_ab L n = 0 := fun h => z1 (by unfold mr_pk; rw [if_pos h]; split <;> rfl)
      have h2 : ¬ mr_ab L (n + 1) = 0 := fun h => z2 (by unfold mr_pk; rw [if_pos h]; split <;> rfl)
      have h3 : ¬ mr_ab2 L n = 0 := fun h => h1 (by unfold mr_ab; split; exact h; split; rfl; exact h)
      have h4 : ¬ lg_cmp (L n) (L (n + 1)) ≤ 0 := fun h => h3 (by unfold mr_ab2; rw [if_neg (mz_nI8 n hn).1, if_pos h])
      have h5 : ¬ lg_cmp (L (n + 1)) (L n) ≤ 0 := fun h => h2 (by unfold mr_ab; rw [if_neg (mz_nI8 n hn).2, if_pos (show lg_cmp (L (n + 1)) (L (n + 1 - 1)) ≤ 0 from h)])
      rw [mk_le] at h4 h5
      omega
theorem mz_pk5 (L : Nat → Int64) (x : Int32) : (mr_pkv L x).toInt ≤ (5 : Int32).toInt := by
  rw [mz_pcI, show (5 : Int32).toInt = 5 from rfl]
  have a0 : (if mr_pk L x (L (mr_gr L 8)) 0 = 0 then 0 else 1) + (if mr_pk L x (L (mr_gr L 8)) 1 = 0 then 0 else 1) ≤ 1 := mz_adj L x (L (mr_gr L 8)) (n := 0) (by decide)
  have a2 : (if mr_pk L x (L (mr_gr L 8)) 2 = 0 then 0 else 1) + (if mr_pk L x (L (mr_gr L 8)) 3 = 0 then 0 else 1) ≤ 1 := mz_adj L x (L (mr_gr L 8)) (n := 2) (by decide)
  have a4 : (if mr_pk L x (L (mr_gr L 8)) 4 = 0 then 0 else 1) + (if mr_pk L x (L (mr_gr L 8)) 5 = 0 then 0 else 1) ≤ 1 := mz_adj L x (L (mr_gr L 8)) (n := 4) (by decide)
  have a6 : (if mr_pk L x (L (mr_gr L 8)) 6 = 0 then 0 else 1) + (if mr_pk L x (L (mr_gr L 8)) 7 = 0 then 0 else 1) ≤ 1 := mz_adj L x (L (mr_gr L 8)) (n := 6) (by decide)
  have a8 : (if mr_pk L x (L (mr_gr L 8)) 8 = 0 then 0 else 1) ≤ 1 := by split <;> omega
  simp only [mz_pc]
  omega
theorem mz_pkx {L : Nat → Int64} (hL : mz_LL L) {x y : Int32} (h1 : 1 ≤ x.toInt) (h2 : x.toInt ≤ y.toInt) (h3 : y.toInt ≤ 100) {n : Nat} (hn : n < 9) (z : mr_pk L x (L (mr_gr L 8)) n = 0) : mr_pk L y (L (mr_gr L 8)) n = 0 := by
  have hm := hL (mr_gr L 8) (by have := mr_gr_le L 8; omega)
  have hx := hL n hn
  unfold mr_pk at z ⊢
  by_cases z1 : lg_cmp (L n) 0 ≤ 0
  · rw [if_pos z1]
  · rw [if_neg z1] at z ⊢
    by_cases z2 : mr_ab L n = 0
    · rw [if_pos z2]
    · rw [if_neg z2] at z ⊢
      by_cases z3 : lg_cmp (100 * L n) (x.toInt64 * L (mr_gr L 8)) < 0
      · rw [if_pos]
        have e100 : (100 : Int64).toInt = 100 := rfl
        have q1 : x.toInt * (L (mr_gr L 8)).toInt ≤ y.toInt * (L (mr_gr L 8)).toInt := Int.mul_le_mul_of_nonneg_right h2 hm.1
        have q2 : y.toInt * (L (mr_gr L 8)).toInt ≤ 100 * (L (mr_gr L 8)).toInt := Int.mul_le_mul_of_nonneg_right h3 hm.1
        have q3 : 0 ≤ x.toInt * (L (mr_gr L 8)).toInt := Int.mul_nonneg (by omega) hm.1
        have ex : (x.toInt64 * L (mr_gr L 8)).toInt = x.toInt * (L (mr_gr L 8)).toInt := by rw [mk_jm (by rw [mk_w]; omega) (by rw [mk_w]; omega), mk_w]
        have ey : (y.toInt64 * L (mr_gr L 8)).toInt = y.toInt * (L (mr_gr L 8)).toInt := by rw [mk_jm (by rw [mk_w]; omega) (by rw [mk_w]; omega), mk_w]
        rw [lg_lt0, Int64.lt_iff_toInt_lt] at z3 ⊢
        rw [ex] at z3
        rw [ey]
        omega
      · rw [if_neg z3] at z; exact absurd z (by decide)
theorem mz_pcA {L : Nat → Int64} (hL : mz_LL L) {x y : Int32} (h1 : 1 ≤ x.toInt) (h2 : x.toInt ≤ y.toInt) (h3 : y.toInt ≤ 100) : ∀ n, n ≤ 9 → mz_pc L y (L (mr_gr L 8)) n ≤ mz_pc L x (L (mr_gr L 8)) n
  | 0, _ => Nat.le_refl 0
  | n + 1, hn => by
    have ih := mz_pcA hL h1 h2 h3 n (by omega)
    rw [mz_pc, mz_pc]
    by_cases z : mr_pk L x (L (mr_gr L 8)) n = 0
    · rw [if_pos z, if_pos (mz_pkx hL h1 h2 h3 (by omega) z)]; omega
    · rw [if_neg z]; split <;> omega
theorem mz_pkA {L : Nat → Int64} (hL : mz_LL L) {x y : Int32} (h1 : 1 ≤ x.toInt) (h2 : x.toInt ≤ y.toInt) (h3 : y.toInt ≤ 100) : (mr_pkv L y).toInt ≤ (mr_pkv L x).toInt := by
  have := mz_pcA hL h1 h2 h3 9 (Nat.le_refl 9)
  rw [mz_pcI, mz_pcI]; omega
theorem mz_pk1 {L : Nat → Int64} (hL : mz_LL L) (X : Nat) : (mr_pkv L (nI (1 + X % 100))).toInt ≤ (mr_pkv L 1).toInt := by
  have e : (nI (1 + X % 100)).toInt = ((1 + X % 100 : Nat) : Int) := nI_toInt (by omega)
  have e1 : (1 : Int32).toInt = 1 := rfl
  exact mz_pkA hL (by rw [e1]; omega) (by rw [e, e1]; omega) (by rw [e]; omega)
theorem mz_pk100 {L : Nat → Int64} (hL : mz_LL L) (X : Nat) : (mr_pkv L 100).toInt ≤ (mr_pkv L (nI (1 + X % 100))).toInt := by
  have e : (nI (1 + X % 100)).toInt = ((1 + X % 100 : Nat) : Int) := nI_toInt (by omega)
  have e1 : (100 : Int32).toInt = 100 := rfl
  exact mz_pkA hL (by rw [e]; omega) (by rw [e, e1]; omega) (by rw [e1]; omega)
theorem mz_kneg {F : mm_F} {r e : Nat} {t : Int32} (h : t.toInt < 0) : mr_kept F r e t = 0 := by
  have hz : t < 0 := Int32.lt_iff_toInt_lt.mpr h
  have : mr_isK F e t = 0 := by
    unfold mr_isK
    split
    · rfl
    · split
      · rfl
      · rfl
  unfold mr_kept
  rw [if_pos this]
theorem mz_fd00 (g : Int64) : nm_fdJ (64 * (0 : Int32).toInt64) g = 0 := by
  have e : ((64 : Int64) * (0 : Int32).toInt64).toInt = 0 := by decide
  rw [nm_fdJ, e, Int.zero_ediv]; rfl
theorem mz_sumT0 {M : mm_M} {N S : Nat} (h : mk_R M N S 0) {b t : Int32} (hb : -4 ≤ b.toInt ∧ b.toInt ≤ 4) (ht : -48 ≤ t.toInt ∧ t.toInt ≤ -17) : ∀ n, n ≤ N → mr_sumN M.1 N 61 b t n = 0
  | 0, _ => rfl
  | n + 1, hn => by
    have h2 := h.elB n (by omega)
    have hd := mk_delayB h2.2.1 hb
    have hl := h2.2.2.2.2.2.1
    have s1 : (t + mr_delay M.1 n b).toInt = t.toInt + (mr_delay M.1 n b).toInt := mk_ia (by omega) (by omega)
    have s2 : (t + mr_delay M.1 n b + M.1 57 n).toInt = t.toInt + (mr_delay M.1 n b).toInt + (M.1 57 n).toInt := by rw [mk_ia, s1] <;> rw [s1] <;> omega
    rw [mr_sumN, mz_sumT0 h hb ht n (by omega), mz_kneg (by rw [s2]; omega), mz_fd00]
    simp
theorem mz_powT0 {M : mm_M} {N S : Nat} (h : mk_R M N S 0) {b : Int32} (hb : -4 ≤ b.toInt ∧ b.toInt ≤ 4) : ∀ n, n ≤ 32 → mr_powN M.1 N 61 b n = 0
  | 0, _ => rfl
  | n + 1, hn => by
    have ht := mk_tick h.rT (by omega) (n := n) (by omega)
    rw [mr_powN, mz_powT0 h hb n (by omega), mz_sumT0 h hb (by omega) N (Nat.le_refl N)]
    rfl
theorem mz_T0 {M : mm_M} {N S T : Nat} (h : mk_R M N S T) (hT : T ≤ 59000) (z : ¬ 0 < nI T) : mz_m (mk_L M.1 N 61) 9 = 0 := by
  rw [Int32.lt_iff_toInt_lt, nI_toInt (by omega), show (0 : Int32).toInt = 0 from rfl] at z
  have hT0 : T = 0 := by omega
  subst hT0
  rw [(mz_gr (mz_L0 h hT) 8 (Nat.le_refl 8)).1]
  have hg := mr_gr_le (mk_L M.1 N 61) 8
  exact mz_powT0 h (by rw [mz_sub4 (by omega)]; omega) 32 (Nat.le_refl 32)
