theorem nm_0le {x : Int64} (h : (0 : Int64) ≤ x) : 0 ≤ x.toInt := Int64.le_iff_toInt_le.mp h
theorem nm_0lt {x : Int64} (h : ¬ (0 : Int64) ≤ x) : x.toInt < 0 := Int.not_le.mp fun z => h (Int64.le_iff_toInt_le.mpr z)
abbrev mm_F : Type := Nat → Nat → Int32
def mr_delay (F : mm_F) (e : Nat) (b : Int32) : Int32 := (nm_fdJ (F 51 e * b).toInt64 4).toInt32
def mr_isK (F : mm_F) (e : Nat) (t : Int32) : Int32 := if t < F 54 e then 0 else if nm_in t (F 50 0 - 64) (F 50 0 - 1) = 0 then 0 else if t < 0 then 0 else 1
theorem mr_isK_pos {F : mm_F} {e : Nat} {t : Int32} (h : ¬ mr_isK F e t = 0) : ¬ t < 0 := by
  unfold mr_isK at h
  intro z
  rw [if_pos z] at h
  apply h
  split
  · rfl
  · split <;> rfl
theorem nm_kx {x t : Int32} {e : Nat} (hx : x.toInt = (e : Int)) (he : e < 8) (ht : ¬ t < 0) : (64 * x + (t - t / 64 * 64)).toInt = ((64 * e + t.toInt.toNat % 64 : Nat) : Int) := by
  have h1 := nm_ix ht
  have h2 : t - t / 64 * 64 = Int32.ofInt (t.toInt % 64) := nm_fm_x1 (y := 64) (by decide) (by omega)
  have h3 : 64 * x = Int32.ofInt (64 * e) := by rw [Int32.ofInt_mul, ← hx, Int32.ofInt_toInt]; rfl
  rw [h2, h3, ← Int32.ofInt_add, nm_ofI (by omega) (by omega)]
  omega
def mr_kept (F : mm_F) (r e : Nat) (t : Int32) : Int32 := if mr_isK F e t = 0 then 0 else F r (64 * e + t.toInt.toNat % 64)
def mr_ah (F : mm_F) (x : Int32) : Nat → Int32
  | 0 => 0
  | n + 1 => mr_ah F x n + (if F 55 n = 0 then 0 else if x ≤ nI n then 0 else 1)
def mr_bh (F : mm_F) (x : Int32) : Nat → Int32
  | 0 => 0
  | n + 1 => mr_bh F x n + (if F 55 n = 0 then 0 else if nI n ≤ x then 0 else 1)
def mr_least (F : mm_F) (x : Int32) (N : Nat) : Int32 := if mr_bh F x N ≤ mr_ah F x N then mr_bh F x N else mr_ah F x N
def mr_w (F : mm_F) (x : Int32) (e N : Nat) : Int32 := if F 55 e = 0 then 0 else if F 50 15 = 0 then 1 else if F 50 15 = 1 then 1 + mr_least F x N else if mr_least F x N = 0 then 3 else 1
def mr_sumN (F : mm_F) (N r : Nat) (b t : Int32) : Nat → Int64
  | 0 => 0
  | n + 1 => mr_sumN F N r b t n + (mr_w F (nI n) n N).toInt64 * nm_fdJ (64 * (mr_kept F r n (t + mr_delay F n b + F 57 n)).toInt64) (F 56 n).toInt64
def mr_powN (F : mm_F) (N r : Nat) (b : Int32) : Nat → Int64
  | 0 => 0
  | n + 1 => mr_powN F N r b n + mr_sumN F N r b (F 50 0 - 1 - (47 - nI n)) N * mr_sumN F N r b (F 50 0 - 1 - (47 - nI n)) N
theorem nm_dn : ∀ n : Nat, n < 33 → ((47 : Int32) - nI n < 16 ↔ n = 32) := by decide
theorem nm_dn1 : ∀ n : Nat, n < 33 → (47 : Int32) - nI n + (-1) = 47 - nI (n + 1) := by decide
def mr_low (F : mm_F) : Nat → Nat → Int32
  | 0, _ => -99
  | r + 1, k => if F 55 k = 0 then mr_low F r (k + 1) else nI k
def mr_agN (F : mm_F) (e : Nat) (t : Int32) (o : Nat) (b : Int32) : Nat → Int64
  | 0 => 0
  | n + 1 => mr_agN F e t o b n + (mr_kept F 61 e (F 50 0 - 1 - (47 - nI n) + mr_delay F e b + t)).toInt64 * (mr_kept F 61 o (F 50 0 - 1 - (47 - nI n) + mr_delay F o b)).toInt64
def mr_becV (F : mm_F) (e : Nat) (g t : Int32) : Int32 := if ¬ F 56 e = g then 1 else if F 57 e = t then 0 else 1
theorem mr_becV_z (F : mm_F) (e : Nat) (g t : Int32) : mr_becV F e g t &&& 1 = mr_becV F e g t := by unfold mr_becV; split; decide; split <;> decide
def mr_bL (F : mm_F) (e o : Nat) (b : Int32) : Nat → Int32
  | 0 => -3
  | n + 1 => if lg_cmp (mr_agN F e (nI n - 2) o b 32) (mr_agN F e (mr_bL F e o b n) o b 32) ≤ 0 then mr_bL F e o b n else nI n - 2
def mr_gn (z : Int64) : Int32 := if 0 ≤ lg_cmp z 16 then (if lg_cmp z 255 ≤ 0 then z.toInt32 else 255) else 16
def mr_fitG (F : mm_F) (e o : Nat) (b : Int32) (y : Int64) : Int32 := mr_gn (nm_fdJ (64 * mr_agN F e (mr_bL F e o b 6) o b 32) y)
def mr_wr (F : mm_F) (e : Nat) (t : Int32) : Int32 := t - t / F 60 e * F 60 e + (if 0 ≤ t - t / F 60 e * F 60 e then 0 else F 60 e)
def mr_wave (F : mm_F) (e : Nat) (t : Int32) : Int32 := if F 60 e / 2 ≤ mr_wr F e t then -F 59 e else F 59 e
def mr_wvN (F : mm_F) (e : Nat) : Nat → Int32
  | 0 => 0
  | n + 1 => mr_wvN F e n + mr_wave F n (F 50 0 - mr_delay F e (F 58 n) - F 53 e)
def mr_dr (F : mm_F) : Int32 := 75 * F 50 14 + 74 - (75 * F 50 14 + 74) / 65537 * 65537
def mr_samp (F : mm_F) (e S : Nat) : Int32 := (nm_fdJ ((mr_wvN F e S).toInt64 * (F 52 e).toInt64) 64).toInt32 + (mr_dr F - mr_dr F / (2 * F 50 13 + 1) * (2 * F 50 13 + 1) - F 50 13)
def mr_hears (M : mm_M) (e S : Nat) : mm_M := mm_sI (mm_sI M 50 14 (mr_dr M.1)) 61 (64 * e + (M.1 50 0).toInt.toNat % 64) (if M.1 55 e = 0 then 0 else mr_samp M.1 e S)
theorem mr_hears_o {M : mm_M} {e S k j : Nat} (h1 : k ≠ 61) (h2 : k ≠ 50 ∨ j ≠ 14) : (mr_hears M e S).1 k j = M.1 k j := by
  rw [mr_hears, mm_sI_k h1, mm_sI_1, if_neg (by omega)]
def mr_heE (M : mm_M) (S : Nat) : Nat → mm_M
  | 0 => M
  | n + 1 => mr_hears (mr_heE M S n) n S
def mr_tick (M : mm_M) (N S : Nat) : mm_M := mm_sI (mr_heE M S N) 50 0 ((mr_heE M S N).1 50 0 + 1)
def mr_hrN (M : mm_M) (N S : Nat) : Nat → mm_M
  | 0 => M
  | n + 1 => mr_tick (mr_hrN M N S n) N S
theorem mr_heE_o {M : mm_M} {S k j : Nat} (h1 : k ≠ 61) (h2 : k ≠ 50 ∨ j ≠ 14) : ∀ n, (mr_heE M S n).1 k j = M.1 k j
  | 0 => rfl
  | n + 1 => by rw [mr_heE, mr_hears_o h1 h2, mr_heE_o h1 h2 n]
theorem mr_hrN_o {M : mm_M} {N S k j : Nat} (h1 : k ≠ 61) (h2 : k ≠ 50 ∨ (j ≠ 14 ∧ j ≠ 0)) : ∀ n, (mr_hrN M N S n).1 k j = M.1 k j
  | 0 => rfl
  | n + 1 => by rw [mr_hrN, mr_tick, mm_sI_1, if_neg (by omega), mr_heE_o h1 (by omega), mr_hrN_o h1 h2 n]
theorem mr_hrN_n {M : mm_M} {N S : Nat} : ∀ n, (mr_hrN M N S n).1 50 0 = M.1 50 0 + nI n
  | 0 => by rw [mr_hrN, nI_0]; simp
  | n + 1 => by rw [mr_hrN, mr_tick, mm_sI_s, mr_heE_o (by decide) (by decide), mr_hrN_n n, nI_succ, Int32.add_assoc]
theorem nm_addT {x : Int32} {n : Nat} (h : 0 ≤ x.toInt ∧ x.toInt < 1000000) (hn : n ≤ 1000) : (x + nI n).toInt = x.toInt + n := by
  rw [Int32.toInt_add, nI_toInt (by omega)]
  exact nm_bmI (by omega) (by omega)
theorem nm_inT {x a b : Int32} (h : ¬ nm_in x a b = 0) : a.toInt ≤ x.toInt ∧ x.toInt ≤ b.toInt := by
  unfold nm_in at h
  by_cases h1 : x < a
  · rw [if_pos h1] at h; exact absurd rfl h
  · rw [if_neg h1] at h
    by_cases h2 : b < x
    · rw [if_pos h2] at h; exact absurd rfl h
    · rw [Int32.lt_iff_toInt_lt] at h1 h2; omega
theorem nm_toN {x : Int32} (h : 0 ≤ x.toInt) : x = nI x.toInt.toNat := Int32.toInt_inj.mp (by have := x.toInt_lt; rw [nI_toInt (by omega)]; omega)
def mr_elk (F : mm_F) (x y z : Int32) : Int32 := if nm_in x 0 12 = 0 then 1 else if nm_in y 32 96 = 0 then 1 else if nm_in z (-3) 3 = 0 then 1 else if F 50 1 = 8 then 2 else 0
def mr_elS (M : mm_M) (N : Nat) (x y z : Int32) : mm_M := mm_sI (mm_sI (mm_sI (mm_sI (mm_sI (mm_sI (mm_sI (mm_sI (mm_sI M 50 20 0) 51 N x) 52 N y) 53 N z) 54 N (M.1 50 0)) 55 N 1) 56 N 64) 57 N 0) 50 1 (M.1 50 1 + 1)
theorem nm_hx {x : Int32} {N : Nat} (h : x = nI N) (hN : N ≤ 8) : x.toInt = (N : Int) := by rw [h]; exact nI_toInt (by omega)
theorem nm_n8 {x : Int32} {N : Nat} (h : x = nI N) (hN : N ≤ 8) (z : ¬ x = 8) : N < 8 := by
  rcases Nat.lt_or_ge N 8 with h1 | h1
  · exact h1
  · exact absurd (by rw [h, Nat.le_antisymm hN h1]; rfl) z
theorem nm_inE {x : Int32} {N : Nat} (h : ¬ nm_in x 0 (nI N - 1) = 0) (hN : N ≤ 8) : x.toInt = (x.toInt.toNat : Int) ∧ x.toInt.toNat < N := by
  have h1 := nm_inT h
  have e : (0 : Int32).toInt = 0 := rfl
  have e2 : (nI N - 1).toInt = (N : Int) - 1 := by
    have e3 : (1 : Int32).toInt = 1 := rfl
    rw [Int32.toInt_sub, nI_toInt (by omega), e3]
    exact nm_bmI (by omega) (by omega)
  omega
def mr_sok (F : mm_F) (x y z : Int32) : Int32 := if nm_in x (-4) 4 = 0 then 1 else if nm_in y 1 100 = 0 then 2 else if nm_in z 2 16 = 0 then 2 else if F 50 9 = 4 then 3 else 0
def mr_soS (M : mm_M) (S : Nat) (x y z : Int32) : mm_M := mm_sI (mm_sI (mm_sI (mm_sI (mm_sI M 50 20 0) 58 S x) 59 S y) 60 S z) 50 9 (M.1 50 9 + 1)
theorem nm_n4 {x : Int32} {N : Nat} (h : x = nI N) (hN : N ≤ 4) (z : ¬ x = 4) : N < 4 := by
  rcases Nat.lt_or_ge N 4 with h1 | h1
  · exact h1
  · exact absurd (by rw [h, Nat.le_antisymm hN h1]; rfl) z
def mr_nok (x y : Int32) : Int32 := if nm_in x 0 50 = 0 then 1 else if nm_in y 1 65536 = 0 then 1 else 0
def mr_smk (F : mm_F) (x y : Int32) : Int32 := if nm_in x 0 (F 50 1 - 1) = 0 then 1 else if nm_in y 0 63 = 0 then 1 else 0
def mr_suk (x y : Int32) : Int32 := if nm_in x (-4) 4 = 0 then 1 else if nm_in y 16 47 = 0 then 1 else 0
def mr_eq (F F' : mm_F) : Prop := F 50 0 = F' 50 0 ∧ F 50 15 = F' 50 15 ∧ F 51 = F' 51 ∧ F 54 = F' 54 ∧ F 55 = F' 55 ∧ F 56 = F' 56 ∧ F 57 = F' 57
theorem mr_isK_c {F F' : mm_F} (h : mr_eq F F') {e : Nat} {t : Int32} : mr_isK F e t = mr_isK F' e t := by
  obtain ⟨h1, h2, h3, h4, h5, h6, h7⟩ := h
  unfold mr_isK; rw [h1, h4]
theorem mr_kept_c {F F' : mm_F} (h : mr_eq F F') {r e : Nat} {t : Int32} (hr : F r = F' r) : mr_kept F r e t = mr_kept F' r e t := by
  unfold mr_kept; rw [mr_isK_c h, hr]
theorem mr_ah_c {F F' : mm_F} (h : mr_eq F F') {x : Int32} : ∀ n, mr_ah F x n = mr_ah F' x n
  | 0 => rfl
  | n + 1 => by rw [mr_ah, mr_ah, mr_ah_c h n, h.2.2.2.2.1]
theorem mr_bh_c {F F' : mm_F} (h : mr_eq F F') {x : Int32} : ∀ n, mr_bh F x n = mr_bh F' x n
  | 0 => rfl
  | n + 1 => by rw [mr_bh, mr_bh, mr_bh_c h n, h.2.2.2.2.1]
theorem mr_w_c {F F' : mm_F} (h : mr_eq F F') {x : Int32} {e N : Nat} : mr_w F x e N = mr_w F' x e N := by
  unfold mr_w mr_least; rw [mr_ah_c h, mr_bh_c h, h.2.2.2.2.1, h.2.1]
theorem mr_delay_c {F F' : mm_F} (h : mr_eq F F') {e : Nat} {b : Int32} : mr_delay F e b = mr_delay F' e b := by
  unfold mr_delay; rw [h.2.2.1]
theorem mr_sumN_c {F F' : mm_F} (h : mr_eq F F') {N r : Nat} {b t : Int32} (hr : F r = F' r) : ∀ n, mr_sumN F N r b t n = mr_sumN F' N r b t n
  | 0 => rfl
  | n + 1 => by rw [mr_sumN, mr_sumN, mr_sumN_c h hr n, mr_w_c h, mr_delay_c h, mr_kept_c h hr, h.2.2.2.2.2.1, h.2.2.2.2.2.2]
theorem mr_powN_c {F F' : mm_F} (h : mr_eq F F') {N r : Nat} {b : Int32} (hr : F r = F' r) : ∀ n, mr_powN F N r b n = mr_powN F' N r b n
  | 0 => rfl
  | n + 1 => by rw [mr_powN, mr_powN, mr_powN_c h hr n, mr_sumN_c h hr, h.1]
theorem mr_eq_t {M : mm_M} {x : Int32} : mr_eq (mm_sI M 50 20 x).1 M.1 := ⟨rfl, rfl, rfl, rfl, rfl, rfl, rfl⟩
def mr_fpN (M : mm_M) (N r n : Nat) : mm_M := mm_row M 64 n (fun c => mr_powN M.1 N r (nI c - 4) 32)
def mr_fp (M : mm_M) (N r : Nat) : mm_M := mr_fpN M N r 9
def mr_gr (L : Nat → Int64) : Nat → Nat
  | 0 => 0
  | n + 1 => if lg_cmp (L (n + 1)) (L (mr_gr L n)) ≤ 0 then mr_gr L n else n + 1
theorem mr_gr_le (L : Nat → Int64) : ∀ n, mr_gr L n ≤ n
  | 0 => Nat.le_refl 0
  | n + 1 => by rw [mr_gr]; split; exact Nat.le_succ_of_le (mr_gr_le L n); exact Nat.le_refl _
def mr_ab2 (L : Nat → Int64) (n : Nat) : Int32 := if nI n = 8 then 1 else if lg_cmp (L n) (L (n + 1)) ≤ 0 then 0 else 1
def mr_ab (L : Nat → Int64) (n : Nat) : Int32 := if nI n = 0 then mr_ab2 L n else if lg_cmp (L n) (L (n - 1)) ≤ 0 then 0 else mr_ab2 L n
def mr_pk (L : Nat → Int64) (x : Int32) (most : Int64) (n : Nat) : Int32 := if lg_cmp (L n) 0 ≤ 0 then 0 else if mr_ab L n = 0 then 0 else if lg_cmp (100 * L n) (x.toInt64 * most) < 0 then 0 else 1
def mr_pkN (L : Nat → Int64) (x : Int32) (most : Int64) : Nat → Int32
  | 0 => 0
  | n + 1 => mr_pkN L x most n + mr_pk L x most n
def mr_pkv (L : Nat → Int64) (x : Int32) : Int32 := mr_pkN L x (L (mr_gr L 8)) 9
theorem nm_pr {n : Nat} (h : ¬ nI n = 0) (hn : n ≤ 9) : (nI n - 1).toInt = ((n - 1 : Nat) : Int) ∧ 1 ≤ n := by
  have h1 : n ≠ 0 := fun z => h (by rw [z]; rfl)
  have e : (1 : Int32).toInt = 1 := rfl
  rw [Int32.toInt_sub, nI_toInt (by omega), e, nm_bmI (by omega) (by omega)]
  omega
theorem nm_su {n : Nat} (h : ¬ nI n = 8) (hn : n < 9) : (nI n + 1).toInt = ((n + 1 : Nat) : Int) ∧ n + 1 < 9 := by
  have h1 : n ≠ 8 := fun z => h (by rw [z]; rfl)
  rw [nI_1, nI_toInt (by omega)]
  omega
def mr_allN (F : mm_F) (N : Nat) : Nat → Int32
  | 0 => 0
  | n + 1 => mr_allN F N n + mr_w F (nI n) n N
def mr_meN (M : mm_M) (N : Nat) (b : Int32) (n : Nat) : mm_M := mm_rowI M 63 n (fun c => (nm_fdJ (mr_sumN M.1 N 62 b (M.1 50 0 - 1 - 47 + nI c) N) (mr_allN M.1 N N).toInt64).toInt32)
def mr_tick1 (F : mm_F) (b : Int32) (n k : Nat) : Int32 := F 50 0 - 1 - 47 + nI n + mr_delay F k b + F 57 k
def mr_tk1 (M : mm_M) (b : Int32) (n k : Nat) : mm_M := if M.1 55 k = 0 then M else if mr_isK M.1 k (mr_tick1 M.1 b n k) = 0 then M else mm_sI M 62 (64 * k + (mr_tick1 M.1 b n k).toInt.toNat % 64) (M.1 62 (64 * k + (mr_tick1 M.1 b n k).toInt.toNat % 64) - M.1 63 n)
def mr_tkI (M : mm_M) (b : Int32) (n : Nat) : Nat → mm_M
  | 0 => M
  | k + 1 => mr_tk1 (mr_tkI M b n k) b n k
def mr_tkO (M : mm_M) (N : Nat) (b : Int32) : Nat → mm_M
  | 0 => M
  | n + 1 => mr_tkI (mr_tkO M N b n) b n N
def mr_takes (M : mm_M) (N : Nat) (b : Int32) : mm_M := mr_tkO (mr_meN M N b 32) N b 32
theorem mr_eq_63 {M : mm_M} {n : Nat} {f : Nat → Int32} : mr_eq (mm_rowI M 63 n f).1 M.1 :=
  ⟨mm_rowI_o (by decide), mm_rowI_o (by decide), funext fun _ => mm_rowI_o (by decide), funext fun _ => mm_rowI_o (by decide), funext fun _ => mm_rowI_o (by decide), funext fun _ => mm_rowI_o (by decide), funext fun _ => mm_rowI_o (by decide)⟩
theorem mr_me_s {M : mm_M} {N : Nat} {b : Int32} {n : Nat} : mm_sI (mr_meN M N b n) 63 n (nm_fdJ (mr_sumN (mr_meN M N b n).1 N 62 b ((mr_meN M N b n).1 50 0 - 1 - 47 + nI n) N) (mr_allN M.1 N N).toInt64).toInt32 = mr_meN M N b (n + 1) := by
  have e1 : ∀ t, mr_sumN (mr_meN M N b n).1 N 62 b t N = mr_sumN M.1 N 62 b t N := fun t => mr_sumN_c mr_eq_63 (funext fun _ => mm_rowI_o (by decide)) N
  have e2 : (mr_meN M N b n).1 50 0 = M.1 50 0 := mm_rowI_o (by decide)
  rw [e1, e2]
  exact mm_rowI_s
theorem mr_tk1_o {M : mm_M} {b : Int32} {n k a j : Nat} (h : a ≠ 62) : (mr_tk1 M b n k).1 a j = M.1 a j := by
  unfold mr_tk1
  split
  · rfl
  · split
    · rfl
    · exact mm_sI_k h
theorem mr_tkI_o {M : mm_M} {b : Int32} {n a j : Nat} (h : a ≠ 62) : ∀ k, (mr_tkI M b n k).1 a j = M.1 a j
  | 0 => rfl
  | k + 1 => by rw [mr_tkI, mr_tk1_o h, mr_tkI_o h k]
theorem mr_tkO_o {M : mm_M} {N : Nat} {b : Int32} {a j : Nat} (h : a ≠ 62) : ∀ n, (mr_tkO M N b n).1 a j = M.1 a j
  | 0 => rfl
  | n + 1 => by rw [mr_tkO, mr_tkI_o h, mr_tkO_o h n]
theorem mr_takes_o {M : mm_M} {N : Nat} {b : Int32} {a j : Nat} (h : a ≠ 62) (h2 : a ≠ 63) : (mr_takes M N b).1 a j = M.1 a j := by
  rw [mr_takes, mr_tkO_o h]; exact mm_rowI_o h2
def mr_fd0 (M : mm_M) : mm_M := mm_rowI (mm_sI M 50 20 0) 62 512 (fun c => M.1 61 c)
theorem mr_fp_1 {M : mm_M} {N r : Nat} : (mr_fp M N r).1 = M.1 := rfl
def mr_fdg (M : mm_M) (N : Nat) : Nat := mr_gr ((mr_fp M N 62).2 64) 8
def mr_fd (N : Nat) : Nat → mm_M → Int32 × mm_M
  | 0, M => if lg_cmp ((mr_fp M N 62).2 64 (mr_fdg M N)) 0 = 0 then (-99, mr_fp M N 62) else (nI (mr_fdg M N) - 4, mr_fp M N 62)
  | r + 1, M => if lg_cmp ((mr_fp M N 62).2 64 (mr_fdg M N)) 0 = 0 then (-99, mr_fp M N 62) else mr_fd N r (mr_takes (mr_fp M N 62) N (nI (mr_fdg M N) - 4))
theorem mr_w_dead {F : mm_F} {x : Int32} {e N : Nat} (h : F 55 e = 0) : mr_w F x e N = 0 := if_pos h
theorem mr_sum_dead {F : mm_F} {N r : Nat} {b t : Int32} : ∀ n, (∀ k, k < n → F 55 k = 0) → mr_sumN F N r b t n = 0
  | 0, _ => rfl
  | n + 1, h => by rw [mr_sumN, mr_sum_dead n (fun k hk => h k (by omega)), mr_w_dead (h n (by omega))]; simp
theorem mr_pow_dead {F : mm_F} {N r : Nat} {b : Int32} (h : ∀ k, k < N → F 55 k = 0) : ∀ n, mr_powN F N r b n = 0
  | 0 => rfl
  | n + 1 => by rw [mr_powN, mr_pow_dead h n, mr_sum_dead N h]; simp
theorem mr_all_c {F F' : mm_F} (h : mr_eq F F') {N : Nat} : ∀ n, mr_allN F N n = mr_allN F' N n
  | 0 => rfl
  | n + 1 => by rw [mr_allN, mr_allN, mr_all_c h n, mr_w_c h]
def mr_like (M M' : mm_M) : Prop := ∀ k j, k ≠ 62 → k ≠ 63 → M.1 k j = M'.1 k j
theorem mr_like_eq {M M' : mm_M} (h : mr_like M M') : mr_eq M.1 M'.1 := ⟨h 50 0 (by decide) (by decide), h 50 15 (by decide) (by decide), funext fun j => h 51 j (by decide) (by decide), funext fun j => h 54 j (by decide) (by decide), funext fun j => h 55 j (by decide) (by decide), funext fun j => h 56 j (by decide) (by decide), funext fun j => h 57 j (by decide) (by decide)⟩
theorem mr_eq_tr {F G H : mm_F} (h : mr_eq F G) (g : mr_eq G H) : mr_eq F H := ⟨h.1.trans g.1, h.2.1.trans g.2.1, h.2.2.1.trans g.2.2.1, h.2.2.2.1.trans g.2.2.2.1, h.2.2.2.2.1.trans g.2.2.2.2.1, h.2.2.2.2.2.1.trans g.2.2.2.2.2.1, h.2.2.2.2.2.2.trans g.2.2.2.2.2.2⟩
theorem mr_fd_all {M M1 : mm_M} {N : Nat} (hl : mr_eq M1.1 M.1) (hall : (∃ k : Nat, k < N ∧ ¬ M.1 55 k = 0) → 0 < (mr_allN M.1 N N).toInt64.toInt) (hz : ¬ lg_cmp ((mr_fp M1 N 62).2 64 (mr_fdg M1 N)) 0 = 0) : 0 < (mr_allN M1.1 N N).toInt64.toInt := by
  rw [mr_all_c hl]
  refine hall (Classical.byContradiction fun hc => hz ?_)
  have hd : ∀ k, k < N → M1.1 55 k = 0 := fun k hk => Classical.byContradiction fun h9 => hc ⟨k, hk, by rw [← hl.2.2.2.2.1]; exact h9⟩
  have hle := mr_gr_le ((mr_fp M1 N 62).2 64) 8
  have e : (mr_fp M1 N 62).2 64 (mr_fdg M1 N) = mr_powN M1.1 N 62 (nI (mr_fdg M1 N) - 4) 32 := mm_row_i (by unfold mr_fdg; omega)
  rw [e, mr_pow_dead hd]; rfl
def mr_o (F : mm_F) (N : Nat) : Nat := (mr_low F N 0).toInt.toNat
def mr_sq (F : mm_F) (N : Nat) (x : Int32) : Int64 := mr_agN F (mr_o F N) 0 (mr_o F N) x 32
def mr_cak (F : mm_F) (N : Nat) (x : Int32) : Int32 := if nm_in x (-4) 4 = 0 then 1 else if mr_low F N 0 = -99 then 2 else if lg_cmp (mr_sq F N x) 0 = 0 then 2 else 0
def mr_cbM (M : mm_M) (o : Nat) (y : Int64) (b : Int32) : Nat → mm_M
  | 0 => mm_sI (mm_sI M 56 o 64) 57 o 0
  | n + 1 => if n ≤ o then mr_cbM M o y b n else if M.1 55 n = 0 then mr_cbM M o y b n else mm_sI (mm_sI (mr_cbM M o y b n) 56 n (mr_fitG (mr_cbM M o y b n).1 n o b y)) 57 n (mr_bL (mr_cbM M o y b n).1 n o b 6)
def mr_cbV (M : mm_M) (o : Nat) (y : Int64) (b : Int32) : Nat → Int32
  | 0 => if mr_becV M.1 o 64 0 = 0 then 0 else 1
  | n + 1 => if n ≤ o then mr_cbV M o y b n else if M.1 55 n = 0 then mr_cbV M o y b n else if mr_becV (mr_cbM M o y b n).1 n (mr_fitG (mr_cbM M o y b n).1 n o b y) (mr_bL (mr_cbM M o y b n).1 n o b 6) = 0 then mr_cbV M o y b n else mr_cbV M o y b n + 1
theorem mr_cb_0 {M : mm_M} {o : Nat} {y : Int64} {b : Int32} : ∀ n, n ≤ o + 1 → mr_cbM M o y b n = mr_cbM M o y b 0 ∧ mr_cbV M o y b n = mr_cbV M o y b 0
  | 0, _ => ⟨rfl, rfl⟩
  | n + 1, h => by
    have ih := mr_cb_0 (M := M) (o := o) (y := y) (b := b) n (by omega)
    exact ⟨(if_pos (by omega)).trans ih.1, (if_pos (by omega)).trans ih.2⟩
theorem mr_cbM_o {M : mm_M} {o : Nat} {y : Int64} {b : Int32} {k j : Nat} (h1 : k ≠ 56) (h2 : k ≠ 57) : ∀ n, (mr_cbM M o y b n).1 k j = M.1 k j
  | 0 => by rw [mr_cbM, mm_sI_k h2, mm_sI_k h1]
  | n + 1 => by
    rw [mr_cbM]
    split
    · exact mr_cbM_o h1 h2 n
    · split
      · exact mr_cbM_o h1 h2 n
      · rw [mm_sI_k h2, mm_sI_k h1, mr_cbM_o h1 h2 n]
theorem mr_low_c (F : mm_F) : ∀ r k, k + r ≤ 8 → mr_low F r k = -99 ∨ ∃ o : Nat, k ≤ o ∧ o < k + r ∧ mr_low F r k = nI o ∧ (¬ F 55 o = 0) ∧ ∀ j, k ≤ j → j < o → F 55 j = 0
  | 0, _, _ => Or.inl rfl
  | r + 1, k, h => by
    by_cases z : F 55 k = 0
    · have e : mr_low F (r + 1) k = mr_low F r (k + 1) := if_pos z
      rw [e]
      rcases mr_low_c F r (k + 1) (by omega) with h1 | ⟨o, h1, h2, h3, h4, h5⟩
      · exact Or.inl h1
      · refine Or.inr ⟨o, by omega, by omega, h3, h4, fun j hj1 hj2 => ?_⟩
        rcases Nat.eq_or_lt_of_le hj1 with rfl | h6
        · exact z
        · exact h5 j h6 hj2
    · exact Or.inr ⟨k, Nat.le_refl k, by omega, if_neg z, z, fun j h1 h2 => absurd h1 (by omega)⟩
theorem mr_o_c {F : mm_F} {N : Nat} (hN : N ≤ 8) (h : ¬ mr_low F N 0 = -99) : mr_low F N 0 = nI (mr_o F N) ∧ mr_o F N < N ∧ ¬ F 55 (mr_o F N) = 0 ∧ ∀ j, j < mr_o F N → F 55 j = 0 := by
  rcases mr_low_c F N 0 (by omega) with h1 | ⟨o, h1, h2, h3, h4, h5⟩
  · exact absurd h1 h
  · have e : mr_o F N = o := by rw [mr_o, h3, nI_toInt (by omega)]; omega
    rw [e]
    exact ⟨h3, by omega, h4, fun j hj => h5 j (Nat.zero_le j) hj⟩
