/-- C: the weights, by counting -/
def mk_c (F : mm_F) : Nat → Nat
  | 0 => 0
  | n + 1 => mk_c F n + (if F 55 n = 0 then 0 else 1)
def mk_a (F : mm_F) (e : Nat) : Nat → Nat
  | 0 => 0
  | n + 1 => mk_a F e n + (if F 55 n = 0 then 0 else if e ≤ n then 0 else 1)
def mk_d (F : mm_F) (e : Nat) : Nat → Nat
  | 0 => 0
  | n + 1 => mk_d F e n + (if F 55 n = 0 then 0 else if n ≤ e then 0 else 1)
theorem mk_c_le (F : mm_F) : ∀ n, mk_c F n ≤ n
  | 0 => Nat.le_refl _
  | n + 1 => by rw [mk_c]; have := mk_c_le F n; split <;> omega
theorem mk_a_c (F : mm_F) (e : Nat) : ∀ n, mk_a F e n = mk_c F (if n ≤ e then n else e)
  | 0 => by rw [if_pos (Nat.zero_le _)]; rfl
  | n + 1 => by
    rw [mk_a, mk_a_c F e n]
    by_cases h : e ≤ n
    · rw [if_neg (show ¬ n + 1 ≤ e by omega)]
      by_cases h2 : n ≤ e
      · rw [if_pos h2, show n = e from by omega]; simp
      · rw [if_neg h2]; simp [h]
    · rw [if_pos (show n ≤ e by omega), if_pos (show n + 1 ≤ e by omega), mk_c, if_neg h]
theorem mk_d_c (F : mm_F) (e : Nat) : ∀ n, mk_d F e n + mk_c F (if n ≤ e + 1 then n else e + 1) = mk_c F n
  | 0 => by rw [if_pos (Nat.zero_le _)]; rfl
  | n + 1 => by
    have ih := mk_d_c F e n
    rw [mk_d]
    by_cases h : n ≤ e
    · rw [if_pos (show n ≤ e + 1 by omega)] at ih
      rw [if_pos (show n + 1 ≤ e + 1 by omega), if_pos h]
      have e0 : mk_d F e n = 0 := by omega
      simp [e0]
    · rw [if_neg (show ¬ n + 1 ≤ e + 1 by omega), if_neg h, show mk_c F (n + 1) = mk_c F n + (if F 55 n = 0 then 0 else 1) from rfl]
      have e1 : mk_c F (if n ≤ e + 1 then n else e + 1) = mk_c F (e + 1) := by
        by_cases h2 : n ≤ e + 1
        · rw [if_pos h2, show n = e + 1 from by omega]
        · rw [if_neg h2]
      omega
theorem mk_nI0 {a : Nat} (h : a < 100) : nI a = 0 ↔ a = 0 := by
  constructor
  · intro z
    have e := nI_toInt (n := a) (by omega)
    rw [z] at e
    have e0 : (0 : Int32).toInt = 0 := rfl
    omega
  · rintro rfl; rfl
theorem mk_ah (F : mm_F) (e : Nat) (he : e < 100) : ∀ n, n < 100 → mr_ah F (nI e) n = nI (mk_a F e n)
  | 0, _ => rfl
  | n + 1, hn => by
    rw [mr_ah, mk_a, mk_ah F e he n (by omega)]
    by_cases z : F 55 n = 0
    · rw [if_pos z, if_pos z]; simp
    · rw [if_neg z, if_neg z]
      by_cases y : e ≤ n
      · rw [if_pos y, if_pos ((nI_leI (by omega) (by omega)).mpr y)]; simp
      · rw [if_neg y, if_neg (fun k => y ((nI_leI (by omega) (by omega)).mp k)), nI_1]
theorem mk_bh (F : mm_F) (e : Nat) (he : e < 100) : ∀ n, n < 100 → mr_bh F (nI e) n = nI (mk_d F e n)
  | 0, _ => rfl
  | n + 1, hn => by
    rw [mr_bh, mk_d, mk_bh F e he n (by omega)]
    by_cases z : F 55 n = 0
    · rw [if_pos z, if_pos z]; simp
    · rw [if_neg z, if_neg z]
      by_cases y : n ≤ e
      · rw [if_pos y, if_pos ((nI_leI (by omega) (by omega)).mpr y)]; simp
      · rw [if_neg y, if_neg (fun k => y ((nI_leI (by omega) (by omega)).mp k)), nI_1]
theorem mk_liv {M : mm_M} {N S T : Nat} (h : mk_R M N S T) : ∀ n, n ≤ 8 → mc_liv M n = nI (mk_c M.1 (if n ≤ N then n else N))
  | 0, _ => by rw [if_pos (Nat.zero_le _)]; rfl
  | n + 1, hn => by
    rw [mc_liv, mk_liv h n (by omega), h.lv n (by omega)]
    by_cases z : n < N
    · rw [if_pos z, if_pos (show n ≤ N by omega), if_pos (show n + 1 ≤ N by omega), mk_c]
      by_cases y : M.1 55 n = 0
      · rw [if_pos y, if_pos y]; simp
      · rw [if_neg y, if_neg y, nI_1]
    · rw [if_neg z, if_pos rfl, if_neg (show ¬ n + 1 ≤ N by omega)]
      by_cases y : n ≤ N
      · rw [if_pos y, show n = N from by omega]; simp
      · rw [if_neg y]; simp
def mk_wN (sh : Int32) (a d : Nat) : Nat := if sh = 1 then 1 + (if d ≤ a then d else a) else if sh = 2 then (if a = 0 then 3 else if d = 0 then 3 else 1) else 1
def mk_wt (M : mm_M) (e N : Nat) : Nat := if M.1 55 e = 0 then 0 else mk_wN (M.1 50 15) (mk_c M.1 e) (mk_d M.1 e N)
theorem mk_w_sum {M : mm_M} {N e : Nat} (he : e < N) (z : ¬ M.1 55 e = 0) : mk_d M.1 e N + mk_c M.1 e + 1 = mk_c M.1 N := by
  have h1 := mk_d_c M.1 e N
  have h2 : mk_c M.1 (if N ≤ e + 1 then N else e + 1) = mk_c M.1 e + 1 := by
    have h3 : (if N ≤ e + 1 then N else e + 1) = e + 1 := by split <;> omega
    rw [h3, mk_c, if_neg z]
  omega
theorem mk_w_c {M : mm_M} {N S T : Nat} (h : mk_R M N S T) {e : Nat} (he : e < N) : mc_w M e = nI (mk_wt M e N) := by
  have hN8 := h.N8
  unfold mc_w mk_wt
  rw [h.lv e (by omega), if_pos he]
  by_cases z : M.1 55 e = 0
  · rw [if_pos z, if_pos z]; rfl
  · rw [if_neg z, if_neg z, mk_liv h e (by omega), mk_liv h 8 (Nat.le_refl 8), if_pos (Nat.le_of_lt he)]
    have hs := mk_w_sum he z
    have hc := mk_c_le M.1 N
    have h8 : mk_c M.1 (if 8 ≤ N then 8 else N) = mk_c M.1 N := by
      by_cases y : 8 ≤ N
      · rw [if_pos y, show N = 8 from by omega]
      · rw [if_neg y]
    rw [h8]
    generalize mk_c M.1 e = a at *
    generalize mk_d M.1 e N = d at *
    have hd : nI (mk_c M.1 N) - 1 - nI a = nI d := by
      rw [← hs]
      rw [← nI_1]
      have e1 : nI (d + a) = nI d + nI a := by
        have hx : (nI d + nI a).toInt = ((d + a : Nat) : Int) := by
          rw [mk_ia] <;> rw [nI_toInt (by omega), nI_toInt (by omega)] <;> omega
        rw [mk_eqI hx, ← Int32.ofInt_toInt (nI (d + a)), nI_toInt (by omega)]
      rw [e1]
      have e2 : nI d + nI a + 1 - 1 - nI a = nI d := by
        rw [Int32.add_sub_cancel, Int32.add_sub_cancel]
      exact e2
    unfold mc_wt mk_wN
    rw [hd, h.sh]
    by_cases s1 : M.1 50 15 = 1
    · rw [if_pos s1, if_pos s1]
      by_cases y : d ≤ a
      · rw [if_pos y, Nat.add_comm, ← nI_1]
        by_cases y2 : d = a
        · rw [y2]; split <;> rw [Int32.add_comm]
        · rw [if_pos (Int32.lt_iff_toInt_lt.mpr (by rw [nI_toInt (by omega), nI_toInt (by omega)]; omega)), Int32.add_comm]
      · rw [if_neg y, Nat.add_comm, ← nI_1, if_neg (fun k => by have := Int32.lt_iff_toInt_lt.mp k; rw [nI_toInt (by omega), nI_toInt (by omega)] at this; omega), Int32.add_comm]
    · rw [if_neg s1, if_neg s1]
      by_cases s2 : M.1 50 15 = 2
      · rw [if_pos s2, if_pos s2]
        by_cases y : a = 0
        · rw [if_pos y, if_pos ((mk_nI0 (by omega)).mpr y)]; rfl
        · rw [if_neg y, if_neg (fun k => y ((mk_nI0 (by omega)).mp k))]
          by_cases y2 : d = 0
          · rw [if_pos y2, if_pos ((mk_nI0 (by omega)).mpr y2)]; rfl
          · rw [if_neg y2, if_neg (fun k => y2 ((mk_nI0 (by omega)).mp k))]; rfl
      · rw [if_neg s2, if_neg s2]; rfl
theorem mk_w_r {M : mm_M} {N S T : Nat} (h : mk_R M N S T) {e : Nat} (he : e < N) : mr_w M.1 (nI e) e N = nI (mk_wt M e N) := by
  have hN8 := h.N8
  unfold mr_w mk_wt
  by_cases z : M.1 55 e = 0
  · rw [if_pos z, if_pos z]; rfl
  · rw [if_neg z, if_neg z]
    unfold mr_least
    rw [mk_ah M.1 e (by omega) N (by omega), mk_bh M.1 e (by omega) N (by omega), mk_a_c, if_neg (show ¬ N ≤ e by omega)]
    have hs := mk_w_sum he z
    have hc := mk_c_le M.1 N
    generalize mk_c M.1 e = a at *
    generalize mk_d M.1 e N = d at *
    have hle : nI d ≤ nI a ↔ d ≤ a := nI_leI (by omega) (by omega)
    rcases h.shB with s | s | s
    · rw [s, if_pos rfl, show mk_wN 0 a d = 1 from rfl]; rfl
    · rw [s, if_neg (by decide), if_pos rfl, show mk_wN 1 a d = 1 + (if d ≤ a then d else a) from rfl]
      by_cases y : d ≤ a
      · rw [if_pos y, if_pos (hle.mpr y), Nat.add_comm, ← nI_1, Int32.add_comm]
      · rw [if_neg y, if_neg (fun k => y (hle.mp k)), Nat.add_comm, ← nI_1, Int32.add_comm]
    · rw [s, if_neg (by decide), if_neg (by decide), show mk_wN 2 a d = (if a = 0 then 3 else if d = 0 then 3 else 1) from rfl]
      by_cases y : d ≤ a
      · rw [if_pos (hle.mpr y)]
        by_cases y2 : d = 0
        · rw [if_pos ((mk_nI0 (by omega)).mpr y2)]
          by_cases y3 : a = 0
          · rw [if_pos y3]; rfl
          · rw [if_neg y3, if_pos y2]; rfl
        · rw [if_neg (fun k => y2 ((mk_nI0 (by omega)).mp k)), if_neg (by omega), if_neg y2]; rfl
      · rw [if_neg (fun k => y (hle.mp k))]
        by_cases y2 : a = 0
        · rw [if_pos ((mk_nI0 (by omega)).mpr y2), if_pos y2]; rfl
        · rw [if_neg (fun k => y2 ((mk_nI0 (by omega)).mp k)), if_neg y2, if_neg (by omega)]; rfl
theorem mk_wtB {M : mm_M} {N S T : Nat} (h : mk_R M N S T) {e : Nat} (he : e < N) : mk_wt M e N ≤ 5 ∧ (¬ M.1 55 e = 0 → 1 ≤ mk_wt M e N) := by
  have hN8 := h.N8
  unfold mk_wt
  by_cases z : M.1 55 e = 0
  · rw [if_pos z]; exact ⟨by omega, fun k => absurd z k⟩
  · rw [if_neg z]
    have hs := mk_w_sum he z
    have hc := mk_c_le M.1 N
    unfold mk_wN
    constructor
    · split
      · split <;> omega
      · split
        · split
          · omega
          · split <;> omega
        · omega
    · intro _
      split
      · omega
      · split
        · split
          · omega
          · split <;> omega
        · omega
theorem mk_w_n {M : mm_M} {N S T : Nat} (h : mk_R M N S T) {e : Nat} (he : N ≤ e) (h8 : e < 8) : mc_w M e = 0 := mc_w_0 ((h.up e he h8).2.1)
