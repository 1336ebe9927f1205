/-- one call of the script, on both sides: the codes agree, the answers agree, and all is as before -/
def mq (M2 : mm_M) (code : Int32) (rr : Int64) (T : Nat) : Prop := M2.1 50 20 = code ∧ (code = 0 → M2.2 65 0 = rr) ∧ ∃ N' S' T' : Nat, T' ≤ T + 100 ∧ mk_R M2 N' S' T'
theorem mq_element {M M1 : mm_M} {N S T : Nat} (h : mk_R M N S T) (hT : T ≤ 59000) {x y z : Int32} (h1 : M1 = if mc_elk M x y z = 0 then mm_sL (mc_elS M N x y z) 65 0 (M.1 0 5).toInt64 else M) : M1.1 50 1 = nI N ∧ mq (if mr_elk M1.1 x y z = 0 then mr_elS M1 N x y z else mm_sI M1 50 20 (mr_elk M1.1 x y z)) (mc_elk M x y z) (if mr_elk M1.1 x y z = 0 then M1.1 50 1 + 1 - 1 else 0).toInt64 T := by
  have hN8 := h.N8
  by_cases z0 : mc_elk M x y z = 0
  · rw [if_pos z0] at h1
    have e1 : M1.1 = (mc_elS M N x y z).1 := by rw [h1]; rfl
    have e50 : M1.1 50 1 = M.1 50 1 := by
      rw [e1]
      unfold mc_elS mc_putUp
      rw [mm_sI_k (by omega), mm_sI_k (by omega), mm_sI_k (by omega), mm_sI_k (by omega), mm_sI_k (by omega), mm_sI_k (by omega), mm_sI_k (by omega), mm_sI_k (by omega)]
    have hk := mj_elk h e50 (x := x) (y := y) (z := z)
    obtain ⟨r1, r2, r3⟩ := mj_element h (by omega) z0 e1
    rw [hk, if_pos z0, if_pos z0]
    refine ⟨by rw [e50]; exact h.rN, r2.trans z0.symm, fun _ => ?_, N + 1, S, T, by omega, r1⟩
    show M1.2 65 0 = _
    rw [r3, h1]; exact mm_sL_s
  · rw [if_neg z0] at h1
    have hk := mj_elk h rfl (x := x) (y := y) (z := z)
    rw [h1, hk, if_neg z0, if_neg z0]
    exact ⟨h.rN, mm_sI_s, fun k => absurd k z0, N, S, T, by omega, mj_20 h rfl _⟩
theorem mq_alive {M M1 : mm_M} {N S T : Nat} (h : mk_R M N S T) {x y : Int32} (hy : y = 0 ∨ y = 1) (h1 : M1 = if mc_alk M x = 0 then mm_sL (mm_sI M (10 + x.toInt.toNat) 4 y) 65 0 (if M.1 (10 + x.toInt.toNat) 4 = 0 then 0 else 1) else M) : (M1.1 50 1 = nI N ∧ ∀ k : Nat, k < N → M1.1 55 k &&& 1 = M1.1 55 k) ∧ mq (if nm_in x 0 (M1.1 50 1 - 1) = 0 then mm_sI M1 50 20 1 else mm_sI (mm_sI M1 50 20 0) 55 x.toInt.toNat y) (mc_alk M x) (if (if nm_in x 0 (M1.1 50 1 - 1) = 0 then 0 else M1.1 55 x.toInt.toNat) = 0 then 0 else 1) T := by
  have hN8 := h.N8
  have hk := mj_alk h (x := x)
  have hal : ∀ k : Nat, k < N → M.1 55 k &&& 1 = M.1 55 k := fun k hk => by rcases (h.elB k hk).1 with e | e <;> rw [e] <;> rfl
  by_cases z0 : mc_alk M x = 0
  · rw [if_pos z0] at h1
    have e1 : M1.1 = (mm_sI M (10 + x.toInt.toNat) 4 y).1 := by rw [h1]; rfl
    have a : ¬ nm_in x 0 (M.1 50 1 - 1) = 0 := fun k => by rw [hk, if_pos k] at z0; exact absurd z0 (by decide)
    have hx := ((mj_isEl h x).2 a).2
    have e50 : ∀ k j : Nat, 50 ≤ k → M1.1 k j = M.1 k j := fun k j hk => by rw [e1, mm_sI_k (by omega)]
    obtain ⟨r1, r2, r3, r4⟩ := mj_alive h hy z0 e1
    rw [if_neg r2, if_neg r2]
    refine ⟨⟨by rw [e50 _ _ (by decide)]; exact h.rN, fun k hk => by rw [e50 _ _ (by decide)]; exact hal k hk⟩, ?_, fun _ => ?_, N, S, T, by omega, r1⟩
    · rw [mm_sI_k (by decide), mm_sI_s, z0]
    · show M1.2 65 0 = _
      rw [r3, h1]; exact mm_sL_s
  · rw [if_neg z0] at h1
    have a : nm_in x 0 (M.1 50 1 - 1) = 0 := Classical.byContradiction fun k => z0 (by rw [hk, if_neg k])
    rw [h1, if_pos a, if_pos a]
    exact ⟨⟨h.rN, hal⟩, by rw [hk, if_pos a]; exact mm_sI_s, fun k => absurd k z0, N, S, T, by omega, mj_20 h rfl _⟩
theorem mq_source {M M1 : mm_M} {N S T : Nat} (h : mk_R M N S T) {x y z : Int32} (h1 : M1 = if mc_sok M x y z = 0 then mm_sL (mc_soS M S x y z) 65 0 (M.1 0 6).toInt64 else M) : M1.1 50 9 = nI S ∧ mq (if mr_sok M1.1 x y z = 0 then mr_soS M1 S x y z else mm_sI M1 50 20 (mr_sok M1.1 x y z)) (mc_sok M x y z) (if mr_sok M1.1 x y z = 0 then M1.1 50 9 + 1 - 1 else 0).toInt64 T := by
  have hS4 := h.S4
  by_cases z0 : mc_sok M x y z = 0
  · rw [if_pos z0] at h1
    have e1 : M1.1 = (mc_soS M S x y z).1 := by rw [h1]; rfl
    have e50 : M1.1 50 9 = M.1 50 9 := by
      rw [e1]
      unfold mc_soS
      rw [mm_sI_k (by omega), mm_sI_k (by omega), mm_sI_k (by omega), mm_sI_k (by omega)]
    have hk := mj_sok h e50 (x := x) (y := y) (z := z)
    obtain ⟨r1, r2, r3⟩ := mj_source h z0 e1
    rw [hk, if_pos z0, if_pos z0]
    refine ⟨by rw [e50]; exact h.rS, r2.trans z0.symm, fun _ => ?_, N, S + 1, T, by omega, r1⟩
    show M1.2 65 0 = _
    rw [r3, h1]; exact mm_sL_s
  · rw [if_neg z0] at h1
    have hk := mj_sok h rfl (x := x) (y := y) (z := z)
    rw [h1, hk, if_neg z0, if_neg z0]
    exact ⟨h.rS, mm_sI_s, fun k => absurd k z0, N, S, T, by omega, mj_20 h rfl _⟩
theorem mq_noise {M M1 : mm_M} {N S T : Nat} (h : mk_R M N S T) {x y : Int32} (h1 : M1 = if mr_nok x y = 0 then mm_sL (mm_sI (mm_sI M 3 0 x) 3 1 y) 65 0 (M.1 3 0).toInt64 else M) : mq (if mr_nok x y = 0 then mm_sI (mm_sI (mm_sI M1 50 20 0) 50 13 x) 50 14 y else mm_sI M1 50 20 1) (mr_nok x y) (if mr_nok x y = 0 then M1.1 50 13 else 0).toInt64 T := by
  by_cases z0 : mr_nok x y = 0
  · rw [if_pos z0] at h1
    have e1 : M1.1 = (mm_sI (mm_sI M 3 0 x) 3 1 y).1 := by rw [h1]; rfl
    obtain ⟨r1, r3⟩ := mj_noise h z0 e1
    rw [if_pos z0, if_pos z0]
    refine ⟨?_, fun _ => ?_, N, S, T, by omega, r1⟩
    · rw [mm_sI_j (by decide), mm_sI_j (by decide), mm_sI_s, z0]
    · show M1.2 65 0 = _
      rw [r3, h1]; exact mm_sL_s
  · rw [if_neg z0] at h1
    have e1 : mr_nok x y = 1 := by
      unfold mr_nok at z0 ⊢
      split
      · rfl
      · split
        · rfl
        · rename_i a b; rw [if_neg a, if_neg b] at z0; exact absurd rfl z0
    rw [h1, if_neg z0, if_neg z0]
    exact ⟨by rw [e1]; exact mm_sI_s, fun k => absurd k z0, N, S, T, by omega, mj_20 h rfl _⟩
theorem mq_window {M M1 : mm_M} {N S T : Nat} (h : mk_R M N S T) {x : Int32} (h1 : M1 = if mc_wik x = 0 then mm_sL (mm_sI M 0 7 x) 65 0 (M.1 0 7).toInt64 else M) : mq (if nm_in x 0 2 = 0 then mm_sI M1 50 20 1 else mm_sI (mm_sI M1 50 20 0) 50 15 x) (mc_wik x) (if nm_in x 0 2 = 0 then 0 else M1.1 50 15).toInt64 T := by
  unfold mc_wik at h1 ⊢
  by_cases a : nm_in x 0 2 = 0
  · rw [if_pos a, if_neg (by decide)] at h1
    rw [h1, if_pos a, if_pos a, if_pos a]
    exact ⟨mm_sI_s, fun k => absurd k (by decide), N, S, T, by omega, mj_20 h rfl _⟩
  · rw [if_neg a, if_pos rfl] at h1
    obtain ⟨r1, r3⟩ := mj_window (M1 := M1) h a (by rw [h1]; rfl)
    rw [if_neg a, if_neg a, if_neg a]
    refine ⟨?_, fun _ => ?_, N, S, T, by omega, r1⟩
    · rw [mm_sI_j (by decide), mm_sI_s]
    · show M1.2 65 0 = _
      rw [r3, h1]; exact mm_sL_s
