theorem mj_elk {M M1 : mm_M} {N S T : Nat} (h : mk_R M N S T) (h1 : M1.1 50 1 = M.1 50 1) {x y z : Int32} : mr_elk M1.1 x y z = mc_elk M x y z := by
  have hN8 := h.N8
  have e0 : (0 : Int32).toInt = 0 := rfl
  have hTi : (nI N).toInt = (N : Int) := nI_toInt (by omega)
  have h8 : (nI 8).toInt = 8 := nI_toInt (by omega)
  unfold mr_elk mc_elk
  rw [h1, h.rN, h.cN]
  have hq : (if nI N = 8 then (2 : Int32) else 0) = if nI N < 0 then 2 else if nI N < nI 8 then 0 else 2 := by
    rw [if_neg (show ¬ nI N < 0 from fun k => by have := Int32.lt_iff_toInt_lt.mp k; omega)]
    by_cases a : N = 8
    · subst a; rfl
    · rw [if_neg (fun k => by have := congrArg Int32.toInt k; rw [hTi] at this; have e8 : (8 : Int32).toInt = 8 := rfl; omega), if_pos (Int32.lt_iff_toInt_lt.mpr (by rw [hTi, h8]; omega))]
  rw [hq]
theorem mj_elk0 {M : mm_M} {N S T : Nat} (h : mk_R M N S T) {x y z : Int32} (hc : mc_elk M x y z = 0) : N < 8 ∧ (0 ≤ x.toInt ∧ x.toInt ≤ 12) ∧ (32 ≤ y.toInt ∧ y.toInt ≤ 96) ∧ (-3 ≤ z.toInt ∧ z.toInt ≤ 3) := by
  have hN8 := h.N8
  have hTi : (nI N).toInt = (N : Int) := nI_toInt (by omega)
  have h8 : (nI 8).toInt = 8 := nI_toInt (by omega)
  have e0 : (0 : Int32).toInt = 0 := rfl
  have e12 : (12 : Int32).toInt = 12 := rfl
  have e32 : (32 : Int32).toInt = 32 := rfl
  have e96 : (96 : Int32).toInt = 96 := rfl
  have e3 : (3 : Int32).toInt = 3 := rfl
  have em : (-3 : Int32).toInt = -3 := rfl
  unfold mc_elk at hc
  by_cases a : nm_in x 0 12 = 0
  · rw [if_pos a] at hc; exact absurd hc (by decide)
  · rw [if_neg a] at hc
    by_cases b : nm_in y 32 96 = 0
    · rw [if_pos b] at hc; exact absurd hc (by decide)
    · rw [if_neg b] at hc
      by_cases c : nm_in z (-3) 3 = 0
      · rw [if_pos c] at hc; exact absurd hc (by decide)
      · rw [if_neg c, h.cN] at hc
        have a1 := mj_in a
        have b1 := mj_in b
        have c1 := mj_in c
        rw [e0, e12] at a1
        rw [e32, e96] at b1
        rw [em, e3] at c1
        refine ⟨?_, a1, b1, c1⟩
        by_cases d : nI N < 0
        · have := Int32.lt_iff_toInt_lt.mp d; omega
        · rw [if_neg d] at hc
          by_cases g : nI N < nI 8
          · have := Int32.lt_iff_toInt_lt.mp g; omega
          · rw [if_neg g] at hc; exact absurd hc (by decide)
theorem mj_element {M M1 : mm_M} {N S T : Nat} (h : mk_R M N S T) (hT : T ≤ 60000) {x y z : Int32} (hc : mc_elk M x y z = 0) (h1 : M1.1 = (mc_elS M N x y z).1) : mk_R (mr_elS M1 N x y z) (N + 1) S T ∧ (mr_elS M1 N x y z).1 50 20 = 0 ∧ M1.1 50 1 + 1 - 1 = M.1 0 5 := by
  obtain ⟨hN, hx, hy, hz⟩ := mj_elk0 h hc
  have hS := h.S4
  have co : ∀ k j : Nat, ¬ (k = 0 ∧ j = 5) → k ≠ 10 + N → k ≠ 18 + N → M1.1 k j = M.1 k j := fun k j a b c => by
    rw [h1]
    unfold mc_elS mc_putUp
    rw [mm_sI_1, if_neg a, mm_sI_k c, mm_sI_k c, mm_sI_k b, mm_sI_k b, mm_sI_k b, mm_sI_k b, mm_sI_k b]
  have c5 : M1.1 0 5 = M.1 0 5 + 1 := by rw [h1]; unfold mc_elS; exact mm_sI_s
  have zc : ∀ k j : Nat, k < 50 → (mr_elS M1 N x y z).1 k j = M1.1 k j := fun k j hk => by
    unfold mr_elS
    rw [mm_sI_k (by omega), mm_sI_k (by omega), mm_sI_k (by omega), mm_sI_k (by omega), mm_sI_k (by omega), mm_sI_k (by omega), mm_sI_k (by omega), mm_sI_k (by omega), mm_sI_k (by omega)]
  have c0 : ∀ k j : Nat, k < 50 → ¬ (k = 0 ∧ j = 5) → k ≠ 10 + N → k ≠ 18 + N → (mr_elS M1 N x y z).1 k j = M.1 k j := fun k j a b c d => by rw [zc k j a, co k j b c d]
  have f0 : ∀ k j : Nat, 50 ≤ k → k < 62 → ¬ (k = 50 ∧ (j = 1 ∨ j = 20)) → ¬ (50 < k ∧ k < 58 ∧ j = N) → (mr_elS M1 N x y z).1 k j = M.1 k j := fun k j a a2 b c => by
    unfold mr_elS
    rw [mm_sI_1, if_neg (by omega), mm_sI_1, if_neg (by omega), mm_sI_1, if_neg (by omega), mm_sI_1, if_neg (by omega), mm_sI_1, if_neg (by omega), mm_sI_1, if_neg (by omega), mm_sI_1, if_neg (by omega), mm_sI_1, if_neg (by omega), mm_sI_1, if_neg (by omega), co k j (by omega) (by omega) (by omega)]
  have n3 : (mr_elS M1 N x y z).1 (10 + N) 3 = 1 := by rw [zc _ _ (by omega), h1]; unfold mc_elS mc_putUp; simp [mm_sI_1]
  have n4 : (mr_elS M1 N x y z).1 (10 + N) 4 = 1 := by rw [zc _ _ (by omega), h1]; unfold mc_elS mc_putUp; simp [mm_sI_1]
  have n5 : (mr_elS M1 N x y z).1 (10 + N) 5 = x := by rw [zc _ _ (by omega), h1]; unfold mc_elS mc_putUp; simp [mm_sI_1]
  have n6 : (mr_elS M1 N x y z).1 (10 + N) 6 = y := by rw [zc _ _ (by omega), h1]; unfold mc_elS mc_putUp; simp [mm_sI_1]
  have n7 : (mr_elS M1 N x y z).1 (10 + N) 7 = z := by rw [zc _ _ (by omega), h1]; unfold mc_elS mc_putUp; simp [mm_sI_1]
  have n8 : (mr_elS M1 N x y z).1 (10 + N) 8 = 64 := by rw [zc _ _ (by omega), h1]; unfold mc_elS mc_putUp; simp [mm_sI_1]; exact (h.up N (Nat.le_refl N) hN).2.2.1
  have n9 : (mr_elS M1 N x y z).1 (10 + N) 9 = 0 := by rw [zc _ _ (by omega), h1]; unfold mc_elS mc_putUp; simp [mm_sI_1]; exact (h.up N (Nat.le_refl N) hN).2.2.2.1
  have t1 : (mr_elS M1 N x y z).1 (18 + N) 1 = nI T := by rw [zc _ _ (by omega), h1]; unfold mc_elS mc_putUp; simp [mm_sI_1]; exact h.cT
  have t2 : (mr_elS M1 N x y z).1 (18 + N) 2 = nI T := by rw [zc _ _ (by omega), h1]; unfold mc_elS mc_putUp; simp [mm_sI_1]; exact h.cT
  have q51 : (mr_elS M1 N x y z).1 51 N = x := by unfold mr_elS; simp [mm_sI_1]
  have q52 : (mr_elS M1 N x y z).1 52 N = y := by unfold mr_elS; simp [mm_sI_1]
  have q53 : (mr_elS M1 N x y z).1 53 N = z := by unfold mr_elS; simp [mm_sI_1]
  have q54 : (mr_elS M1 N x y z).1 54 N = nI T := by unfold mr_elS; simp [mm_sI_1]; rw [co _ _ (by omega) (by omega) (by omega)]; exact h.rT
  have q55 : (mr_elS M1 N x y z).1 55 N = 1 := by unfold mr_elS; simp [mm_sI_1]
  have q56 : (mr_elS M1 N x y z).1 56 N = 64 := by unfold mr_elS; simp [mm_sI_1]
  have q57 : (mr_elS M1 N x y z).1 57 N = 0 := by unfold mr_elS; simp [mm_sI_1]
  have q1 : (mr_elS M1 N x y z).1 50 1 = nI (N + 1) := by unfold mr_elS; rw [mm_sI_s, co _ _ (by omega) (by omega) (by omega), h.rN, nI_1]
  have q20 : (mr_elS M1 N x y z).1 50 20 = 0 := by unfold mr_elS; simp [mm_sI_1]
  refine ⟨?_, q20, ?_⟩
  · refine ⟨?_, q1, by omega, ?_, ?_, hS, ?_, ?_, ?_, ?_, ?_, ?_, ?_, ?_, fun j hj => ?_, fun j hj => ?_, fun e he => ?_, fun e he => ?_, fun e g1 g2 => ?_, fun e he c hc9 => ?_, fun e he c hc9 => ?_⟩
    · rw [zc _ _ (by omega), c5, h.cN, nI_1]
    · rw [c0 _ _ (by omega) (by omega) (by omega) (by omega)]; exact h.cS
    · rw [f0 _ _ (by omega) (by omega) (by omega) (by omega)]; exact h.rS
    · rw [c0 _ _ (by omega) (by omega) (by omega) (by omega)]; exact h.cT
    · rw [f0 _ _ (by omega) (by omega) (by omega) (by omega)]; exact h.rT
    · rw [c0 _ _ (by omega) (by omega) (by omega) (by omega), f0 _ _ (by omega) (by omega) (by omega) (by omega)]; exact h.sh
    · rw [f0 _ _ (by omega) (by omega) (by omega) (by omega)]; exact h.shB
    · rw [c0 _ _ (by omega) (by omega) (by omega) (by omega), f0 _ _ (by omega) (by omega) (by omega) (by omega)]; exact h.ha
    · rw [f0 _ _ (by omega) (by omega) (by omega) (by omega)]; exact h.haB
    · rw [c0 _ _ (by omega) (by omega) (by omega) (by omega), f0 _ _ (by omega) (by omega) (by omega) (by omega)]; exact h.hs
    · rw [f0 _ _ (by omega) (by omega) (by omega) (by omega)]; exact h.hsB
    · rw [c0 (6 + j) 0 (by omega) (by omega) (by omega) (by omega), c0 (6 + j) 1 (by omega) (by omega) (by omega) (by omega), c0 (6 + j) 2 (by omega) (by omega) (by omega) (by omega), f0 58 j (by omega) (by omega) (by omega) (by omega), f0 59 j (by omega) (by omega) (by omega) (by omega), f0 60 j (by omega) (by omega) (by omega) (by omega)]; exact h.so j hj
    · rw [f0 58 j (by omega) (by omega) (by omega) (by omega), f0 59 j (by omega) (by omega) (by omega) (by omega), f0 60 j (by omega) (by omega) (by omega) (by omega)]; exact h.soB j hj
    · by_cases g : e = N
      · subst g
        rw [n3, n4, n5, n6, n7, n8, n9, t1, t2, q51, q52, q53, q54, q55, q56, q57]
        exact ⟨rfl, rfl, rfl, rfl, rfl, rfl, rfl, rfl, rfl⟩
      · rw [c0 (10 + e) 3 (by omega) (by omega) (by omega) (by omega), c0 (10 + e) 4 (by omega) (by omega) (by omega) (by omega), c0 (10 + e) 5 (by omega) (by omega) (by omega) (by omega), c0 (10 + e) 6 (by omega) (by omega) (by omega) (by omega), c0 (10 + e) 7 (by omega) (by omega) (by omega) (by omega), c0 (10 + e) 8 (by omega) (by omega) (by omega) (by omega), c0 (10 + e) 9 (by omega) (by omega) (by omega) (by omega), c0 (18 + e) 1 (by omega) (by omega) (by omega) (by omega), c0 (18 + e) 2 (by omega) (by omega) (by omega) (by omega), f0 55 e (by omega) (by omega) (by omega) (by omega), f0 51 e (by omega) (by omega) (by omega) (by omega), f0 52 e (by omega) (by omega) (by omega) (by omega), f0 53 e (by omega) (by omega) (by omega) (by omega), f0 56 e (by omega) (by omega) (by omega) (by omega), f0 57 e (by omega) (by omega) (by omega) (by omega), f0 54 e (by omega) (by omega) (by omega) (by omega)]
        exact h.el e (by omega)
    · by_cases g : e = N
      · subst g
        rw [q51, q52, q53, q54, q55, q56, q57]
        refine ⟨Or.inr rfl, hx, hy, hz, by decide, by decide, ?_⟩
        rw [nI_toInt (by omega)]; omega
      · rw [f0 55 e (by omega) (by omega) (by omega) (by omega), f0 51 e (by omega) (by omega) (by omega) (by omega), f0 52 e (by omega) (by omega) (by omega) (by omega), f0 53 e (by omega) (by omega) (by omega) (by omega), f0 56 e (by omega) (by omega) (by omega) (by omega), f0 57 e (by omega) (by omega) (by omega) (by omega), f0 54 e (by omega) (by omega) (by omega) (by omega)]
        exact h.elB e (by omega)
    · rw [c0 (10 + e) 3 (by omega) (by omega) (by omega) (by omega), c0 (10 + e) 4 (by omega) (by omega) (by omega) (by omega), c0 (10 + e) 8 (by omega) (by omega) (by omega) (by omega), c0 (10 + e) 9 (by omega) (by omega) (by omega) (by omega), c0 (18 + e) 1 (by omega) (by omega) (by omega) (by omega), c0 (18 + e) 2 (by omega) (by omega) (by omega) (by omega)]; exact h.up e (by omega) g2
    · rw [c0 _ _ (by omega) (by omega) (by omega) (by omega), f0 _ _ (by omega) (by omega) (by omega) (by omega)]; exact h.sl e he c hc9
    · rw [f0 _ _ (by omega) (by omega) (by omega) (by omega)]; exact h.slB e he c hc9
  · rw [co _ _ (by omega) (by omega) (by omega), h.rN, h.cN, Int32.add_sub_cancel]
