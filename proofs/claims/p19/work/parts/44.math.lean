theorem mj_alk {M : mm_M} {N S T : Nat} (h : mk_R M N S T) {x : Int32} : mc_alk M x = if nm_in x 0 (M.1 50 1 - 1) = 0 then 1 else 0 := by unfold mc_alk; rw [(mj_isEl h x).1]
theorem mj_alive {M M1 : mm_M} {N S T : Nat} (h : mk_R M N S T) {x y : Int32} (hy : y = 0 ∨ y = 1) (hc : mc_alk M x = 0) (h1 : M1.1 = (mm_sI M (10 + x.toInt.toNat) 4 y).1) : mk_R (mm_sI (mm_sI M1 50 20 0) 55 x.toInt.toNat y) N S T ∧ ¬ nm_in x 0 (M1.1 50 1 - 1) = 0 ∧ M1.1 55 x.toInt.toNat = M.1 (10 + x.toInt.toNat) 4 ∧ (M.1 (10 + x.toInt.toNat) 4 = 0 ∨ M.1 (10 + x.toInt.toNat) 4 = 1) := by
  have hN8 := h.N8
  have hS := h.S4
  rw [mj_alk h] at hc
  have a : ¬ nm_in x 0 (M.1 50 1 - 1) = 0 := fun k => by rw [if_pos k] at hc; exact absurd hc (by decide)
  have hx := ((mj_isEl h x).2 a).2
  generalize x.toInt.toNat = i at *
  have hi : ∀ k j : Nat, ¬ (k = 10 + i ∧ j = 4) → M1.1 k j = M.1 k j := fun k j b => by rw [h1, mm_sI_1, if_neg b]
  have c0 : ∀ k j : Nat, k < 50 → ¬ (k = 10 + i ∧ j = 4) → (mm_sI (mm_sI M1 50 20 0) 55 i y).1 k j = M.1 k j := fun k j b c => by rw [mm_sI_k (by omega), mm_sI_k (by omega), hi k j c]
  have f0 : ∀ k j : Nat, 50 ≤ k → ¬ (k = 50 ∧ j = 20) → ¬ (k = 55 ∧ j = i) → (mm_sI (mm_sI M1 50 20 0) 55 i y).1 k j = M.1 k j := fun k j b c d => by rw [mm_sI_1, if_neg d, mm_sI_1, if_neg c, hi k j (by omega)]
  have n4 : (mm_sI (mm_sI M1 50 20 0) 55 i y).1 (10 + i) 4 = y := by rw [mm_sI_k (by omega), mm_sI_k (by omega), h1, mm_sI_s]
  have n55 : (mm_sI (mm_sI M1 50 20 0) 55 i y).1 55 i = y := mm_sI_s
  refine ⟨?_, by rw [hi _ _ (by omega)]; exact a, by rw [hi _ _ (by omega)]; exact (h.el i hx).2.1.symm, by rw [(h.el i hx).2.1]; exact (h.elB i hx).1⟩
  refine ⟨?_, ?_, h.N8, ?_, ?_, h.S4, ?_, ?_, ?_, ?_, ?_, ?_, ?_, ?_, fun j hj => ?_, fun j hj => ?_, fun e he => ?_, fun e he => ?_, fun e g1 g2 => ?_, fun e he c hc9 => ?_, fun e he c hc9 => ?_⟩
  · rw [c0 0 5 (by omega) (by omega)]; exact h.cN
  · rw [f0 50 1 (by omega) (by omega) (by omega)]; exact h.rN
  · rw [c0 0 6 (by omega) (by omega)]; exact h.cS
  · rw [f0 50 9 (by omega) (by omega) (by omega)]; exact h.rS
  · rw [c0 0 8 (by omega) (by omega)]; exact h.cT
  · rw [f0 50 0 (by omega) (by omega) (by omega)]; exact h.rT
  · rw [c0 0 7 (by omega) (by omega), f0 50 15 (by omega) (by omega) (by omega)]; exact h.sh
  · rw [f0 50 15 (by omega) (by omega) (by omega)]; exact h.shB
  · rw [c0 3 0 (by omega) (by omega), f0 50 13 (by omega) (by omega) (by omega)]; exact h.ha
  · rw [f0 50 13 (by omega) (by omega) (by omega)]; exact h.haB
  · rw [c0 3 1 (by omega) (by omega), f0 50 14 (by omega) (by omega) (by omega)]; exact h.hs
  · rw [f0 50 14 (by omega) (by omega) (by omega)]; exact h.hsB
  · rw [c0 (6 + j) 0 (by omega) (by omega), c0 (6 + j) 1 (by omega) (by omega), c0 (6 + j) 2 (by omega) (by omega), f0 58 j (by omega) (by omega) (by omega), f0 59 j (by omega) (by omega) (by omega), f0 60 j (by omega) (by omega) (by omega)]; exact h.so j hj
  · rw [f0 58 j (by omega) (by omega) (by omega), f0 59 j (by omega) (by omega) (by omega), f0 60 j (by omega) (by omega) (by omega)]; exact h.soB j hj
  · by_cases g : e = i
    · subst g
      have hE := h.el e he
      rw [n4, n55, c0 (10 + e) 3 (by omega) (by omega), c0 (10 + e) 5 (by omega) (by omega), c0 (10 + e) 6 (by omega) (by omega), c0 (10 + e) 7 (by omega) (by omega), c0 (10 + e) 8 (by omega) (by omega), c0 (10 + e) 9 (by omega) (by omega), c0 (18 + e) 1 (by omega) (by omega), c0 (18 + e) 2 (by omega) (by omega), f0 51 e (by omega) (by omega) (by omega), f0 52 e (by omega) (by omega) (by omega), f0 53 e (by omega) (by omega) (by omega), f0 56 e (by omega) (by omega) (by omega), f0 57 e (by omega) (by omega) (by omega), f0 54 e (by omega) (by omega) (by omega)]
      exact ⟨hE.1, rfl, hE.2.2⟩
    · rw [c0 (10 + e) 3 (by omega) (by omega), c0 (10 + e) 4 (by omega) (by omega), c0 (10 + e) 5 (by omega) (by omega), c0 (10 + e) 6 (by omega) (by omega), c0 (10 + e) 7 (by omega) (by omega), c0 (10 + e) 8 (by omega) (by omega), c0 (10 + e) 9 (by omega) (by omega), c0 (18 + e) 1 (by omega) (by omega), c0 (18 + e) 2 (by omega) (by omega), f0 55 e (by omega) (by omega) (by omega), f0 51 e (by omega) (by omega) (by omega), f0 52 e (by omega) (by omega) (by omega), f0 53 e (by omega) (by omega) (by omega), f0 56 e (by omega) (by omega) (by omega), f0 57 e (by omega) (by omega) (by omega), f0 54 e (by omega) (by omega) (by omega)]; exact h.el e he
  · by_cases g : e = i
    · subst g
      have hB := h.elB e he
      rw [n55, f0 51 e (by omega) (by omega) (by omega), f0 52 e (by omega) (by omega) (by omega), f0 53 e (by omega) (by omega) (by omega), f0 56 e (by omega) (by omega) (by omega), f0 57 e (by omega) (by omega) (by omega), f0 54 e (by omega) (by omega) (by omega)]
      exact ⟨hy, hB.2⟩
    · rw [f0 55 e (by omega) (by omega) (by omega), f0 51 e (by omega) (by omega) (by omega), f0 52 e (by omega) (by omega) (by omega), f0 53 e (by omega) (by omega) (by omega), f0 56 e (by omega) (by omega) (by omega), f0 57 e (by omega) (by omega) (by omega), f0 54 e (by omega) (by omega) (by omega)]; exact h.elB e he
  · rw [c0 (10 + e) 3 (by omega) (by omega), c0 (10 + e) 4 (by omega) (by omega), c0 (10 + e) 8 (by omega) (by omega), c0 (10 + e) 9 (by omega) (by omega), c0 (18 + e) 1 (by omega) (by omega), c0 (18 + e) 2 (by omega) (by omega)]; exact h.up e g1 g2
  · rw [c0 (26 + e) c (by omega) (by omega), f0 61 (64 * e + c) (by omega) (by omega) (by omega)]; exact h.sl e he c hc9
  · rw [f0 61 (64 * e + c) (by omega) (by omega) (by omega)]; exact h.slB e he c hc9
theorem mj_sok {M M1 : mm_M} {N S T : Nat} (h : mk_R M N S T) (h1 : M1.1 50 9 = M.1 50 9) {x y z : Int32} : mr_sok M1.1 x y z = mc_sok M x y z := by
  have hS := h.S4
  have e0 : (0 : Int32).toInt = 0 := rfl
  have hTi : (nI S).toInt = (S : Int) := nI_toInt (by omega)
  have h4 : (nI 4).toInt = 4 := nI_toInt (by omega)
  unfold mr_sok mc_sok
  rw [h1, h.rS, h.cS]
  have hq : (if nI S = 4 then (3 : Int32) else 0) = if nI S < 0 then 3 else if nI S < nI 4 then 0 else 3 := by
    rw [if_neg (show ¬ nI S < 0 from fun k => by have := Int32.lt_iff_toInt_lt.mp k; omega)]
    by_cases a : S = 4
    · subst a; rfl
    · rw [if_neg (fun k => by have := congrArg Int32.toInt k; rw [hTi] at this; have e8 : (4 : Int32).toInt = 4 := rfl; omega), if_pos (Int32.lt_iff_toInt_lt.mpr (by rw [hTi, h4]; omega))]
  rw [hq]
theorem mj_sok0 {M : mm_M} {N S T : Nat} (h : mk_R M N S T) {x y z : Int32} (hc : mc_sok M x y z = 0) : S < 4 ∧ (-4 ≤ x.toInt ∧ x.toInt ≤ 4) ∧ (1 ≤ y.toInt ∧ y.toInt ≤ 100) ∧ (2 ≤ z.toInt ∧ z.toInt ≤ 16) := by
  have hS := h.S4
  have hTi : (nI S).toInt = (S : Int) := nI_toInt (by omega)
  have h4 : (nI 4).toInt = 4 := nI_toInt (by omega)
  have e0 : (0 : Int32).toInt = 0 := rfl
  have e1 : (1 : Int32).toInt = 1 := rfl
  have e100 : (100 : Int32).toInt = 100 := rfl
  have e2 : (2 : Int32).toInt = 2 := rfl
  have e16 : (16 : Int32).toInt = 16 := rfl
  unfold mc_sok at hc
  by_cases a : nm_in x (-4) 4 = 0
  · rw [if_pos a] at hc; exact absurd hc (by decide)
  · rw [if_neg a] at hc
    by_cases b : nm_in y 1 100 = 0
    · rw [if_pos b] at hc; exact absurd hc (by decide)
    · rw [if_neg b] at hc
      by_cases c : nm_in z 2 16 = 0
      · rw [if_pos c] at hc; exact absurd hc (by decide)
      · rw [if_neg c, h.cS] at hc
        have b1 := mj_in b
        have c1 := mj_in c
        rw [e1, e100] at b1
        rw [e2, e16] at c1
        refine ⟨?_, mj_b a, b1, c1⟩
        by_cases d : nI S < 0
        · have := Int32.lt_iff_toInt_lt.mp d; omega
        · rw [if_neg d] at hc
          by_cases g : nI S < nI 4
          · have := Int32.lt_iff_toInt_lt.mp g; omega
          · rw [if_neg g] at hc; exact absurd hc (by decide)
theorem mj_source {M M1 : mm_M} {N S T : Nat} (h : mk_R M N S T) {x y z : Int32} (hc : mc_sok M x y z = 0) (h1 : M1.1 = (mc_soS M S x y z).1) : mk_R (mr_soS M1 S x y z) N (S + 1) T ∧ (mr_soS M1 S x y z).1 50 20 = 0 ∧ M1.1 50 9 + 1 - 1 = M.1 0 6 := by
  obtain ⟨hS, hx, hy, hz⟩ := mj_sok0 h hc
  have hN8 := h.N8
  have co : ∀ k j : Nat, ¬ (k = 0 ∧ j = 6) → k ≠ 6 + S → M1.1 k j = M.1 k j := fun k j a b => by
    rw [h1]
    unfold mc_soS
    rw [mm_sI_1, if_neg a, mm_sI_k b, mm_sI_k b, mm_sI_k b]
  have c6 : M1.1 0 6 = M.1 0 6 + 1 := by rw [h1]; unfold mc_soS; exact mm_sI_s
  have zc : ∀ k j : Nat, k < 50 → (mr_soS M1 S x y z).1 k j = M1.1 k j := fun k j hk => by
    unfold mr_soS
    rw [mm_sI_k (by omega), mm_sI_k (by omega), mm_sI_k (by omega), mm_sI_k (by omega), mm_sI_k (by omega)]
  have c0 : ∀ k j : Nat, k < 50 → ¬ (k = 0 ∧ j = 6) → k ≠ 6 + S → (mr_soS M1 S x y z).1 k j = M.1 k j := fun k j a b c => by rw [zc k j a, co k j b c]
  have f0 : ∀ k j : Nat, 50 ≤ k → ¬ (k = 50 ∧ (j = 9 ∨ j = 20)) → ¬ (57 < k ∧ k < 61 ∧ j = S) → (mr_soS M1 S x y z).1 k j = M.1 k j := fun k j a b c => by
    unfold mr_soS
    rw [mm_sI_1, if_neg (by omega), mm_sI_1, if_neg (by omega), mm_sI_1, if_neg (by omega), mm_sI_1, if_neg (by omega), mm_sI_1, if_neg (by omega), co k j (by omega) (by omega)]
  have n0 : (mr_soS M1 S x y z).1 (6 + S) 0 = x := by rw [zc _ _ (by omega), h1]; unfold mc_soS; simp [mm_sI_1]
  have n1 : (mr_soS M1 S x y z).1 (6 + S) 1 = y := by rw [zc _ _ (by omega), h1]; unfold mc_soS; simp [mm_sI_1]
  have n2 : (mr_soS M1 S x y z).1 (6 + S) 2 = z := by rw [zc _ _ (by omega), h1]; unfold mc_soS; simp [mm_sI_1]
  have q58 : (mr_soS M1 S x y z).1 58 S = x := by unfold mr_soS; simp [mm_sI_1]
  have q59 : (mr_soS M1 S x y z).1 59 S = y := by unfold mr_soS; simp [mm_sI_1]
  have q60 : (mr_soS M1 S x y z).1 60 S = z := by unfold mr_soS; simp [mm_sI_1]
  have q9 : (mr_soS M1 S x y z).1 50 9 = nI (S + 1) := by unfold mr_soS; rw [mm_sI_s, co _ _ (by omega) (by omega), h.rS, nI_1]
  have q20 : (mr_soS M1 S x y z).1 50 20 = 0 := by unfold mr_soS; simp [mm_sI_1]
  refine ⟨?_, q20, by rw [co _ _ (by omega) (by omega), h.rS, h.cS, Int32.add_sub_cancel]⟩
  refine ⟨?_, ?_, h.N8, ?_, ?_, (by omega), ?_, ?_, ?_, ?_, ?_, ?_, ?_, ?_, fun j hj => ?_, fun j hj => ?_, fun e he => ?_, fun e he => ?_, fun e g1 g2 => ?_, fun e he c hc9 => ?_, fun e he c hc9 => ?_⟩
  · rw [c0 0 5 (by omega) (by omega) (by omega)]; exact h.cN
  · rw [f0 50 1 (by omega) (by omega) (by omega)]; exact h.rN
  · rw [zc _ _ (by omega), c6, h.cS, nI_1]
  · exact q9
  · rw [c0 0 8 (by omega) (by omega) (by omega)]; exact h.cT
  · rw [f0 50 0 (by omega) (by omega) (by omega)]; exact h.rT
  · rw [c0 0 7 (by omega) (by omega) (by omega), f0 50 15 (by omega) (by omega) (by omega)]; exact h.sh
  · rw [f0 50 15 (by omega) (by omega) (by omega)]; exact h.shB
  · rw [c0 3 0 (by omega) (by omega) (by omega), f0 50 13 (by omega) (by omega) (by omega)]; exact h.ha
  · rw [f0 50 13 (by omega) (by omega) (by omega)]; exact h.haB
  · rw [c0 3 1 (by omega) (by omega) (by omega), f0 50 14 (by omega) (by omega) (by omega)]; exact h.hs
  · rw [f0 50 14 (by omega) (by omega) (by omega)]; exact h.hsB
  · by_cases g : j = S
    · subst g
      rw [n0, n1, n2, q58, q59, q60]; exact ⟨rfl, rfl, rfl⟩
    · rw [c0 (6 + j) 0 (by omega) (by omega) (by omega), c0 (6 + j) 1 (by omega) (by omega) (by omega), c0 (6 + j) 2 (by omega) (by omega) (by omega), f0 58 j (by omega) (by omega) (by omega), f0 59 j (by omega) (by omega) (by omega), f0 60 j (by omega) (by omega) (by omega)]; exact h.so j (by omega)
  · by_cases g : j = S
    · subst g
      rw [q58, q59, q60]; exact ⟨hx, hy, hz⟩
    · rw [f0 58 j (by omega) (by omega) (by omega), f0 59 j (by omega) (by omega) (by omega), f0 60 j (by omega) (by omega) (by omega)]; exact h.soB j (by omega)
  · rw [c0 (10 + e) 3 (by omega) (by omega) (by omega), c0 (10 + e) 4 (by omega) (by omega) (by omega), c0 (10 + e) 5 (by omega) (by omega) (by omega), c0 (10 + e) 6 (by omega) (by omega) (by omega), c0 (10 + e) 7 (by omega) (by omega) (by omega), c0 (10 + e) 8 (by omega) (by omega) (by omega), c0 (10 + e) 9 (by omega) (by omega) (by omega), c0 (18 + e) 1 (by omega) (by omega) (by omega), c0 (18 + e) 2 (by omega) (by omega) (by omega), f0 55 e (by omega) (by omega) (by omega), f0 51 e (by omega) (by omega) (by omega), f0 52 e (by omega) (by omega) (by omega), f0 53 e (by omega) (by omega) (by omega), f0 56 e (by omega) (by omega) (by omega), f0 57 e (by omega) (by omega) (by omega), f0 54 e (by omega) (by omega) (by omega)]; exact h.el e he
  · rw [f0 55 e (by omega) (by omega) (by omega), f0 51 e (by omega) (by omega) (by omega), f0 52 e (by omega) (by omega) (by omega), f0 53 e (by omega) (by omega) (by omega), f0 56 e (by omega) (by omega) (by omega), f0 57 e (by omega) (by omega) (by omega), f0 54 e (by omega) (by omega) (by omega)]; exact h.elB e he
  · rw [c0 (10 + e) 3 (by omega) (by omega) (by omega), c0 (10 + e) 4 (by omega) (by omega) (by omega), c0 (10 + e) 8 (by omega) (by omega) (by omega), c0 (10 + e) 9 (by omega) (by omega) (by omega), c0 (18 + e) 1 (by omega) (by omega) (by omega), c0 (18 + e) 2 (by omega) (by omega) (by omega)]; exact h.up e g1 g2
  · rw [c0 (26 + e) c (by omega) (by omega) (by omega), f0 61 (64 * e + c) (by omega) (by omega) (by omega)]; exact h.sl e he c hc9
  · rw [f0 61 (64 * e + c) (by omega) (by omega) (by omega)]; exact h.slB e he c hc9
theorem mj_silence {M M1 : mm_M} {N S T : Nat} (h : mk_R M N S T) (h1 : M1.1 = (mm_sI M 0 6 0).1) : mk_R (mm_sI (mm_sI M1 50 20 0) 50 9 0) N 0 T ∧ M1.1 50 9 = M.1 0 6 := by
  have hS := h.S4
  have hN8 := h.N8
  have hi : ∀ k j : Nat, ¬ (k = 0 ∧ j = 6) → M1.1 k j = M.1 k j := fun k j b => by rw [h1, mm_sI_1, if_neg b]
  have c0 : ∀ k j : Nat, k < 50 → ¬ (k = 0 ∧ j = 6) → (mm_sI (mm_sI M1 50 20 0) 50 9 0).1 k j = M.1 k j := fun k j b c => by rw [mm_sI_k (by omega), mm_sI_k (by omega), hi k j c]
  have f0 : ∀ k j : Nat, 50 ≤ k → ¬ (k = 50 ∧ (j = 20 ∨ j = 9)) → (mm_sI (mm_sI M1 50 20 0) 50 9 0).1 k j = M.1 k j := fun k j b c => by rw [mm_sI_1, if_neg (by omega), mm_sI_1, if_neg (by omega), hi k j (by omega)]
  refine ⟨?_, by rw [hi _ _ (by omega), h.rS, h.cS]⟩
  refine ⟨?_, ?_, h.N8, ?_, ?_, (Nat.zero_le _), ?_, ?_, ?_, ?_, ?_, ?_, ?_, ?_, fun j hj => ?_, fun j hj => ?_, fun e he => ?_, fun e he => ?_, fun e g1 g2 => ?_, fun e he c hc9 => ?_, fun e he c hc9 => ?_⟩
  · rw [c0 0 5 (by omega) (by omega)]; exact h.cN
  · rw [f0 50 1 (by omega) (by omega)]; exact h.rN
  · rw [mm_sI_k (by omega), mm_sI_k (by omega), h1, mm_sI_s]; rfl
  · rw [mm_sI_s]; rfl
  · rw [c0 0 8 (by omega) (by omega)]; exact h.cT
  · rw [f0 50 0 (by omega) (by omega)]; exact h.rT
  · rw [c0 0 7 (by omega) (by omega), f0 50 15 (by omega) (by omega)]; exact h.sh
  · rw [f0 50 15 (by omega) (by omega)]; exact h.shB
  · rw [c0 3 0 (by omega) (by omega), f0 50 13 (by omega) (by omega)]; exact h.ha
  · rw [f0 50 13 (by omega) (by omega)]; exact h.haB
  · rw [c0 3 1 (by omega) (by omega), f0 50 14 (by omega) (by omega)]; exact h.hs
  · rw [f0 50 14 (by omega) (by omega)]; exact h.hsB
  · exact absurd hj (Nat.not_lt_zero j)
  · exact absurd hj (Nat.not_lt_zero j)
  · rw [c0 (10 + e) 3 (by omega) (by omega), c0 (10 + e) 4 (by omega) (by omega), c0 (10 + e) 5 (by omega) (by omega), c0 (10 + e) 6 (by omega) (by omega), c0 (10 + e) 7 (by omega) (by omega), c0 (10 + e) 8 (by omega) (by omega), c0 (10 + e) 9 (by omega) (by omega), c0 (18 + e) 1 (by omega) (by omega), c0 (18 + e) 2 (by omega) (by omega), f0 55 e (by omega) (by omega), f0 51 e (by omega) (by omega), f0 52 e (by omega) (by omega), f0 53 e (by omega) (by omega), f0 56 e (by omega) (by omega), f0 57 e (by omega) (by omega), f0 54 e (by omega) (by omega)]; exact h.el e he
  · rw [f0 55 e (by omega) (by omega), f0 51 e (by omega) (by omega), f0 52 e (by omega) (by omega), f0 53 e (by omega) (by omega), f0 56 e (by omega) (by omega), f0 57 e (by omega) (by omega), f0 54 e (by omega) (by omega)]; exact h.elB e he
  · rw [c0 (10 + e) 3 (by omega) (by omega), c0 (10 + e) 4 (by omega) (by omega), c0 (10 + e) 8 (by omega) (by omega), c0 (10 + e) 9 (by omega) (by omega), c0 (18 + e) 1 (by omega) (by omega), c0 (18 + e) 2 (by omega) (by omega)]; exact h.up e g1 g2
  · rw [c0 (26 + e) c (by omega) (by omega), f0 61 (64 * e + c) (by omega) (by omega)]; exact h.sl e he c hc9
  · rw [f0 61 (64 * e + c) (by omega) (by omega)]; exact h.slB e he c hc9
theorem mj_noise {M M1 : mm_M} {N S T : Nat} (h : mk_R M N S T) {x y : Int32} (hc : mr_nok x y = 0) (h1 : M1.1 = (mm_sI (mm_sI M 3 0 x) 3 1 y).1) : mk_R (mm_sI (mm_sI (mm_sI M1 50 20 0) 50 13 x) 50 14 y) N S T ∧ M1.1 50 13 = M.1 3 0 := by
  have hS := h.S4
  have hN8 := h.N8
  have e0 : (0 : Int32).toInt = 0 := rfl
  have e1 : (1 : Int32).toInt = 1 := rfl
  have e50 : (50 : Int32).toInt = 50 := rfl
  have e65 : (65536 : Int32).toInt = 65536 := rfl
  have hxy : (0 ≤ x.toInt ∧ x.toInt ≤ 50) ∧ (1 ≤ y.toInt ∧ y.toInt ≤ 65536) := by
    unfold mr_nok at hc
    by_cases a : nm_in x 0 50 = 0
    · rw [if_pos a] at hc; exact absurd hc (by decide)
    · rw [if_neg a] at hc
      by_cases b : nm_in y 1 65536 = 0
      · rw [if_pos b] at hc; exact absurd hc (by decide)
      · have a1 := mj_in a
        have b1 := mj_in b
        rw [e0, e50] at a1
        rw [e1, e65] at b1
        exact ⟨a1, b1⟩
  have hi : ∀ k j : Nat, ¬ (k = 3 ∧ (j = 0 ∨ j = 1)) → M1.1 k j = M.1 k j := fun k j b => by rw [h1, mm_sI_1, if_neg (by omega), mm_sI_1, if_neg (by omega)]
  have zc : ∀ k j : Nat, k < 50 → (mm_sI (mm_sI (mm_sI M1 50 20 0) 50 13 x) 50 14 y).1 k j = M1.1 k j := fun k j b => by rw [mm_sI_k (by omega), mm_sI_k (by omega), mm_sI_k (by omega)]
  have c0 : ∀ k j : Nat, k < 50 → ¬ (k = 3 ∧ (j = 0 ∨ j = 1)) → (mm_sI (mm_sI (mm_sI M1 50 20 0) 50 13 x) 50 14 y).1 k j = M.1 k j := fun k j b c => by rw [zc k j b, hi k j c]
  have f0 : ∀ k j : Nat, 50 ≤ k → ¬ (k = 50 ∧ (j = 20 ∨ j = 13 ∨ j = 14)) → (mm_sI (mm_sI (mm_sI M1 50 20 0) 50 13 x) 50 14 y).1 k j = M.1 k j := fun k j b c => by rw [mm_sI_1, if_neg (by omega), mm_sI_1, if_neg (by omega), mm_sI_1, if_neg (by omega), hi k j (by omega)]
  have a0 : M1.1 3 0 = x := by rw [h1, mm_sI_j (by decide), mm_sI_s]
  have a1 : M1.1 3 1 = y := by rw [h1, mm_sI_s]
  have b0 : (mm_sI (mm_sI (mm_sI M1 50 20 0) 50 13 x) 50 14 y).1 50 13 = x := by rw [mm_sI_j (by decide), mm_sI_s]
  have b1 : (mm_sI (mm_sI (mm_sI M1 50 20 0) 50 13 x) 50 14 y).1 50 14 = y := mm_sI_s
  refine ⟨?_, by rw [hi _ _ (by omega)]; exact h.ha.symm⟩
  refine ⟨?_, ?_, h.N8, ?_, ?_, h.S4, ?_, ?_, ?_, ?_, ?_, ?_, ?_, ?_, fun j hj => ?_, fun j hj => ?_, fun e he => ?_, fun e he => ?_, fun e g1 g2 => ?_, fun e he c hc9 => ?_, fun e he c hc9 => ?_⟩
  · rw [c0 0 5 (by omega) (by omega)]; exact h.cN
  · rw [f0 50 1 (by omega) (by omega)]; exact h.rN
  · rw [c0 0 6 (by omega) (by omega)]; exact h.cS
  · rw [f0 50 9 (by omega) (by omega)]; exact h.rS
  · rw [c0 0 8 (by omega) (by omega)]; exact h.cT
  · rw [f0 50 0 (by omega) (by omega)]; exact h.rT
  · rw [c0 0 7 (by omega) (by omega), f0 50 15 (by omega) (by omega)]; exact h.sh
  · rw [f0 50 15 (by omega) (by omega)]; exact h.shB
  · rw [zc _ _ (by omega), a0, b0]
  · rw [b0]; exact hxy.1
  · rw [zc _ _ (by omega), a1, b1]
  · rw [b1]; omega
  · rw [c0 (6 + j) 0 (by omega) (by omega), c0 (6 + j) 1 (by omega) (by omega), c0 (6 + j) 2 (by omega) (by omega), f0 58 j (by omega) (by omega), f0 59 j (by omega) (by omega), f0 60 j (by omega) (by omega)]; exact h.so j hj
  · rw [f0 58 j (by omega) (by omega), f0 59 j (by omega) (by omega), f0 60 j (by omega) (by omega)]; exact h.soB j hj
  · rw [c0 (10 + e) 3 (by omega) (by omega), c0 (10 + e) 4 (by omega) (by omega), c0 (10 + e) 5 (by omega) (by omega), c0 (10 + e) 6 (by omega) (by omega), c0 (10 + e) 7 (by omega) (by omega), c0 (10 + e) 8 (by omega) (by omega), c0 (10 + e) 9 (by omega) (by omega), c0 (18 + e) 1 (by omega) (by omega), c0 (18 + e) 2 (by omega) (by omega), f0 55 e (by omega) (by omega), f0 51 e (by omega) (by omega), f0 52 e (by omega) (by omega), f0 53 e (by omega) (by omega), f0 56 e (by omega) (by omega), f0 57 e (by omega) (by omega), f0 54 e (by omega) (by omega)]; exact h.el e he
  · rw [f0 55 e (by omega) (by omega), f0 51 e (by omega) (by omega), f0 52 e (by omega) (by omega), f0 53 e (by omega) (by omega), f0 56 e (by omega) (by omega), f0 57 e (by omega) (by omega), f0 54 e (by omega) (by omega)]; exact h.elB e he
  · rw [c0 (10 + e) 3 (by omega) (by omega), c0 (10 + e) 4 (by omega) (by omega), c0 (10 + e) 8 (by omega) (by omega), c0 (10 + e) 9 (by omega) (by omega), c0 (18 + e) 1 (by omega) (by omega), c0 (18 + e) 2 (by omega) (by omega)]; exact h.up e g1 g2
  · rw [c0 (26 + e) c (by omega) (by omega), f0 61 (64 * e + c) (by omega) (by omega)]; exact h.sl e he c hc9
  · rw [f0 61 (64 * e + c) (by omega) (by omega)]; exact h.slB e he c hc9
theorem mj_window {M M1 : mm_M} {N S T : Nat} (h : mk_R M N S T) {x : Int32} (hc : ¬ nm_in x 0 2 = 0) (h1 : M1.1 = (mm_sI M 0 7 x).1) : mk_R (mm_sI (mm_sI M1 50 20 0) 50 15 x) N S T ∧ M1.1 50 15 = M.1 0 7 := by
  have hS := h.S4
  have hN8 := h.N8
  have hx : x = 0 ∨ x = 1 ∨ x = 2 := by
    have a1 := mj_in hc
    have e0 : (0 : Int32).toInt = 0 := rfl
    have e1 : (1 : Int32).toInt = 1 := rfl
    have e2 : (2 : Int32).toInt = 2 := rfl
    rw [e0, e2] at a1
    by_cases z0 : x.toInt = 0
    · exact Or.inl (Int32.toInt_inj.mp (z0.trans e0.symm))
    · by_cases z1 : x.toInt = 1
      · exact Or.inr (Or.inl (Int32.toInt_inj.mp (z1.trans e1.symm)))
      · exact Or.inr (Or.inr (Int32.toInt_inj.mp (by rw [e2]; omega)))
  have hi : ∀ k j : Nat, ¬ (k = 0 ∧ j = 7) → M1.1 k j = M.1 k j := fun k j b => by rw [h1, mm_sI_1, if_neg b]
  have c0 : ∀ k j : Nat, k < 50 → ¬ (k = 0 ∧ j = 7) → (mm_sI (mm_sI M1 50 20 0) 50 15 x).1 k j = M.1 k j := fun k j b c => by rw [mm_sI_k (by omega), mm_sI_k (by omega), hi k j c]
  have f0 : ∀ k j : Nat, 50 ≤ k → ¬ (k = 50 ∧ (j = 20 ∨ j = 15)) → (mm_sI (mm_sI M1 50 20 0) 50 15 x).1 k j = M.1 k j := fun k j b c => by rw [mm_sI_1, if_neg (by omega), mm_sI_1, if_neg (by omega), hi k j (by omega)]
  have b0 : (mm_sI (mm_sI M1 50 20 0) 50 15 x).1 50 15 = x := mm_sI_s
  refine ⟨?_, by rw [hi _ _ (by omega)]; exact h.sh.symm⟩
  refine ⟨?_, ?_, h.N8, ?_, ?_, h.S4, ?_, ?_, ?_, ?_, ?_, ?_, ?_, ?_, fun j hj => ?_, fun j hj => ?_, fun e he => ?_, fun e he => ?_, fun e g1 g2 => ?_, fun e he c hc9 => ?_, fun e he c hc9 => ?_⟩
  · rw [c0 0 5 (by omega) (by omega)]; exact h.cN
  · rw [f0 50 1 (by omega) (by omega)]; exact h.rN
  · rw [c0 0 6 (by omega) (by omega)]; exact h.cS
  · rw [f0 50 9 (by omega) (by omega)]; exact h.rS
  · rw [c0 0 8 (by omega) (by omega)]; exact h.cT
  · rw [f0 50 0 (by omega) (by omega)]; exact h.rT
  · rw [b0, mm_sI_k (by omega), mm_sI_k (by omega), h1, mm_sI_s]
  · rw [b0]; exact hx
  · rw [c0 3 0 (by omega) (by omega), f0 50 13 (by omega) (by omega)]; exact h.ha
  · rw [f0 50 13 (by omega) (by omega)]; exact h.haB
  · rw [c0 3 1 (by omega) (by omega), f0 50 14 (by omega) (by omega)]; exact h.hs
  · rw [f0 50 14 (by omega) (by omega)]; exact h.hsB
  · rw [c0 (6 + j) 0 (by omega) (by omega), c0 (6 + j) 1 (by omega) (by omega), c0 (6 + j) 2 (by omega) (by omega), f0 58 j (by omega) (by omega), f0 59 j (by omega) (by omega), f0 60 j (by omega) (by omega)]; exact h.so j hj
  · rw [f0 58 j (by omega) (by omega), f0 59 j (by omega) (by omega), f0 60 j (by omega) (by omega)]; exact h.soB j hj
  · rw [c0 (10 + e) 3 (by omega) (by omega), c0 (10 + e) 4 (by omega) (by omega), c0 (10 + e) 5 (by omega) (by omega), c0 (10 + e) 6 (by omega) (by omega), c0 (10 + e) 7 (by omega) (by omega), c0 (10 + e) 8 (by omega) (by omega), c0 (10 + e) 9 (by omega) (by omega), c0 (18 + e) 1 (by omega) (by omega), c0 (18 + e) 2 (by omega) (by omega), f0 55 e (by omega) (by omega), f0 51 e (by omega) (by omega), f0 52 e (by omega) (by omega), f0 53 e (by omega) (by omega), f0 56 e (by omega) (by omega), f0 57 e (by omega) (by omega), f0 54 e (by omega) (by omega)]; exact h.el e he
  · rw [f0 55 e (by omega) (by omega), f0 51 e (by omega) (by omega), f0 52 e (by omega) (by omega), f0 53 e (by omega) (by omega), f0 56 e (by omega) (by omega), f0 57 e (by omega) (by omega), f0 54 e (by omega) (by omega)]; exact h.elB e he
  · rw [c0 (10 + e) 3 (by omega) (by omega), c0 (10 + e) 4 (by omega) (by omega), c0 (10 + e) 8 (by omega) (by omega), c0 (10 + e) 9 (by omega) (by omega), c0 (18 + e) 1 (by omega) (by omega), c0 (18 + e) 2 (by omega) (by omega)]; exact h.up e g1 g2
  · rw [c0 (26 + e) c (by omega) (by omega), f0 61 (64 * e + c) (by omega) (by omega)]; exact h.sl e he c hc9
  · rw [f0 61 (64 * e + c) (by omega) (by omega)]; exact h.slB e he c hc9
