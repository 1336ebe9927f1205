/-- the memory at the start -/
def mm_M0 : mm_M := (fun k j => if 10 ≤ k ∧ k < 18 ∧ j = 8 then 64 else if k = 3 ∧ j = 1 then 1 else if 6 ≤ k ∧ k < 10 ∧ j = 2 then 2 else if k = 50 ∧ j = 14 then 1 else 0, fun _ _ => 0)
theorem mm_M0_0 {k j : Nat} (h1 : ¬ (10 ≤ k ∧ k < 18 ∧ j = 8)) (h2 : ¬ (k = 3 ∧ j = 1)) (h3 : ¬ (6 ≤ k ∧ k < 10 ∧ j = 2)) (h4 : ¬ (k = 50 ∧ j = 14)) : mm_M0.1 k j = 0 := by
  show (if 10 ≤ k ∧ k < 18 ∧ j = 8 then (64 : Int32) else if k = 3 ∧ j = 1 then 1 else if 6 ≤ k ∧ k < 10 ∧ j = 2 then 2 else if k = 50 ∧ j = 14 then 1 else 0) = 0
  rw [if_neg h1, if_neg h2, if_neg h3, if_neg h4]
theorem mk_R0 : mk_R mm_M0 0 0 0 := by
  have z : ∀ k j : Nat, ¬ (10 ≤ k ∧ k < 18 ∧ j = 8) → ¬ (k = 3 ∧ j = 1) → ¬ (6 ≤ k ∧ k < 10 ∧ j = 2) → ¬ (k = 50 ∧ j = 14) → mm_M0.1 k j = 0 := fun k j => mm_M0_0
  refine ⟨rfl, rfl, Nat.zero_le _, rfl, rfl, Nat.zero_le _, rfl, rfl, rfl, Or.inl rfl, rfl, by decide, rfl, by decide, fun j hj => absurd hj (Nat.not_lt_zero j), fun j hj => absurd hj (Nat.not_lt_zero j), fun e he => absurd he (Nat.not_lt_zero e), fun e he => absurd he (Nat.not_lt_zero e), fun e _ h2 => ?_, fun e he c hc => ?_, fun e he c hc => ?_⟩
  · refine ⟨z _ _ (by omega) (by omega) (by omega) (by omega), z _ _ (by omega) (by omega) (by omega) (by omega), ?_, z _ _ (by omega) (by omega) (by omega) (by omega), z _ _ (by omega) (by omega) (by omega) (by omega), z _ _ (by omega) (by omega) (by omega) (by omega)⟩
    show (if 10 ≤ 10 + e ∧ 10 + e < 18 ∧ 8 = 8 then (64 : Int32) else _) = 64
    rw [if_pos (by omega)]
  · rw [z (26 + e) c (by omega) (by omega) (by omega) (by omega), z 61 _ (by omega) (by omega) (by omega) (by omega)]
  · rw [z 61 _ (by omega) (by omega) (by omega) (by omega)]; decide
