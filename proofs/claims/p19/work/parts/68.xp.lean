/-- the memory at the start -/
def mm_M0 : mm_M := (fun k j => if 10 ≤ k ∧ k < 18 ∧ j = 8 then 64 else if k = 3 ∧ j = 1 then 1 else if 6 ≤ k ∧ k < 10 ∧ j = 2 then 2 else if k = 50 ∧ j = 14 then 1 else 0, fun _ _ => 0)
theorem mm_M0_0 {k j : Nat} (h1 : ¬ (10 ≤ k ∧ k < 18 ∧ j = 8)) (h2 : ¬ (k = 3 ∧ j = 1)) (h3 : ¬ (6 ≤ k ∧ k < 10 ∧ j = 2)) (h4 : ¬ (k = 50 ∧ j = 14)) : mm_M0.1 k j = 0 := by
  show (if 10 ≤ k ∧ k < 18 ∧ j = 8 then (64 : Int32) else if k = 3 ∧ j = 1 then 1 else if 6 ≤ k ∧ k < 10 ∧ j = 2 then 2 else if k = 50 ∧ j = 14 then 1 else 0) = 0
  rw [if_neg h1, if_neg h2, if_neg h3, if_neg h4]
theorem mk_R0 : mk_R mm_M0 0 0 0 := by
  have z : ∀ k j : Nat, ¬ (10 ≤ k ∧ k < 18 ∧ j = 8) → ¬ (k = 3 ∧ j = 1) → ¬ (6 ≤ k ∧ k < 10 ∧ j = 2) → ¬ (k = 50 ∧ j = 14) → mm_M0.1 k j = 0 := fun k j => mm_M0_0
  refine ⟨rfl, rfl, Nat.zero_le _, rfl, rfl, Nat.zero_le _, rfl, rfl, rfl, Or.inl rfl, rfl, by decide, rfl, by decide, fun j hj => absurd hj (Nat.not_lt_zero j), fun j hj => absurd hj (Nat.not_lt_zero j), fun e he => absurd he (Nat.not_lt_zero e), fun e he => absurd he (Nat.not_lt_zero e), fun e _ h2 => ?_, fun e he c hc => ?_, fun e he c hc => ?_⟩
  · refine ⟨z _ _ (by omega) (by omega) (by omega) (by omega), z _ _ (by omega) (by omega) (by omega) (by omega), ?_, z _ _ (by omega) (by omega) (by omega) (by omega), z _ _ (by omega) (by omega) (by omega) (by omega), z _ _ (by omega) (by omega) (by omega) (by omega)⟩
    show (if 10 ≤ 10 + e ∧ 10 + e < 18 ∧ 8 = 8 then (64 : Int32) else _) = 64
    rw [if_pos (by omega)]
  · rw [z (26 + e) c (by omega) (by omega) (by omega) (by omega), z 61 _ (by omega) (by omega) (by omega) (by omega)]
  · rw [z 61 _ (by omega) (by omega) (by omega) (by omega)]; decide
theorem mz_I0 : mz_I mm_M0 0 0 0 := ⟨mk_R0, fun e he c hc => by rw [mm_M0_0 (by omega) (by omega) (by omega) (by omega)]; decide, mm_M0_0 (by omega) (by omega) (by omega) (by omega), mm_M0_0 (by omega) (by omega) (by omega) (by omega), mm_M0_0 (by omega) (by omega) (by omega) (by omega), by rw [mm_M0_0 (by omega) (by omega) (by omega) (by omega), mm_M0_0 (by omega) (by omega) (by omega) (by omega)], by rw [mm_M0_0 (by omega) (by omega) (by omega) (by omega), mm_M0_0 (by omega) (by omega) (by omega) (by omega)], fun k hk => absurd hk (Nat.not_lt_zero k)⟩
theorem mm_str {args : Array Value} {s : State} {k : Nat} {tx : String} (h1 : (Cond.stringRef RX4 k tx).before args s = true) (h2 : (Cond.exactly (.string RX4 k) "java/lang/String").before args s = true) : ∃ (t : String) (sa : Nat), vk_R RX4 k t sa s := by
  obtain ⟨a, c, cA, kA, q1, q2, q3, q4, q5, q6, -⟩ := Cond.exactly_spec (args := args) (first := s) (o := none) (s := s) (idx := []) (t := .string RX4 k) (cls := "java/lang/String") h2
  exact ⟨tx, a, vk_R.of h1 q1⟩
set_option maxRecDepth 100000 in
theorem mm_XP0 {p : Program} {s : State} {m : MethodId} {meth : Method} {c : Code} {b L : Nat} {xs : Nat → Int32} (C0 : lw_At p s m meth c b L xs) : mm_XP (fun q => s.heap.size ≤ q) s := by
  obtain ⟨hx, hb, hr, hml, hown, hts, hX, hbl, hlocks, hgv⟩ := C0
  have hf := flat_of_before _ hgv
  have hA : ∀ a : Nat, a < s.heap.size → ¬ (s.heap.size ≤ a) := fun a h => Nat.not_le.mpr h
  have hng : ∀ w ∈ mm_NG, w.before #[Value.ref b] s = true := fun w hw => hts w ((by decide +kernel : ∀ w ∈ mm_NG, w ∈ lw_tbl) w hw)
  refine ⟨vx_Zqof (hts (.laysStatic Bundle.tN "UNASSIGNED_STACK" Bundle.steD) (by decide +kernel)) (hts (.initialized Bundle.tN) (by decide +kernel)) (hf (.isRef (.static Bundle.tN "UNASSIGNED_STACK" Bundle.steD)) (by decide +kernel)) hA, vx_Zqof (hts (.laysStatic Bundle.tN "SUPPRESSED_SENTINEL" Bundle.listD) (by decide +kernel)) (hts (.initialized Bundle.tN) (by decide +kernel)) (hf (.isRef (.static Bundle.tN "SUPPRESSED_SENTINEL" Bundle.listD)) (by decide +kernel)) hA, fun k hk => ?_, fun w hw => ?_, va_Nc.of (hf (.not (.castable E_sta E_arg)) (by decide +kernel)), va_Nc.of (hf (.not (.castable E_arg E_idx)) (by decide +kernel)), va_Nc.of (hf (.not (.castable E_sta E_idx)) (by decide +kernel))⟩
  · simp only [mm_ST, List.mem_cons, List.not_mem_nil, or_false] at hk
    rcases hk with rfl | rfl | rfl | rfl | rfl | rfl | rfl | rfl | rfl | rfl | rfl | rfl | rfl | rfl | rfl
    · exact mm_str (hts (.stringRef RX4 47 "position, gain or lag is out of range") (by decide +kernel)) (hf (.exactly (.string RX4 47) "java/lang/String") (by decide +kernel))
    · exact mm_str (hts (.stringRef RX4 57 "no more elements can be put up") (by decide +kernel)) (hf (.exactly (.string RX4 57) "java/lang/String") (by decide +kernel))
    · exact mm_str (hts (.stringRef RX4 73 "no such element") (by decide +kernel)) (hf (.exactly (.string RX4 73) "java/lang/String") (by decide +kernel))
    · exact mm_str (hts (.stringRef RX4 87 "no such bearing") (by decide +kernel)) (hf (.exactly (.string RX4 87) "java/lang/String") (by decide +kernel))
    · exact mm_str (hts (.stringRef RX4 89 "strength or period is out of range") (by decide +kernel)) (hf (.exactly (.string RX4 89) "java/lang/String") (by decide +kernel))
    · exact mm_str (hts (.stringRef RX4 94 "no more sources can be set up") (by decide +kernel)) (hf (.exactly (.string RX4 94) "java/lang/String") (by decide +kernel))
    · exact mm_str (hts (.stringRef RX4 101 "loudness or number is out of range") (by decide +kernel)) (hf (.exactly (.string RX4 101) "java/lang/String") (by decide +kernel))
    · exact mm_str (hts (.stringRef RX4 111 "ticks is out of range") (by decide +kernel)) (hf (.exactly (.string RX4 111) "java/lang/String") (by decide +kernel))
    · exact mm_str (hts (.stringRef RX4 116 "no such window") (by decide +kernel)) (hf (.exactly (.string RX4 116) "java/lang/String") (by decide +kernel))
    · exact mm_str (hts (.stringRef RX4 122 "no element is alive") (by decide +kernel)) (hf (.exactly (.string RX4 122) "java/lang/String") (by decide +kernel))
    · exact mm_str (hts (.stringRef RX4 132 "the lowest element has heard nothing") (by decide +kernel)) (hf (.exactly (.string RX4 132) "java/lang/String") (by decide +kernel))
    · exact mm_str (hts (.stringRef RX4 138 "no such element or back") (by decide +kernel)) (hf (.exactly (.string RX4 138) "java/lang/String") (by decide +kernel))
    · exact mm_str (hts (.stringRef RX4 144 "no such bearing or back") (by decide +kernel)) (hf (.exactly (.string RX4 144) "java/lang/String") (by decide +kernel))
    · exact mm_str (hts (.stringRef RX4 157 "hundredths is out of range") (by decide +kernel)) (hf (.exactly (.string RX4 157) "java/lang/String") (by decide +kernel))
    · exact mm_str (hts (.stringRef RX4 167 "no such place") (by decide +kernel)) (hf (.exactly (.string RX4 167) "java/lang/String") (by decide +kernel))
  · have h9 := hng w hw
    simp only [mm_NG, List.mem_cons, List.not_mem_nil, or_false] at hw
    rcases hw with rfl | rfl | rfl | rfl | rfl | rfl
    all_goals exact va_tabs rfl rfl h9
