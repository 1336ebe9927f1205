/-- what stands between two rounds of the law -/
def mz_I (M : mm_M) (N S T : Nat) : Prop := (mk_R M N S T) ∧ (mz_B M.1) ∧ (M.1 65 0 = nI T) ∧ (M.1 65 1 = nI N) ∧ (M.1 65 2 = nI S) ∧ (M.1 65 3 = M.1 3 0) ∧ (M.1 65 4 = M.1 0 7) ∧ (∀ k : Nat, k < N → M.1 66 (2 * k) = M.1 55 k ∧ M.1 66 (2 * k + 1) = M.1 54 k)
theorem mz_I.R {M : mm_M} {N S T : Nat} (h : mz_I M N S T) : mk_R M N S T := h.1
theorem mz_I.B {M : mm_M} {N S T : Nat} (h : mz_I M N S T) : mz_B M.1 := h.2.1
theorem mz_I.m0 {M : mm_M} {N S T : Nat} (h : mz_I M N S T) : M.1 65 0 = nI T := h.2.2.1
theorem mz_I.m1 {M : mm_M} {N S T : Nat} (h : mz_I M N S T) : M.1 65 1 = nI N := h.2.2.2.1
theorem mz_I.m2 {M : mm_M} {N S T : Nat} (h : mz_I M N S T) : M.1 65 2 = nI S := h.2.2.2.2.1
theorem mz_I.m3 {M : mm_M} {N S T : Nat} (h : mz_I M N S T) : M.1 65 3 = M.1 3 0 := h.2.2.2.2.2.1
theorem mz_I.m4 {M : mm_M} {N S T : Nat} (h : mz_I M N S T) : M.1 65 4 = M.1 0 7 := h.2.2.2.2.2.2.1
theorem mz_I.e {M : mm_M} {N S T : Nat} (h : mz_I M N S T) : ∀ k : Nat, k < N → M.1 66 (2 * k) = M.1 55 k ∧ M.1 66 (2 * k + 1) = M.1 54 k := h.2.2.2.2.2.2.2
theorem mz_I.eq {M M' : mm_M} {N S T : Nat} (h : mz_I M N S T) (hw : M'.1 = M.1) : mz_I M' N S T := by
  unfold mz_I mk_R at *
  rw [hw]
  exact h
theorem mz_same {M : mm_M} {k j : Nat} {x : Int32} (h : M.1 k j = x) : (mm_sI M k j x).1 = M.1 := funext fun a => funext fun b => by
  rw [mm_sI_1]
  by_cases c : a = k ∧ b = j
  · rw [if_pos c, c.1, c.2, h]
  · rw [if_neg c]
theorem mk_R.low {M M' : mm_M} {N S T : Nat} (h : mk_R M N S T) (hc : ∀ k j : Nat, k < 65 → M'.1 k j = M.1 k j) : mk_R M' N S T := mk_R2.tr h (fun k j hk => hc k j (by omega)) (fun k j _ hk _ => hc k j (by omega))
theorem mz_B.tr {F F' : mm_F} (h : mz_B F) (hc : ∀ j : Nat, F' 61 j = F 61 j) : mz_B F' := fun e he c hc9 => by rw [hc]; exact h e he c hc9
theorem mz_act0 {l : Launch} {D : va_G} {ad : Nat → Nat} {q : Nat → ClassId} {A : Nat → Prop} {y : MethodName} {ws : List Cond} {rm : Room} {av : List Value} {M X Y : mm_M} {cd a b c r r' : Int32} (K : mm_Kw l D ad q A y ws rm av M (some (.int (mz_rv cd a b c r))) (if cd = 0 then X else Y)) (h : cd = 0) (hr : r = r') : mm_Kw l D ad q A y ws rm av M (some (.int r')) X := by
  rw [mz_rv0 h, if_pos h, hr] at K; exact K
theorem mz_act2m {l : Launch} {D : va_G} {ad : Nat → Nat} {q : Nat → ClassId} {A : Nat → Prop} {y : MethodName} {ws : List Cond} {rm : Room} {av : List Value} {M X Y : mm_M} {cd a b c r : Int32} (K : mm_Kw l D ad q A y ws rm av M (some (.int (mz_rv cd a b c r))) (if cd = 0 then X else Y)) (h : cd = 2) : mm_Kw l D ad q A y ws rm av M (some (.int b)) Y := by
  rw [mz_rv2 h, if_neg (by rw [h]; decide)] at K; exact K
/-- what a call of the class leaves: the law's rows, and what it says of -/
def mz_F (M M2 : mm_M) : Prop := (∀ k j : Nat, 65 ≤ k → M2.1 k j = M.1 k j) ∧ (∀ j : Nat, M2.1 61 j = M.1 61 j)
theorem mz_F.hi {M M2 : mm_M} (h : mz_F M M2) : ∀ k j : Nat, 65 ≤ k → M2.1 k j = M.1 k j := h.1
theorem mz_F.s61 {M M2 : mm_M} (h : mz_F M M2) : ∀ j : Nat, M2.1 61 j = M.1 61 j := h.2
theorem mz_neg {N : Nat} (h : N < 2147483648) : ¬ nI N < 0 := by
  rw [Int32.lt_iff_toInt_lt, nI_toInt h, show (0 : Int32).toInt = 0 from rfl]; omega
theorem mz_ne8 {N : Nat} (h : N < 8) : ¬ nI N = 8 := fun z => by
  have := congrArg Int32.toInt z
  rw [nI_toInt (by omega), show (8 : Int32).toInt = 8 from rfl] at this; omega
theorem mz_ne4 {N : Nat} (h : N < 4) : ¬ nI N = 4 := fun z => by
  have := congrArg Int32.toInt z
  rw [nI_toInt (by omega), show (4 : Int32).toInt = 4 from rfl] at this; omega
theorem mz_pos13 (Y : Nat) : ¬ nm_in (nI (Y % 13)) 0 12 = 0 := mz_inr (l := 0) (h := 12) rfl rfl (by omega) (by omega) (by omega)
theorem mz_gain (Y : Nat) : ¬ nm_in (nI (32 + ((Y / 13) % 65))) 32 96 = 0 := mz_inr (l := 32) (h := 96) rfl rfl (by omega) (by omega) (by omega)
theorem mz_lag7 (Y : Nat) : ¬ nm_in (nI ((Y / 7) % 7) - 3) (-3) 3 = 0 := by
  have e : (nI ((Y / 7) % 7) - 3).toInt = (((Y / 7) % 7 : Nat) : Int) - 3 := mz_sub (nI_toInt (by omega)) rfl (by omega)
  have e1 : (-3 : Int32).toInt = -3 := rfl
  have e2 : (3 : Int32).toInt = 3 := rfl
  exact mz_inn (by rw [e, e1]; omega) (by rw [e, e2]; omega)
theorem mz_elk0 {M : mm_M} {N S T : Nat} (h : mk_R M N S T) {x y z : Int32} (h1 : ¬ nm_in x 0 12 = 0) (h2 : ¬ nm_in y 32 96 = 0) (h3 : ¬ nm_in z (-3) 3 = 0) (hN : N < 8) : mc_elk M x y z = 0 := by
  have e : (nI N).toInt = (N : Int) := nI_toInt (by omega)
  have e8 : (nI 8).toInt = 8 := rfl
  unfold mc_elk
  rw [if_neg h1, if_neg h2, if_neg h3, h.cN, if_neg (mz_neg (by omega)), if_pos (by rw [Int32.lt_iff_toInt_lt, e, e8]; omega)]
theorem mz_gh_el {M : mm_M} {N : Nat} {x y z : Int32} : ∀ k j : Nat, k < 50 ∨ 65 ≤ k → M.1 k j = (mr_elS M N x y z).1 k j := fun k j hk => by
  unfold mr_elS
  rw [mm_sI_k (by omega), mm_sI_k (by omega), mm_sI_k (by omega), mm_sI_k (by omega), mm_sI_k (by omega), mm_sI_k (by omega), mm_sI_k (by omega), mm_sI_k (by omega), mm_sI_k (by omega)]
theorem mz_el {M : mm_M} {N S T : Nat} (h : mz_I M N S T) (hT : T ≤ 58000) {x y z : Int32} (hc : mc_elk M x y z = 0) {M2 : mm_M} (h2 : M2 = mr_elS (mc_elS M N x y z) N x y z) : mk_R M2 (N + 1) S T ∧ mz_F M M2 ∧ (M2.1 3 0 = M.1 3 0 ∧ M2.1 0 7 = M.1 0 7) ∧ (M2.1 54 N = nI T ∧ M2.1 55 N = 1 ∧ M2.1 56 N = 64 ∧ M2.1 57 N = 0) ∧ ∀ k : Nat, k < N → M2.1 55 k = M.1 55 k ∧ M2.1 54 k = M.1 54 k := by
  have hj := (mj_element h.R (by omega : T ≤ 60000) hc (M1 := mc_elS M N x y z) rfl).1
  have hN8 := h.R.N8
  have e0 : ∀ k j : Nat, ¬ (k = 0 ∧ j = 5) → k ≠ 10 + N → k ≠ 18 + N → ¬ (50 ≤ k ∧ k < 58) → M2.1 k j = M.1 k j := fun k j a b c d => by
    rw [h2]; unfold mr_elS mc_elS mc_putUp
    rw [mm_sI_k (by omega), mm_sI_k (by omega), mm_sI_k (by omega), mm_sI_k (by omega), mm_sI_k (by omega), mm_sI_k (by omega), mm_sI_k (by omega), mm_sI_k (by omega), mm_sI_k (by omega), mm_sI_1, if_neg a, mm_sI_k c, mm_sI_k c, mm_sI_k b, mm_sI_k b, mm_sI_k b, mm_sI_k b, mm_sI_k b]
  refine ⟨by rw [h2]; exact hj, ⟨fun k j hk => e0 k j (by omega) (by omega) (by omega) (by omega), fun j => e0 61 j (by omega) (by omega) (by omega) (by omega)⟩, ⟨e0 3 0 (by omega) (by omega) (by omega) (by omega), e0 0 7 (by omega) (by omega) (by omega) (by omega)⟩, ⟨?_, ?_, ?_, ?_⟩, fun k hk => ⟨?_, ?_⟩⟩
  · rw [h2]; unfold mr_elS; simp [mm_sI_1]; unfold mc_elS mc_putUp; simp [mm_sI_1]
    exact h.R.rT
  · rw [h2]; unfold mr_elS; simp [mm_sI_1]
  · rw [h2]; unfold mr_elS; simp [mm_sI_1]
  · rw [h2]; unfold mr_elS; simp [mm_sI_1]
  · rw [h2]; unfold mr_elS mc_elS mc_putUp
    rw [mm_sI_k (by omega), mm_sI_k (by omega), mm_sI_k (by omega), mm_sI_1, if_neg (by omega), mm_sI_k (by omega), mm_sI_k (by omega), mm_sI_k (by omega), mm_sI_k (by omega), mm_sI_k (by omega), mm_sI_k (by omega), mm_sI_k (by omega), mm_sI_k (by omega), mm_sI_k (by omega), mm_sI_k (by omega), mm_sI_k (by omega), mm_sI_k (by omega), mm_sI_k (by omega)]
  · rw [h2]; unfold mr_elS mc_elS mc_putUp
    rw [mm_sI_k (by omega), mm_sI_k (by omega), mm_sI_k (by omega), mm_sI_k (by omega), mm_sI_1, if_neg (by omega), mm_sI_k (by omega), mm_sI_k (by omega), mm_sI_k (by omega), mm_sI_k (by omega), mm_sI_k (by omega), mm_sI_k (by omega), mm_sI_k (by omega), mm_sI_k (by omega), mm_sI_k (by omega), mm_sI_k (by omega), mm_sI_k (by omega), mm_sI_k (by omega)]
theorem mz_elF {M M2 Mw : mm_M} {N S T : Nat} (h : mz_I M N S T) (hN : N < 8) (hR2 : mk_R M2 (N + 1) S T) (hF : mz_F M M2) (h37 : M2.1 3 0 = M.1 3 0 ∧ M2.1 0 7 = M.1 0 7) (hn : M2.1 54 N = nI T ∧ M2.1 55 N = 1 ∧ M2.1 56 N = 64 ∧ M2.1 57 N = 0) (ho : ∀ k : Nat, k < N → M2.1 55 k = M.1 55 k ∧ M2.1 54 k = M.1 54 k) (hw : Mw.1 = M2.1) : mz_I (mm_sI (mm_sI (mm_sI Mw 66 (2 * N) 1) 66 ((2 * N) + 1) (nI T)) 65 1 (nI (N + 1))) (N + 1) S T := by
  have lo : ∀ k j : Nat, k < 65 → (mm_sI (mm_sI (mm_sI Mw 66 (2 * N) 1) 66 ((2 * N) + 1) (nI T)) 65 1 (nI (N + 1))).1 k j = M2.1 k j := fun k j hk => by rw [mm_sI_k (by omega), mm_sI_k (by omega), mm_sI_k (by omega), hw]
  have r5 : ∀ j : Nat, j ≠ 1 → (mm_sI (mm_sI (mm_sI Mw 66 (2 * N) 1) 66 ((2 * N) + 1) (nI T)) 65 1 (nI (N + 1))).1 65 j = M.1 65 j := fun j hj => by rw [mm_sI_j hj, mm_sI_k (by omega), mm_sI_k (by omega), hw, hF.hi 65 j (by omega)]
  refine ⟨hR2.low lo, (h.B.tr hF.s61).tr (fun j => lo 61 j (by omega)), (r5 0 (by omega)).trans h.m0, mm_sI_s, (r5 2 (by omega)).trans h.m2, ?_, ?_, fun k hk => ?_⟩
  · rw [r5 3 (by omega), lo 3 0 (by omega), h37.1]; exact h.m3
  · rw [r5 4 (by omega), lo 0 7 (by omega), h37.2]; exact h.m4
  · have r6 : ∀ j : Nat, (mm_sI (mm_sI (mm_sI Mw 66 (2 * N) 1) 66 ((2 * N) + 1) (nI T)) 65 1 (nI (N + 1))).1 66 j = (mm_sI (mm_sI Mw 66 (2 * N) 1) 66 ((2 * N) + 1) (nI T)).1 66 j := fun j => mm_sI_k (by omega)
    rw [lo 55 k (by omega), lo 54 k (by omega), r6, r6]
    by_cases z : k = N
    · rw [z, hn.1, hn.2.1]
      exact ⟨(mm_sI_j (by omega)).trans mm_sI_s, mm_sI_s⟩
    · have hk9 : k < N := by omega
      have q : ∀ j : Nat, j ≠ 2 * N → j ≠ 2 * N + 1 → (mm_sI (mm_sI Mw 66 (2 * N) 1) 66 ((2 * N) + 1) (nI T)).1 66 j = M.1 66 j := fun j a b => by rw [mm_sI_j b, mm_sI_j a, hw, hF.hi 66 _ (by omega)]
      rw [q _ (by omega) (by omega), q _ (by omega) (by omega), (ho k hk9).1, (ho k hk9).2]
      exact h.e k hk9
theorem mz_kept0 {M : mm_M} {N S T k : Nat} (h : mk_R M N S T) (hT : T ≤ 60000) (hk : k < N) (h54 : M.1 54 k = nI T) (Y : Nat) : mr_kept M.1 61 k (M.1 50 0 - 1 - nI (Y % 64)) = 0 := by
  rw [mz_kept h hT hk (Nat.mod_lt _ (by decide)), if_pos (by rw [h54, nI_toInt (by omega)]; omega)]
/-- a source -/
theorem mz_s100 (Y : Nat) : ¬ nm_in (nI (1 + ((Y / 9) % 100))) 1 100 = 0 := mz_inr (l := 1) (h := 100) rfl rfl (by omega) (by omega) (by omega)
theorem mz_p15 (Y : Nat) : ¬ nm_in (nI (2 + ((Y / 11) % 15))) 2 16 = 0 := mz_inr (l := 2) (h := 16) rfl rfl (by omega) (by omega) (by omega)
theorem mz_sok0 {M : mm_M} {N S T : Nat} (h : mk_R M N S T) {x y z : Int32} (h1 : ¬ nm_in x (-4) 4 = 0) (h2 : ¬ nm_in y 1 100 = 0) (h3 : ¬ nm_in z 2 16 = 0) (hS : S < 4) : mc_sok M x y z = 0 := by
  have e : (nI S).toInt = (S : Int) := nI_toInt (by omega)
  have e8 : (nI 4).toInt = 4 := rfl
  unfold mc_sok
  rw [if_neg h1, if_neg h2, if_neg h3, h.cS, if_neg (mz_neg (by omega)), if_pos (by rw [Int32.lt_iff_toInt_lt, e, e8]; omega)]
theorem mz_gh_so {M : mm_M} {S : Nat} {x y z : Int32} : ∀ k j : Nat, k < 50 ∨ 65 ≤ k → M.1 k j = (mr_soS M S x y z).1 k j := fun k j hk => by
  unfold mr_soS
  rw [mm_sI_k (by omega), mm_sI_k (by omega), mm_sI_k (by omega), mm_sI_k (by omega), mm_sI_k (by omega)]
theorem mz_so {M : mm_M} {N S T : Nat} (h : mz_I M N S T) {x y z : Int32} (hS : S < 4) (hc : mc_sok M x y z = 0) {M2 : mm_M} (h2 : M2 = mr_soS (mc_soS M S x y z) S x y z) : mk_R M2 N (S + 1) T ∧ mz_F M M2 ∧ mz_I (mm_sI M2 65 2 (nI (S + 1))) N (S + 1) T := by
  have hj := (mj_source h.R hc (M1 := mc_soS M S x y z) rfl).1
  rw [← h2] at hj
  have hN8 := h.R.N8
  have e0 : ∀ k j : Nat, ¬ (k = 0 ∧ j = 6) → k ≠ 6 + S → ¬ (k = 50) → ¬ (58 ≤ k ∧ k < 61) → M2.1 k j = M.1 k j := fun k j a b c d => by
    rw [h2]; unfold mr_soS mc_soS
    rw [mm_sI_k (by omega), mm_sI_k (by omega), mm_sI_k (by omega), mm_sI_k (by omega), mm_sI_k (by omega), mm_sI_1, if_neg a, mm_sI_k b, mm_sI_k b, mm_sI_k b]
  have lo : ∀ k j : Nat, k < 65 → (mm_sI M2 65 2 (nI (S + 1))).1 k j = M2.1 k j := fun k j hk => by rw [mm_sI_k (by omega)]
  have r5 : ∀ j : Nat, j ≠ 2 → (mm_sI M2 65 2 (nI (S + 1))).1 65 j = M.1 65 j := fun j hj => by rw [mm_sI_j hj, e0 65 j (by omega) (by omega) (by omega) (by omega)]
  refine ⟨hj, ⟨fun k j hk => e0 k j (by omega) (by omega) (by omega) (by omega), fun j => e0 61 j (by omega) (by omega) (by omega) (by omega)⟩, hj.low lo, h.B.tr (fun j => (lo 61 j (by omega)).trans (e0 61 j (by omega) (by omega) (by omega) (by omega))), (r5 0 (by omega)).trans h.m0, (r5 1 (by omega)).trans h.m1, mm_sI_s, ?_, ?_, fun k hk => ?_⟩
  · rw [r5 3 (by omega), lo 3 0 (by omega), e0 3 0 (by omega) (by omega) (by omega) (by omega)]; exact h.m3
  · rw [r5 4 (by omega), lo 0 7 (by omega), e0 0 7 (by omega) (by omega) (by omega) (by omega)]; exact h.m4
  · rw [lo 55 k (by omega), lo 54 k (by omega), mm_sI_k (by omega), mm_sI_k (by omega), e0 66 _ (by omega) (by omega) (by omega) (by omega), e0 66 _ (by omega) (by omega) (by omega) (by omega), e0 55 k (by omega) (by omega) (by omega) (by omega), e0 54 k (by omega) (by omega) (by omega) (by omega)]
    exact h.e k hk
/-- silence -/
theorem mz_gh_si {M : mm_M} {x y : Int32} : ∀ k j : Nat, k < 50 ∨ 65 ≤ k → M.1 k j = (mm_sI (mm_sI M 50 20 x) 50 9 y).1 k j := fun k j hk => by rw [mm_sI_k (by omega), mm_sI_k (by omega)]
theorem mz_si {M : mm_M} {N S T : Nat} (h : mz_I M N S T) {M2 : mm_M} (h2 : M2 = mm_sI (mm_sI (mm_sI M 0 6 0) 50 20 0) 50 9 0) : mk_R M2 N 0 T ∧ mz_F M M2 ∧ mz_I (mm_sI (mm_sI M2 0 6 0) 65 2 0) N 0 T := by
  have hj := (mj_silence h.R (M1 := mm_sI M 0 6 0) rfl).1
  rw [← h2] at hj
  have e0 : ∀ k j : Nat, ¬ (k = 0 ∧ j = 6) → ¬ (k = 50) → M2.1 k j = M.1 k j := fun k j a c => by
    rw [h2, mm_sI_k (by omega), mm_sI_k (by omega), mm_sI_1, if_neg a]
  have hs : (mm_sI M2 0 6 0).1 = M2.1 := mz_same hj.cS
  have lo : ∀ k j : Nat, k < 65 → (mm_sI (mm_sI M2 0 6 0) 65 2 0).1 k j = M2.1 k j := fun k j hk => by rw [mm_sI_k (by omega), hs]
  have r5 : ∀ j : Nat, j ≠ 2 → (mm_sI (mm_sI M2 0 6 0) 65 2 0).1 65 j = M.1 65 j := fun j hj => by rw [mm_sI_j hj, hs, e0 65 j (by omega) (by omega)]
  refine ⟨hj, ⟨fun k j hk => e0 k j (by omega) (by omega), fun j => e0 61 j (by omega) (by omega)⟩, hj.low lo, h.B.tr (fun j => (lo 61 j (by omega)).trans (e0 61 j (by omega) (by omega))), (r5 0 (by omega)).trans h.m0, (r5 1 (by omega)).trans h.m1, mm_sI_s, ?_, ?_, fun k hk => ?_⟩
  · rw [r5 3 (by omega), lo 3 0 (by omega), e0 3 0 (by omega) (by omega)]; exact h.m3
  · rw [r5 4 (by omega), lo 0 7 (by omega), e0 0 7 (by omega) (by omega)]; exact h.m4
  · have r6 : ∀ j : Nat, (mm_sI (mm_sI M2 0 6 0) 65 2 0).1 66 j = M.1 66 j := fun j => (mm_sI_k (by omega)).trans ((mm_sI_k (by omega)).trans (e0 66 j (by omega) (by omega)))
    rw [lo 55 k (by omega), lo 54 k (by omega), r6, r6, e0 55 k (by omega) (by omega), e0 54 k (by omega) (by omega)]
    exact h.e k hk
/-- noise -/
theorem mz_gh_no {M : mm_M} {x y z : Int32} : ∀ k j : Nat, k < 50 ∨ 65 ≤ k → M.1 k j = (mm_sI (mm_sI (mm_sI M 50 20 x) 50 13 y) 50 14 z).1 k j := fun k j hk => by rw [mm_sI_k (by omega), mm_sI_k (by omega), mm_sI_k (by omega)]
theorem mz_l51 (Y : Nat) : ¬ nm_in (nI ((Y / 2) % 51)) 0 50 = 0 := mz_inr (l := 0) (h := 50) rfl rfl (by omega) (by omega) (by omega)
theorem mz_n65 (Y : Nat) : ¬ nm_in (nI (1 + ((Y / 102) % 65536))) 1 65536 = 0 := mz_inr (l := 1) (h := 65536) rfl rfl (by omega) (by omega) (by omega)
theorem mz_nok0 {x y : Int32} (h1 : ¬ nm_in x 0 50 = 0) (h2 : ¬ nm_in y 1 65536 = 0) : mr_nok x y = 0 := by unfold mr_nok; rw [if_neg h1, if_neg h2]
theorem mz_no {M : mm_M} {N S T : Nat} (h : mz_I M N S T) {x y : Int32} (hc : mr_nok x y = 0) {M2 : mm_M} (h2 : M2 = mm_sI (mm_sI (mm_sI (mm_sI (mm_sI M 3 0 x) 3 1 y) 50 20 0) 50 13 x) 50 14 y) : mz_F M M2 ∧ mz_I (mm_sI M2 65 3 x) N S T := by
  have hj := (mj_noise h.R hc (M1 := mm_sI (mm_sI M 3 0 x) 3 1 y) rfl).1
  rw [← h2] at hj
  have e0 : ∀ k j : Nat, ¬ (k = 3) → ¬ (k = 50) → M2.1 k j = M.1 k j := fun k j a c => by
    rw [h2, mm_sI_k (by omega), mm_sI_k (by omega), mm_sI_k (by omega), mm_sI_k (by omega), mm_sI_k (by omega)]
  have e3 : M2.1 3 0 = x := by rw [h2, mm_sI_k (by omega), mm_sI_k (by omega), mm_sI_k (by omega), mm_sI_j (by omega), mm_sI_s]
  have lo : ∀ k j : Nat, k < 65 → (mm_sI M2 65 3 x).1 k j = M2.1 k j := fun k j hk => by rw [mm_sI_k (by omega)]
  have r5 : ∀ j : Nat, j ≠ 3 → (mm_sI M2 65 3 x).1 65 j = M.1 65 j := fun j hj => by rw [mm_sI_j hj, e0 65 j (by omega) (by omega)]
  refine ⟨⟨fun k j hk => e0 k j (by omega) (by omega), fun j => e0 61 j (by omega) (by omega)⟩, hj.low lo, h.B.tr (fun j => (lo 61 j (by omega)).trans (e0 61 j (by omega) (by omega))), (r5 0 (by omega)).trans h.m0, (r5 1 (by omega)).trans h.m1, (r5 2 (by omega)).trans h.m2, ?_, ?_, fun k hk => ?_⟩
  · rw [mm_sI_s, lo 3 0 (by omega), e3]
  · rw [r5 4 (by omega), lo 0 7 (by omega), e0 0 7 (by omega) (by omega)]; exact h.m4
  · rw [lo 55 k (by omega), lo 54 k (by omega), mm_sI_k (by omega), mm_sI_k (by omega), e0 66 _ (by omega) (by omega), e0 66 _ (by omega) (by omega), e0 55 k (by omega) (by omega), e0 54 k (by omega) (by omega)]
    exact h.e k hk
/-- window -/
theorem mz_w3 (Y : Nat) : ¬ nm_in (nI (Y % 3)) 0 2 = 0 := mz_inr (l := 0) (h := 2) rfl rfl (by omega) (by omega) (by omega)
theorem mz_wi {M : mm_M} {N S T : Nat} (h : mz_I M N S T) {x : Int32} (hc : ¬ nm_in x 0 2 = 0) {M2 : mm_M} (h2 : M2 = mm_sI (mm_sI (mm_sI M 0 7 x) 50 20 0) 50 15 x) : mz_F M M2 ∧ M2.1 0 7 = x ∧ mz_I (mm_sI (mm_sI M2 0 7 x) 65 4 x) N S T := by
  have hj := (mj_window h.R hc (M1 := mm_sI M 0 7 x) rfl).1
  rw [← h2] at hj
  have e0 : ∀ k j : Nat, ¬ (k = 0 ∧ j = 7) → ¬ (k = 50) → M2.1 k j = M.1 k j := fun k j a c => by
    rw [h2, mm_sI_k (by omega), mm_sI_k (by omega), mm_sI_1, if_neg a]
  have e7 : M2.1 0 7 = x := by rw [h2, mm_sI_k (by omega), mm_sI_k (by omega), mm_sI_s]
  have hs : (mm_sI M2 0 7 x).1 = M2.1 := mz_same e7
  have lo : ∀ k j : Nat, k < 65 → (mm_sI (mm_sI M2 0 7 x) 65 4 x).1 k j = M2.1 k j := fun k j hk => by rw [mm_sI_k (by omega), hs]
  have r5 : ∀ j : Nat, j ≠ 4 → (mm_sI (mm_sI M2 0 7 x) 65 4 x).1 65 j = M.1 65 j := fun j hj => by rw [mm_sI_j hj, hs, e0 65 j (by omega) (by omega)]
  refine ⟨⟨fun k j hk => e0 k j (by omega) (by omega), fun j => e0 61 j (by omega) (by omega)⟩, e7, hj.low lo, h.B.tr (fun j => (lo 61 j (by omega)).trans (e0 61 j (by omega) (by omega))), (r5 0 (by omega)).trans h.m0, (r5 1 (by omega)).trans h.m1, (r5 2 (by omega)).trans h.m2, ?_, ?_, fun k hk => ?_⟩
  · rw [r5 3 (by omega), lo 3 0 (by omega), e0 3 0 (by omega) (by omega)]; exact h.m3
  · rw [mm_sI_s, lo 0 7 (by omega), e7]
  · have r6 : ∀ j : Nat, (mm_sI (mm_sI M2 0 7 x) 65 4 x).1 66 j = M.1 66 j := fun j => (mm_sI_k (by omega)).trans ((mm_sI_k (by omega)).trans (e0 66 j (by omega) (by omega)))
    rw [lo 55 k (by omega), lo 54 k (by omega), r6, r6, e0 55 k (by omega) (by omega), e0 54 k (by omega) (by omega)]
    exact h.e k hk
/-- alive -/
theorem mz_gh_al {M : mm_M} {x y : Int32} {i : Nat} : ∀ k j : Nat, k < 50 ∨ 65 ≤ k → M.1 k j = (mm_sI (mm_sI M 50 20 x) 55 i y).1 k j := fun k j hk => by rw [mm_sI_k (by omega), mm_sI_k (by omega)]
theorem mz_al1 {M : mm_M} {N S T k : Nat} (h : mk_R M N S T) (hk : k < N) : (if M.1 (10 + (nI k).toInt.toNat) 4 = 0 then (0 : Int32) else 1) = M.1 55 k := by
  rw [(mz_nIk hk h.N8).2, (h.el k hk).2.1]
  rcases (h.elB k hk).1 with z | z <;> rw [z] <;> rfl
theorem mz_als {M : mm_M} {N S T k : Nat} (h : mk_R M N S T) (hk : k < N) {y : Int32} (hy : M.1 55 k = y) : (if M.1 (10 + (nI k).toInt.toNat) 4 = 0 then (0 : Int32) else 1) = y := (mz_al1 h hk).trans hy
theorem mz_alv {M : mm_M} {N S T k : Nat} (h : mz_I M N S T) (hk : k < N) {y : Int32} (hy : y = 0 ∨ y = 1) {M2 : mm_M} (h2 : M2 = mm_sI (mm_sI (mm_sI M (10 + (nI k).toInt.toNat) 4 y) 50 20 0) 55 (nI k).toInt.toNat y) : mk_R M2 N S T ∧ mz_F M M2 ∧ M2.1 55 k = y ∧ mz_I (mm_sI (mm_sI M2 (10 + (nI k).toInt.toNat) 4 y) 66 (2 * k) y) N S T := by
  have hj := (mj_alive h.R hy (mz_alk0 h.R hk) (M1 := mm_sI M (10 + (nI k).toInt.toNat) 4 y) rfl).1
  rw [← h2] at hj
  have hN8 := h.R.N8
  have ek := (mz_nIk hk h.R.N8).2
  rw [ek] at h2 ⊢
  have e0 : ∀ a j : Nat, ¬ (a = 10 + k ∧ j = 4) → ¬ (a = 50) → ¬ (a = 55 ∧ j = k) → M2.1 a j = M.1 a j := fun a j p c r => by
    rw [h2, mm_sI_1, if_neg r, mm_sI_k (by omega), mm_sI_1, if_neg p]
  have e55 : M2.1 55 k = y := by rw [h2, mm_sI_s]
  have hs : (mm_sI M2 (10 + k) 4 y).1 = M2.1 := mz_same ((hj.el k hk).2.1.trans e55)
  have lo : ∀ a j : Nat, a < 65 → (mm_sI (mm_sI M2 (10 + k) 4 y) 66 (2 * k) y).1 a j = M2.1 a j := fun a j ha => by rw [mm_sI_k (by omega), hs]
  have r5 : ∀ j : Nat, (mm_sI (mm_sI M2 (10 + k) 4 y) 66 (2 * k) y).1 65 j = M.1 65 j := fun j => by rw [mm_sI_k (by omega), hs, e0 65 j (by omega) (by omega) (by omega)]
  refine ⟨hj, ⟨fun a j ha => e0 a j (by omega) (by omega) (by omega), fun j => e0 61 j (by omega) (by omega) (by omega)⟩, e55, hj.low lo, h.B.tr (fun j => (lo 61 j (by omega)).trans (e0 61 j (by omega) (by omega) (by omega))), (r5 0).trans h.m0, (r5 1).trans h.m1, (r5 2).trans h.m2, ?_, ?_, fun i hi => ?_⟩
  · rw [r5 3, lo 3 0 (by omega), e0 3 0 (by omega) (by omega) (by omega)]; exact h.m3
  · rw [r5 4, lo 0 7 (by omega), e0 0 7 (by omega) (by omega) (by omega)]; exact h.m4
  · rw [lo 55 i (by omega), lo 54 i (by omega), e0 54 i (by omega) (by omega) (by omega)]
    by_cases z : i = k
    · rw [z]
      refine ⟨mm_sI_s.trans e55.symm, ?_⟩
      rw [mm_sI_j (by omega), hs, e0 66 _ (by omega) (by omega) (by omega)]
      exact (h.e k hk).2
    · have q : ∀ j : Nat, j ≠ 2 * k → (mm_sI (mm_sI M2 (10 + k) 4 y) 66 (2 * k) y).1 66 j = M.1 66 j := fun j a => by rw [mm_sI_j a, hs, e0 66 j (by omega) (by omega) (by omega)]
      rw [q _ (by omega), q _ (by omega), e0 55 i (by omega) (by omega) (by omega)]
      exact h.e i hi
