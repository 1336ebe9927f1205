theorem mk_delay2 {M : mm_M} {F : mm_F} {i e : Nat} (h : M.1 (10 + i) 5 = F 51 e) (b : Int32) : mc_delay M i b = mr_delay F e b := by
  unfold mc_delay mr_delay
  rw [h, mk_fd4]
theorem mk_slT {T : Nat} (hT : T ≤ 60000) : nm_sl (nI T) = T % 64 := by
  have e := nI_toInt (n := T) (by omega)
  rw [mk_slI (by omega), e]
  rfl
/-- one element hears, on both sides -/
theorem mk_he {A B : mm_M} {N S T : Nat} (h : mk_R2 A.1 B.1 N S T) (hT : T ≤ 60000) : ∀ n, n ≤ N → ((mc_heN A S n).1 3 1 = (mr_heE B S n).1 50 14 ∧ 0 ≤ ((mr_heE B S n).1 50 14).toInt ∧ ((mr_heE B S n).1 50 14).toInt ≤ 65536) ∧ (∀ e : Nat, e < N → (mc_heN A S n).1 (18 + e) 2 = if e < n then nI (T + 1) else nI T) ∧ ∀ e : Nat, e < 8 → ∀ c : Nat, c < 64 → (mc_heN A S n).1 (26 + e) c = (mr_heE B S n).1 61 (64 * e + c) ∧ -1000 ≤ ((mr_heE B S n).1 61 (64 * e + c)).toInt ∧ ((mr_heE B S n).1 61 (64 * e + c)).toInt ≤ 1000
  | 0, _ => ⟨⟨h.hs, h.hsB⟩, fun e he => by rw [if_neg (Nat.not_lt_zero e)]; exact (h.el e he).2.2.2.2.2.2.2.2, fun e he c hc => ⟨h.sl e he c hc, h.slB e he c hc⟩⟩
  | n + 1, hn => by
    obtain ⟨i1, i2, i3⟩ := mk_he h hT n (by omega)
    have hN8 := h.N8
    have hS4 := h.S4
    have hE := h.el n (by omega)
    have hB := h.elB n (by omega)
    have xo : ∀ k j : Nat, k < 18 → ¬ (k = 3 ∧ j = 1) → (mc_heN A S n).1 k j = A.1 k j := fun k j h1 h2 => mk_heN_o h2 n (fun i hi => by omega)
    have yo : ∀ k j : Nat, k ≠ 61 → ¬ (k = 50 ∧ j = 14) → (mr_heE B S n).1 k j = B.1 k j := fun k j h1 h2 => mk_heE_o h2 n (fun i c hi hc => by omega)
    have hdr : mc_dr (mc_heN A S n) = mr_dr (mr_heE B S n).1 := by unfold mc_dr mr_dr; rw [i1.1]
    have hdrB : 0 ≤ (mr_dr (mr_heE B S n).1).toInt ∧ (mr_dr (mr_heE B S n).1).toInt ≤ 65536 := mk_dr i1.2
    rw [mc_heN, mr_heE]
    generalize hX : mc_heN A S n = X at *
    generalize hY : mr_heE B S n = Y at *
    have x'o : ∀ k j : Nat, k < 18 → ¬ (k = 3 ∧ j = 1) → (mm_sI X 3 1 (mc_dr X)).1 k j = A.1 k j := fun k j h1 h2 => by rw [mm_sI_1, if_neg h2, xo k j h1 h2]
    obtain ⟨v, hv⟩ : ∃ v : Int32, v = if Y.1 55 n = 0 then 0 else mr_samp Y.1 n S := ⟨_, rfl⟩
    have hs := mk_samp (M := X) (M1 := mm_sI X 3 1 (mc_dr X)) (F := Y.1) (S := S) (N := N) (e := n)
      (mk_wv (N := N) (F := Y.1) (i := n) (fun b => mk_delay2 (by rw [x'o _ _ (by omega) (by omega), yo _ _ (by omega) (by omega)]; exact hE.2.2.1) b)
        (by rw [x'o _ _ (by omega) (by omega), yo _ _ (by omega) (by omega)]; exact hE.2.2.2.2.1)
        (by rw [x'o _ _ (by omega) (by omega), yo _ _ (by omega) (by omega)]; exact h.cT.trans h.rT.symm)
        (fun j hj => by rw [x'o (6 + j) 0 (by omega) (by omega), x'o (6 + j) 1 (by omega) (by omega), x'o (6 + j) 2 (by omega) (by omega), yo 58 j (by omega) (by omega), yo 59 j (by omega) (by omega), yo 60 j (by omega) (by omega)]; exact h.so j hj)
        (fun j hj => by rw [yo _ _ (by omega) (by omega), yo _ _ (by omega) (by omega)]; exact ⟨(h.soB j hj).2.1, (h.soB j hj).2.2.1⟩) hS4 S (Nat.le_refl S)) hS4
      (by rw [xo _ _ (by omega) (by omega), yo _ _ (by omega) (by omega)]; exact hE.2.2.2.1) (by rw [yo _ _ (by omega) (by omega)]; exact hB.2.2.1) hdr hdrB
      (by rw [xo _ _ (by omega) (by omega), yo _ _ (by omega) (by omega)]; exact h.ha) (by rw [yo _ _ (by omega) (by omega)]; exact h.haB)
    have h55 : X.1 (10 + n) 4 = Y.1 55 n := by rw [xo _ _ (by omega) (by omega), yo _ _ (by omega) (by omega)]; exact hE.2.1
    have he1 : mc_he1 X S n = mc_add (mm_sI X 3 1 (mc_dr X)) n v := by
      unfold mc_he1
      rw [xo (10 + n) 3 (by omega) (by omega), hE.1, if_neg (by decide), h55, hv]
      by_cases z : Y.1 55 n = 0
      · rw [if_pos z, if_pos z]
      · rw [if_neg z, if_neg z, hs.1]
    have hvB : -1000 ≤ v.toInt ∧ v.toInt ≤ 1000 := by
      rw [hv]
      by_cases z : Y.1 55 n = 0
      · rw [if_pos z]; decide
      · rw [if_neg z]; exact hs.2
    have hY0 : (Y.1 50 0).toInt.toNat % 64 = T % 64 := by
      rw [yo _ _ (by omega) (by omega), h.rT, nI_toInt (by omega)]
      rfl
    have hX2 : (mm_sI X 3 1 (mc_dr X)).1 (18 + n) 2 = nI T := by
      rw [mm_sI_1, if_neg (by omega), i2 n (by omega), if_neg (by omega)]
    rw [he1]
    unfold mc_add mr_hears
    rw [hX2, mk_slT hT, hY0, ← hv]
    refine ⟨⟨?_, ?_⟩, fun e he => ?_, fun e he c hc => ?_⟩
    · rw [mm_sI_1, if_neg (by omega), mm_sI_1, if_neg (by omega), mm_sI_1, if_pos ⟨rfl, rfl⟩, mm_sI_1, if_neg (by omega), mm_sI_1, if_pos ⟨rfl, rfl⟩]; exact hdr
    · rw [mm_sI_1, if_neg (by omega), mm_sI_1, if_pos ⟨rfl, rfl⟩]; exact hdrB
    · rw [mm_sI_1]
      by_cases z : e = n
      · subst z
        rw [if_pos ⟨rfl, rfl⟩, mm_sI_1, if_neg (by omega), hX2, if_pos (by omega), nI_1]
      · rw [if_neg (by omega), mm_sI_1, if_neg (by omega), mm_sI_1, if_neg (by omega), i2 e he]
        by_cases y : e < n
        · rw [if_pos y, if_pos (by omega)]
        · rw [if_neg y, if_neg (by omega)]
    · rw [mm_sI_1, if_neg (by omega), mm_sI_1, mm_sI_1 61 (64 * e + c)]
      have hm := Nat.mod_lt T (show 64 > 0 by decide)
      by_cases z : e = n ∧ c = T % 64
      · rw [if_pos (by omega), if_pos (by omega)]; exact ⟨rfl, hvB⟩
      · rw [if_neg (by omega), if_neg (by omega), mm_sI_1, if_neg (by omega), mm_sI_1, if_neg (by omega)]
        exact i3 e he c hc
theorem mk_heUp {A : mm_M} {N S : Nat} (hup : ∀ e : Nat, N ≤ e → e < 8 → A.1 (10 + e) 3 = 0) : ∀ n, N + n ≤ 8 → mc_heN A S (N + n) = mc_heN A S N
  | 0, _ => rfl
  | n + 1, hn => by
    rw [← Nat.add_assoc, mc_heN]
    unfold mc_he1
    rw [mk_heN_o (by omega) (N + n) (fun i hi => by omega), hup (N + n) (by omega) (by omega), if_pos rfl, mk_heUp hup n (by omega)]
theorem mk_tickR {A B : mm_M} {N S T : Nat} (h : mk_R2 A.1 B.1 N S T) (hT : T ≤ 60000) : mk_R2 (mc_tick A S).1 (mr_tick B N S).1 N S (T + 1) := by
  have hN8 := h.N8
  have hS4 := h.S4
  obtain ⟨i1, i2, i3⟩ := mk_he h hT N (Nat.le_refl N)
  have hup := mk_heUp (S := S) (fun e h1 h2 => (h.up e h1 h2).1) (8 - N) (by omega)
  rw [show N + (8 - N) = 8 from by omega] at hup
  unfold mc_tick mr_tick
  rw [hup]
  have xo : ∀ k j : Nat, k < 26 → ¬ (k = 3 ∧ j = 1) → ¬ (18 ≤ k ∧ k < 18 + N ∧ j = 2) → (mc_heN A S N).1 k j = A.1 k j := fun k j h1 h2 h3 => mk_heN_o h2 N (fun i hi => by omega)
  have yo : ∀ k j : Nat, k ≠ 61 → ¬ (k = 50 ∧ j = 14) → (mr_heE B S N).1 k j = B.1 k j := fun k j h1 h2 => mk_heE_o h2 N (fun i c hi hc => by omega)
  generalize mc_heN A S N = X at *
  generalize mr_heE B S N = Y at *
  have c0 : ∀ k j : Nat, k < 26 → ¬ (k = 3 ∧ j = 1) → ¬ (18 ≤ k ∧ k < 18 + N ∧ j = 2) → ¬ (k = 0 ∧ j = 8) → (mm_sI X 0 8 (X.1 0 8 + 1)).1 k j = A.1 k j := fun k j h1 h2 h3 h4 => by rw [mm_sI_1, if_neg h4, xo k j h1 h2 h3]
  have f0 : ∀ k j : Nat, k ≠ 61 → ¬ (k = 50 ∧ j = 14) → ¬ (k = 50 ∧ j = 0) → (mm_sI Y 50 0 (Y.1 50 0 + 1)).1 k j = B.1 k j := fun k j h1 h2 h4 => by rw [mm_sI_1, if_neg h4, yo k j h1 h2]
  refine ⟨?_, ?_, hN8, ?_, ?_, hS4, ?_, ?_, ?_, ?_, ?_, ?_, ?_, ?_, fun j hj => ?_, fun j hj => ?_, fun e he => ?_, fun e he => ?_, fun e h1 h2 => ?_, fun e he c hc9 => ?_, fun e he c hc9 => ?_⟩
  · rw [c0 _ _ (by omega) (by omega) (by omega) (by omega)]; exact h.cN
  · rw [f0 _ _ (by omega) (by omega) (by omega)]; exact h.rN
  · rw [c0 _ _ (by omega) (by omega) (by omega) (by omega)]; exact h.cS
  · rw [f0 _ _ (by omega) (by omega) (by omega)]; exact h.rS
  · rw [mm_sI_s, xo _ _ (by omega) (by omega) (by omega), h.cT, nI_1]
  · rw [mm_sI_s, yo _ _ (by omega) (by omega), h.rT, nI_1]
  · rw [c0 _ _ (by omega) (by omega) (by omega) (by omega), f0 _ _ (by omega) (by omega) (by omega)]; exact h.sh
  · rw [f0 _ _ (by omega) (by omega) (by omega)]; exact h.shB
  · rw [c0 _ _ (by omega) (by omega) (by omega) (by omega), f0 _ _ (by omega) (by omega) (by omega)]; exact h.ha
  · rw [f0 _ _ (by omega) (by omega) (by omega)]; exact h.haB
  · rw [mm_sI_1, if_neg (by omega), mm_sI_1, if_neg (by omega)]; exact i1.1
  · rw [mm_sI_1, if_neg (by omega)]; exact i1.2
  · rw [c0 (6 + j) 0 (by omega) (by omega) (by omega) (by omega), c0 (6 + j) 1 (by omega) (by omega) (by omega) (by omega), c0 (6 + j) 2 (by omega) (by omega) (by omega) (by omega), f0 58 j (by omega) (by omega) (by omega), f0 59 j (by omega) (by omega) (by omega), f0 60 j (by omega) (by omega) (by omega)]; exact h.so j hj
  · rw [f0 58 j (by omega) (by omega) (by omega), f0 59 j (by omega) (by omega) (by omega), f0 60 j (by omega) (by omega) (by omega)]; exact h.soB j hj
  · rw [c0 (10 + e) 3 (by omega) (by omega) (by omega) (by omega), c0 (10 + e) 4 (by omega) (by omega) (by omega) (by omega), c0 (10 + e) 5 (by omega) (by omega) (by omega) (by omega), c0 (10 + e) 6 (by omega) (by omega) (by omega) (by omega), c0 (10 + e) 7 (by omega) (by omega) (by omega) (by omega), c0 (10 + e) 8 (by omega) (by omega) (by omega) (by omega), c0 (10 + e) 9 (by omega) (by omega) (by omega) (by omega), c0 (18 + e) 1 (by omega) (by omega) (by omega) (by omega), f0 55 e (by omega) (by omega) (by omega), f0 51 e (by omega) (by omega) (by omega), f0 52 e (by omega) (by omega) (by omega), f0 53 e (by omega) (by omega) (by omega), f0 56 e (by omega) (by omega) (by omega), f0 57 e (by omega) (by omega) (by omega), f0 54 e (by omega) (by omega) (by omega)]
    have hE := h.el e he
    refine ⟨hE.1, hE.2.1, hE.2.2.1, hE.2.2.2.1, hE.2.2.2.2.1, hE.2.2.2.2.2.1, hE.2.2.2.2.2.2.1, hE.2.2.2.2.2.2.2.1, ?_⟩
    rw [mm_sI_1, if_neg (by omega), i2 e he, if_pos he]
  · rw [f0 55 e (by omega) (by omega) (by omega), f0 51 e (by omega) (by omega) (by omega), f0 52 e (by omega) (by omega) (by omega), f0 53 e (by omega) (by omega) (by omega), f0 56 e (by omega) (by omega) (by omega), f0 57 e (by omega) (by omega) (by omega), f0 54 e (by omega) (by omega) (by omega)]
    have hB := h.elB e he
    exact ⟨hB.1, hB.2.1, hB.2.2.1, hB.2.2.2.1, hB.2.2.2.2.1, hB.2.2.2.2.2.1, hB.2.2.2.2.2.2.1, by have := hB.2.2.2.2.2.2.2; omega⟩
  · rw [c0 (10 + e) 3 (by omega) (by omega) (by omega) (by omega), c0 (10 + e) 4 (by omega) (by omega) (by omega) (by omega), c0 (10 + e) 8 (by omega) (by omega) (by omega) (by omega), c0 (10 + e) 9 (by omega) (by omega) (by omega) (by omega), c0 (18 + e) 1 (by omega) (by omega) (by omega) (by omega), c0 (18 + e) 2 (by omega) (by omega) (by omega) (by omega)]; exact h.up e h1 h2
  · rw [mm_sI_1, if_neg (by omega), mm_sI_1, if_neg (by omega)]; exact (i3 e he c hc9).1
  · rw [mm_sI_1, if_neg (by omega)]; exact (i3 e he c hc9).2
theorem mk_hrN2 {A B : mm_M} {N S T : Nat} (h : mk_R2 A.1 B.1 N S T) : ∀ n, T + n ≤ 60000 → mk_R2 (mc_hrN A S n).1 (mr_hrN B N S n).1 N S (T + n)
  | 0, _ => h
  | n + 1, hn => by rw [mc_hrN, mr_hrN]; exact mk_tickR (T := T + n) (mk_hrN2 h n (by omega)) (by omega)
theorem mk_tick_hi {A : mm_M} {S : Nat} {k j : Nat} (hk : 50 ≤ k) : (mc_tick A S).1 k j = A.1 k j := by unfold mc_tick; rw [mm_sI_1, if_neg (by omega), mk_heN_o (by omega) 8 (fun i hi => by omega)]
theorem mk_hr_hi {A : mm_M} {S : Nat} {k j : Nat} (hk : 50 ≤ k) : ∀ n, (mc_hrN A S n).1 k j = A.1 k j
  | 0 => rfl
  | n + 1 => by rw [mc_hrN, mk_tick_hi hk, mk_hr_hi hk n]
theorem mk_hr_lo {B : mm_M} {N S : Nat} {k j : Nat} (hk : k < 50) (n : Nat) : (mr_hrN B N S n).1 k j = B.1 k j := mr_hrN_o (by omega) (Or.inl (by omega)) n
theorem mk_hearR {M : mm_M} {N S T : Nat} (h : mk_R M N S T) {n : Nat} (hn : T + n ≤ 60000) {M1 : mm_M} (h1 : M1.1 = (mc_hrN M S n).1) : mk_R (mr_hrN M1 N S n) N S (T + n) ∧ (mc_hrN M S n).1 0 8 = nI (T + n) := by
  have h0 : mk_R2 M.1 M1.1 N S T := mk_R2.tr (F' := M1.1) h (fun _ _ _ => rfl) (fun k j hk _ _ => by rw [h1, mk_hr_hi hk])
  have h2 := mk_hrN2 (A := M) (B := M1) h0 n hn
  exact ⟨mk_R2.tr h2 (fun k j hk => by rw [mk_hr_lo hk, h1]) (fun _ _ _ _ _ => rfl), h2.cT⟩
