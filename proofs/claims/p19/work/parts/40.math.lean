/-- M: calibrating -/
theorem mk_P1 {M : mm_M} {F : mm_F} {N S T : Nat} (h : mk_R M N S T) (hT : T ≤ 60000) (hF : mr_eq F M.1) (h61 : F 61 = M.1 61) : mk_P M (mc_laM M 8) F 61 N T := by
  have h0 := mk_P0 h hT
  refine ⟨h0.p1, hF, h0.w, fun e he z c hc t ht => ?_⟩
  rw [mr_kept_c hF h61]
  exact h0.tu e he z c hc t ht
theorem mk_laid {M P : mm_M} {F : mm_F} {r N S T : Nat} (h : mk_R M N S T) (hP : mk_P M P F r N T) {e : Nat} (he : e < N) (z : ¬ M.1 55 e = 0) {x t : Int32} (hx : 0 ≤ x.toInt ∧ x.toInt < 64) (ht : t.toInt = (T : Int) - 64 + x.toInt) : mc_laid P e x = (mr_kept F r e t).toInt64 := by
  have e0 : (0 : Int32).toInt = 0 := rfl
  have h1 : ¬ x < 0 := fun k => by have := Int32.lt_iff_toInt_lt.mp k; rw [e0] at this; omega
  have h2 : ¬ nI 64 ≤ x := fun k => by have := Int32.le_iff_toInt_le.mp k; rw [nI_toInt (by omega)] at this; omega
  unfold mc_laid
  rw [if_neg h1, if_neg h2]
  exact (hP.tu e he z x.toInt.toNat (by omega) t (by omega)).1
theorem mk_ag {M P X : mm_M} {F : mm_F} {N S T : Nat} (h : mk_R M N S T) (hT : T ≤ 60000) (hP : mk_P M P F 61 N T) (hX2 : X.2 = P.2) (hX5 : ∀ i : Nat, X.1 (10 + i) 5 = M.1 (10 + i) 5) {e o : Nat} (he : e < N) (ho : o < N) (ze : ¬ M.1 55 e = 0) (zo : ¬ M.1 55 o = 0) {b t : Int32} (hb : -4 ≤ b.toInt ∧ b.toInt ≤ 4) (ht : -3 ≤ t.toInt ∧ t.toInt ≤ 3) : ∀ n, n ≤ 32 → mc_agN X e o b t n = mr_agN F e t o b n
  | 0, _ => rfl
  | n + 1, hn => by
    have ih := mk_ag h hT hP hX2 hX5 he ho ze zo hb ht n (by omega)
    have e16 : (16 : Int32).toInt = 16 := rfl
    have hni : (nI n).toInt = (n : Int) := nI_toInt (by omega)
    have htk := mk_tick (hP.fe.1.trans h.rT) hT (show n < 32 by omega)
    have hde : mc_delay X e b = mr_delay F e b := mk_delay2 (by rw [hX5, (h.el e he).2.2.1, hP.fe.2.2.1]) b
    have hdo : mc_delay X o b = mr_delay F o b := mk_delay2 (by rw [hX5, (h.el o ho).2.2.1, hP.fe.2.2.1]) b
    have hBe := mk_delayB (F := F) (e := e) (b := b) (by rw [hP.fe.2.2.1]; exact (h.elB e he).2.1) hb
    have hBo := mk_delayB (F := F) (e := o) (b := b) (by rw [hP.fe.2.2.1]; exact (h.elB o ho).2.1) hb
    have hXP : ∀ i x, mc_laid X i x = mc_laid P i x := fun i x => by unfold mc_laid; rw [hX2]
    rw [mc_agN, mr_agN, ih, hXP, hXP, hde, hdo]
    have s1 : (16 + mr_delay F e b).toInt = 16 + (mr_delay F e b).toInt := by rw [mk_ia] <;> rw [e16] <;> omega
    have s2 : (16 + mr_delay F e b + t).toInt = 16 + (mr_delay F e b).toInt + t.toInt := (mk_ia (by rw [s1]; omega) (by rw [s1]; omega)).trans (by rw [s1])
    have s3 : (16 + mr_delay F e b + t + nI n).toInt = 16 + (mr_delay F e b).toInt + t.toInt + (n : Int) := (mk_ia (by rw [s2, hni]; omega) (by rw [s2, hni]; omega)).trans (by rw [s2, hni])
    have u1 : (16 + mr_delay F o b).toInt = 16 + (mr_delay F o b).toInt := by rw [mk_ia] <;> rw [e16] <;> omega
    have u2 : (16 + mr_delay F o b + nI n).toInt = 16 + (mr_delay F o b).toInt + (n : Int) := (mk_ia (by rw [u1, hni]; omega) (by rw [u1, hni]; omega)).trans (by rw [u1, hni])
    generalize F 50 0 - 1 - (47 - nI n) = tk at *
    have v1 : (tk + mr_delay F e b).toInt = tk.toInt + (mr_delay F e b).toInt := mk_ia (by omega) (by omega)
    have v2 : (tk + mr_delay F e b + t).toInt = tk.toInt + (mr_delay F e b).toInt + t.toInt := (mk_ia (by rw [v1]; omega) (by rw [v1]; omega)).trans (by rw [v1])
    have v3 : (tk + mr_delay F o b).toInt = tk.toInt + (mr_delay F o b).toInt := mk_ia (by omega) (by omega)
    rw [mk_laid h hP he ze (t := tk + mr_delay F e b + t) (by omega) (by omega), mk_laid h hP ho zo (t := tk + mr_delay F o b) (by omega) (by omega)]
theorem mk_gn {y z : Int64} : mc_gn y z = mr_gn z := by
  have e255 : (255 : Int64).toInt = 255 := rfl
  have e16 : (16 : Int64).toInt = 16 := rfl
  have hle : lg_cmp z 255 ≤ 0 ↔ z.toInt ≤ 255 := mk_le.trans (by rw [e255])
  have hge : 0 ≤ lg_cmp z 16 ↔ 16 ≤ z.toInt := by
    have h := lg_lt0 (x := z) (y := 16)
    constructor
    · intro k
      refine Int.not_lt.mp fun q => ?_
      have h1 := Int32.lt_iff_toInt_lt.mp (h.mpr (Int64.lt_iff_toInt_lt.mpr (by rw [e16]; exact q)))
      have h2 := Int32.le_iff_toInt_le.mp k
      omega
    · intro k
      refine Int32.le_iff_toInt_le.mpr (Int.not_lt.mp fun q => ?_)
      have := Int64.lt_iff_toInt_lt.mp (h.mp (Int32.lt_iff_toInt_lt.mpr q))
      rw [e16] at this
      omega
  unfold mc_gn mr_gn
  by_cases a : z < 255
  · have a2 := Int64.lt_iff_toInt_lt.mp a
    rw [e255] at a2
    rw [if_pos a]
    by_cases c : z < 16
    · have c2 := Int64.lt_iff_toInt_lt.mp c
      rw [e16] at c2
      rw [if_pos c, if_neg (fun k => by have := hge.mp k; omega)]; rfl
    · have c2 : ¬ z.toInt < 16 := fun k => c (Int64.lt_iff_toInt_lt.mpr (by rw [e16]; exact k))
      rw [if_neg c, if_pos (hge.mpr (by omega)), if_pos (hle.mpr (by omega))]
  · have a2 : ¬ z.toInt < 255 := fun k => a (Int64.lt_iff_toInt_lt.mpr (by rw [e255]; exact k))
    rw [if_neg a, if_neg (show ¬ (255 : Int64) < 16 by decide), if_pos (hge.mpr (by omega))]
    by_cases c : z.toInt ≤ 255
    · rw [if_pos (hle.mpr c)]
      have : z = 255 := Int64.toInt_inj.mp (by rw [e255]; omega)
      rw [this]
    · rw [if_neg (fun k => c (hle.mp k))]; rfl
theorem mk_gnB {z : Int64} : 16 ≤ (mr_gn z).toInt ∧ (mr_gn z).toInt ≤ 255 := by
  have e16 : (16 : Int64).toInt = 16 := rfl
  have e255 : (255 : Int64).toInt = 255 := rfl
  unfold mr_gn
  by_cases a : 0 ≤ lg_cmp z 16
  · rw [if_pos a]
    by_cases c : lg_cmp z 255 ≤ 0
    · rw [if_pos c]
      have c2 := mk_le.mp c
      rw [e255] at c2
      have a2 : 16 ≤ z.toInt := by
        refine Int.not_lt.mp fun q => ?_
        have h1 := Int32.lt_iff_toInt_lt.mp ((lg_lt0 (x := z) (y := 16)).mpr (Int64.lt_iff_toInt_lt.mpr (by rw [e16]; exact q)))
        have h2 := Int32.le_iff_toInt_le.mp a
        omega
      have hz : z = Int64.ofInt z.toInt := mk_eqJ rfl
      have hq : (Int64.ofInt z.toInt).toInt32.toInt = z.toInt := by rw [mk_o, nm_ofI (by omega) (by omega)]
      rw [← hz] at hq
      omega
    · rw [if_neg c]; decide
  · rw [if_neg a]; decide
theorem mk_lagB {n : Nat} (hn : n < 6) : -3 ≤ (nI n - 2).toInt ∧ (nI n - 2).toInt ≤ 3 := by
  have e2 : (2 : Int32).toInt = 2 := rfl
  have hni : (nI n).toInt = (n : Int) := nI_toInt (by omega)
  have : (nI n - 2).toInt = (n : Int) - 2 := (mk_is (by rw [hni, e2]; omega) (by rw [hni, e2]; omega)).trans (by rw [hni, e2])
  omega
theorem mk_bLB {F : mm_F} {e o : Nat} {b : Int32} : ∀ n, n ≤ 6 → -3 ≤ (mr_bL F e o b n).toInt ∧ (mr_bL F e o b n).toInt ≤ 3
  | 0, _ => by rw [mr_bL]; decide
  | n + 1, hn => by
    rw [mr_bL]
    split
    · exact mk_bLB n (by omega)
    · exact mk_lagB (by omega)
theorem mk_bL {M P X : mm_M} {F : mm_F} {N S T : Nat} (h : mk_R M N S T) (hT : T ≤ 60000) (hP : mk_P M P F 61 N T) (hX2 : X.2 = P.2) (hX5 : ∀ i : Nat, X.1 (10 + i) 5 = M.1 (10 + i) 5) {e o : Nat} (he : e < N) (ho : o < N) (ze : ¬ M.1 55 e = 0) (zo : ¬ M.1 55 o = 0) {b : Int32} (hb : -4 ≤ b.toInt ∧ b.toInt ≤ 4) : ∀ n, n ≤ 6 → mc_bL X e o b n = mr_bL F e o b n
  | 0, _ => rfl
  | n + 1, hn => by
    have hB := mk_bLB (F := F) (e := e) (o := o) (b := b) n (by omega)
    rw [mc_bL, mr_bL, mk_bL h hT hP hX2 hX5 he ho ze zo hb n (by omega), mk_ag h hT hP hX2 hX5 he ho ze zo hb (mk_lagB (by omega)) 32 (Nat.le_refl 32), mk_ag h hT hP hX2 hX5 he ho ze zo hb hB 32 (Nat.le_refl 32)]
theorem mk_agc {F F' : mm_F} (hc : ∀ k j : Nat, k ≠ 56 → k ≠ 57 → F' k j = F k j) {e o : Nat} {t b : Int32} : ∀ n, mr_agN F' e t o b n = mr_agN F e t o b n
  | 0 => rfl
  | n + 1 => by
    have h50 := hc 50 0 (by decide) (by decide)
    have h54 : F' 54 = F 54 := funext fun j => hc 54 j (by decide) (by decide)
    have h51 : F' 51 = F 51 := funext fun j => hc 51 j (by decide) (by decide)
    have h61 : F' 61 = F 61 := funext fun j => hc 61 j (by decide) (by decide)
    have hk : ∀ e t, mr_kept F' 61 e t = mr_kept F 61 e t := fun e t => by unfold mr_kept mr_isK; rw [h50, h54, h61]
    have hd : ∀ e, mr_delay F' e b = mr_delay F e b := fun e => by unfold mr_delay; rw [h51]
    rw [mr_agN, mr_agN, mk_agc hc n, h50, hk, hk, hd, hd]
theorem mk_bLc {F F' : mm_F} (hc : ∀ k j : Nat, k ≠ 56 → k ≠ 57 → F' k j = F k j) {e o : Nat} {b : Int32} : ∀ n, mr_bL F' e o b n = mr_bL F e o b n
  | 0 => rfl
  | n + 1 => by rw [mr_bL, mr_bL, mk_bLc hc n, mk_agc hc 32, mk_agc hc 32]
/-- while it calibrates -/
def mk_C (M P X Y B1 : mm_M) (N : Nat) : Prop := (X.2 = P.2) ∧ (∀ k j : Nat, ¬ (10 ≤ k ∧ k < 10 + N ∧ (j = 8 ∨ j = 9)) → X.1 k j = M.1 k j) ∧ (∀ k j : Nat, k ≠ 56 → k ≠ 57 → Y.1 k j = B1.1 k j) ∧ (∀ e : Nat, e < N → X.1 (10 + e) 8 = Y.1 56 e ∧ X.1 (10 + e) 9 = Y.1 57 e) ∧ (∀ e : Nat, e < N → (16 ≤ (Y.1 56 e).toInt ∧ (Y.1 56 e).toInt ≤ 255) ∧ (-3 ≤ (Y.1 57 e).toInt ∧ (Y.1 57 e).toInt ≤ 3))
theorem mk_C.x2 {M P X Y B1 : mm_M} {N : Nat} (h : mk_C M P X Y B1 N) : X.2 = P.2 := h.1
theorem mk_C.xo {M P X Y B1 : mm_M} {N : Nat} (h : mk_C M P X Y B1 N) : ∀ k j : Nat, ¬ (10 ≤ k ∧ k < 10 + N ∧ (j = 8 ∨ j = 9)) → X.1 k j = M.1 k j := h.2.1
theorem mk_C.yo {M P X Y B1 : mm_M} {N : Nat} (h : mk_C M P X Y B1 N) : ∀ k j : Nat, k ≠ 56 → k ≠ 57 → Y.1 k j = B1.1 k j := h.2.2.1
theorem mk_C.eq {M P X Y B1 : mm_M} {N : Nat} (h : mk_C M P X Y B1 N) : ∀ e : Nat, e < N → X.1 (10 + e) 8 = Y.1 56 e ∧ X.1 (10 + e) 9 = Y.1 57 e := h.2.2.2.1
theorem mk_C.bd {M P X Y B1 : mm_M} {N : Nat} (h : mk_C M P X Y B1 N) : ∀ e : Nat, e < N → (16 ≤ (Y.1 56 e).toInt ∧ (Y.1 56 e).toInt ≤ 255) ∧ (-3 ≤ (Y.1 57 e).toInt ∧ (Y.1 57 e).toInt ≤ 3) := h.2.2.2.2
theorem mk_C_s {M P X Y B1 : mm_M} {N n : Nat} (h : mk_C M P X Y B1 N) (hn : n < N) {g t : Int32} (hg : 16 ≤ g.toInt ∧ g.toInt ≤ 255) (ht : -3 ≤ t.toInt ∧ t.toInt ≤ 3) : mk_C M P (mm_sI (mm_sI X (10 + n) 8 g) (10 + n) 9 t) (mm_sI (mm_sI Y 56 n g) 57 n t) B1 N := by
  have a1 : (mm_sI (mm_sI X (10 + n) 8 g) (10 + n) 9 t).1 (10 + n) 8 = g := by rw [mm_sI_j (by decide), mm_sI_s]
  have a2 : (mm_sI (mm_sI X (10 + n) 8 g) (10 + n) 9 t).1 (10 + n) 9 = t := mm_sI_s
  have b1 : (mm_sI (mm_sI Y 56 n g) 57 n t).1 56 n = g := by rw [mm_sI_k (by decide), mm_sI_s]
  have b2 : (mm_sI (mm_sI Y 56 n g) 57 n t).1 57 n = t := mm_sI_s
  refine ⟨h.x2, fun k j hk => ?_, fun k j h1 h2 => ?_, fun e he => ?_, fun e he => ?_⟩
  · rw [mm_sI_1, if_neg (by omega), mm_sI_1, if_neg (by omega)]; exact h.xo k j hk
  · rw [mm_sI_1, if_neg (by omega), mm_sI_1, if_neg (by omega)]; exact h.yo k j h1 h2
  · by_cases z : e = n
    · subst z
      exact ⟨a1.trans b1.symm, a2.trans b2.symm⟩
    · rw [mm_sI_k (by omega), mm_sI_k (by omega), mm_sI_k (by omega), mm_sI_j (by omega), mm_sI_k (by omega), mm_sI_k (by omega), mm_sI_j (by omega), mm_sI_k (by omega)]
      exact h.eq e he
  · by_cases z : e = n
    · subst z
      rw [b1, b2]
      exact ⟨hg, ht⟩
    · rw [mm_sI_k (by omega), mm_sI_j (by omega), mm_sI_j (by omega), mm_sI_k (by omega)]
      exact h.bd e he
