/-- L: finding. What is kept, in the window -/
theorem mk_isK {M : mm_M} {F : mm_F} {N S T : Nat} (h : mk_R M N S T) (hT : T ≤ 60000) (hF : mr_eq F M.1) {e : Nat} (he : e < N) {t : Int32} (ht : (T : Int) - 64 ≤ t.toInt ∧ t.toInt < (T : Int)) : mr_isK F e t = if t.toInt < (M.1 54 e).toInt then 0 else 1 := by
  have hB := (h.elB e he).2.2.2.2.2.2
  have e64 : (64 : Int32).toInt = 64 := rfl
  have e1 : (1 : Int32).toInt = 1 := rfl
  have e0 : (0 : Int32).toInt = 0 := rfl
  have hTi : (nI T).toInt = (T : Int) := nI_toInt (by omega)
  have s1 : (nI T - 64).toInt = (T : Int) - 64 := by rw [mk_is, hTi, e64] <;> rw [hTi, e64] <;> omega
  have s3 : (nI T - 1).toInt = (T : Int) - 1 := by rw [mk_is, hTi, e1] <;> rw [hTi, e1] <;> omega
  have k1 : ¬ nm_in t (nI T - 64) (nI T - 1) = 0 := fun k => by have := mk_inT.mp k; rw [s1, s3] at this; omega
  unfold mr_isK
  rw [hF.2.2.2.1, hF.1, h.rT]
  by_cases z : t.toInt < (M.1 54 e).toInt
  · rw [if_pos z, if_pos (Int32.lt_iff_toInt_lt.mpr z)]
  · have k2 : ¬ t < 0 := fun k => by have := Int32.lt_iff_toInt_lt.mp k; rw [e0] at this; omega
    rw [if_neg z, if_neg (fun k => z (Int32.lt_iff_toInt_lt.mp k)), if_neg k1, if_neg k2]
theorem mk_kq {M : mm_M} {F : mm_F} {N S T : Nat} (h : mk_R M N S T) (hT : T ≤ 60000) (hF : mr_eq F M.1) {e r : Nat} (he : e < N) {t : Int32} (ht : (T : Int) - 64 ≤ t.toInt ∧ t.toInt < (T : Int)) : mr_kept F r e t = if t.toInt < (M.1 54 e).toInt then 0 else F r (64 * e + t.toInt.toNat % 64) := by
  unfold mr_kept
  rw [mk_isK h hT hF he ht]
  by_cases z : t.toInt < (M.1 54 e).toInt
  · rw [if_pos z, if_pos z, if_pos rfl]
  · rw [if_neg z, if_neg z, if_neg (by decide)]
theorem mk_kps {M P : mm_M} {N S T : Nat} (h : mk_R M N S T) (hT : T ≤ 60000) (p1 : P.1 = M.1) {e : Nat} (he : e < N) {x : Int32} (hx : 0 ≤ x.toInt ∧ x.toInt < 64) : mc_keeps P e x = if (T : Int) - 64 + x.toInt < (M.1 54 e).toInt then 0 else 1 := by
  have hE := h.el e he
  have e64 : (64 : Int32).toInt = 64 := rfl
  have e0 : (0 : Int32).toInt = 0 := rfl
  have hTi : (nI T).toInt = (T : Int) := nI_toInt (by omega)
  have s1 : (nI T - 64).toInt = (T : Int) - 64 := by rw [mk_is, hTi, e64] <;> rw [hTi, e64] <;> omega
  have s2 : (nI T - 64 + x).toInt = (T : Int) - 64 + x.toInt := by rw [mk_ia, s1] <;> rw [s1] <;> omega
  have x0 : ¬ x < 0 := fun k => by have := Int32.lt_iff_toInt_lt.mp k; rw [e0] at this; omega
  have x64 : ¬ 64 ≤ x := fun k => by have := Int32.le_iff_toInt_le.mp k; rw [e64] at this; omega
  unfold mc_keeps
  rw [p1, if_neg x0, if_neg x64, hE.2.2.2.2.2.2.2.2, hE.2.2.2.2.2.2.2.1]
  by_cases z : (T : Int) - 64 + x.toInt < (M.1 54 e).toInt
  · rw [if_pos z, if_pos (Int32.lt_iff_toInt_lt.mpr (by rw [s2]; exact z))]
  · rw [if_neg z, if_neg (fun k => z (by have := Int32.lt_iff_toInt_lt.mp k; rw [s2] at this; exact this))]
theorem mk_ft {M : mm_M} {N S T : Nat} (h : mk_R M N S T) {e : Nat} (he : e < N) {b : Int32} (hb : -4 ≤ b.toInt ∧ b.toInt ≤ 4) : (mc_ft M e b).toInt = 16 + (mr_delay M.1 e b).toInt + (M.1 57 e).toInt ∧ 1 ≤ (mc_ft M e b).toInt ∧ (mc_ft M e b).toInt ≤ 31 ∧ (-12 ≤ (mr_delay M.1 e b).toInt ∧ (mr_delay M.1 e b).toInt ≤ 12) ∧ -3 ≤ (M.1 57 e).toInt ∧ (M.1 57 e).toInt ≤ 3 := by
  have hE := h.el e he
  have hB := h.elB e he
  have e16 : (16 : Int32).toInt = 16 := rfl
  have hdB := mk_delayB (F := M.1) (e := e) (b := b) hB.2.1 hb
  have hlB := hB.2.2.2.2.2.1
  have s1 : (16 + mr_delay M.1 e b).toInt = 16 + (mr_delay M.1 e b).toInt := by rw [mk_ia] <;> rw [e16] <;> omega
  have s2 : (mc_ft M e b).toInt = 16 + (mr_delay M.1 e b).toInt + (M.1 57 e).toInt := by
    unfold mc_ft
    rw [mk_delay hE.2.2.1, hE.2.2.2.2.2.2.1, mk_ia, s1] <;> rw [s1] <;> omega
  omega
theorem mk_tick1 {M : mm_M} {F : mm_F} {N S T : Nat} (h : mk_R M N S T) (hT : T ≤ 60000) (hF : mr_eq F M.1) {e : Nat} (he : e < N) {b : Int32} (hb : -4 ≤ b.toInt ∧ b.toInt ≤ 4) {n : Nat} (hn : n < 32) : (mr_tick1 F b n e).toInt = (T : Int) - 64 + ((mc_ft M e b).toInt + (n : Int)) := by
  have hf := mk_ft h he hb
  have e1 : (1 : Int32).toInt = 1 := rfl
  have e47 : (47 : Int32).toInt = 47 := rfl
  have hTi : (nI T).toInt = (T : Int) := nI_toInt (by omega)
  have hni : (nI n).toInt = (n : Int) := nI_toInt (by omega)
  unfold mr_tick1
  rw [hF.1, h.rT, mr_delay_c hF, hF.2.2.2.2.2.2]
  have s1 : (nI T - 1).toInt = (T : Int) - 1 := by rw [mk_is, hTi, e1] <;> rw [hTi, e1] <;> omega
  have s2 : (nI T - 1 - 47).toInt = (T : Int) - 48 := (mk_is (by rw [s1, e47]; omega) (by rw [s1, e47]; omega)).trans (by rw [s1, e47]; omega)
  have s3 : (nI T - 1 - 47 + nI n).toInt = (T : Int) - 48 + (n : Int) := by rw [mk_ia, s2, hni] <;> rw [s2, hni] <;> omega
  have s4 : (nI T - 1 - 47 + nI n + mr_delay M.1 e b).toInt = (T : Int) - 48 + (n : Int) + (mr_delay M.1 e b).toInt := by rw [mk_ia, s3] <;> rw [s3] <;> omega
  exact (mk_ia (by rw [s4]; omega) (by rw [s4]; omega)).trans (by rw [s4]; omega)
/-- what stands while it takes: n rounds done, and k elements of the next -/
def mk_Q (M P : mm_M) (F : mm_F) (N T n k B : Nat) (b : Int32) (sm : Nat → Int64) (me : Nat → Int32) : Prop := (P.1 = M.1) ∧ (mr_eq F M.1) ∧ (∀ i : Nat, i < 8 → P.2 (10 + i) 10 = (mc_w M i).toInt64) ∧ (∀ c : Nat, c < 32 → P.2 4 c = sm c) ∧ (∀ c : Nat, c < 32 → F 63 c = me c) ∧ (∀ e : Nat, e < N → ¬ M.1 55 e = 0 → ∀ c : Nat, c < 64 → ∀ t : Int32, t.toInt = (T : Int) - 64 + (c : Int) → P.2 (34 + e) c = (mr_kept F 62 e t).toInt64) ∧ (∀ e : Nat, e < N → ∀ c : Nat, c < 64 → ∀ t : Int32, t.toInt = (T : Int) - 64 + (c : Int) → (-(5 * (B : Int)) ≤ (mr_kept F 62 e t).toInt ∧ (mr_kept F 62 e t).toInt ≤ 5 * (B : Int)) ∧ ((mc_ft M e b).toInt + (n : Int) + (if e < k then 1 else 0) ≤ (c : Int) → -(B : Int) ≤ (mr_kept F 62 e t).toInt ∧ (mr_kept F 62 e t).toInt ≤ (B : Int)))
theorem mk_Q.p1 {M P : mm_M} {F : mm_F} {N T n k B : Nat} {b : Int32} {sm : Nat → Int64} {me : Nat → Int32} (h : mk_Q M P F N T n k B b sm me) : P.1 = M.1 := h.1
theorem mk_Q.fe {M P : mm_M} {F : mm_F} {N T n k B : Nat} {b : Int32} {sm : Nat → Int64} {me : Nat → Int32} (h : mk_Q M P F N T n k B b sm me) : mr_eq F M.1 := h.2.1
theorem mk_Q.w {M P : mm_M} {F : mm_F} {N T n k B : Nat} {b : Int32} {sm : Nat → Int64} {me : Nat → Int32} (h : mk_Q M P F N T n k B b sm me) : ∀ i : Nat, i < 8 → P.2 (10 + i) 10 = (mc_w M i).toInt64 := h.2.2.1
theorem mk_Q.s4 {M P : mm_M} {F : mm_F} {N T n k B : Nat} {b : Int32} {sm : Nat → Int64} {me : Nat → Int32} (h : mk_Q M P F N T n k B b sm me) : ∀ c : Nat, c < 32 → P.2 4 c = sm c := h.2.2.2.1
theorem mk_Q.m63 {M P : mm_M} {F : mm_F} {N T n k B : Nat} {b : Int32} {sm : Nat → Int64} {me : Nat → Int32} (h : mk_Q M P F N T n k B b sm me) : ∀ c : Nat, c < 32 → F 63 c = me c := h.2.2.2.2.1
theorem mk_Q.la {M P : mm_M} {F : mm_F} {N T n k B : Nat} {b : Int32} {sm : Nat → Int64} {me : Nat → Int32} (h : mk_Q M P F N T n k B b sm me) : ∀ e : Nat, e < N → ¬ M.1 55 e = 0 → ∀ c : Nat, c < 64 → ∀ t : Int32, t.toInt = (T : Int) - 64 + (c : Int) → P.2 (34 + e) c = (mr_kept F 62 e t).toInt64 := h.2.2.2.2.2.1
theorem mk_Q.bd {M P : mm_M} {F : mm_F} {N T n k B : Nat} {b : Int32} {sm : Nat → Int64} {me : Nat → Int32} (h : mk_Q M P F N T n k B b sm me) : ∀ e : Nat, e < N → ∀ c : Nat, c < 64 → ∀ t : Int32, t.toInt = (T : Int) - 64 + (c : Int) → (-(5 * (B : Int)) ≤ (mr_kept F 62 e t).toInt ∧ (mr_kept F 62 e t).toInt ≤ 5 * (B : Int)) ∧ ((mc_ft M e b).toInt + (n : Int) + (if e < k then 1 else 0) ≤ (c : Int) → -(B : Int) ≤ (mr_kept F 62 e t).toInt ∧ (mr_kept F 62 e t).toInt ≤ (B : Int)) := h.2.2.2.2.2.2
theorem mk_Q_n {M P : mm_M} {F : mm_F} {N T n B : Nat} {b : Int32} {sm : Nat → Int64} {me : Nat → Int32} (h : mk_Q M P F N T n N B b sm me) : mk_Q M P F N T (n + 1) 0 B b sm me := by
  refine ⟨h.p1, h.fe, h.w, h.s4, h.m63, h.la, fun e he c hc t ht => ⟨(h.bd e he c hc t ht).1, fun k => (h.bd e he c hc t ht).2 ?_⟩⟩
  rw [if_pos he]
  rw [if_neg (Nat.not_lt_zero e)] at k
  omega
theorem mk_dead {M : mm_M} {N S T : Nat} (h : mk_R M N S T) {e : Nat} (he : e < N) (z : M.1 55 e = 0) : mc_w M e = 0 := by rw [mk_w_c h he]; unfold mk_wt; rw [if_pos z]; rfl
theorem mk_Q_s {M P B1 : mm_M} {N S T n k B : Nat} {b : Int32} {sm : Nat → Int64} {me : Nat → Int32} {y : Int64} (hR : mk_R M N S T) (hT : T ≤ 60000) (hb : -4 ≤ b.toInt ∧ b.toInt ≤ 4) (hB : B ≤ 100000000) (hn : n < 32) (hk : k < N) (h : mk_Q M P B1.1 N T n k B b sm me) (hy : y.toInt = (me n).toInt) (hyB : -(4 * (B : Int)) ≤ (me n).toInt ∧ (me n).toInt ≤ 4 * (B : Int)) : mk_Q M (mc_take P k (nI n) b y) (mr_tk1 B1 b n k).1 N T n (k + 1) B b sm me := by
  have hN8 := hR.N8
  have hft := mk_ft hR hk hb
  have e0 : (0 : Int32).toInt = 0 := rfl
  have hni : (nI n).toInt = (n : Int) := nI_toInt (by omega)
  have hftP : mc_ft P k b = mc_ft M k b := mk_ft_c h.p1
  have hx : (mc_ft M k b + nI n).toInt = (mc_ft M k b).toInt + (n : Int) := by rw [mk_ia, hni] <;> rw [hni] <;> omega
  have ht := mk_tick1 hR hT h.fe hk hb hn
  have bdk : ∀ e : Nat, e < N → ∀ c : Nat, c < 64 → ∀ t : Int32, t.toInt = (T : Int) - 64 + (c : Int) → (-(5 * (B : Int)) ≤ (mr_kept B1.1 62 e t).toInt ∧ (mr_kept B1.1 62 e t).toInt ≤ 5 * (B : Int)) ∧ ((mc_ft M e b).toInt + (n : Int) + (if e < k + 1 then 1 else 0) ≤ (c : Int) → -(B : Int) ≤ (mr_kept B1.1 62 e t).toInt ∧ (mr_kept B1.1 62 e t).toInt ≤ (B : Int)) := by
    intro e he c hc t ht
    refine ⟨(h.bd e he c hc t ht).1, fun q => (h.bd e he c hc t ht).2 ?_⟩
    by_cases z : e < k
    · rw [if_pos z]; rw [if_pos (by omega)] at q; exact q
    · rw [if_neg z]
      by_cases z2 : e < k + 1
      · rw [if_pos z2] at q; omega
      · rw [if_neg z2] at q; exact q
  have h55 : B1.1 55 k = M.1 55 k := by rw [h.fe.2.2.2.2.1]
  unfold mc_take mr_tk1
  rw [h.w k (by omega), hftP, h55]
  by_cases z : M.1 55 k = 0
  · rw [mk_dead hR hk z, if_pos mk_0J, if_pos z]
    exact ⟨h.p1, h.fe, h.w, h.s4, h.m63, h.la, bdk⟩
  · rw [if_neg (mk_wpos hR hk z), if_neg z]
    obtain ⟨c0, hc0⟩ : ∃ c0 : Nat, (c0 : Int) = (mc_ft M k b).toInt + (n : Int) := ⟨((mc_ft M k b).toInt + (n : Int)).toNat, by omega⟩
    have hc64 : c0 < 64 := by omega
    rw [mk_kps hR hT h.p1 hk (by omega), mk_isK hR hT h.fe hk (by omega), ht, hx]
    by_cases g : (T : Int) - 64 + ((mc_ft M k b).toInt + (n : Int)) < (M.1 54 k).toInt
    · rw [if_pos g, if_pos rfl, if_pos rfl]
      exact ⟨h.p1, h.fe, h.w, h.s4, h.m63, h.la, bdk⟩
    · have hB0 := (hR.elB k hk).2.2.2.2.2.2
      have x0 : ¬ mc_ft M k b + nI n < 0 := fun q => by have := Int32.lt_iff_toInt_lt.mp q; rw [e0] at this; omega
      have x64 : ¬ nI 64 ≤ mc_ft M k b + nI n := fun q => by have := Int32.le_iff_toInt_le.mp q; rw [nI_toInt (by omega)] at this; omega
      rw [if_neg g, if_neg (by decide), if_neg x0, if_neg x64, if_neg (by decide), h.m63 n hn]
      have hs : ((mc_ft M k b).toInt + (n : Int)).toNat = c0 := by omega
      rw [hs]
      obtain ⟨t0, ht0⟩ : ∃ t0 : Int32, t0 = mr_tick1 B1.1 b n k := ⟨_, rfl⟩
      rw [← ht0] at ht
      have ht1 : t0.toInt = (T : Int) - 64 + (c0 : Int) := by omega
      have hq : ((T : Int) - 64 + ((mc_ft M k b).toInt + (n : Int))).toNat % 64 = t0.toInt.toNat % 64 := by rw [ht]
      rw [hq]
      obtain ⟨j0, hj0⟩ : ∃ j0 : Nat, j0 = 64 * k + t0.toInt.toNat % 64 := ⟨_, rfl⟩
      rw [← hj0]
      have hk0 := (h.bd k hk c0 hc64 t0 ht1).2 (by rw [if_neg (Nat.lt_irrefl k)]; omega)
      have hkv : mr_kept B1.1 62 k t0 = B1.1 62 j0 := by rw [mk_kq hR hT h.fe hk (by omega), if_neg (by omega), hj0]
      rw [hkv] at hk0
      have hfe : mr_eq (mm_sI B1 62 j0 (B1.1 62 j0 - me n)).1 M.1 := by
        obtain ⟨g1, g2, g3, g4, g5, g6, g7⟩ := h.fe
        refine ⟨?_, ?_, ?_, ?_, ?_, ?_, ?_⟩
        · rw [mm_sI_1, if_neg (by omega)]; exact g1
        · rw [mm_sI_1, if_neg (by omega)]; exact g2
        · exact (mm_sI_o 51 (by decide)).1.trans g3
        · exact (mm_sI_o 54 (by decide)).1.trans g4
        · exact (mm_sI_o 55 (by decide)).1.trans g5
        · exact (mm_sI_o 56 (by decide)).1.trans g6
        · exact (mm_sI_o 57 (by decide)).1.trans g7
      have hsub : (B1.1 62 j0 - me n).toInt = (B1.1 62 j0).toInt - (me n).toInt := mk_is (by omega) (by omega)
      -- what is kept now
      have hnew : ∀ e : Nat, e < N → ∀ c : Nat, c < 64 → ∀ t : Int32, t.toInt = (T : Int) - 64 + (c : Int) → mr_kept (mm_sI B1 62 j0 (B1.1 62 j0 - me n)).1 62 e t = if e = k ∧ c = c0 then B1.1 62 j0 - me n else mr_kept B1.1 62 e t := by
        intro e he c hc t ht2
        rw [mk_kq hR hT hfe he (by omega), mk_kq hR hT h.fe he (by omega)]
        by_cases q : e = k ∧ c = c0
        · obtain ⟨rfl, rfl⟩ := q
          rw [if_neg (by omega), if_pos ⟨rfl, rfl⟩, mm_sI_1, if_pos ⟨rfl, by rw [hj0, ht1, ht2]⟩]
        · rw [if_neg q]
          by_cases v : t.toInt < (M.1 54 e).toInt
          · rw [if_pos v, if_pos v]
          · have hBe := (hR.elB e he).2.2.2.2.2.2
            rw [if_neg v, if_neg v, mm_sI_1, if_neg (by omega)]
      refine ⟨h.p1, hfe, fun i hi => ?_, fun c hc => ?_, fun c hc => ?_, fun e he ze c hc t ht2 => ?_, fun e he c hc t ht2 => ?_⟩
      · rw [mm_sL_k (by omega)]; exact h.w i hi
      · rw [mm_sL_k (by omega)]; exact h.s4 c hc
      · rw [mm_sI_1, if_neg (by omega)]; exact h.m63 c hc
      · rw [hnew e he c hc t ht2, mm_sL_2]
        by_cases q : e = k ∧ c = c0
        · obtain ⟨rfl, rfl⟩ := q
          rw [if_pos ⟨rfl, rfl⟩, if_pos ⟨rfl, rfl⟩, h.la e hk z c hc64 t0 ht1, hkv]
          apply Int64.toInt_inj.mp
          rw [mk_w, hsub, mk_js, mk_w, hy] <;> rw [mk_w, hy] <;> omega
        · rw [if_neg q, if_neg (by omega)]
          exact h.la e he ze c hc t ht2
      · rw [hnew e he c hc t ht2]
        by_cases q : e = k ∧ c = c0
        · obtain ⟨rfl, rfl⟩ := q
          rw [if_pos ⟨rfl, rfl⟩, hsub, if_pos (Nat.lt_succ_self e)]
          omega
        · rw [if_neg q]
          exact bdk e he c hc t ht2
