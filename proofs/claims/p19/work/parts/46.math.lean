def mz_rv (cd : Int32) (a b c r : Int32) : Int32 := if cd = 0 then r else if cd = 1 then a else if cd = 2 then b else c
theorem mz_rv0 {cd : Int32} {a b c r : Int32} (h : cd = 0) : mz_rv cd a b c r = r := if_pos h
theorem mz_rv1 {cd : Int32} {a b c r : Int32} (h : cd = 1) : mz_rv cd a b c r = a := by rw [mz_rv, if_neg (by rw [h]; decide), if_pos h]
theorem mz_rv2 {cd : Int32} {a b c r : Int32} (h : cd = 2) : mz_rv cd a b c r = b := by rw [mz_rv, if_neg (by rw [h]; decide), if_neg (by rw [h]; decide), if_pos h]
theorem mz_rv3 {cd : Int32} {a b c r : Int32} (h : cd = 3) : mz_rv cd a b c r = c := by rw [mz_rv, if_neg (by rw [h]; decide), if_neg (by rw [h]; decide), if_neg (by rw [h]; decide)]
def mz_rvJ (cd : Int32) (a b c r : Int64) : Int64 := if cd = 0 then r else if cd = 1 then a else if cd = 2 then b else c
theorem mz_rvJ0 {cd : Int32} {a b c r : Int64} (h : cd = 0) : mz_rvJ cd a b c r = r := if_pos h
theorem mz_rvJ1 {cd : Int32} {a b c r : Int64} (h : cd = 1) : mz_rvJ cd a b c r = a := by rw [mz_rvJ, if_neg (by rw [h]; decide), if_pos h]
theorem mz_rvJ2 {cd : Int32} {a b c r : Int64} (h : cd = 2) : mz_rvJ cd a b c r = b := by rw [mz_rvJ, if_neg (by rw [h]; decide), if_neg (by rw [h]; decide), if_pos h]
theorem mz_rvJ3 {cd : Int32} {a b c r : Int64} (h : cd = 3) : mz_rvJ cd a b c r = c := by rw [mz_rvJ, if_neg (by rw [h]; decide), if_neg (by rw [h]; decide), if_neg (by rw [h]; decide)]
theorem mk_R.eq {M M' : mm_M} {N S T : Nat} (h : mk_R M N S T) (hw : M'.1 = M.1) : mk_R M' N S T := by
  unfold mk_R
  rw [hw]
  exact h
theorem mz_1 {x : mm_M} {b : Int32} : (mc_steer (mc_laM x 8) b).1 = x.1 := (mk_st_1 8).trans (mc_laM_1 8)
theorem mz_qpow {M Mw : mm_M} {N S T : Nat} (h : mk_R M N S T) (hT : T ≤ 59000) (hw : Mw.1 = M.1) {x : Int32} (hx : ¬ nm_in x (-4) 4 = 0) : (∀ (v : Option Value) (u : mm_M), (mc_bek x = 0 ∧ v = some (.long (mc_pwN (mc_steer (mc_laM Mw 8) x) 32)) ∧ u = mc_steer (mc_laM Mw 8) x) → v = some (.long (mr_powN M.1 N 61 x 32)) ∧ u.1 = M.1) ∧ ∀ (E : String) (u : mm_M), ¬ ((mc_bek x = 1 ∧ E = E_idx) ∧ u = Mw) := by
  have hb : mc_bek x = 0 := if_neg hx
  refine ⟨fun v u hp => ?_, fun E u hp => ?_⟩
  · rw [hp.2.1, hp.2.2]
    refine ⟨?_, mz_1.trans hw⟩
    rw [(mk_power (h.eq hw) (by omega) (mj_b hx)).1, hw]
  · have := hp.1.1; rw [hb] at this; exact absurd this (by decide)
theorem mz_qpan {M Mw : mm_M} {N S T : Nat} (h : mk_R M N S T) (hT : T ≤ 59000) (hw : Mw.1 = M.1) {x : Int32} (hx : ¬ nm_in x (-4) 4 = 0) : (∀ (v : Option Value) (u : mm_M), (mc_bek x = 0 ∧ v = some (.long (mc_ppO (mc_laM Mw 8) x 8)) ∧ u = mc_laM Mw 8) → v = some (.long (mr_powN M.1 N 61 x 32)) ∧ u.1 = M.1) ∧ ∀ (E : String) (u : mm_M), ¬ ((mc_bek x = 1 ∧ E = E_idx) ∧ u = Mw) := by
  have hb : mc_bek x = 0 := if_neg hx
  refine ⟨fun v u hp => ?_, fun E u hp => ?_⟩
  · rw [hp.2.1, hp.2.2]
    refine ⟨?_, (mc_laM_1 8).trans hw⟩
    rw [(mk_power (h.eq hw) (by omega) (mj_b hx)).2, hw]
  · have := hp.1.1; rw [hb] at this; exact absurd this (by decide)
theorem mz_qsum {M Mw : mm_M} {N S T : Nat} (h : mk_R M N S T) (hT : T ≤ 59000) (hw : Mw.1 = M.1) {x y : Int32} (hx : ¬ nm_in x (-4) 4 = 0) (hy : ¬ nm_in y 16 47 = 0) : (∀ (v : Option Value) (u : mm_M), (mr_suk x y = 0 ∧ v = some (.long ((mc_steer (mc_laM Mw 8) x).2 4 (47 - y.toInt).toNat)) ∧ u = mc_steer (mc_laM Mw 8) x) → v = some (.long (mr_sumN M.1 N 61 x (M.1 50 0 - 1 - y) N)) ∧ u.1 = M.1) ∧ ∀ (E : String) (u : mm_M), ¬ ((mr_suk x y = 1 ∧ E = E_idx) ∧ u = Mw) := by
  have hb : mr_suk x y = 0 := by rw [mr_suk, if_neg hx, if_neg hy]
  refine ⟨fun v u hp => ?_, fun E u hp => ?_⟩
  · rw [hp.2.1, hp.2.2]
    refine ⟨?_, mz_1.trans hw⟩
    rw [← mj_sum (h.eq hw) (by omega) (M1 := Mw) rfl hb, hw]
  · have := hp.1.1; rw [hb] at this; exact absurd this (by decide)
theorem mz_nIk {k N : Nat} (hk : k < N) (hN : N ≤ 8) : (nI k).toInt = (k : Int) ∧ (nI k).toInt.toNat = k := by
  have e : (nI k).toInt = (k : Int) := nI_toInt (by omega)
  exact ⟨e, by rw [e]; rfl⟩
theorem mz_inN {M : mm_M} {N S T k : Nat} (h : mk_R M N S T) (hk : k < N) : ¬ nm_in (nI k) 0 (M.1 50 1 - 1) = 0 := by
  have e := mz_nIk hk h.N8
  have e1 := mj_N1 h.N8
  have e0 : (0 : Int32).toInt = 0 := rfl
  rw [h.rN]
  exact mz_inn (by rw [e.1, e0]; omega) (by rw [e.1, e1]; omega)
theorem mz_alk0 {M : mm_M} {N S T k : Nat} (h : mk_R M N S T) (hk : k < N) : mc_alk M (nI k) = 0 := by
  rw [mj_alk h, if_neg (mz_inN h hk)]
theorem mz_qcal0 {M Mw : mm_M} {N S T k : Nat} (h : mk_R M N S T) (hw : Mw.1 = M.1) (hk : k < N) : (∀ (v : Option Value) (u : mm_M), (mc_alk Mw (nI k) = 0 ∧ v = some (.int (if (0 : Int32) = 0 then Mw.1 (10 + (nI k).toInt.toNat) 8 else Mw.1 (10 + (nI k).toInt.toNat) 9)) ∧ u = Mw) → v = some (.int (M.1 (10 + k) 8)) ∧ u.1 = M.1) ∧ ∀ (E : String) (u : mm_M), ¬ ((mc_alk Mw (nI k) = 1 ∧ E = E_idx) ∧ u = Mw) := by
  have hb : mc_alk Mw (nI k) = 0 := mz_alk0 (h.eq hw) hk
  refine ⟨fun v u hp => ?_, fun E u hp => ?_⟩
  · rw [hp.2.1, hp.2.2]
    refine ⟨?_, hw⟩
    rw [if_pos rfl, (mz_nIk hk h.N8).2, hw]
  · have := hp.1.1; rw [hb] at this; exact absurd this (by decide)
theorem mz_qcal1 {M Mw : mm_M} {N S T k : Nat} (h : mk_R M N S T) (hw : Mw.1 = M.1) (hk : k < N) : (∀ (v : Option Value) (u : mm_M), (mc_alk Mw (nI k) = 0 ∧ v = some (.int (if (1 : Int32) = 0 then Mw.1 (10 + (nI k).toInt.toNat) 8 else Mw.1 (10 + (nI k).toInt.toNat) 9)) ∧ u = Mw) → v = some (.int (M.1 (10 + k) 9)) ∧ u.1 = M.1) ∧ ∀ (E : String) (u : mm_M), ¬ ((mc_alk Mw (nI k) = 1 ∧ E = E_idx) ∧ u = Mw) := by
  have hb : mc_alk Mw (nI k) = 0 := mz_alk0 (h.eq hw) hk
  refine ⟨fun v u hp => ?_, fun E u hp => ?_⟩
  · rw [hp.2.1, hp.2.2]
    refine ⟨?_, hw⟩
    rw [if_neg (by decide), (mz_nIk hk h.N8).2, hw]
  · have := hp.1.1; rw [hb] at this; exact absurd this (by decide)
theorem mz_qsam {M Mw : mm_M} {N S T k : Nat} (h : mk_R M N S T) (hT : T ≤ 59000) (hw : Mw.1 = M.1) (hk : k < N) {y : Int32} (hy : ¬ nm_in y 0 63 = 0) : (∀ (v : Option Value) (u : mm_M), (mc_smk Mw (nI k) y = 0 ∧ v = some (.int (mc_at Mw (nI k).toInt.toNat (63 - y))) ∧ u = Mw) → v = some (.int (mr_kept M.1 61 k (M.1 50 0 - 1 - y))) ∧ u.1 = M.1) ∧ ∀ (E : String) (u : mm_M), ¬ ((mc_smk Mw (nI k) y = 1 ∧ E = E_idx) ∧ u = Mw) := by
  have hs := mj_sample (h.eq hw) (by omega : T ≤ 60000) (M1 := Mw) rfl (x := nI k) (y := y)
  have hb : mc_smk Mw (nI k) y = 0 := by rw [← hs.1, mr_smk, if_neg (mz_inN (h.eq hw) hk), if_neg hy]
  refine ⟨fun v u hp => ?_, fun E u hp => ?_⟩
  · rw [hp.2.1, hp.2.2]
    refine ⟨?_, hw⟩
    rw [← hs.2 hb, (mz_nIk hk h.N8).2, hw]
  · have := hp.1.1; rw [hb] at this; exact absurd this (by decide)
theorem mz_qpk {M Mw : mm_M} {N S T : Nat} (h : mk_R M N S T) (hT : T ≤ 59000) (hw : Mw.1 = M.1) {x : Int32} (hx : ¬ nm_in x 1 100 = 0) : (∀ (v : Option Value) (u : mm_M), (mc_hek x = 0 ∧ v = some (.int (mc_pkN (mc_fpM (mc_laM Mw 8) 9) (mc_fpG (mc_laM Mw 8) 9) x 9)) ∧ u = mc_fpM (mc_laM Mw 8) 9) → v = some (.int (mr_pkv (mk_L M.1 N 61) x)) ∧ u.1 = M.1) ∧ ∀ (E : String) (u : mm_M), ¬ ((mc_hek x = 1 ∧ E = E_arg) ∧ u = Mw) := by
  have hb : mc_hek x = 0 := if_neg hx
  refine ⟨fun v u hp => ?_, fun E u hp => ?_⟩
  · rw [hp.2.1, hp.2.2]
    refine ⟨?_, ((mk_fp_1 9).trans (mc_laM_1 8)).trans hw⟩
    rw [mk_peaks (h.eq hw) (by omega) (L' := mk_L Mw.1 N 61) (fun k hk => rfl), hw]
  · have := hp.1.1; rw [hb] at this; exact absurd this (by decide)
theorem mz_sum62 {M : mm_M} {N : Nat} (hN : N ≤ 8) {b t : Int32} : ∀ n, n ≤ N → mr_sumN (mr_fd0 M).1 N 62 b t n = mr_sumN M.1 N 61 b t n
  | 0, _ => rfl
  | n + 1, hn => by
    have e : ∀ k j : Nat, k ≠ 62 → ¬ (k = 50 ∧ j = 20) → (mr_fd0 M).1 k j = M.1 k j := fun k j a b => by unfold mr_fd0; rw [mm_rowI_o a, mm_sI_1, if_neg b]
    have hfe : mr_eq (mr_fd0 M).1 M.1 := ⟨e _ _ (by decide) (by decide), e _ _ (by decide) (by decide), funext fun j => e _ _ (by decide) (by omega), funext fun j => e _ _ (by decide) (by omega), funext fun j => e _ _ (by decide) (by omega), funext fun j => e _ _ (by decide) (by omega), funext fun j => e _ _ (by decide) (by omega)⟩
    have hk : ∀ t, mr_kept (mr_fd0 M).1 62 n t = mr_kept M.1 61 n t := by
      intro t
      unfold mr_kept
      rw [mr_isK_c hfe]
      have hi : 64 * n + t.toInt.toNat % 64 < 512 := by have := Nat.mod_lt t.toInt.toNat (show 64 > 0 by decide); omega
      have e2 : (mr_fd0 M).1 62 (64 * n + t.toInt.toNat % 64) = M.1 61 (64 * n + t.toInt.toNat % 64) := by
        unfold mr_fd0
        rw [mm_rowI_i hi]
      rw [e2]
    rw [mr_sumN, mr_sumN, mz_sum62 hN n (by omega), mr_w_c hfe, hk, mr_delay_c hfe, hfe.2.2.2.2.2.1, hfe.2.2.2.2.2.2]
theorem mz_pow62 {M : mm_M} {N : Nat} (hN : N ≤ 8) {b : Int32} : ∀ n, mr_powN (mr_fd0 M).1 N 62 b n = mr_powN M.1 N 61 b n
  | 0 => rfl
  | n + 1 => by
    have e : (mr_fd0 M).1 50 0 = M.1 50 0 := by unfold mr_fd0; rw [mm_rowI_o (by decide), mm_sI_1, if_neg (by decide)]
    rw [mr_powN, mr_powN, mz_pow62 hN n, e, mz_sum62 hN N (Nat.le_refl N)]
theorem mz_fp62 {M : mm_M} {N : Nat} (hN : N ≤ 8) : ∀ k, k < 9 → (mr_fp (mr_fd0 M) N 62).2 64 k = mk_L M.1 N 61 k := fun k hk => by
  have e : (mr_fp (mr_fd0 M) N 62).2 64 k = mr_powN (mr_fd0 M).1 N 62 (nI k - 4) 32 := mm_row_i hk
  rw [e, mz_pow62 hN]; rfl
theorem mz_fd_0 {M : mm_M} {N : Nat} (hN : N ≤ 8) : (mr_fd N 0 (mr_fd0 M)).1 = if mk_L M.1 N 61 (mr_gr (mk_L M.1 N 61) 8) = 0 then -99 else nI (mr_gr (mk_L M.1 N 61) 8) - 4 := by
  have e1 : mr_fdg (mr_fd0 M) N = mr_gr (mk_L M.1 N 61) 8 := mk_gr_c 8 (fun k hk => mz_fp62 hN k (by omega))
  have e2 : (mr_fp (mr_fd0 M) N 62).2 64 (mr_fdg (mr_fd0 M) N) = mk_L M.1 N 61 (mr_gr (mk_L M.1 N 61) 8) := by rw [e1]; exact mz_fp62 hN _ (by have := mr_gr_le (mk_L M.1 N 61) 8; omega)
  rw [mr_fd, e2, e1]
  by_cases z : mk_L M.1 N 61 (mr_gr (mk_L M.1 N 61) 8) = 0
  · rw [if_pos (lg_eq0.mpr z), if_pos z]
  · rw [if_neg (fun z2 => z (lg_eq0.mp z2)), if_neg z]
theorem mz_fd_s {M : mm_M} {N r : Nat} (hN : N ≤ 8) (z : mk_L M.1 N 61 (mr_gr (mk_L M.1 N 61) 8) = 0) : (mr_fd N (r + 1) (mr_fd0 M)).1 = -99 := by
  have e1 : mr_fdg (mr_fd0 M) N = mr_gr (mk_L M.1 N 61) 8 := mk_gr_c 8 (fun k hk => mz_fp62 hN k (by omega))
  have e2 : (mr_fp (mr_fd0 M) N 62).2 64 (mr_fdg (mr_fd0 M) N) = mk_L M.1 N 61 (mr_gr (mk_L M.1 N 61) 8) := by rw [e1]; exact mz_fp62 hN _ (by have := mr_gr_le (mk_L M.1 N 61) 8; omega)
  rw [mr_fd, e2, if_pos (lg_eq0.mpr z)]
theorem mz_qfd {M Mw : mm_M} {N S T r : Nat} (h : mk_R M N S T) (hT : T ≤ 59000) (hw : Mw.1 = M.1) (hr : r ≤ 5) : (∀ (v : Option Value) (u : mm_M), (mc_fok (nI r) = 0 ∧ v = some (.int (mc_fd (mc_laA Mw 8) (nI r).toInt.toNat (mc_fpM (mc_laM Mw 8) 9) (mc_strong (mc_laM Mw 8))).1) ∧ u = (mc_fd (mc_laA Mw 8) (nI r).toInt.toNat (mc_fpM (mc_laM Mw 8) 9) (mc_strong (mc_laM Mw 8))).2) → v = some (.int (mr_fd N r (mr_fd0 M)).1) ∧ u.1 = M.1) ∧ ∀ (E : String) (u : mm_M), ¬ ((mc_fok (nI r) = 1 ∧ E = E_idx) ∧ u = Mw) := by
  have e : (nI r).toInt = (r : Int) := nI_toInt (by omega)
  have en : (nI r).toInt.toNat = r := by rw [e]; rfl
  have e0 : (0 : Int32).toInt = 0 := rfl
  have e5 : (5 : Int32).toInt = 5 := rfl
  have hb : mc_fok (nI r) = 0 := if_neg (mz_inn (by rw [e, e0]; omega) (by rw [e, e5]; omega))
  have hf := mj_found (h.eq hw) (by omega : T ≤ 60000) (M1 := M) hw.symm hr
  refine ⟨fun v u hp => ?_, fun E u hp => ?_⟩
  · rw [hp.2.1, hp.2.2]
    rw [en]
    exact ⟨by rw [hf.1], hf.2.1.trans hw⟩
  · have := hp.1.1; rw [hb] at this; exact absurd this (by decide)
theorem mz_act1 {l : Launch} {D : va_G} {ad : Nat → Nat} {q : Nat → ClassId} {A : Nat → Prop} {y : MethodName} {ws : List Cond} {rm : Room} {av : List Value} {M X Y : mm_M} {cd a b c r : Int32} (K : mm_Kw l D ad q A y ws rm av M (some (.int (mz_rv cd a b c r))) (if cd = 0 then X else Y)) (h : cd = 1) (hY : Y = M) : mm_Kw l D ad q A y ws rm av M (some (.int a)) M := by
  rw [mz_rv1 h, if_neg (by rw [h]; decide), hY] at K; exact K
theorem mz_act2 {l : Launch} {D : va_G} {ad : Nat → Nat} {q : Nat → ClassId} {A : Nat → Prop} {y : MethodName} {ws : List Cond} {rm : Room} {av : List Value} {M X Y : mm_M} {cd a b c r : Int32} (K : mm_Kw l D ad q A y ws rm av M (some (.int (mz_rv cd a b c r))) (if cd = 0 then X else Y)) (h : cd = 2) (hY : Y = M) : mm_Kw l D ad q A y ws rm av M (some (.int b)) M := by
  rw [mz_rv2 h, if_neg (by rw [h]; decide), hY] at K; exact K
theorem mz_act3 {l : Launch} {D : va_G} {ad : Nat → Nat} {q : Nat → ClassId} {A : Nat → Prop} {y : MethodName} {ws : List Cond} {rm : Room} {av : List Value} {M X Y : mm_M} {cd a b c r : Int32} (K : mm_Kw l D ad q A y ws rm av M (some (.int (mz_rv cd a b c r))) (if cd = 0 then X else Y)) (h : cd = 3) (hY : Y = M) : mm_Kw l D ad q A y ws rm av M (some (.int c)) M := by
  rw [mz_rv3 h, if_neg (by rw [h]; decide), hY] at K; exact K
theorem mz_tells1 {l : Launch} {D : va_G} {ad : Nat → Nat} {q : Nat → ClassId} {A : Nat → Prop} {y : MethodName} {ws : List Cond} {rm : Room} {av : List Value} {M X : mm_M} {cd : Int32} {a b c r : Int64} (K : mm_Kw l D ad q A y ws rm av M (some (.long (mz_rvJ cd a b c r))) (if cd = 0 then X else M)) (h : cd = 1) : mm_Kw l D ad q A y ws rm av M (some (.long a)) M := by
  rw [mz_rvJ1 h, if_neg (by rw [h]; decide)] at K; exact K
theorem mz_outL {x y z : Int32} {a : Int} {b : Nat} (hx : x.toInt = a) {l : Int} (hy : y.toInt = l) (h : a - (b : Int) < l) (hb : b < 1000 ∧ -1000 < a ∧ a < 1000) : nm_in (x - nI b) y z = 0 := by
  have e : (nI b).toInt = (b : Int) := nI_toInt (by omega)
  exact mz_out (Or.inl (by rw [mz_sub hx e (by omega), hy]; exact h))
theorem mz_outG {y z : Int32} {a : Nat} {h : Int} (hz : z.toInt = h) (h1 : h < (a : Int)) (h2 : a < 2147483648) : nm_in (nI a) y z = 0 := mz_out (Or.inr (by rw [hz, nI_toInt h2]; exact h1))
theorem mz_elL {M : mm_M} {N S T b : Nat} (h : mk_R M N S T) (hb : b < 1000) : mc_alk M ((-1) - nI b) = 1 := by
  rw [mj_alk h, if_pos (mz_outL (a := -1) rfl (l := 0) rfl (by omega) (by omega))]
theorem mz_elG {M : mm_M} {N S T a : Nat} (h : mk_R M N S T) (ha : N ≤ a ∧ a < 2147483648) : mc_alk M (nI a) = 1 := by
  have e1 := mj_N1 h.N8
  rw [mj_alk h, if_pos]
  rw [h.rN]
  exact mz_outG e1 (by omega) ha.2
theorem mz_elk1 {M : mm_M} {x y z : Int32} (h : nm_in x 0 12 = 0 ∨ nm_in y 32 96 = 0 ∨ nm_in z (-3) 3 = 0) : mc_elk M x y z = 1 := by
  unfold mc_elk
  by_cases h1 : nm_in x 0 12 = 0
  · rw [if_pos h1]
  · rw [if_neg h1]
    by_cases h2 : nm_in y 32 96 = 0
    · rw [if_pos h2]
    · rw [if_neg h2, if_pos ((h.resolve_left h1).resolve_left h2)]
theorem mz_elk2 {M : mm_M} {N S T : Nat} (h : mk_R M N S T) {x y z : Int32} (h1 : ¬ nm_in x 0 12 = 0) (h2 : ¬ nm_in y 32 96 = 0) (h3 : ¬ nm_in z (-3) 3 = 0) (hN : N = 8) : mc_elk M x y z = 2 := by
  subst hN
  unfold mc_elk
  rw [if_neg h1, if_neg h2, if_neg h3, h.cN, if_neg (by decide), if_neg (by decide)]
theorem mz_sok1 {M : mm_M} {x y z : Int32} (h : nm_in x (-4) 4 = 0) : mc_sok M x y z = 1 := if_pos h
theorem mz_sok2 {M : mm_M} {x y z : Int32} (h1 : ¬ nm_in x (-4) 4 = 0) (h : nm_in y 1 100 = 0 ∨ nm_in z 2 16 = 0) : mc_sok M x y z = 2 := by
  unfold mc_sok
  rw [if_neg h1]
  by_cases h2 : nm_in y 1 100 = 0
  · rw [if_pos h2]
  · rw [if_neg h2, if_pos (h.resolve_left h2)]
theorem mz_sok3 {M : mm_M} {N S T : Nat} (h : mk_R M N S T) {x y z : Int32} (h1 : ¬ nm_in x (-4) 4 = 0) (h2 : ¬ nm_in y 1 100 = 0) (h3 : ¬ nm_in z 2 16 = 0) (hS : S = 4) : mc_sok M x y z = 3 := by
  subst hS
  unfold mc_sok
  rw [if_neg h1, if_neg h2, if_neg h3, h.cS, if_neg (by decide), if_neg (by decide)]
theorem mz_nok1 {x y : Int32} (h : nm_in x 0 50 = 0 ∨ nm_in y 1 65536 = 0) : mr_nok x y = 1 := by
  unfold mr_nok
  by_cases h2 : nm_in x 0 50 = 0
  · rw [if_pos h2]
  · rw [if_neg h2, if_pos (h.resolve_left h2)]
theorem mz_hek1 {x : Int32} (h : nm_in x 1 100 = 0) : mc_hek x = 1 := if_pos h
theorem mz_wik1 {x : Int32} (h : nm_in x 0 2 = 0) : mc_wik x = 1 := if_pos h
theorem mz_cak1 {M : mm_M} {x : Int32} (h : nm_in x (-4) 4 = 0) : mc_cak M x = 1 := if_pos h
theorem mz_fok1 {x : Int32} (h : nm_in x 0 5 = 0) : mc_fok x = 1 := if_pos h
theorem mz_bek1 {x : Int32} (h : nm_in x (-4) 4 = 0) : mc_bek x = 1 := if_pos h
theorem mz_suk1 {x y : Int32} (h : nm_in x (-4) 4 = 0 ∨ nm_in y 16 47 = 0) : mr_suk x y = 1 := by
  unfold mr_suk
  by_cases h2 : nm_in x (-4) 4 = 0
  · rw [if_pos h2]
  · rw [if_neg h2, if_pos (h.resolve_left h2)]
theorem mz_smk1 {M : mm_M} {x y : Int32} (h : mc_alk M x = 1) : mc_smk M x y = 1 := by
  unfold mc_alk at h
  unfold mc_smk
  by_cases z : mc_isEl M x = 0
  · rw [if_pos z]
  · rw [if_neg z] at h; exact absurd h (by decide)
theorem mz_smk2 {M : mm_M} {x y : Int32} (h : nm_in y 0 63 = 0) : mc_smk M x y = 1 := by
  unfold mc_smk
  by_cases z : mc_isEl M x = 0
  · rw [if_pos z]
  · rw [if_neg z, if_pos h]
theorem mz_nlt8 {N : Nat} (h : N ≤ 8) (z : ¬ nI N < 8) : N = 8 := by
  have e : (nI N).toInt = (N : Int) := nI_toInt (by omega)
  have e8 : (8 : Int32).toInt = 8 := rfl
  rw [Int32.lt_iff_toInt_lt, e, e8] at z
  omega
theorem mz_nlt4 {N : Nat} (h : N ≤ 4) (z : ¬ nI N < 4) : N = 4 := by
  have e : (nI N).toInt = (N : Int) := nI_toInt (by omega)
  have e8 : (4 : Int32).toInt = 4 := rfl
  rw [Int32.lt_iff_toInt_lt, e, e8] at z
  omega
