theorem mz_pos {N : Nat} (z : ¬ nI N = 0) : 0 < N := Nat.pos_of_ne_zero (fun h => z (by rw [h]; rfl))
theorem mz_le63 {n : Nat} (h : n < 1000) (z : nI n ≤ 63) : n ≤ 63 := by
  rw [Int32.le_iff_toInt_le, nI_toInt (by omega), show (63 : Int32).toInt = 63 from rfl] at z; omega
theorem mz_gt63 {n : Nat} (h : n < 1000) (z : ¬ nI n ≤ 63) : 63 < n := by
  rw [Int32.le_iff_toInt_le, nI_toInt (by omega), show (63 : Int32).toInt = 63 from rfl] at z; omega
theorem mz_le63i {n : Nat} (h : n ≤ 63) : (nI n).toInt ≤ (63 : Int32).toInt := by
  rw [nI_toInt (by omega), show (63 : Int32).toInt = 63 from rfl]; omega
theorem mz_gt63i {n : Nat} (h2 : n < 1000) (h : 63 < n) : (63 : Int32) < nI n := by
  rw [Int32.lt_iff_toInt_lt, nI_toInt (by omega), show (63 : Int32).toInt = 63 from rfl]; omega
theorem mz_hr2 {M : mm_M} {N S : Nat} : ∀ n, (mr_hrN M N S n).2 = M.2
  | 0 => rfl
  | n + 1 => by
    have e : ∀ (X : mm_M) n, (mr_heE X S n).2 = X.2 := fun X n => by
      induction n with
      | zero => rfl
      | succ n ih => rw [mr_heE, mr_hears]; exact ih
    rw [mr_hrN, mr_tick]; exact (e _ N).trans (mz_hr2 n)
theorem mz_he2 {M : mm_M} {N S n : Nat} {x : Int32} : M.2 = (mr_hrN (mm_sI M 50 20 x) N S n).2 := (mz_hr2 (M := mm_sI M 50 20 x) n).symm
theorem r_en {p : Program} {l : Launch} {e : Env} {R : Room} {s : State} {m : MethodId} {args : Array Value} {below : List Frame} {meth : Method} {c : Code} {cells slots : Nat} {Q : State → Prop} {nL : Nat} {D : va_G} {ad : Nat → Nat} {q : Nat → ClassId} {A : Nat → Prop} {M M0 : mm_M} {pc : Nat} {lv : List (Nat × Value)} {st : List Value} (h : M.1 = M0.1) (k : ∀ u : mm_M, u.1 = M0.1 → mm_G p l e R s m args below meth c cells slots Q nL D ad q A u pc lv st) : mm_G p l e R s m args below meth c cells slots Q nL D ad q A M pc lv st := k M h
set_option maxHeartbeats 1000000 in
set_option maxRecDepth 100000 in
theorem lw_heL {pp : Program} {l : Launch} {ee : Env} {ss : State} {mm : MethodId} {bl : List Frame} {mth : Method} {cd : Code} {D : va_G} {ad : Nat → Nat} {q : Nat → ClassId} {A : Nat → Prop} {b : Nat} {Q : State → Prop} (hl0 : l.stackTraces = false) (C : mm_C pp ss mm #[.ref b] cd cL_law 13 wsL_law RL D ad q A) (hAD : mm_AD ad A) (hX9 : mm_XP A ss) {M : mm_M} {N S T X Y : Nat} {tv hv : Int32} {c0 s0 : Nat} (hI : mz_I M N S T) (hT : T ≤ 58000) (hX : X < 2147483648) (hY : Y < 2147483648) (hc0 : c0 + 60 ≤ 600130) (hs0 : s0 + 360 ≤ 7301080) (K : ∀ (M2 : mm_M) (N2 S2 T2 : Nat), T2 ≤ T + 100 → mz_I M2 N2 S2 T2 → mm_G pp l ee room_1 ss mm #[.ref b] bl mth cd (c0 + 60) (s0 + 360) Q 13 D ad q A (M2) 950 [(8, .int (nI Y)), (6, .int (nI X)), (5, .int tv), (4, .int 1), (3, .ref (ad 51)), (2, .ref (ad 50)), (1, .ref (ad 0)), (0, .ref b)] []){n : Nat} (hn : 1 ≤ n ∧ n ≤ 100) {M2 : mm_M} (hI2 : mz_I M2 N S (T + n)) (hs2 : ∀ k : Nat, k < N → ∀ t : Nat, T + n ≤ t + 64 → t < T + n → (t < T → M2.1 61 (64 * k + t % 64) = M.1 61 (64 * k + t % 64)) ∧ (T ≤ t → M.1 55 k = 0 → M2.1 61 (64 * k + t % 64) = 0)) (h54 : ∀ j : Nat, M2.1 55 j = M.1 55 j ∧ M2.1 54 j = M.1 54 j)  : mm_G pp l ee room_1 ss mm #[.ref b] bl mth cd (c0 + 10) (s0 + 60) Q 13 D ad q A (M2) 890 [(9, .int (nI n)), (8, .int (nI Y)), (6, .int (nI X)), (5, .int tv), (4, .int 1), (3, .ref (ad 51)), (2, .ref (ad 50)), (1, .ref (ad 0)), (0, .ref b)] [] := by
  have hN8 := hI.R.N8
  have hS4 := hI.R.S4
  have hyn : Y % n < n := Nat.mod_lt _ (by omega)
  refine r_iconst (v := 0) C dL_law_890 rfl ?_
  refine r_istore (lv' := [(11, .int 0), (9, .int (nI n)), (8, .int (nI Y)), (6, .int (nI X)), (5, .int tv), (4, .int 1), (3, .ref (ad 51)), (2, .ref (ad 50)), (1, .ref (ad 0)), (0, .ref b)]) C dL_law_891 (by decide) rfl ?_
  have L893 : ∀ (k9 : Nat) (k : Nat) (Mw : mm_M) (hk9 : k ≤ N) (hw : Mw.1 = M2.1), N - k < k9 → mm_G pp l ee room_1 ss mm #[.ref b] bl mth cd (c0 + 10 + k) (s0 + 60 + 6 * k) Q 13 D ad q A (Mw) 893 [(11, .int (nI k)), (9, .int (nI n)), (8, .int (nI Y)), (6, .int (nI X)), (5, .int tv), (4, .int 1), (3, .ref (ad 51)), (2, .ref (ad 50)), (1, .ref (ad 0)), (0, .ref b)] [] := by
    intro k9
    induction k9 with
    | zero => intro k Mw hk9 hw h9; exact absurd h9 (Nat.not_lt_zero _)
    | succ k9 ih893 =>
      intro k Mw hk9 hw h9
      refine r_iload C dL_law_893 0 rfl ?_
      refine r_aload_n C dL_law_895 rfl 7 rfl ?_
      refine r_iconst (v := 1) C dL_law_896 rfl ?_
      refine r_ialdL C mm_aL_50 1 rfl (by decide) dL_law_897 ?_
      refine r_topc (y := nI N) ((congrFun (congrFun hw 65) 1).trans hI2.m1) ?_
      refine r_icmp_ge (tgt := 950) C dL_law_898 (by decide) (fun z898 => ?_) (fun z898 => ?_)
      · refine r_sub (lv' := [(8, .int (nI Y)), (6, .int (nI X)), (5, .int tv), (4, .int 1), (3, .ref (ad 51)), (2, .ref (ad 50)), (1, .ref (ad 0)), (0, .ref b)]) [2, 3, 4, 5, 6, 7, 8, 9] rfl ?_
        exact r_wid (by omega) (by omega) (K _ N S (T + n) (by omega) (hI2.eq hw))
      · have hk : k < N := nm_lt (by omega) (by omega) z898
        refine r_iload C dL_law_901 5 rfl ?_
        refine r_if_eqF (tgt := 950) C dL_law_903 (by decide) (by decide) ?_
        refine r_aload_n C dL_law_906 rfl 8 rfl ?_
        refine r_iload C dL_law_907 0 rfl ?_
        refine r_iload C dL_law_909 2 rfl ?_
        refine r_iload C dL_law_911 1 rfl ?_
        refine r_irem C dL_law_913 (mz_nz (by omega) (by omega)) ?_
        refine r_topc (y := nI (Y % n)) (mz_rem n (X := Y) (by omega) (⟨by omega, by omega⟩)) ?_
        refine r_bipush (v := (64)) C dL_law_914 rfl ?_
        refine r_irem C dL_law_916 (by decide) ?_
        refine r_topc (y := nI ((Y % n) % 64)) (mz_rem 64 (X := Y % n) (by omega) (by omega)) ?_
        refine r_q2I C hX9 4 (by decide) rfl (mm_ct4 ad q _) (kX4_sample hAD hl0) (mz_qsam hI2.R (by omega) hw hk (mz_in63 (Y % n))) (cwV 2 C.1.2.2.2.2 gL_law_X4_sample rfl rfl rfl (by decide +kernel) ⟨Nat.le_of_ble_eq_true rfl, Nat.le_of_ble_eq_true rfl⟩) (Nat.le_of_ble_eq_true rfl) dL_law_917 (kc := 1) (ks := 6) ⟨rfl, rfl⟩ (by show _ ≤ 600130 ∧ _ ≤ 7301080; omega) (fun Mw hw => ?_)
        refine r_istore (lv' := [(12, .int (mr_kept M2.1 61 k (M2.1 50 0 - 1 - nI ((Y % n) % 64)))), (11, .int (nI k)), (9, .int (nI n)), (8, .int (nI Y)), (6, .int (nI X)), (5, .int tv), (4, .int 1), (3, .ref (ad 51)), (2, .ref (ad 50)), (1, .ref (ad 0)), (0, .ref b)]) C dL_law_920 (by decide) rfl ?_
        refine r_aload_n C dL_law_922 rfl 7 rfl ?_
        refine r_iconst (v := 2) C dL_law_923 rfl ?_
        refine r_iload C dL_law_924 1 rfl ?_
        refine r_imul C dL_law_926 ?_
        refine r_topc (y := nI (2 * k)) (mz_mul 2 k) ?_
        refine r_ialdL C mm_aL_51 (2 * k) (mz_nn (by omega)) (by omega) dL_law_927 ?_
        refine r_topc (y := M2.1 55 k) ((congrFun (congrFun hw 66) _).trans (hI2.e k hk).1) ?_
        refine r_iconst (v := 1) C dL_law_928 rfl ?_
        refine r_icmp_eq (tgt := 937) C dL_law_929 (by decide) (fun z929 => ?_) (fun z929 => ?_)
        · refine r_iconst (v := 1) C dL_law_937 rfl ?_
          refine r_goto (tgt := 942) C dL_law_938 (by decide) ?_
          refine r_istore (lv' := [(4, .int 1), (12, .int (mr_kept M2.1 61 k (M2.1 50 0 - 1 - nI ((Y % n) % 64)))), (11, .int (nI k)), (9, .int (nI n)), (8, .int (nI Y)), (6, .int (nI X)), (5, .int tv), (3, .ref (ad 51)), (2, .ref (ad 50)), (1, .ref (ad 0)), (0, .ref b)]) C dL_law_942 (by decide) rfl ?_
          refine r_iinc (v := nI (k + 1)) (lv' := [(11, .int (nI (k + 1))), (4, .int 1), (12, .int (mr_kept M2.1 61 k (M2.1 50 0 - 1 - nI ((Y % n) % 64)))), (9, .int (nI n)), (8, .int (nI Y)), (6, .int (nI X)), (5, .int tv), (3, .ref (ad 51)), (2, .ref (ad 50)), (1, .ref (ad 0)), (0, .ref b)]) C dL_law_944 2 rfl (mz_inc k) (by decide) rfl ?_
          refine r_goto (tgt := 893) C dL_law_947 (by decide) ?_
          refine r_sub (lv' := [(11, .int (nI (k + 1))), (9, .int (nI n)), (8, .int (nI Y)), (6, .int (nI X)), (5, .int tv), (4, .int 1), (3, .ref (ad 51)), (2, .ref (ad 50)), (1, .ref (ad 0)), (0, .ref b)]) [0, 3, 4, 5, 6, 1, 7, 8, 9, 10] rfl ?_
          exact r_wid (by omega) (by omega) (ih893 (k + 1) Mw (by omega) (hw) (by omega))
        · refine r_iload C dL_law_932 0 rfl ?_
          refine r_if_neF (tgt := 941) C dL_law_934 (by decide) (mz_deadS hI hT hn hk hI2.R hs2 h54 z929 Y) ?_
          refine r_iconst (v := 1) C dL_law_937 rfl ?_
          refine r_goto (tgt := 942) C dL_law_938 (by decide) ?_
          refine r_istore (lv' := [(4, .int 1), (12, .int (mr_kept M2.1 61 k (M2.1 50 0 - 1 - nI ((Y % n) % 64)))), (11, .int (nI k)), (9, .int (nI n)), (8, .int (nI Y)), (6, .int (nI X)), (5, .int tv), (3, .ref (ad 51)), (2, .ref (ad 50)), (1, .ref (ad 0)), (0, .ref b)]) C dL_law_942 (by decide) rfl ?_
          refine r_iinc (v := nI (k + 1)) (lv' := [(11, .int (nI (k + 1))), (4, .int 1), (12, .int (mr_kept M2.1 61 k (M2.1 50 0 - 1 - nI ((Y % n) % 64)))), (9, .int (nI n)), (8, .int (nI Y)), (6, .int (nI X)), (5, .int tv), (3, .ref (ad 51)), (2, .ref (ad 50)), (1, .ref (ad 0)), (0, .ref b)]) C dL_law_944 2 rfl (mz_inc k) (by decide) rfl ?_
          refine r_goto (tgt := 893) C dL_law_947 (by decide) ?_
          refine r_sub (lv' := [(11, .int (nI (k + 1))), (9, .int (nI n)), (8, .int (nI Y)), (6, .int (nI X)), (5, .int tv), (4, .int 1), (3, .ref (ad 51)), (2, .ref (ad 50)), (1, .ref (ad 0)), (0, .ref b)]) [0, 3, 4, 5, 6, 1, 7, 8, 9, 10] rfl ?_
          exact r_wid (by omega) (by omega) (ih893 (k + 1) Mw (by omega) (hw) (by omega))
  refine r_cast (M' := M2) (lv' := [(11, .int (nI 0)), (9, .int (nI n)), (8, .int (nI Y)), (6, .int (nI X)), (5, .int tv), (4, .int 1), (3, .ref (ad 51)), (2, .ref (ad 50)), (1, .ref (ad 0)), (0, .ref b)]) (st' := []) rfl rfl rfl (r_wid (by omega) (by omega) (L893 (N - 0 + 1) 0 M2 (Nat.zero_le _) (rfl) (by omega)))

set_option maxHeartbeats 1000000 in
set_option maxRecDepth 100000 in
theorem lw_he2 {pp : Program} {l : Launch} {ee : Env} {ss : State} {mm : MethodId} {bl : List Frame} {mth : Method} {cd : Code} {D : va_G} {ad : Nat → Nat} {q : Nat → ClassId} {A : Nat → Prop} {b : Nat} {Q : State → Prop} (hl0 : l.stackTraces = false) (C : mm_C pp ss mm #[.ref b] cd cL_law 13 wsL_law RL D ad q A) (hAD : mm_AD ad A) (hX9 : mm_XP A ss) {M : mm_M} {N S T X Y : Nat} {tv hv : Int32} {c0 s0 : Nat} (hI : mz_I M N S T) (hT : T ≤ 58000) (hX : X < 2147483648) (hY : Y < 2147483648) (hc0 : c0 + 60 ≤ 600130) (hs0 : s0 + 360 ≤ 7301080) (K : ∀ (M2 : mm_M) (N2 S2 T2 : Nat), T2 ≤ T + 100 → mz_I M2 N2 S2 T2 → mm_G pp l ee room_1 ss mm #[.ref b] bl mth cd (c0 + 60) (s0 + 360) Q 13 D ad q A (M2) 950 [(8, .int (nI Y)), (6, .int (nI X)), (5, .int tv), (4, .int 1), (3, .ref (ad 51)), (2, .ref (ad 50)), (1, .ref (ad 0)), (0, .ref b)] []){n : Nat} (hn : 1 ≤ n ∧ n ≤ 100)  : mm_G pp l ee room_1 ss mm #[.ref b] bl mth cd (c0) (s0) Q 13 D ad q A (M) 796 [(9, .int (nI n)), (8, .int (nI Y)), (7, .int hv), (6, .int (nI X)), (5, .int tv), (4, .int 1), (3, .ref (ad 51)), (2, .ref (ad 50)), (1, .ref (ad 0)), (0, .ref b)] [] := by
  have hN8 := hI.R.N8
  have hw : M.1 = M.1 := rfl
  refine r_aload_n C dL_law_796 rfl 7 rfl ?_
  refine r_iconst (v := 1) C dL_law_797 rfl ?_
  refine r_ialdL C mm_aL_50 1 rfl (by decide) dL_law_798 ?_
  refine r_topc (y := nI N) ((congrFun (congrFun hw 65) 1).trans hI.m1) ?_
  refine r_if_eq (tgt := 809) C dL_law_799 (by decide) (fun z799 => ?_) (fun z799 => ?_)
  · refine r_iconst (v := 0) C dL_law_809 rfl ?_
    refine r_goto (tgt := 828) C dL_law_810 (by decide) ?_
    refine r_istore (lv' := [(10, .int 0), (9, .int (nI n)), (8, .int (nI Y)), (7, .int hv), (6, .int (nI X)), (5, .int tv), (4, .int 1), (3, .ref (ad 51)), (2, .ref (ad 50)), (1, .ref (ad 0)), (0, .ref b)]) C dL_law_828 (by decide) rfl ?_
    refine r_aload_n C dL_law_830 rfl 8 rfl ?_
    refine r_iconst (v := 0) C dL_law_831 rfl ?_
    refine r_dup2_11 C dL_law_832 rfl rfl ?_
    refine r_ialdL C mm_aL_50 0 rfl (by decide) dL_law_833 ?_
    refine r_topc (y := nI T) ((congrFun (congrFun hw 65) 0).trans hI.m0) ?_
    refine r_iload C dL_law_834 1 rfl ?_
    refine r_iadd C dL_law_836 ?_
    refine r_topc (y := nI (T + n)) (mz_add T n) ?_
    refine r_iastL C mm_aL_50 (0) (rfl) (by decide) dL_law_837 ?_
    refine r_aload_n C dL_law_838 rfl 9 rfl ?_
    refine r_iconst (v := 4) C dL_law_839 rfl ?_
    refine r_iload C dL_law_840 1 rfl ?_
    refine r_iconst (v := 0) C dL_law_842 rfl ?_
    refine r_iconst (v := 0) C dL_law_843 rfl ?_
    refine r_callW5I C hX9 (mz_act0 (kL_act_4 hAD hl0 (mz_mm hI hw).lb (mz_mm hI hw).ub (mz_mm hI hw).cS hI.R.S4) (mz_hekn hn) (mz_he hI hT hn.2 hw rfl).2.1) (vx_cwSW 5 C.1.2.2.2.2 gL_law_L_act rfl rfl rfl (by decide +kernel) ⟨Nat.le_of_ble_eq_true rfl, Nat.le_of_ble_eq_true rfl⟩) (Nat.le_of_ble_eq_true rfl) dL_law_844 (kc := 1) (ks := 6) ⟨rfl, rfl⟩ (by show _ ≤ 600130 ∧ _ ≤ 7301080; omega) ?_
    refine r_gh (M' := mr_hrN (mm_sI (mc_hrN (mm_sI M 65 0 (nI (T + n))) S (nI n).toInt.toNat) 50 20 0) N S (nI n).toInt.toNat) mz_gh_he mz_he2 ?_
    refine r_mem (fun M2 eM2 => ?_)
    obtain ⟨hI2, _, hs2, h54⟩ := mz_he hI hT hn.2 hw eM2
    have hv9 : M2.1 = M2.1 := rfl
    refine r_aload_n C dL_law_847 rfl 8 rfl ?_
    refine r_iconst (v := 0) C dL_law_848 rfl ?_
    refine r_ialdL C mm_aL_50 0 rfl (by decide) dL_law_849 ?_
    refine r_topc (y := nI (T + n)) (hI2.m0) ?_
    refine r_icmp_neF (tgt := 887) C dL_law_850 (by decide) (rfl) ?_
    refine r_aload_n C dL_law_853 rfl 8 rfl ?_
    refine r_iconst (v := 1) C dL_law_854 rfl ?_
    refine r_ialdL C mm_aL_50 1 rfl (by decide) dL_law_855 ?_
    refine r_topc (y := nI N) (hI2.m1) ?_
    refine r_if_eqT (tgt := 883) C dL_law_856 (by decide) (z799) ?_
    refine r_iconst (v := 1) C dL_law_883 rfl ?_
    refine r_goto (tgt := 888) C dL_law_884 (by decide) ?_
    refine r_istore (lv' := [(4, .int 1), (10, .int 0), (9, .int (nI n)), (8, .int (nI Y)), (7, .int hv), (6, .int (nI X)), (5, .int tv), (3, .ref (ad 51)), (2, .ref (ad 50)), (1, .ref (ad 0)), (0, .ref b)]) C dL_law_888 (by decide) rfl ?_
    refine r_sub (lv' := [(9, .int (nI n)), (8, .int (nI Y)), (6, .int (nI X)), (5, .int tv), (4, .int 1), (3, .ref (ad 51)), (2, .ref (ad 50)), (1, .ref (ad 0)), (0, .ref b)]) [2, 3, 5, 6, 0, 7, 8, 9, 10] rfl ?_
    refine r_wid (k := c0 + 10) (n := s0 + 60) (by omega) (by omega) ?_
    exact r_en hv9 (fun M2 hv9 => lw_heL (hv := hv) hl0 C hAD hX9 hI hT hX hY hc0 hs0 K hn (hI2.eq hv9) (by rw [hv9]; exact hs2) (by rw [hv9]; exact h54))
  · have hN : 0 < N := mz_pos z799
    refine r_iload C dL_law_802 0 rfl ?_
    refine r_bipush (v := (63)) C dL_law_804 rfl ?_
    refine r_icmp_le (tgt := 813) C dL_law_806 (by decide) (fun z806 => ?_) (fun z806 => ?_)
    · have hn3 : n ≤ 63 := mz_le63 (by omega) z806
      have hk : Y % N < N := Nat.mod_lt _ hN
      refine r_aload_n C dL_law_813 rfl 8 rfl ?_
      refine r_iload C dL_law_814 1 rfl ?_
      refine r_aload_n C dL_law_816 rfl 7 rfl ?_
      refine r_iconst (v := 1) C dL_law_817 rfl ?_
      refine r_ialdL C mm_aL_50 1 rfl (by decide) dL_law_818 ?_
      refine r_topc (y := nI N) ((congrFun (congrFun hw 65) 1).trans hI.m1) ?_
      refine r_irem C dL_law_819 (mz_nz hN (by omega)) ?_
      refine r_topc (y := nI (Y % N)) (mz_rem N (X := Y) (by omega) (⟨hN, by omega⟩)) ?_
      refine r_bipush (v := (63)) C dL_law_820 rfl ?_
      refine r_iload C dL_law_822 0 rfl ?_
      refine r_isub C dL_law_824 ?_
      refine r_q2I C hX9 4 (by decide) rfl (mm_ct4 ad q _) (kX4_sample hAD hl0) (mz_qsam hI.R (by omega) hw hk (mz_in63n hn3)) (cwV 2 C.1.2.2.2.2 gL_law_X4_sample rfl rfl rfl (by decide +kernel) ⟨Nat.le_of_ble_eq_true rfl, Nat.le_of_ble_eq_true rfl⟩) (Nat.le_of_ble_eq_true rfl) dL_law_825 (kc := 1) (ks := 6) ⟨rfl, rfl⟩ (by show _ ≤ 600130 ∧ _ ≤ 7301080; omega) (fun Mw hw => ?_)
      refine r_istore (lv' := [(10, .int (mr_kept M.1 61 (Y % N) (M.1 50 0 - 1 - (63 - nI n)))), (9, .int (nI n)), (8, .int (nI Y)), (7, .int hv), (6, .int (nI X)), (5, .int tv), (4, .int 1), (3, .ref (ad 51)), (2, .ref (ad 50)), (1, .ref (ad 0)), (0, .ref b)]) C dL_law_828 (by decide) rfl ?_
      refine r_aload_n C dL_law_830 rfl 8 rfl ?_
      refine r_iconst (v := 0) C dL_law_831 rfl ?_
      refine r_dup2_11 C dL_law_832 rfl rfl ?_
      refine r_ialdL C mm_aL_50 0 rfl (by decide) dL_law_833 ?_
      refine r_topc (y := nI T) ((congrFun (congrFun hw 65) 0).trans hI.m0) ?_
      refine r_iload C dL_law_834 1 rfl ?_
      refine r_iadd C dL_law_836 ?_
      refine r_topc (y := nI (T + n)) (mz_add T n) ?_
      refine r_iastL C mm_aL_50 (0) (rfl) (by decide) dL_law_837 ?_
      refine r_aload_n C dL_law_838 rfl 9 rfl ?_
      refine r_iconst (v := 4) C dL_law_839 rfl ?_
      refine r_iload C dL_law_840 1 rfl ?_
      refine r_iconst (v := 0) C dL_law_842 rfl ?_
      refine r_iconst (v := 0) C dL_law_843 rfl ?_
      refine r_callW5I C hX9 (mz_act0 (kL_act_4 hAD hl0 (mz_mm hI hw).lb (mz_mm hI hw).ub (mz_mm hI hw).cS hI.R.S4) (mz_hekn hn) (mz_he hI hT hn.2 hw rfl).2.1) (vx_cwSW 5 C.1.2.2.2.2 gL_law_L_act rfl rfl rfl (by decide +kernel) ⟨Nat.le_of_ble_eq_true rfl, Nat.le_of_ble_eq_true rfl⟩) (Nat.le_of_ble_eq_true rfl) dL_law_844 (kc := 1) (ks := 6) ⟨rfl, rfl⟩ (by show _ ≤ 600130 ∧ _ ≤ 7301080; omega) ?_
      refine r_gh (M' := mr_hrN (mm_sI (mc_hrN (mm_sI Mw 65 0 (nI (T + n))) S (nI n).toInt.toNat) 50 20 0) N S (nI n).toInt.toNat) mz_gh_he mz_he2 ?_
      refine r_mem (fun M2 eM2 => ?_)
      obtain ⟨hI2, _, hs2, h54⟩ := mz_he hI hT hn.2 hw eM2
      have hv9 : M2.1 = M2.1 := rfl
      refine r_aload_n C dL_law_847 rfl 8 rfl ?_
      refine r_iconst (v := 0) C dL_law_848 rfl ?_
      refine r_ialdL C mm_aL_50 0 rfl (by decide) dL_law_849 ?_
      refine r_topc (y := nI (T + n)) (hI2.m0) ?_
      refine r_icmp_neF (tgt := 887) C dL_law_850 (by decide) (rfl) ?_
      refine r_aload_n C dL_law_853 rfl 8 rfl ?_
      refine r_iconst (v := 1) C dL_law_854 rfl ?_
      refine r_ialdL C mm_aL_50 1 rfl (by decide) dL_law_855 ?_
      refine r_topc (y := nI N) (hI2.m1) ?_
      refine r_if_eqF (tgt := 883) C dL_law_856 (by decide) (z799) ?_
      refine r_iload C dL_law_859 1 rfl ?_
      refine r_bipush (v := (63)) C dL_law_861 rfl ?_
      refine r_icmp_gtF (tgt := 883) C dL_law_863 (by decide) (mz_nlt (mz_le63i hn3)) ?_
      refine r_aload_n C dL_law_866 rfl 9 rfl ?_
      refine r_iload C dL_law_867 2 rfl ?_
      refine r_aload_n C dL_law_869 rfl 8 rfl ?_
      refine r_iconst (v := 1) C dL_law_870 rfl ?_
      refine r_ialdL C mm_aL_50 1 rfl (by decide) dL_law_871 ?_
      refine r_topc (y := nI N) (hI2.m1) ?_
      refine r_irem C dL_law_872 (mz_nz hN (by omega)) ?_
      refine r_topc (y := nI (Y % N)) (mz_rem N (X := Y) (by omega) (⟨hN, by omega⟩)) ?_
      refine r_bipush (v := (63)) C dL_law_873 rfl ?_
      refine r_q2I C hX9 4 (by decide) rfl (mm_ct4 ad q _) (kX4_sample hAD hl0) (mz_qsam hI2.R (by omega) hv9 hk (by decide)) (cwV 2 C.1.2.2.2.2 gL_law_X4_sample rfl rfl rfl (by decide +kernel) ⟨Nat.le_of_ble_eq_true rfl, Nat.le_of_ble_eq_true rfl⟩) (Nat.le_of_ble_eq_true rfl) dL_law_875 (kc := 1) (ks := 6) ⟨rfl, rfl⟩ (by show _ ≤ 600130 ∧ _ ≤ 7301080; omega) (fun Mv hv9 => ?_)
      refine r_iload C dL_law_878 0 rfl ?_
      refine r_icmp_neF (tgt := 887) C dL_law_880 (by decide) (mz_shift hI hT ⟨hn.1, hn3⟩ hk hI2.R hs2 h54) ?_
      refine r_iconst (v := 1) C dL_law_883 rfl ?_
      refine r_goto (tgt := 888) C dL_law_884 (by decide) ?_
      refine r_istore (lv' := [(4, .int 1), (10, .int (mr_kept M.1 61 (Y % N) (M.1 50 0 - 1 - (63 - nI n)))), (9, .int (nI n)), (8, .int (nI Y)), (7, .int hv), (6, .int (nI X)), (5, .int tv), (3, .ref (ad 51)), (2, .ref (ad 50)), (1, .ref (ad 0)), (0, .ref b)]) C dL_law_888 (by decide) rfl ?_
      refine r_sub (lv' := [(9, .int (nI n)), (8, .int (nI Y)), (6, .int (nI X)), (5, .int tv), (4, .int 1), (3, .ref (ad 51)), (2, .ref (ad 50)), (1, .ref (ad 0)), (0, .ref b)]) [2, 3, 5, 6, 0, 7, 8, 9, 10] rfl ?_
      refine r_wid (k := c0 + 10) (n := s0 + 60) (by omega) (by omega) ?_
      exact r_en hv9 (fun M2 hv9 => lw_heL (hv := hv) hl0 C hAD hX9 hI hT hX hY hc0 hs0 K hn (hI2.eq hv9) (by rw [hv9]; exact hs2) (by rw [hv9]; exact h54))
    · have hn3 : 63 < n := mz_gt63 (by omega) z806
      refine r_iconst (v := 0) C dL_law_809 rfl ?_
      refine r_goto (tgt := 828) C dL_law_810 (by decide) ?_
      refine r_istore (lv' := [(10, .int 0), (9, .int (nI n)), (8, .int (nI Y)), (7, .int hv), (6, .int (nI X)), (5, .int tv), (4, .int 1), (3, .ref (ad 51)), (2, .ref (ad 50)), (1, .ref (ad 0)), (0, .ref b)]) C dL_law_828 (by decide) rfl ?_
      refine r_aload_n C dL_law_830 rfl 8 rfl ?_
      refine r_iconst (v := 0) C dL_law_831 rfl ?_
      refine r_dup2_11 C dL_law_832 rfl rfl ?_
      refine r_ialdL C mm_aL_50 0 rfl (by decide) dL_law_833 ?_
      refine r_topc (y := nI T) ((congrFun (congrFun hw 65) 0).trans hI.m0) ?_
      refine r_iload C dL_law_834 1 rfl ?_
      refine r_iadd C dL_law_836 ?_
      refine r_topc (y := nI (T + n)) (mz_add T n) ?_
      refine r_iastL C mm_aL_50 (0) (rfl) (by decide) dL_law_837 ?_
      refine r_aload_n C dL_law_838 rfl 9 rfl ?_
      refine r_iconst (v := 4) C dL_law_839 rfl ?_
      refine r_iload C dL_law_840 1 rfl ?_
      refine r_iconst (v := 0) C dL_law_842 rfl ?_
      refine r_iconst (v := 0) C dL_law_843 rfl ?_
      refine r_callW5I C hX9 (mz_act0 (kL_act_4 hAD hl0 (mz_mm hI hw).lb (mz_mm hI hw).ub (mz_mm hI hw).cS hI.R.S4) (mz_hekn hn) (mz_he hI hT hn.2 hw rfl).2.1) (vx_cwSW 5 C.1.2.2.2.2 gL_law_L_act rfl rfl rfl (by decide +kernel) ⟨Nat.le_of_ble_eq_true rfl, Nat.le_of_ble_eq_true rfl⟩) (Nat.le_of_ble_eq_true rfl) dL_law_844 (kc := 1) (ks := 6) ⟨rfl, rfl⟩ (by show _ ≤ 600130 ∧ _ ≤ 7301080; omega) ?_
      refine r_gh (M' := mr_hrN (mm_sI (mc_hrN (mm_sI M 65 0 (nI (T + n))) S (nI n).toInt.toNat) 50 20 0) N S (nI n).toInt.toNat) mz_gh_he mz_he2 ?_
      refine r_mem (fun M2 eM2 => ?_)
      obtain ⟨hI2, _, hs2, h54⟩ := mz_he hI hT hn.2 hw eM2
      have hv9 : M2.1 = M2.1 := rfl
      refine r_aload_n C dL_law_847 rfl 8 rfl ?_
      refine r_iconst (v := 0) C dL_law_848 rfl ?_
      refine r_ialdL C mm_aL_50 0 rfl (by decide) dL_law_849 ?_
      refine r_topc (y := nI (T + n)) (hI2.m0) ?_
      refine r_icmp_neF (tgt := 887) C dL_law_850 (by decide) (rfl) ?_
      refine r_aload_n C dL_law_853 rfl 8 rfl ?_
      refine r_iconst (v := 1) C dL_law_854 rfl ?_
      refine r_ialdL C mm_aL_50 1 rfl (by decide) dL_law_855 ?_
      refine r_topc (y := nI N) (hI2.m1) ?_
      refine r_if_eqF (tgt := 883) C dL_law_856 (by decide) (z799) ?_
      refine r_iload C dL_law_859 1 rfl ?_
      refine r_bipush (v := (63)) C dL_law_861 rfl ?_
      refine r_icmp_gtT (tgt := 883) C dL_law_863 (by decide) (mz_gt63i (by omega) hn3) ?_
      refine r_iconst (v := 1) C dL_law_883 rfl ?_
      refine r_goto (tgt := 888) C dL_law_884 (by decide) ?_
      refine r_istore (lv' := [(4, .int 1), (10, .int 0), (9, .int (nI n)), (8, .int (nI Y)), (7, .int hv), (6, .int (nI X)), (5, .int tv), (3, .ref (ad 51)), (2, .ref (ad 50)), (1, .ref (ad 0)), (0, .ref b)]) C dL_law_888 (by decide) rfl ?_
      refine r_sub (lv' := [(9, .int (nI n)), (8, .int (nI Y)), (6, .int (nI X)), (5, .int tv), (4, .int 1), (3, .ref (ad 51)), (2, .ref (ad 50)), (1, .ref (ad 0)), (0, .ref b)]) [2, 3, 5, 6, 0, 7, 8, 9, 10] rfl ?_
      refine r_wid (k := c0 + 10) (n := s0 + 60) (by omega) (by omega) ?_
      exact r_en hv9 (fun M2 hv9 => lw_heL (hv := hv) hl0 C hAD hX9 hI hT hX hY hc0 hs0 K hn (hI2.eq hv9) (by rw [hv9]; exact hs2) (by rw [hv9]; exact h54))

set_option maxHeartbeats 1000000 in
set_option maxRecDepth 100000 in
theorem lw_he {pp : Program} {l : Launch} {ee : Env} {ss : State} {mm : MethodId} {bl : List Frame} {mth : Method} {cd : Code} {D : va_G} {ad : Nat → Nat} {q : Nat → ClassId} {A : Nat → Prop} {b : Nat} {Q : State → Prop} (hl0 : l.stackTraces = false) (C : mm_C pp ss mm #[.ref b] cd cL_law 13 wsL_law RL D ad q A) (hAD : mm_AD ad A) (hX9 : mm_XP A ss) {M : mm_M} {N S T X Y : Nat} {tv hv : Int32} {c0 s0 : Nat} (hI : mz_I M N S T) (hT : T ≤ 58000) (hX : X < 2147483648) (hY : Y < 2147483648) (hc0 : c0 + 60 ≤ 600130) (hs0 : s0 + 360 ≤ 7301080) (K : ∀ (M2 : mm_M) (N2 S2 T2 : Nat), T2 ≤ T + 100 → mz_I M2 N2 S2 T2 → mm_G pp l ee room_1 ss mm #[.ref b] bl mth cd (c0 + 60) (s0 + 360) Q 13 D ad q A (M2) 950 [(8, .int (nI Y)), (6, .int (nI X)), (5, .int tv), (4, .int 1), (3, .ref (ad 51)), (2, .ref (ad 50)), (1, .ref (ad 0)), (0, .ref b)] []) : mm_G pp l ee room_1 ss mm #[.ref b] bl mth cd (c0) (s0) Q 13 D ad q A (M) 775 [(8, .int (nI Y)), (7, .int hv), (6, .int (nI X)), (5, .int tv), (4, .int 1), (3, .ref (ad 51)), (2, .ref (ad 50)), (1, .ref (ad 0)), (0, .ref b)] [] := by
  have hN8 := hI.R.N8
  have hS4 := hI.R.S4
  refine r_iconst (v := 1) C dL_law_775 rfl ?_
  refine r_iload C dL_law_776 0 rfl ?_
  refine r_iload C dL_law_778 0 rfl ?_
  refine r_iconst (v := 3) C dL_law_780 rfl ?_
  refine r_irem C dL_law_781 (by decide) ?_
  refine r_topc (y := nI (Y % 3)) (mz_rem 3 (X := Y) (by omega) (by omega)) ?_
  refine r_if_ne (tgt := 790) C dL_law_782 (by decide) (fun z782 => ?_) (fun z782 => ?_)
  · refine r_bipush (v := (25)) C dL_law_790 rfl ?_
    refine r_irem C dL_law_792 (by decide) ?_
    refine r_topc (y := nI (Y % 25)) (mz_rem 25 (X := Y) (by omega) (by omega)) ?_
    refine r_iadd C dL_law_793 ?_
    refine r_topc (y := nI (1 + (Y % 25))) (mz_add 1 (Y % 25)) ?_
    refine r_istore (lv' := [(9, .int (nI (1 + (Y % 25)))), (8, .int (nI Y)), (7, .int hv), (6, .int (nI X)), (5, .int tv), (4, .int 1), (3, .ref (ad 51)), (2, .ref (ad 50)), (1, .ref (ad 0)), (0, .ref b)]) C dL_law_794 (by decide) rfl ?_
    refine r_sub (lv' := [(9, .int (nI (1 + (Y % 25)))), (8, .int (nI Y)), (7, .int hv), (6, .int (nI X)), (5, .int tv), (4, .int 1), (3, .ref (ad 51)), (2, .ref (ad 50)), (1, .ref (ad 0)), (0, .ref b)]) [0, 1, 2, 3, 4, 5, 6, 7, 8, 9] rfl ?_
    exact lw_he2 hl0 C hAD hX9 hI hT hX hY hc0 hs0 K (n := 1 + (Y % 25)) (mz_n25 Y)
  · refine r_bipush (v := (100)) C dL_law_785 rfl ?_
    refine r_goto (tgt := 792) C dL_law_787 (by decide) ?_
    refine r_irem C dL_law_792 (by decide) ?_
    refine r_topc (y := nI (Y % 100)) (mz_rem 100 (X := Y) (by omega) (by omega)) ?_
    refine r_iadd C dL_law_793 ?_
    refine r_topc (y := nI (1 + (Y % 100))) (mz_add 1 (Y % 100)) ?_
    refine r_istore (lv' := [(9, .int (nI (1 + (Y % 100)))), (8, .int (nI Y)), (7, .int hv), (6, .int (nI X)), (5, .int tv), (4, .int 1), (3, .ref (ad 51)), (2, .ref (ad 50)), (1, .ref (ad 0)), (0, .ref b)]) C dL_law_794 (by decide) rfl ?_
    refine r_sub (lv' := [(9, .int (nI (1 + (Y % 100)))), (8, .int (nI Y)), (7, .int hv), (6, .int (nI X)), (5, .int tv), (4, .int 1), (3, .ref (ad 51)), (2, .ref (ad 50)), (1, .ref (ad 0)), (0, .ref b)]) [0, 1, 2, 3, 4, 5, 6, 7, 8, 9] rfl ?_
    exact lw_he2 hl0 C hAD hX9 hI hT hX hY hc0 hs0 K (n := 1 + (Y % 100)) (mz_n100 Y)
