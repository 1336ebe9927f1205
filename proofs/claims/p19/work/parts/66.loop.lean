set_option maxHeartbeats 1000000 in
set_option maxRecDepth 100000 in
theorem lw_pre {pp : Program} {l : Launch} {ee : Env} {ss : State} {mm : MethodId} {bl : List Frame} {mth : Method} {cd : Code} {D : va_G} {ad : Nat → Nat} {q : Nat → ClassId} {A : Nat → Prop} {b : Nat} {Q : State → Prop} (hl0 : l.stackTraces = false) (C : mm_C pp ss mm #[.ref b] cd cL_law 13 wsL_law RL D ad q A) (hAD : mm_AD ad A) (hX9 : mm_XP A ss) {M : mm_M} {c0 s0 : Nat} (hI : mz_I M 0 0 0) (hc0 : c0 + 400 ≤ 600130) (hs0 : s0 + 2400 ≤ 7301080) (KP : ∀ (M2 : mm_M), M2.1 = M.1 → mm_G pp l ee room_1 ss mm #[.ref b] bl mth cd (c0 + 400) (s0 + 2400) Q 13 D ad q A (M2) 56 [(5, .int (nI 0)), (4, .int 1), (3, .ref (ad 51)), (2, .ref (ad 50)), (1, .ref (ad 0)), (0, .ref b)] []) : mm_G pp l ee room_1 ss mm #[.ref b] bl mth cd (c0) (s0) Q 13 D ad q A (M) 17 [(3, .ref (ad 51)), (2, .ref (ad 50)), (1, .ref (ad 0)), (0, .ref b)] [] := by
  refine r_aload_n C dL_law_17 rfl 2 rfl ?_
  refine r_aload_n C dL_law_18 rfl 1 rfl ?_
  refine r_iconst (v := 0) C dL_law_19 rfl ?_
  refine r_callO3I C hX9 (kL_isRefused hAD hl0 (X := 0) hI.R (by omega) (by omega) hI.m1 hI.m2) (va_cwS 3 C.1.2.2.2.2 gL_law_L_isRefused rfl rfl rfl (by decide +kernel) ⟨Nat.le_of_ble_eq_true rfl, Nat.le_of_ble_eq_true rfl⟩) (Nat.le_of_ble_eq_true rfl) dL_law_20 (kc := 140) (ks := 840) ⟨rfl, rfl⟩ (by show _ ≤ 600130 ∧ _ ≤ 7301080; omega) (fun Mw hw => ?_)
  refine r_if_eqF (tgt := 50) C dL_law_23 (by decide) (by decide) ?_
  refine r_aload_n C dL_law_26 rfl 2 rfl ?_
  refine r_aload_n C dL_law_27 rfl 1 rfl ?_
  refine r_iconst (v := 1) C dL_law_28 rfl ?_
  refine r_callO3I C hX9 (kL_isRefused hAD hl0 (X := 1) (hI.R.eq hw) (by omega) (by omega) ((congrFun (congrFun hw 65) 1).trans hI.m1) ((congrFun (congrFun hw 65) 2).trans hI.m2)) (va_cwS 3 C.1.2.2.2.2 gL_law_L_isRefused rfl rfl rfl (by decide +kernel) ⟨Nat.le_of_ble_eq_true rfl, Nat.le_of_ble_eq_true rfl⟩) (Nat.le_of_ble_eq_true rfl) dL_law_29 (kc := 140) (ks := 840) ⟨rfl, rfl⟩ (by show _ ≤ 600130 ∧ _ ≤ 7301080; omega) (fun Mv hv => ?_)
  refine r_if_eqF (tgt := 50) C dL_law_32 (by decide) (by decide) ?_
  refine r_aload_n C dL_law_35 rfl 2 rfl ?_
  refine r_aload_n C dL_law_36 rfl 1 rfl ?_
  refine r_aload_n C dL_law_37 rfl 0 rfl ?_
  refine r_iconst (v := 0) C dL_law_38 rfl ?_
  refine r_iconst (v := 1) C dL_law_39 rfl ?_
  refine r_callO5I C hX9 (kL_areSound_1 hAD hl0 (X := 0) (hI.eq (hv.trans hw)).R (hI.eq (hv.trans hw)).B (by omega) (by omega) (hI.eq (hv.trans hw)).m0 (hI.eq (hv.trans hw)).m1 (hI.eq (hv.trans hw)).e) (va_cwS 5 C.1.2.2.2.2 gL_law_L_areSound rfl rfl rfl (by decide +kernel) ⟨Nat.le_of_ble_eq_true rfl, Nat.le_of_ble_eq_true rfl⟩) (Nat.le_of_ble_eq_true rfl) dL_law_40 (kc := 100) (ks := 600) ⟨rfl, rfl⟩ (by show _ ≤ 600130 ∧ _ ≤ 7301080; omega) (fun Mz hz => ?_)
  refine r_if_eqF (tgt := 50) C dL_law_43 (by decide) (by decide) ?_
  refine r_iconst (v := 1) C dL_law_46 rfl ?_
  refine r_goto (tgt := 51) C dL_law_47 (by decide) ?_
  refine r_istore (lv' := [(4, .int 1), (3, .ref (ad 51)), (2, .ref (ad 50)), (1, .ref (ad 0)), (0, .ref b)]) C dL_law_51 (by decide) rfl ?_
  refine r_iconst (v := 0) C dL_law_53 rfl ?_
  refine r_istore (lv' := [(5, .int (nI 0)), (4, .int 1), (3, .ref (ad 51)), (2, .ref (ad 50)), (1, .ref (ad 0)), (0, .ref b)]) C dL_law_54 (by decide) rfl ?_
  refine r_sub (lv' := [(5, .int (nI 0)), (4, .int 1), (3, .ref (ad 51)), (2, .ref (ad 50)), (1, .ref (ad 0)), (0, .ref b)]) [0, 1, 2, 3, 4, 5] rfl ?_
  exact r_wid (by omega) (by omega) (KP _ (hz.trans (hv.trans hw)))
theorem lw_loop {pp : Program} {l : Launch} {ee : Env} {ss : State} {mm : MethodId} {bl : List Frame} {mth : Method} {cd : Code} {D : va_G} {ad : Nat → Nat} {q : Nat → ClassId} {A : Nat → Prop} {b : Nat} {Q : State → Prop} (hl0 : l.stackTraces = false) (C : mm_C pp ss mm #[.ref b] cd cL_law 13 wsL_law RL D ad q A) (hAD : mm_AD ad A) (hX9 : mm_XP A ss) {L : Nat} {xs : Nat → Int32} (hSX : mm_SX A b L xs ss) (hL : L ≤ 260) (KE : ∀ (M : mm_M) (cells slots : Nat), cells ≤ 600130 → slots ≤ 7301080 → mm_G pp l ee room_1 ss mm #[.ref b] bl mth cd (cells) (slots) Q 13 D ad q A (M) 1011 [(4, .int 1)] []) : ∀ (n t : Nat) (M : mm_M) (N S T cells slots : Nat), t + n = 60 → mz_I M N S T → T ≤ 100 * t → cells ≤ 1000 + 300 * t → slots ≤ 100000 + 1800 * t → mm_G pp l ee room_1 ss mm #[.ref b] bl mth cd (cells) (slots) Q 13 D ad q A (M) 56 [(5, .int (nI t)), (4, .int 1), (3, .ref (ad 51)), (2, .ref (ad 50)), (1, .ref (ad 0)), (0, .ref b)] [] := by
  intro n
  induction n with
  | zero =>
    intro t M N S T cells slots ht hI hT hc hs
    obtain rfl : t = 60 := by omega
    refine r_iload C dL_law_56 0 rfl ?_
    refine r_bipush (v := 60) C dL_law_58 rfl ?_
    refine r_icmp_geT (tgt := 1011) C dL_law_60 (by decide) (by decide) ?_
    refine r_sub (lv' := [(4, .int 1)]) [1] rfl ?_
    exact KE M cells slots (by omega) (by omega)
  | succ n ih =>
    intro t M N S T cells slots ht hI hT hc hs
    exact lw_body hl0 C hAD hX9 hSX hL hI (by omega) (by omega) (by omega) (by omega) (fun M2 N2 S2 T2 h1 h2 => ih (t + 1) M2 N2 S2 T2 (cells + 300) (slots + 1800) (by omega) h2 (by omega) (by omega) (by omega))
