def mc_elk (M : mm_M) (x y z : Int32) : Int32 := if nm_in x 0 12 = 0 then 1 else if nm_in y 32 96 = 0 then 1 else if nm_in z (-3) 3 = 0 then 1 else if M.1 0 5 < 0 then 2 else if M.1 0 5 < nI 8 then 0 else 2
def mc_elS (M : mm_M) (N : Nat) (x y z : Int32) : mm_M := mm_sI (mc_putUp M N x y z (M.1 0 8)) 0 5 (M.1 0 5 + 1)
theorem nm_ltN {x : Int32} {N K : Nat} (h : x = nI N) (hN : N ≤ 1000) (hK : K ≤ 1000) (z : x < nI K) : N < K := by rw [h] at z; exact (nI_ltI (by omega) (by omega)).mp z
abbrev rmX4_element : Room := { frames := 6, cells := 1, slots := 6, locals := 90 }
set_option maxHeartbeats 400000 in
set_option maxRecDepth 100000 in
theorem kX4_element {l : Launch} {D : va_G} {ad : Nat → Nat} {q : Nat → ClassId} {A : Nat → Prop} (hAD : mm_AD ad A) (hl0 : l.stackTraces = false) {N : Nat} {M : mm_M} (hN : M.1 0 5 = nI N) (hN8 : N ≤ 8) {x y z : Int32} : mm_Kx l D ad q A yX4_element wsX4_element rmX4_element [.ref (ad 0), .int x, .int y, .int z] M (fun v' u => mc_elk M x y z = 0 ∧ v' = some (.int (M.1 0 5)) ∧ u = mc_elS M N x y z) (fun E u => ((mc_elk M x y z = 1 ∧ E = E_arg) ∨ (mc_elk M x y z = 2 ∧ E = E_sta)) ∧ u = M) := by
  have inX4 : ∀ w ∈ wsX40, w ∈ wsX4_element := by decide +kernel
  have f11 : Cond.fieldLink RX4 11 "Beamrow" "elements" "[LBeamrow$Element;" ∈ wsX4_element := by decide +kernel
  have f52 : Cond.fieldLink RX4 52 "Beamrow" "elementCount" "I" ∈ wsX4_element := by decide +kernel
  have f60 : Cond.fieldLink RX4 60 "Beamrow" "nextTick" "I" ∈ wsX4_element := by decide +kernel
  have t45_1 : Cond.classLink RX4 45 "java/lang/IllegalArgumentException" ∈ wsX4_element := by decide +kernel
  have t45_2 : Cond.initialized "java/lang/IllegalArgumentException" ∈ wsX4_element := by decide +kernel
  have t45_3 : ∀ w ∈ (vx_atS RX4 49 "java/lang/IllegalArgumentException" E_nms).filter goodWord, w ∈ wsX4_element := by decide +kernel
  have t45_4 : ∀ w ∈ (vx_atS RX4 49 "java/lang/IllegalArgumentException" E_nms).filter (fun w => !goodWord w), w ∈ mm_NG := by decide +kernel
  have t45_5 : ∀ w ∈ Cond.classLink RX4 45 "java/lang/IllegalArgumentException" :: Cond.initialized "java/lang/IllegalArgumentException" :: vx_atS RX4 49 "java/lang/IllegalArgumentException" E_nms, vx_ot w = true := by decide +kernel
  have t55_1 : Cond.classLink RX4 55 "java/lang/IllegalStateException" ∈ wsX4_element := by decide +kernel
  have t55_2 : Cond.initialized "java/lang/IllegalStateException" ∈ wsX4_element := by decide +kernel
  have t55_3 : ∀ w ∈ (vx_atS RX4 59 "java/lang/IllegalStateException" E_nms).filter goodWord, w ∈ wsX4_element := by decide +kernel
  have t55_4 : ∀ w ∈ (vx_atS RX4 59 "java/lang/IllegalStateException" E_nms).filter (fun w => !goodWord w), w ∈ mm_NG := by decide +kernel
  have t55_5 : ∀ w ∈ Cond.classLink RX4 55 "java/lang/IllegalStateException" :: Cond.initialized "java/lang/IllegalStateException" :: vx_atS RX4 59 "java/lang/IllegalStateException" E_nms, vx_ot w = true := by decide +kernel
  refine mm_ofX (cc := cX4_element) (maxL := 5) (ret := some .int) (own := RX4) rfl hAD (by decide) rfl (Nat.le_of_ble_eq_true rfl) ?_
  intro pp ee ss mm bl mth cd C hX9 hT9 hret hlk9
  show mm_G _ _ _ _ _ _ _ _ _ _ _ _ _ _ _ _ _ _ M 0 [(0, .ref (ad 0)), (1, .int x), (2, .int y), (3, .int z)] []
  refine r_iload_n C dX4_element_0 rfl 1 rfl ?_
  refine r_iconst (v := 0) C dX4_element_1 rfl ?_
  refine r_bipush (v := (12)) C dX4_element_2 rfl ?_
  refine r_callS3I C (kX4_isWithin hAD) (va_cwS 3 C.1.2.2.2.2 gX4_element_X4_isWithin rfl rfl rfl (by decide +kernel) ⟨Nat.le_of_ble_eq_true rfl, Nat.le_of_ble_eq_true rfl⟩) (Nat.le_of_ble_eq_true rfl) dX4_element_4 ⟨rfl, rfl⟩ ⟨Nat.zero_le _, Nat.zero_le _⟩ ?_
  refine r_if_eq (tgt := 31) C dX4_element_7 (by decide) (fun z7 => ?_) (fun z7 => ?_)
  · exact r_throw C hX9 hT9 hl0 (cls := "java/lang/IllegalArgumentException") (ik := 45) (is := 47) (ic := 49) (by decide) (by decide) rfl t45_1 t45_2 (by decide) t45_3 t45_4 t45_5 dX4_element_31 dX4_element_34 dX4_element_35 dX4_element_37 dX4_element_40 (Nat.le_of_ble_eq_true rfl) (Nat.le_of_ble_eq_true rfl) (Nat.le_of_ble_eq_true rfl) (Nat.le_of_ble_eq_true rfl) hlk9 (Nat.le_of_ble_eq_true rfl) (Nat.le_of_ble_eq_true rfl) (by first | (have e9 : mc_elk M x y z = 1 := (by rw [mc_elk, if_pos z7]); exact ⟨Or.inl ⟨e9, rfl⟩, rfl⟩) | (have e9 : mc_elk M x y z = 1 := (by rw [mc_elk, if_neg z7, if_pos z18]); exact ⟨Or.inl ⟨e9, rfl⟩, rfl⟩) | (have e9 : mc_elk M x y z = 1 := (by rw [mc_elk, if_neg z7, if_neg z18, if_pos z28]); exact ⟨Or.inl ⟨e9, rfl⟩, rfl⟩))
  · refine r_iload_n C dX4_element_10 rfl 2 rfl ?_
    refine r_bipush (v := (32)) C dX4_element_11 rfl ?_
    refine r_bipush (v := (96)) C dX4_element_13 rfl ?_
    refine r_callS3I C (kX4_isWithin hAD) (va_cwS 3 C.1.2.2.2.2 gX4_element_X4_isWithin rfl rfl rfl (by decide +kernel) ⟨Nat.le_of_ble_eq_true rfl, Nat.le_of_ble_eq_true rfl⟩) (Nat.le_of_ble_eq_true rfl) dX4_element_15 ⟨rfl, rfl⟩ ⟨Nat.zero_le _, Nat.zero_le _⟩ ?_
    refine r_if_eq (tgt := 31) C dX4_element_18 (by decide) (fun z18 => ?_) (fun z18 => ?_)
    · exact r_throw C hX9 hT9 hl0 (cls := "java/lang/IllegalArgumentException") (ik := 45) (is := 47) (ic := 49) (by decide) (by decide) rfl t45_1 t45_2 (by decide) t45_3 t45_4 t45_5 dX4_element_31 dX4_element_34 dX4_element_35 dX4_element_37 dX4_element_40 (Nat.le_of_ble_eq_true rfl) (Nat.le_of_ble_eq_true rfl) (Nat.le_of_ble_eq_true rfl) (Nat.le_of_ble_eq_true rfl) hlk9 (Nat.le_of_ble_eq_true rfl) (Nat.le_of_ble_eq_true rfl) (by first | (have e9 : mc_elk M x y z = 1 := (by rw [mc_elk, if_pos z7]); exact ⟨Or.inl ⟨e9, rfl⟩, rfl⟩) | (have e9 : mc_elk M x y z = 1 := (by rw [mc_elk, if_neg z7, if_pos z18]); exact ⟨Or.inl ⟨e9, rfl⟩, rfl⟩) | (have e9 : mc_elk M x y z = 1 := (by rw [mc_elk, if_neg z7, if_neg z18, if_pos z28]); exact ⟨Or.inl ⟨e9, rfl⟩, rfl⟩))
    · refine r_iload_n C dX4_element_21 rfl 3 rfl ?_
      refine r_bipush (v := (-3)) C dX4_element_22 rfl ?_
      refine r_iconst (v := 3) C dX4_element_24 rfl ?_
      refine r_callS3I C (kX4_isWithin hAD) (va_cwS 3 C.1.2.2.2.2 gX4_element_X4_isWithin rfl rfl rfl (by decide +kernel) ⟨Nat.le_of_ble_eq_true rfl, Nat.le_of_ble_eq_true rfl⟩) (Nat.le_of_ble_eq_true rfl) dX4_element_25 ⟨rfl, rfl⟩ ⟨Nat.zero_le _, Nat.zero_le _⟩ ?_
      refine r_if_ne (tgt := 41) C dX4_element_28 (by decide) (fun z28 => ?_) (fun z28 => ?_)
      · refine r_aload_n C dX4_element_41 rfl 0 rfl ?_
        refine r_get4 C inX4 5 (by decide) rfl f52 rfl dX4_element_42 ?_
        refine r_topi (fun v4_45 ev4_45 => ?_)
        refine r_istore (lv' := [(4, .int v4_45), (0, .ref (ad 0)), (1, .int x), (2, .int y), (3, .int z)]) C dX4_element_45 (by decide) rfl ?_
        refine r_iload C dX4_element_47 0 rfl ?_
        refine r_if_lt (tgt := 62) C dX4_element_49 (by decide) (fun z49 => ?_) (fun z49 => ?_)
        · exact r_throw C hX9 hT9 hl0 (cls := "java/lang/IllegalStateException") (ik := 55) (is := 57) (ic := 59) (by decide) (by decide) rfl t55_1 t55_2 (by decide) t55_3 t55_4 t55_5 dX4_element_62 dX4_element_65 dX4_element_66 dX4_element_68 dX4_element_71 (Nat.le_of_ble_eq_true rfl) (Nat.le_of_ble_eq_true rfl) (Nat.le_of_ble_eq_true rfl) (Nat.le_of_ble_eq_true rfl) hlk9 (Nat.le_of_ble_eq_true rfl) (Nat.le_of_ble_eq_true rfl) (by first | (have e9 : mc_elk M x y z = 2 := (by rw [mc_elk, if_neg z7, if_neg z18, if_neg z28, if_pos (by rw [← ev4_45]; exact z49)]); exact ⟨Or.inr (⟨e9, rfl⟩), rfl⟩) | (have e9 : mc_elk M x y z = 2 := (by rw [mc_elk, if_neg z7, if_neg z18, if_neg z28, if_neg (by rw [← ev4_45]; exact z49), if_neg (by rw [← ev4_45]; exact z59)]); exact ⟨Or.inr (⟨e9, rfl⟩), rfl⟩))
        · refine r_iload C dX4_element_52 0 rfl ?_
          refine r_aload_n C dX4_element_54 rfl 1 rfl ?_
          refine r_get4 C inX4 0 (by decide) rfl f11 rfl dX4_element_55 ?_
          refine r_alenE C dX4_element_58 ?_
          refine r_icmp_lt (tgt := 72) C dX4_element_59 (by decide) (fun z59 => ?_) (fun z59 => ?_)
          · have hlt : N < 8 := nm_ltN hN (by omega) (by omega) (by rw [← ev4_45]; exact z59)
            refine r_aload_n C dX4_element_72 rfl 1 rfl ?_
            refine r_get4 C inX4 0 (by decide) rfl f11 rfl dX4_element_73 ?_
            refine r_iload C dX4_element_76 0 rfl ?_
            refine r_aaldE C (N) (by rw [ev4_45]; exact nm_hx hN hN8) (hlt) dX4_element_78 ?_
            refine r_iload_n C dX4_element_79 rfl 2 rfl ?_
            refine r_iload_n C dX4_element_80 rfl 3 rfl ?_
            refine r_iload_n C dX4_element_81 rfl 4 rfl ?_
            refine r_aload_n C dX4_element_82 rfl 1 rfl ?_
            refine r_get4 C inX4 8 (by decide) rfl f60 rfl dX4_element_83 ?_
            refine r_callV4V C 0 (by have := (hlt); omega) rfl (mm_ct0 ad q _ (hlt)) (kX0_putUp hAD (hlt)) (cwV 4 C.1.2.2.2.2 gX4_element_X0_putUp rfl rfl rfl (by decide +kernel) ⟨Nat.le_of_ble_eq_true rfl, Nat.le_of_ble_eq_true rfl⟩) (Nat.le_of_ble_eq_true rfl) dX4_element_86 ⟨rfl, rfl⟩ ⟨Nat.zero_le _, Nat.zero_le _⟩ ?_
            refine r_aload_n C dX4_element_89 rfl 1 rfl ?_
            refine r_iload C dX4_element_90 0 rfl ?_
            refine r_iconst (v := 1) C dX4_element_92 rfl ?_
            refine r_iadd C dX4_element_93 ?_
            refine r_put4 C inX4 (ty := .int) 5 (by decide) mm_set4_5 f52 rfl rfl (by decide +kernel) rfl rfl dX4_element_94 ?_
            refine r_iload C dX4_element_97 0 rfl ?_
            exact r_xiret C hret hlk9 (Nat.zero_le _) (Nat.zero_le _) dX4_element_99 (by have e9 : mc_elk M x y z = 0 := (by rw [mc_elk, if_neg z7, if_neg z18, if_neg z28, if_neg (by rw [← ev4_45]; exact z49), if_pos (by rw [← ev4_45]; exact z59)]); exact ⟨e9, by rw [ev4_45], by rw [ev4_45]; rfl⟩)
          · exact r_throw C hX9 hT9 hl0 (cls := "java/lang/IllegalStateException") (ik := 55) (is := 57) (ic := 59) (by decide) (by decide) rfl t55_1 t55_2 (by decide) t55_3 t55_4 t55_5 dX4_element_62 dX4_element_65 dX4_element_66 dX4_element_68 dX4_element_71 (Nat.le_of_ble_eq_true rfl) (Nat.le_of_ble_eq_true rfl) (Nat.le_of_ble_eq_true rfl) (Nat.le_of_ble_eq_true rfl) hlk9 (Nat.le_of_ble_eq_true rfl) (Nat.le_of_ble_eq_true rfl) (by first | (have e9 : mc_elk M x y z = 2 := (by rw [mc_elk, if_neg z7, if_neg z18, if_neg z28, if_pos (by rw [← ev4_45]; exact z49)]); exact ⟨Or.inr (⟨e9, rfl⟩), rfl⟩) | (have e9 : mc_elk M x y z = 2 := (by rw [mc_elk, if_neg z7, if_neg z18, if_neg z28, if_neg (by rw [← ev4_45]; exact z49), if_neg (by rw [← ev4_45]; exact z59)]); exact ⟨Or.inr (⟨e9, rfl⟩), rfl⟩))
      · exact r_throw C hX9 hT9 hl0 (cls := "java/lang/IllegalArgumentException") (ik := 45) (is := 47) (ic := 49) (by decide) (by decide) rfl t45_1 t45_2 (by decide) t45_3 t45_4 t45_5 dX4_element_31 dX4_element_34 dX4_element_35 dX4_element_37 dX4_element_40 (Nat.le_of_ble_eq_true rfl) (Nat.le_of_ble_eq_true rfl) (Nat.le_of_ble_eq_true rfl) (Nat.le_of_ble_eq_true rfl) hlk9 (Nat.le_of_ble_eq_true rfl) (Nat.le_of_ble_eq_true rfl) (by first | (have e9 : mc_elk M x y z = 1 := (by rw [mc_elk, if_pos z7]); exact ⟨Or.inl ⟨e9, rfl⟩, rfl⟩) | (have e9 : mc_elk M x y z = 1 := (by rw [mc_elk, if_neg z7, if_pos z18]); exact ⟨Or.inl ⟨e9, rfl⟩, rfl⟩) | (have e9 : mc_elk M x y z = 1 := (by rw [mc_elk, if_neg z7, if_neg z18, if_pos z28]); exact ⟨Or.inl ⟨e9, rfl⟩, rfl⟩))

def mc_alk (M : mm_M) (x : Int32) : Int32 := if mc_isEl M x = 0 then 1 else 0
theorem mc_isEl_i {M : mm_M} {x : Int32} (h : ¬ mc_isEl M x = 0) : x.toInt = (x.toInt.toNat : Int) ∧ x.toInt.toNat < 8 := by
  unfold mc_isEl at h
  by_cases h1 : x < 0
  · rw [if_pos h1] at h; exact absurd rfl h
  · rw [if_neg h1] at h
    by_cases h2 : M.1 0 5 ≤ x
    · rw [if_pos h2] at h; exact absurd rfl h
    · rw [if_neg h2] at h
      by_cases h3 : nI 8 ≤ x
      · rw [if_pos h3] at h; exact absurd rfl h
      · exact ⟨nm_ix h1, nm_ixlt h1 (by decide) h3⟩
theorem mc_isEl_z (M : mm_M) (x : Int32) : mc_isEl M x &&& 1 = mc_isEl M x := by unfold mc_isEl; split; decide; split; decide; split <;> decide
abbrev rmX4_alive : Room := { frames := 6, cells := 1, slots := 6, locals := 90 }
set_option maxHeartbeats 400000 in
set_option maxRecDepth 100000 in
theorem kX4_alive {l : Launch} {D : va_G} {ad : Nat → Nat} {q : Nat → ClassId} {A : Nat → Prop} (hAD : mm_AD ad A) (hl0 : l.stackTraces = false) {M : mm_M} (hb : ∀ i : Nat, i < 8 → M.1 (10 + i) 4 &&& 1 = M.1 (10 + i) 4) {x y : Int32} (hy : y &&& 1 = y) : mm_Kx l D ad q A yX4_alive wsX4_alive rmX4_alive [.ref (ad 0), .int x, .int y] M (fun v' u => mc_alk M x = 0 ∧ v' = some (.int (M.1 (10 + x.toInt.toNat) 4)) ∧ u = mm_sI M (10 + x.toInt.toNat) 4 y) (fun E u => ((mc_alk M x = 1 ∧ E = E_idx)) ∧ u = M) := by
  have inX4 : ∀ w ∈ wsX40, w ∈ wsX4_alive := by decide +kernel
  have f11 : Cond.fieldLink RX4 11 "Beamrow" "elements" "[LBeamrow$Element;" ∈ wsX4_alive := by decide +kernel
  have t71_1 : Cond.classLink RX4 71 "java/lang/IndexOutOfBoundsException" ∈ wsX4_alive := by decide +kernel
  have t71_2 : Cond.initialized "java/lang/IndexOutOfBoundsException" ∈ wsX4_alive := by decide +kernel
  have t71_3 : ∀ w ∈ (vx_atS RX4 75 "java/lang/IndexOutOfBoundsException" E_nms).filter goodWord, w ∈ wsX4_alive := by decide +kernel
  have t71_4 : ∀ w ∈ (vx_atS RX4 75 "java/lang/IndexOutOfBoundsException" E_nms).filter (fun w => !goodWord w), w ∈ mm_NG := by decide +kernel
  have t71_5 : ∀ w ∈ Cond.classLink RX4 71 "java/lang/IndexOutOfBoundsException" :: Cond.initialized "java/lang/IndexOutOfBoundsException" :: vx_atS RX4 75 "java/lang/IndexOutOfBoundsException" E_nms, vx_ot w = true := by decide +kernel
  refine mm_ofX (cc := cX4_alive) (maxL := 4) (ret := some .boolean) (own := RX4) rfl hAD (by decide) rfl (Nat.le_of_ble_eq_true rfl) ?_
  intro pp ee ss mm bl mth cd C hX9 hT9 hret hlk9
  show mm_G _ _ _ _ _ _ _ _ _ _ _ _ _ _ _ _ _ _ M 0 [(0, .ref (ad 0)), (1, .int x), (2, .int y)] []
  refine r_aload_n C dX4_alive_0 rfl 0 rfl ?_
  refine r_iload_n C dX4_alive_1 rfl 1 rfl ?_
  refine r_callV1I C 4 (by decide) rfl (mm_ct4 ad q _) (kX4_isElement hAD) (cwV 1 C.1.2.2.2.2 gX4_alive_X4_isElement rfl rfl rfl (by decide +kernel) ⟨Nat.le_of_ble_eq_true rfl, Nat.le_of_ble_eq_true rfl⟩) (Nat.le_of_ble_eq_true rfl) dX4_alive_2 ⟨rfl, rfl⟩ ⟨Nat.zero_le _, Nat.zero_le _⟩ ?_
  refine r_if_ne (tgt := 18) C dX4_alive_5 (by decide) (fun z5 => ?_) (fun z5 => ?_)
  · have hxe := mc_isEl_i z5
    refine r_aload_n C dX4_alive_18 rfl 0 rfl ?_
    refine r_get4 C inX4 0 (by decide) rfl f11 rfl dX4_alive_19 ?_
    refine r_iload_n C dX4_alive_22 rfl 1 rfl ?_
    refine r_aaldE C (x.toInt.toNat) (hxe.1) (hxe.2) dX4_alive_23 ?_
    refine r_callV0I C 0 (by have := hxe.2; omega) rfl (mm_ct0 ad q _ hxe.2) (kX0_isLiving hAD hxe.2 (by exact hb _ hxe.2)) (cwV 0 C.1.2.2.2.2 gX4_alive_X0_isLiving rfl rfl rfl (by decide +kernel) ⟨Nat.le_of_ble_eq_true rfl, Nat.le_of_ble_eq_true rfl⟩) (Nat.le_of_ble_eq_true rfl) dX4_alive_24 ⟨rfl, rfl⟩ ⟨Nat.zero_le _, Nat.zero_le _⟩ ?_
    refine r_topi (fun v3_27 ev3_27 => ?_)
    refine r_istore_n (lv' := [(3, .int v3_27), (0, .ref (ad 0)), (1, .int x), (2, .int y)]) C dX4_alive_27 rfl (by decide) rfl ?_
    refine r_aload_n C dX4_alive_28 rfl 1 rfl ?_
    refine r_get4 C inX4 0 (by decide) rfl f11 rfl dX4_alive_29 ?_
    refine r_iload_n C dX4_alive_32 rfl 2 rfl ?_
    refine r_aaldE C (x.toInt.toNat) (hxe.1) (hxe.2) dX4_alive_33 ?_
    refine r_iload_n C dX4_alive_34 rfl 3 rfl ?_
    refine r_callV1V C 0 (by have := hxe.2; omega) rfl (mm_ct0 ad q _ hxe.2) (kX0_setLiving hAD hxe.2 (by exact hy)) (cwV 1 C.1.2.2.2.2 gX4_alive_X0_setLiving rfl rfl rfl (by decide +kernel) ⟨Nat.le_of_ble_eq_true rfl, Nat.le_of_ble_eq_true rfl⟩) (Nat.le_of_ble_eq_true rfl) dX4_alive_35 ⟨rfl, rfl⟩ ⟨Nat.zero_le _, Nat.zero_le _⟩ ?_
    refine r_iload_n C dX4_alive_38 rfl 0 rfl ?_
    exact r_xzret C hret (by rw [ev3_27]; exact hb _ hxe.2) hlk9 (Nat.zero_le _) (Nat.zero_le _) dX4_alive_39 (by have e9 : mc_alk M x = 0 := (by rw [mc_alk, if_neg z5]); exact ⟨e9, by rw [ev3_27], by rfl⟩)
  · exact r_throw C hX9 hT9 hl0 (cls := "java/lang/IndexOutOfBoundsException") (ik := 71) (is := 73) (ic := 75) (by decide) (by decide) rfl t71_1 t71_2 (by decide) t71_3 t71_4 t71_5 dX4_alive_8 dX4_alive_11 dX4_alive_12 dX4_alive_14 dX4_alive_17 (Nat.le_of_ble_eq_true rfl) (Nat.le_of_ble_eq_true rfl) (Nat.le_of_ble_eq_true rfl) (Nat.le_of_ble_eq_true rfl) hlk9 (Nat.le_of_ble_eq_true rfl) (Nat.le_of_ble_eq_true rfl) (by first | (have e9 : mc_alk M x = 1 := (by rw [mc_alk, if_pos z5]); exact ⟨⟨e9, rfl⟩, rfl⟩))

def mc_sok (M : mm_M) (x y z : Int32) : Int32 := if nm_in x (-4) 4 = 0 then 1 else if nm_in y 1 100 = 0 then 2 else if nm_in z 2 16 = 0 then 2 else if M.1 0 6 < 0 then 3 else if M.1 0 6 < nI 4 then 0 else 3
def mc_soS (M : mm_M) (S : Nat) (x y z : Int32) : mm_M := mm_sI (mm_sI (mm_sI (mm_sI M (6 + S) 0 x) (6 + S) 1 y) (6 + S) 2 z) 0 6 (M.1 0 6 + 1)
abbrev rmX4_source : Room := { frames := 6, cells := 1, slots := 6, locals := 90 }
set_option maxHeartbeats 400000 in
set_option maxRecDepth 100000 in
theorem kX4_source {l : Launch} {D : va_G} {ad : Nat → Nat} {q : Nat → ClassId} {A : Nat → Prop} (hAD : mm_AD ad A) (hl0 : l.stackTraces = false) {S : Nat} {M : mm_M} (hS : M.1 0 6 = nI S) (hS4 : S ≤ 4) {x y z : Int32} : mm_Kx l D ad q A yX4_source wsX4_source rmX4_source [.ref (ad 0), .int x, .int y, .int z] M (fun v' u => mc_sok M x y z = 0 ∧ v' = some (.int (M.1 0 6)) ∧ u = mc_soS M S x y z) (fun E u => ((mc_sok M x y z = 1 ∧ E = E_idx) ∨ (mc_sok M x y z = 2 ∧ E = E_arg) ∨ (mc_sok M x y z = 3 ∧ E = E_sta)) ∧ u = M) := by
  have inX4 : ∀ w ∈ wsX40, w ∈ wsX4_source := by decide +kernel
  have f17 : Cond.fieldLink RX4 17 "Beamrow" "sources" "[LBeamrow$Source;" ∈ wsX4_source := by decide +kernel
  have f91 : Cond.fieldLink RX4 91 "Beamrow" "sourceCount" "I" ∈ wsX4_source := by decide +kernel
  have t45_1 : Cond.classLink RX4 45 "java/lang/IllegalArgumentException" ∈ wsX4_source := by decide +kernel
  have t45_2 : Cond.initialized "java/lang/IllegalArgumentException" ∈ wsX4_source := by decide +kernel
  have t45_3 : ∀ w ∈ (vx_atS RX4 49 "java/lang/IllegalArgumentException" E_nms).filter goodWord, w ∈ wsX4_source := by decide +kernel
  have t45_4 : ∀ w ∈ (vx_atS RX4 49 "java/lang/IllegalArgumentException" E_nms).filter (fun w => !goodWord w), w ∈ mm_NG := by decide +kernel
  have t45_5 : ∀ w ∈ Cond.classLink RX4 45 "java/lang/IllegalArgumentException" :: Cond.initialized "java/lang/IllegalArgumentException" :: vx_atS RX4 49 "java/lang/IllegalArgumentException" E_nms, vx_ot w = true := by decide +kernel
  have t55_1 : Cond.classLink RX4 55 "java/lang/IllegalStateException" ∈ wsX4_source := by decide +kernel
  have t55_2 : Cond.initialized "java/lang/IllegalStateException" ∈ wsX4_source := by decide +kernel
  have t55_3 : ∀ w ∈ (vx_atS RX4 59 "java/lang/IllegalStateException" E_nms).filter goodWord, w ∈ wsX4_source := by decide +kernel
  have t55_4 : ∀ w ∈ (vx_atS RX4 59 "java/lang/IllegalStateException" E_nms).filter (fun w => !goodWord w), w ∈ mm_NG := by decide +kernel
  have t55_5 : ∀ w ∈ Cond.classLink RX4 55 "java/lang/IllegalStateException" :: Cond.initialized "java/lang/IllegalStateException" :: vx_atS RX4 59 "java/lang/IllegalStateException" E_nms, vx_ot w = true := by decide +kernel
  have t71_1 : Cond.classLink RX4 71 "java/lang/IndexOutOfBoundsException" ∈ wsX4_source := by decide +kernel
  have t71_2 : Cond.initialized "java/lang/IndexOutOfBoundsException" ∈ wsX4_source := by decide +kernel
  have t71_3 : ∀ w ∈ (vx_atS RX4 75 "java/lang/IndexOutOfBoundsException" E_nms).filter goodWord, w ∈ wsX4_source := by decide +kernel
  have t71_4 : ∀ w ∈ (vx_atS RX4 75 "java/lang/IndexOutOfBoundsException" E_nms).filter (fun w => !goodWord w), w ∈ mm_NG := by decide +kernel
  have t71_5 : ∀ w ∈ Cond.classLink RX4 71 "java/lang/IndexOutOfBoundsException" :: Cond.initialized "java/lang/IndexOutOfBoundsException" :: vx_atS RX4 75 "java/lang/IndexOutOfBoundsException" E_nms, vx_ot w = true := by decide +kernel
  refine mm_ofX (cc := cX4_source) (maxL := 5) (ret := some .int) (own := RX4) rfl hAD (by decide) rfl (Nat.le_of_ble_eq_true rfl) ?_
  intro pp ee ss mm bl mth cd C hX9 hT9 hret hlk9
  show mm_G _ _ _ _ _ _ _ _ _ _ _ _ _ _ _ _ _ _ M 0 [(0, .ref (ad 0)), (1, .int x), (2, .int y), (3, .int z)] []
  refine r_iload_n C dX4_source_0 rfl 1 rfl ?_
  refine r_callS1I C (kX4_isBearing hAD) (va_cwS 1 C.1.2.2.2.2 gX4_source_X4_isBearing rfl rfl rfl (by decide +kernel) ⟨Nat.le_of_ble_eq_true rfl, Nat.le_of_ble_eq_true rfl⟩) (Nat.le_of_ble_eq_true rfl) dX4_source_1 ⟨rfl, rfl⟩ ⟨Nat.zero_le _, Nat.zero_le _⟩ ?_
  refine r_if_ne (tgt := 17) C dX4_source_4 (by decide) (fun z4 => ?_) (fun z4 => ?_)
  · refine r_iload_n C dX4_source_17 rfl 2 rfl ?_
    refine r_iconst (v := 1) C dX4_source_18 rfl ?_
    refine r_bipush (v := (100)) C dX4_source_19 rfl ?_
    refine r_callS3I C (kX4_isWithin hAD) (va_cwS 3 C.1.2.2.2.2 gX4_source_X4_isWithin rfl rfl rfl (by decide +kernel) ⟨Nat.le_of_ble_eq_true rfl, Nat.le_of_ble_eq_true rfl⟩) (Nat.le_of_ble_eq_true rfl) dX4_source_21 ⟨rfl, rfl⟩ ⟨Nat.zero_le _, Nat.zero_le _⟩ ?_
    refine r_if_eq (tgt := 37) C dX4_source_24 (by decide) (fun z24 => ?_) (fun z24 => ?_)
    · exact r_throw C hX9 hT9 hl0 (cls := "java/lang/IllegalArgumentException") (ik := 45) (is := 89) (ic := 49) (by decide) (by decide) rfl t45_1 t45_2 (by decide) t45_3 t45_4 t45_5 dX4_source_37 dX4_source_40 dX4_source_41 dX4_source_43 dX4_source_46 (Nat.le_of_ble_eq_true rfl) (Nat.le_of_ble_eq_true rfl) (Nat.le_of_ble_eq_true rfl) (Nat.le_of_ble_eq_true rfl) hlk9 (Nat.le_of_ble_eq_true rfl) (Nat.le_of_ble_eq_true rfl) (by first | (have e9 : mc_sok M x y z = 2 := (by rw [mc_sok, if_neg z4, if_pos z24]); exact ⟨Or.inr (Or.inl ⟨e9, rfl⟩), rfl⟩) | (have e9 : mc_sok M x y z = 2 := (by rw [mc_sok, if_neg z4, if_neg z24, if_pos z34]); exact ⟨Or.inr (Or.inl ⟨e9, rfl⟩), rfl⟩))
    · refine r_iload_n C dX4_source_27 rfl 3 rfl ?_
      refine r_iconst (v := 2) C dX4_source_28 rfl ?_
      refine r_bipush (v := (16)) C dX4_source_29 rfl ?_
      refine r_callS3I C (kX4_isWithin hAD) (va_cwS 3 C.1.2.2.2.2 gX4_source_X4_isWithin rfl rfl rfl (by decide +kernel) ⟨Nat.le_of_ble_eq_true rfl, Nat.le_of_ble_eq_true rfl⟩) (Nat.le_of_ble_eq_true rfl) dX4_source_31 ⟨rfl, rfl⟩ ⟨Nat.zero_le _, Nat.zero_le _⟩ ?_
      refine r_if_ne (tgt := 47) C dX4_source_34 (by decide) (fun z34 => ?_) (fun z34 => ?_)
      · refine r_aload_n C dX4_source_47 rfl 0 rfl ?_
        refine r_get4 C inX4 6 (by decide) rfl f91 rfl dX4_source_48 ?_
        refine r_topi (fun v4_51 ev4_51 => ?_)
        refine r_istore (lv' := [(4, .int v4_51), (0, .ref (ad 0)), (1, .int x), (2, .int y), (3, .int z)]) C dX4_source_51 (by decide) rfl ?_
        refine r_iload C dX4_source_53 0 rfl ?_
        refine r_if_lt (tgt := 68) C dX4_source_55 (by decide) (fun z55 => ?_) (fun z55 => ?_)
        · exact r_throw C hX9 hT9 hl0 (cls := "java/lang/IllegalStateException") (ik := 55) (is := 94) (ic := 59) (by decide) (by decide) rfl t55_1 t55_2 (by decide) t55_3 t55_4 t55_5 dX4_source_68 dX4_source_71 dX4_source_72 dX4_source_74 dX4_source_77 (Nat.le_of_ble_eq_true rfl) (Nat.le_of_ble_eq_true rfl) (Nat.le_of_ble_eq_true rfl) (Nat.le_of_ble_eq_true rfl) hlk9 (Nat.le_of_ble_eq_true rfl) (Nat.le_of_ble_eq_true rfl) (by first | (have e9 : mc_sok M x y z = 3 := (by rw [mc_sok, if_neg z4, if_neg z24, if_neg z34, if_pos (by rw [← ev4_51]; exact z55)]); exact ⟨Or.inr (Or.inr (⟨e9, rfl⟩)), rfl⟩) | (have e9 : mc_sok M x y z = 3 := (by rw [mc_sok, if_neg z4, if_neg z24, if_neg z34, if_neg (by rw [← ev4_51]; exact z55), if_neg (by rw [← ev4_51]; exact z65)]); exact ⟨Or.inr (Or.inr (⟨e9, rfl⟩)), rfl⟩))
        · refine r_iload C dX4_source_58 0 rfl ?_
          refine r_aload_n C dX4_source_60 rfl 1 rfl ?_
          refine r_get4 C inX4 1 (by decide) rfl f17 rfl dX4_source_61 ?_
          refine r_alenS C dX4_source_64 ?_
          refine r_icmp_lt (tgt := 78) C dX4_source_65 (by decide) (fun z65 => ?_) (fun z65 => ?_)
          · have hlt : S < 4 := nm_ltN hS (by omega) (by omega) (by rw [← ev4_51]; exact z65)
            refine r_aload_n C dX4_source_78 rfl 1 rfl ?_
            refine r_get4 C inX4 1 (by decide) rfl f17 rfl dX4_source_79 ?_
            refine r_iload C dX4_source_82 0 rfl ?_
            refine r_aaldS C (S) (by rw [ev4_51]; exact nm_hx hS (by omega)) (hlt) dX4_source_84 ?_
            refine r_iload_n C dX4_source_85 rfl 2 rfl ?_
            refine r_iload_n C dX4_source_86 rfl 3 rfl ?_
            refine r_iload_n C dX4_source_87 rfl 4 rfl ?_
            refine r_callV3V C 2 (by have := (hlt); omega) rfl (mm_ct2 ad q _ (hlt)) (kX2_setUp hAD (hlt)) (cwV 3 C.1.2.2.2.2 gX4_source_X2_setUp rfl rfl rfl (by decide +kernel) ⟨Nat.le_of_ble_eq_true rfl, Nat.le_of_ble_eq_true rfl⟩) (Nat.le_of_ble_eq_true rfl) dX4_source_88 ⟨rfl, rfl⟩ ⟨Nat.zero_le _, Nat.zero_le _⟩ ?_
            refine r_aload_n C dX4_source_91 rfl 1 rfl ?_
            refine r_iload C dX4_source_92 0 rfl ?_
            refine r_iconst (v := 1) C dX4_source_94 rfl ?_
            refine r_iadd C dX4_source_95 ?_
            refine r_put4 C inX4 (ty := .int) 6 (by decide) mm_set4_6 f91 rfl rfl (by decide +kernel) rfl rfl dX4_source_96 ?_
            refine r_iload C dX4_source_99 0 rfl ?_
            exact r_xiret C hret hlk9 (Nat.zero_le _) (Nat.zero_le _) dX4_source_101 (by have e9 : mc_sok M x y z = 0 := (by rw [mc_sok, if_neg z4, if_neg z24, if_neg z34, if_neg (by rw [← ev4_51]; exact z55), if_pos (by rw [← ev4_51]; exact z65)]); exact ⟨e9, by rw [ev4_51], by rw [ev4_51]; rfl⟩)
          · exact r_throw C hX9 hT9 hl0 (cls := "java/lang/IllegalStateException") (ik := 55) (is := 94) (ic := 59) (by decide) (by decide) rfl t55_1 t55_2 (by decide) t55_3 t55_4 t55_5 dX4_source_68 dX4_source_71 dX4_source_72 dX4_source_74 dX4_source_77 (Nat.le_of_ble_eq_true rfl) (Nat.le_of_ble_eq_true rfl) (Nat.le_of_ble_eq_true rfl) (Nat.le_of_ble_eq_true rfl) hlk9 (Nat.le_of_ble_eq_true rfl) (Nat.le_of_ble_eq_true rfl) (by first | (have e9 : mc_sok M x y z = 3 := (by rw [mc_sok, if_neg z4, if_neg z24, if_neg z34, if_pos (by rw [← ev4_51]; exact z55)]); exact ⟨Or.inr (Or.inr (⟨e9, rfl⟩)), rfl⟩) | (have e9 : mc_sok M x y z = 3 := (by rw [mc_sok, if_neg z4, if_neg z24, if_neg z34, if_neg (by rw [← ev4_51]; exact z55), if_neg (by rw [← ev4_51]; exact z65)]); exact ⟨Or.inr (Or.inr (⟨e9, rfl⟩)), rfl⟩))
      · exact r_throw C hX9 hT9 hl0 (cls := "java/lang/IllegalArgumentException") (ik := 45) (is := 89) (ic := 49) (by decide) (by decide) rfl t45_1 t45_2 (by decide) t45_3 t45_4 t45_5 dX4_source_37 dX4_source_40 dX4_source_41 dX4_source_43 dX4_source_46 (Nat.le_of_ble_eq_true rfl) (Nat.le_of_ble_eq_true rfl) (Nat.le_of_ble_eq_true rfl) (Nat.le_of_ble_eq_true rfl) hlk9 (Nat.le_of_ble_eq_true rfl) (Nat.le_of_ble_eq_true rfl) (by first | (have e9 : mc_sok M x y z = 2 := (by rw [mc_sok, if_neg z4, if_pos z24]); exact ⟨Or.inr (Or.inl ⟨e9, rfl⟩), rfl⟩) | (have e9 : mc_sok M x y z = 2 := (by rw [mc_sok, if_neg z4, if_neg z24, if_pos z34]); exact ⟨Or.inr (Or.inl ⟨e9, rfl⟩), rfl⟩))
  · exact r_throw C hX9 hT9 hl0 (cls := "java/lang/IndexOutOfBoundsException") (ik := 71) (is := 87) (ic := 75) (by decide) (by decide) rfl t71_1 t71_2 (by decide) t71_3 t71_4 t71_5 dX4_source_7 dX4_source_10 dX4_source_11 dX4_source_13 dX4_source_16 (Nat.le_of_ble_eq_true rfl) (Nat.le_of_ble_eq_true rfl) (Nat.le_of_ble_eq_true rfl) (Nat.le_of_ble_eq_true rfl) hlk9 (Nat.le_of_ble_eq_true rfl) (Nat.le_of_ble_eq_true rfl) (by first | (have e9 : mc_sok M x y z = 1 := (by rw [mc_sok, if_pos z4]); exact ⟨Or.inl ⟨e9, rfl⟩, rfl⟩))

abbrev rmX4_noise : Room := { frames := 6, cells := 1, slots := 6, locals := 90 }
set_option maxHeartbeats 400000 in
set_option maxRecDepth 100000 in
theorem kX4_noise {l : Launch} {D : va_G} {ad : Nat → Nat} {q : Nat → ClassId} {A : Nat → Prop} (hAD : mm_AD ad A) (hl0 : l.stackTraces = false) {M : mm_M} {x y : Int32} : mm_Kx l D ad q A yX4_noise wsX4_noise rmX4_noise [.ref (ad 0), .int x, .int y] M (fun v' u => mr_nok x y = 0 ∧ v' = some (.int (M.1 3 0)) ∧ u = mm_sI (mm_sI M 3 0 x) 3 1 y) (fun E u => ((mr_nok x y = 1 ∧ E = E_arg)) ∧ u = M) := by
  have inX4 : ∀ w ∈ wsX40, w ∈ wsX4_noise := by decide +kernel
  have f24 : Cond.fieldLink RX4 24 "Beamrow" "hiss" "LBeamrow$Hiss;" ∈ wsX4_noise := by decide +kernel
  have n100 : Cond.constant RX4 100 (65536) ∈ wsX4_noise := by decide +kernel
  have t45_1 : Cond.classLink RX4 45 "java/lang/IllegalArgumentException" ∈ wsX4_noise := by decide +kernel
  have t45_2 : Cond.initialized "java/lang/IllegalArgumentException" ∈ wsX4_noise := by decide +kernel
  have t45_3 : ∀ w ∈ (vx_atS RX4 49 "java/lang/IllegalArgumentException" E_nms).filter goodWord, w ∈ wsX4_noise := by decide +kernel
  have t45_4 : ∀ w ∈ (vx_atS RX4 49 "java/lang/IllegalArgumentException" E_nms).filter (fun w => !goodWord w), w ∈ mm_NG := by decide +kernel
  have t45_5 : ∀ w ∈ Cond.classLink RX4 45 "java/lang/IllegalArgumentException" :: Cond.initialized "java/lang/IllegalArgumentException" :: vx_atS RX4 49 "java/lang/IllegalArgumentException" E_nms, vx_ot w = true := by decide +kernel
  refine mm_ofX (cc := cX4_noise) (maxL := 4) (ret := some .int) (own := RX4) rfl hAD (by decide) rfl (Nat.le_of_ble_eq_true rfl) ?_
  intro pp ee ss mm bl mth cd C hX9 hT9 hret hlk9
  show mm_G _ _ _ _ _ _ _ _ _ _ _ _ _ _ _ _ _ _ M 0 [(0, .ref (ad 0)), (1, .int x), (2, .int y)] []
  refine r_iload_n C dX4_noise_0 rfl 1 rfl ?_
  refine r_iconst (v := 0) C dX4_noise_1 rfl ?_
  refine r_bipush (v := (50)) C dX4_noise_2 rfl ?_
  refine r_callS3I C (kX4_isWithin hAD) (va_cwS 3 C.1.2.2.2.2 gX4_noise_X4_isWithin rfl rfl rfl (by decide +kernel) ⟨Nat.le_of_ble_eq_true rfl, Nat.le_of_ble_eq_true rfl⟩) (Nat.le_of_ble_eq_true rfl) dX4_noise_4 ⟨rfl, rfl⟩ ⟨Nat.zero_le _, Nat.zero_le _⟩ ?_
  refine r_if_eq (tgt := 20) C dX4_noise_7 (by decide) (fun z7 => ?_) (fun z7 => ?_)
  · exact r_throw C hX9 hT9 hl0 (cls := "java/lang/IllegalArgumentException") (ik := 45) (is := 101) (ic := 49) (by decide) (by decide) rfl t45_1 t45_2 (by decide) t45_3 t45_4 t45_5 dX4_noise_20 dX4_noise_23 dX4_noise_24 dX4_noise_26 dX4_noise_29 (Nat.le_of_ble_eq_true rfl) (Nat.le_of_ble_eq_true rfl) (Nat.le_of_ble_eq_true rfl) (Nat.le_of_ble_eq_true rfl) hlk9 (Nat.le_of_ble_eq_true rfl) (Nat.le_of_ble_eq_true rfl) (by first | (have e9 : mr_nok x y = 1 := (by rw [mr_nok, if_pos z7]); exact ⟨⟨e9, rfl⟩, rfl⟩) | (have e9 : mr_nok x y = 1 := (by rw [mr_nok, if_neg z7, if_pos z17]); exact ⟨⟨e9, rfl⟩, rfl⟩))
  · refine r_iload_n C dX4_noise_10 rfl 2 rfl ?_
    refine r_iconst (v := 1) C dX4_noise_11 rfl ?_
    refine r_ldc C n100 dX4_noise_12 ?_
    refine r_callS3I C (kX4_isWithin hAD) (va_cwS 3 C.1.2.2.2.2 gX4_noise_X4_isWithin rfl rfl rfl (by decide +kernel) ⟨Nat.le_of_ble_eq_true rfl, Nat.le_of_ble_eq_true rfl⟩) (Nat.le_of_ble_eq_true rfl) dX4_noise_14 ⟨rfl, rfl⟩ ⟨Nat.zero_le _, Nat.zero_le _⟩ ?_
    refine r_if_ne (tgt := 30) C dX4_noise_17 (by decide) (fun z17 => ?_) (fun z17 => ?_)
    · refine r_aload_n C dX4_noise_30 rfl 0 rfl ?_
      refine r_get4 C inX4 2 (by decide) rfl f24 rfl dX4_noise_31 ?_
      refine r_callV0I C 1 (by decide) rfl (mm_ct1 ad q _) (kX1_getLoudness hAD) (cwV 0 C.1.2.2.2.2 gX4_noise_X1_getLoudness rfl rfl rfl (by decide +kernel) ⟨Nat.le_of_ble_eq_true rfl, Nat.le_of_ble_eq_true rfl⟩) (Nat.le_of_ble_eq_true rfl) dX4_noise_34 ⟨rfl, rfl⟩ ⟨Nat.zero_le _, Nat.zero_le _⟩ ?_
      refine r_topi (fun v3_37 ev3_37 => ?_)
      refine r_istore_n (lv' := [(3, .int v3_37), (0, .ref (ad 0)), (1, .int x), (2, .int y)]) C dX4_noise_37 rfl (by decide) rfl ?_
      refine r_aload_n C dX4_noise_38 rfl 1 rfl ?_
      refine r_get4 C inX4 2 (by decide) rfl f24 rfl dX4_noise_39 ?_
      refine r_iload_n C dX4_noise_42 rfl 2 rfl ?_
      refine r_iload_n C dX4_noise_43 rfl 3 rfl ?_
      refine r_callV2V C 1 (by decide) rfl (mm_ct1 ad q _) (kX1_set hAD) (cwV 2 C.1.2.2.2.2 gX4_noise_X1_set rfl rfl rfl (by decide +kernel) ⟨Nat.le_of_ble_eq_true rfl, Nat.le_of_ble_eq_true rfl⟩) (Nat.le_of_ble_eq_true rfl) dX4_noise_44 ⟨rfl, rfl⟩ ⟨Nat.zero_le _, Nat.zero_le _⟩ ?_
      refine r_iload_n C dX4_noise_47 rfl 0 rfl ?_
      exact r_xiret C hret hlk9 (Nat.zero_le _) (Nat.zero_le _) dX4_noise_48 (by have e9 : mr_nok x y = 0 := (by rw [mr_nok, if_neg z7, if_neg z17]); exact ⟨e9, by rw [ev3_37], by rfl⟩)
    · exact r_throw C hX9 hT9 hl0 (cls := "java/lang/IllegalArgumentException") (ik := 45) (is := 101) (ic := 49) (by decide) (by decide) rfl t45_1 t45_2 (by decide) t45_3 t45_4 t45_5 dX4_noise_20 dX4_noise_23 dX4_noise_24 dX4_noise_26 dX4_noise_29 (Nat.le_of_ble_eq_true rfl) (Nat.le_of_ble_eq_true rfl) (Nat.le_of_ble_eq_true rfl) (Nat.le_of_ble_eq_true rfl) hlk9 (Nat.le_of_ble_eq_true rfl) (Nat.le_of_ble_eq_true rfl) (by first | (have e9 : mr_nok x y = 1 := (by rw [mr_nok, if_pos z7]); exact ⟨⟨e9, rfl⟩, rfl⟩) | (have e9 : mr_nok x y = 1 := (by rw [mr_nok, if_neg z7, if_pos z17]); exact ⟨⟨e9, rfl⟩, rfl⟩))

def mc_hek (x : Int32) : Int32 := if nm_in x 1 100 = 0 then 1 else 0
def mc_hrN (M : mm_M) (S : Nat) : Nat → mm_M
  | 0 => M
  | n + 1 => mc_tick (mc_hrN M S n) S
theorem mc_hrN_o {M : mm_M} {S k j : Nat} (hk : (10 ≤ k ∧ k < 18) ∨ (k < 3 ∧ j ≠ 8)) : ∀ n, (mc_hrN M S n).1 k j = M.1 k j
  | 0 => rfl
  | n + 1 => by rw [mc_hrN, mc_tick, mm_sI_1, if_neg (by omega), mc_heN_o (by omega) 8 (Nat.le_refl 8), mc_hrN_o hk n]
abbrev rmX4_hear : Room := { frames := 6, cells := 1, slots := 6, locals := 92 }
set_option maxHeartbeats 400000 in
set_option maxRecDepth 100000 in
theorem kX4_hear {l : Launch} {D : va_G} {ad : Nat → Nat} {q : Nat → ClassId} {A : Nat → Prop} (hAD : mm_AD ad A) (hl0 : l.stackTraces = false) {S : Nat} {M : mm_M} (hb : ∀ i : Nat, i < 8 → M.1 (10 + i) 4 &&& 1 = M.1 (10 + i) 4) (hu : ∀ i : Nat, i < 8 → M.1 (10 + i) 3 &&& 1 = M.1 (10 + i) 3) (hS : M.1 0 6 = nI S) (hS4 : S ≤ 4) {x : Int32} : mm_Kx l D ad q A yX4_hear wsX4_hear rmX4_hear [.ref (ad 0), .int x] M (fun v' u => mc_hek x = 0 ∧ v' = some (.int ((mc_hrN M S x.toInt.toNat).1 0 8)) ∧ u = mc_hrN M S x.toInt.toNat) (fun E u => ((mc_hek x = 1 ∧ E = E_arg)) ∧ u = M) := by
  have inX4 : ∀ w ∈ wsX40, w ∈ wsX4_hear := by decide +kernel
  have f60 : Cond.fieldLink RX4 60 "Beamrow" "nextTick" "I" ∈ wsX4_hear := by decide +kernel
  have t45_1 : Cond.classLink RX4 45 "java/lang/IllegalArgumentException" ∈ wsX4_hear := by decide +kernel
  have t45_2 : Cond.initialized "java/lang/IllegalArgumentException" ∈ wsX4_hear := by decide +kernel
  have t45_3 : ∀ w ∈ (vx_atS RX4 49 "java/lang/IllegalArgumentException" E_nms).filter goodWord, w ∈ wsX4_hear := by decide +kernel
  have t45_4 : ∀ w ∈ (vx_atS RX4 49 "java/lang/IllegalArgumentException" E_nms).filter (fun w => !goodWord w), w ∈ mm_NG := by decide +kernel
  have t45_5 : ∀ w ∈ Cond.classLink RX4 45 "java/lang/IllegalArgumentException" :: Cond.initialized "java/lang/IllegalArgumentException" :: vx_atS RX4 49 "java/lang/IllegalArgumentException" E_nms, vx_ot w = true := by decide +kernel
  refine mm_ofX (cc := cX4_hear) (maxL := 3) (ret := some .int) (own := RX4) rfl hAD (by decide) rfl (Nat.le_of_ble_eq_true rfl) ?_
  intro pp ee ss mm bl mth cd C hX9 hT9 hret hlk9
  show mm_G _ _ _ _ _ _ _ _ _ _ _ _ _ _ _ _ _ _ M 0 [(0, .ref (ad 0)), (1, .int x)] []
  refine r_iload_n C dX4_hear_0 rfl 1 rfl ?_
  refine r_iconst (v := 1) C dX4_hear_1 rfl ?_
  refine r_bipush (v := (100)) C dX4_hear_2 rfl ?_
  refine r_callS3I C (kX4_isWithin hAD) (va_cwS 3 C.1.2.2.2.2 gX4_hear_X4_isWithin rfl rfl rfl (by decide +kernel) ⟨Nat.le_of_ble_eq_true rfl, Nat.le_of_ble_eq_true rfl⟩) (Nat.le_of_ble_eq_true rfl) dX4_hear_4 ⟨rfl, rfl⟩ ⟨Nat.zero_le _, Nat.zero_le _⟩ ?_
  refine r_if_ne (tgt := 20) C dX4_hear_7 (by decide) (fun z7 => ?_) (fun z7 => ?_)
  · obtain ⟨T, hT⟩ : ∃ T : Nat, T = x.toInt.toNat := ⟨_, rfl⟩
    have hT1 : x = nI T := by rw [hT]; exact nm_toN (by have := (nm_inT z7).1; have e : (1 : Int32).toInt = 1 := rfl; omega)
    have hT2 : T ≤ 100 := by have := (nm_inT z7).2; have e : (100 : Int32).toInt = 100 := rfl; omega
    refine r_iconst (v := 0) C dX4_hear_20 rfl ?_
    refine r_istore_n (lv' := [(2, .int 0), (0, .ref (ad 0)), (1, .int x)]) C dX4_hear_21 rfl (by decide) rfl ?_
    have L22 : ∀ (k9 : Nat) (n : Nat) (hn : n ≤ T), T - n < k9 → mm_G pp l ee rmX4_hear ss mm ([.ref (ad 0), .int x] : List Value).toArray bl mth cd 0 0 (vx_MQ bl (mm_Q D ad q A (fun v' u => mc_hek x = 0 ∧ v' = some (.int ((mc_hrN M S x.toInt.toNat).1 0 8)) ∧ u = mc_hrN M S x.toInt.toNat)) (mm_X D ad q A (fun E u => ((mc_hek x = 1 ∧ E = E_arg)) ∧ u = M)) ([.ref (ad 0), .int x] : List Value).toArray ss rmX4_hear.cells rmX4_hear.slots A) 3 D ad q A (mc_hrN M S n) 22 [(2, .int (nI n)), (0, .ref (ad 0)), (1, .int x)] [] := by
      intro k9
      induction k9 with
      | zero => intro n hn h9; exact absurd h9 (Nat.not_lt_zero _)
      | succ k9 ih22 =>
        intro n hn h9
        refine r_iload_n C dX4_hear_22 rfl 0 rfl ?_
        refine r_iload_n C dX4_hear_23 rfl 2 rfl ?_
        refine r_icmp_ge (tgt := 37) C dX4_hear_24 (by decide) (fun z24 => ?_) (fun z24 => ?_)
        · rw [hT1] at z24
          obtain rfl : T = n := (nm_ge hn (by omega) z24).symm
          refine r_aload_n C dX4_hear_37 rfl 1 rfl ?_
          refine r_get4 C inX4 8 (by decide) rfl f60 rfl dX4_hear_38 ?_
          exact r_xiret C hret hlk9 (Nat.zero_le _) (Nat.zero_le _) dX4_hear_41 (by have e9 : mc_hek x = 0 := (by rw [mc_hek, if_neg z7]); exact ⟨e9, by rw [← hT], by rw [← hT]⟩)
        · rw [hT1] at z24
          have hlt : n < T := nm_lt (by omega) (by omega) z24
          refine r_aload_n C dX4_hear_27 rfl 1 rfl ?_
          refine r_callV0V C 4 (by decide) rfl (mm_ct4 ad q _) (kX4_hearOneTick hAD (by intro i9 hi9; rw [mc_hrN_o (by omega)]; exact hb i9 hi9) (by intro i9 hi9; rw [mc_hrN_o (by omega)]; exact hu i9 hi9) (by rw [mc_hrN_o (by omega)]; exact hS) (by exact hS4)) (cwV 0 C.1.2.2.2.2 gX4_hear_X4_hearOneTick rfl rfl rfl (by decide +kernel) ⟨Nat.le_of_ble_eq_true rfl, Nat.le_of_ble_eq_true rfl⟩) (Nat.le_of_ble_eq_true rfl) dX4_hear_28 ⟨rfl, rfl⟩ ⟨Nat.zero_le _, Nat.zero_le _⟩ ?_
          obtain ⟨v2_31, ev2_31⟩ : ∃ y9 : Int32, y9 = (nI n) + 1 := ⟨_, rfl⟩
          refine r_iinc (v := v2_31) (lv' := [(2, .int v2_31), (0, .ref (ad 0)), (1, .int x)]) C dX4_hear_31 0 rfl (by rw [ev2_31]; rfl) (by decide) rfl ?_
          refine r_goto (tgt := 22) C dX4_hear_34 (by decide) ?_
          refine r_cast (M' := mc_hrN M S (n + 1)) (lv' := [(2, .int (nI (n + 1))), (0, .ref (ad 0)), (1, .int x)]) (st' := []) rfl (by rw [ev2_31, nI_1]; first | done | rfl) rfl (ih22 (n + 1) (by omega) (by omega))
    refine r_cast (M' := mc_hrN M S 0) (lv' := [(2, .int (nI 0)), (0, .ref (ad 0)), (1, .int x)]) (st' := []) rfl rfl rfl (L22 (T - 0 + 1) 0 (Nat.zero_le _) (by omega))
  · exact r_throw C hX9 hT9 hl0 (cls := "java/lang/IllegalArgumentException") (ik := 45) (is := 111) (ic := 49) (by decide) (by decide) rfl t45_1 t45_2 (by decide) t45_3 t45_4 t45_5 dX4_hear_10 dX4_hear_13 dX4_hear_14 dX4_hear_16 dX4_hear_19 (Nat.le_of_ble_eq_true rfl) (Nat.le_of_ble_eq_true rfl) (Nat.le_of_ble_eq_true rfl) (Nat.le_of_ble_eq_true rfl) hlk9 (Nat.le_of_ble_eq_true rfl) (Nat.le_of_ble_eq_true rfl) (by first | (have e9 : mc_hek x = 1 := (by rw [mc_hek, if_pos z7]); exact ⟨⟨e9, rfl⟩, rfl⟩))

def mc_wik (x : Int32) : Int32 := if nm_in x 0 2 = 0 then 1 else 0
abbrev rmX4_window : Room := { frames := 6, cells := 1, slots := 6, locals := 90 }
set_option maxHeartbeats 400000 in
set_option maxRecDepth 100000 in
theorem kX4_window {l : Launch} {D : va_G} {ad : Nat → Nat} {q : Nat → ClassId} {A : Nat → Prop} (hAD : mm_AD ad A) (hl0 : l.stackTraces = false) {M : mm_M} {x : Int32} : mm_Kx l D ad q A yX4_window wsX4_window rmX4_window [.ref (ad 0), .int x] M (fun v' u => mc_wik x = 0 ∧ v' = some (.int (M.1 0 7)) ∧ u = mm_sI M 0 7 x) (fun E u => ((mc_wik x = 1 ∧ E = E_arg)) ∧ u = M) := by
  have inX4 : ∀ w ∈ wsX40, w ∈ wsX4_window := by decide +kernel
  have f37 : Cond.fieldLink RX4 37 "Beamrow" "shape" "I" ∈ wsX4_window := by decide +kernel
  have t45_1 : Cond.classLink RX4 45 "java/lang/IllegalArgumentException" ∈ wsX4_window := by decide +kernel
  have t45_2 : Cond.initialized "java/lang/IllegalArgumentException" ∈ wsX4_window := by decide +kernel
  have t45_3 : ∀ w ∈ (vx_atS RX4 49 "java/lang/IllegalArgumentException" E_nms).filter goodWord, w ∈ wsX4_window := by decide +kernel
  have t45_4 : ∀ w ∈ (vx_atS RX4 49 "java/lang/IllegalArgumentException" E_nms).filter (fun w => !goodWord w), w ∈ mm_NG := by decide +kernel
  have t45_5 : ∀ w ∈ Cond.classLink RX4 45 "java/lang/IllegalArgumentException" :: Cond.initialized "java/lang/IllegalArgumentException" :: vx_atS RX4 49 "java/lang/IllegalArgumentException" E_nms, vx_ot w = true := by decide +kernel
  refine mm_ofX (cc := cX4_window) (maxL := 3) (ret := some .int) (own := RX4) rfl hAD (by decide) rfl (Nat.le_of_ble_eq_true rfl) ?_
  intro pp ee ss mm bl mth cd C hX9 hT9 hret hlk9
  show mm_G _ _ _ _ _ _ _ _ _ _ _ _ _ _ _ _ _ _ M 0 [(0, .ref (ad 0)), (1, .int x)] []
  refine r_iload_n C dX4_window_0 rfl 1 rfl ?_
  refine r_iconst (v := 0) C dX4_window_1 rfl ?_
  refine r_iconst (v := 2) C dX4_window_2 rfl ?_
  refine r_callS3I C (kX4_isWithin hAD) (va_cwS 3 C.1.2.2.2.2 gX4_window_X4_isWithin rfl rfl rfl (by decide +kernel) ⟨Nat.le_of_ble_eq_true rfl, Nat.le_of_ble_eq_true rfl⟩) (Nat.le_of_ble_eq_true rfl) dX4_window_3 ⟨rfl, rfl⟩ ⟨Nat.zero_le _, Nat.zero_le _⟩ ?_
  refine r_if_ne (tgt := 19) C dX4_window_6 (by decide) (fun z6 => ?_) (fun z6 => ?_)
  · refine r_aload_n C dX4_window_19 rfl 0 rfl ?_
    refine r_get4 C inX4 7 (by decide) rfl f37 rfl dX4_window_20 ?_
    refine r_topi (fun v2_23 ev2_23 => ?_)
    refine r_istore_n (lv' := [(2, .int v2_23), (0, .ref (ad 0)), (1, .int x)]) C dX4_window_23 rfl (by decide) rfl ?_
    refine r_aload_n C dX4_window_24 rfl 1 rfl ?_
    refine r_iload_n C dX4_window_25 rfl 2 rfl ?_
    refine r_put4 C inX4 (ty := .int) 7 (by decide) mm_set4_7 f37 rfl rfl (by decide +kernel) rfl rfl dX4_window_26 ?_
    refine r_iload_n C dX4_window_29 rfl 0 rfl ?_
    exact r_xiret C hret hlk9 (Nat.zero_le _) (Nat.zero_le _) dX4_window_30 (by have e9 : mc_wik x = 0 := (by rw [mc_wik, if_neg z6]); exact ⟨e9, by rw [ev2_23], by rfl⟩)
  · exact r_throw C hX9 hT9 hl0 (cls := "java/lang/IllegalArgumentException") (ik := 45) (is := 116) (ic := 49) (by decide) (by decide) rfl t45_1 t45_2 (by decide) t45_3 t45_4 t45_5 dX4_window_9 dX4_window_12 dX4_window_13 dX4_window_15 dX4_window_18 (Nat.le_of_ble_eq_true rfl) (Nat.le_of_ble_eq_true rfl) (Nat.le_of_ble_eq_true rfl) (Nat.le_of_ble_eq_true rfl) hlk9 (Nat.le_of_ble_eq_true rfl) (Nat.le_of_ble_eq_true rfl) (by first | (have e9 : mc_wik x = 1 := (by rw [mc_wik, if_pos z6]); exact ⟨⟨e9, rfl⟩, rfl⟩))

def mc_smk (M : mm_M) (x y : Int32) : Int32 := if mc_isEl M x = 0 then 1 else if nm_in y 0 63 = 0 then 1 else 0
abbrev rmX4_sample : Room := { frames := 6, cells := 1, slots := 6, locals := 90 }
set_option maxHeartbeats 400000 in
set_option maxRecDepth 100000 in
theorem kX4_sample {l : Launch} {D : va_G} {ad : Nat → Nat} {q : Nat → ClassId} {A : Nat → Prop} (hAD : mm_AD ad A) (hl0 : l.stackTraces = false) {M : mm_M} {x y : Int32} : mm_Kx l D ad q A yX4_sample wsX4_sample rmX4_sample [.ref (ad 0), .int x, .int y] M (fun v' u => mc_smk M x y = 0 ∧ v' = some (.int (mc_at M x.toInt.toNat (63 - y))) ∧ u = M) (fun E u => ((mc_smk M x y = 1 ∧ E = E_idx)) ∧ u = M) := by
  have inX4 : ∀ w ∈ wsX40, w ∈ wsX4_sample := by decide +kernel
  have f11 : Cond.fieldLink RX4 11 "Beamrow" "elements" "[LBeamrow$Element;" ∈ wsX4_sample := by decide +kernel
  have t71_1 : Cond.classLink RX4 71 "java/lang/IndexOutOfBoundsException" ∈ wsX4_sample := by decide +kernel
  have t71_2 : Cond.initialized "java/lang/IndexOutOfBoundsException" ∈ wsX4_sample := by decide +kernel
  have t71_3 : ∀ w ∈ (vx_atS RX4 75 "java/lang/IndexOutOfBoundsException" E_nms).filter goodWord, w ∈ wsX4_sample := by decide +kernel
  have t71_4 : ∀ w ∈ (vx_atS RX4 75 "java/lang/IndexOutOfBoundsException" E_nms).filter (fun w => !goodWord w), w ∈ mm_NG := by decide +kernel
  have t71_5 : ∀ w ∈ Cond.classLink RX4 71 "java/lang/IndexOutOfBoundsException" :: Cond.initialized "java/lang/IndexOutOfBoundsException" :: vx_atS RX4 75 "java/lang/IndexOutOfBoundsException" E_nms, vx_ot w = true := by decide +kernel
  refine mm_ofX (cc := cX4_sample) (maxL := 3) (ret := some .int) (own := RX4) rfl hAD (by decide) rfl (Nat.le_of_ble_eq_true rfl) ?_
  intro pp ee ss mm bl mth cd C hX9 hT9 hret hlk9
  show mm_G _ _ _ _ _ _ _ _ _ _ _ _ _ _ _ _ _ _ M 0 [(0, .ref (ad 0)), (1, .int x), (2, .int y)] []
  refine r_aload_n C dX4_sample_0 rfl 0 rfl ?_
  refine r_iload_n C dX4_sample_1 rfl 1 rfl ?_
  refine r_callV1I C 4 (by decide) rfl (mm_ct4 ad q _) (kX4_isElement hAD) (cwV 1 C.1.2.2.2.2 gX4_sample_X4_isElement rfl rfl rfl (by decide +kernel) ⟨Nat.le_of_ble_eq_true rfl, Nat.le_of_ble_eq_true rfl⟩) (Nat.le_of_ble_eq_true rfl) dX4_sample_2 ⟨rfl, rfl⟩ ⟨Nat.zero_le _, Nat.zero_le _⟩ ?_
  refine r_if_eq (tgt := 18) C dX4_sample_5 (by decide) (fun z5 => ?_) (fun z5 => ?_)
  · exact r_throw C hX9 hT9 hl0 (cls := "java/lang/IndexOutOfBoundsException") (ik := 71) (is := 138) (ic := 75) (by decide) (by decide) rfl t71_1 t71_2 (by decide) t71_3 t71_4 t71_5 dX4_sample_18 dX4_sample_21 dX4_sample_22 dX4_sample_24 dX4_sample_27 (Nat.le_of_ble_eq_true rfl) (Nat.le_of_ble_eq_true rfl) (Nat.le_of_ble_eq_true rfl) (Nat.le_of_ble_eq_true rfl) hlk9 (Nat.le_of_ble_eq_true rfl) (Nat.le_of_ble_eq_true rfl) (by first | (have e9 : mc_smk M x y = 1 := (by rw [mc_smk, if_pos z5]); exact ⟨⟨e9, rfl⟩, rfl⟩) | (have e9 : mc_smk M x y = 1 := (by rw [mc_smk, if_neg z5, if_pos z15]); exact ⟨⟨e9, rfl⟩, rfl⟩))
  · have hxe := mc_isEl_i z5
    refine r_iload_n C dX4_sample_8 rfl 2 rfl ?_
    refine r_iconst (v := 0) C dX4_sample_9 rfl ?_
    refine r_bipush (v := (63)) C dX4_sample_10 rfl ?_
    refine r_callS3I C (kX4_isWithin hAD) (va_cwS 3 C.1.2.2.2.2 gX4_sample_X4_isWithin rfl rfl rfl (by decide +kernel) ⟨Nat.le_of_ble_eq_true rfl, Nat.le_of_ble_eq_true rfl⟩) (Nat.le_of_ble_eq_true rfl) dX4_sample_12 ⟨rfl, rfl⟩ ⟨Nat.zero_le _, Nat.zero_le _⟩ ?_
    refine r_if_ne (tgt := 28) C dX4_sample_15 (by decide) (fun z15 => ?_) (fun z15 => ?_)
    · refine r_aload_n C dX4_sample_28 rfl 0 rfl ?_
      refine r_get4 C inX4 0 (by decide) rfl f11 rfl dX4_sample_29 ?_
      refine r_iload_n C dX4_sample_32 rfl 1 rfl ?_
      refine r_aaldE C (x.toInt.toNat) (hxe.1) (hxe.2) dX4_sample_33 ?_
      refine r_iload_n C dX4_sample_34 rfl 2 rfl ?_
      refine r_callV1I C 0 (by have := hxe.2; omega) rfl (mm_ct0 ad q _ hxe.2) (kX0_keptAt hAD hxe.2) (cwV 1 C.1.2.2.2.2 gX4_sample_X0_keptAt rfl rfl rfl (by decide +kernel) ⟨Nat.le_of_ble_eq_true rfl, Nat.le_of_ble_eq_true rfl⟩) (Nat.le_of_ble_eq_true rfl) dX4_sample_35 ⟨rfl, rfl⟩ ⟨Nat.zero_le _, Nat.zero_le _⟩ ?_
      exact r_xiret C hret hlk9 (Nat.zero_le _) (Nat.zero_le _) dX4_sample_38 (by have e9 : mc_smk M x y = 0 := (by rw [mc_smk, if_neg z5, if_neg z15]); exact ⟨e9, by rfl, by rfl⟩)
    · exact r_throw C hX9 hT9 hl0 (cls := "java/lang/IndexOutOfBoundsException") (ik := 71) (is := 138) (ic := 75) (by decide) (by decide) rfl t71_1 t71_2 (by decide) t71_3 t71_4 t71_5 dX4_sample_18 dX4_sample_21 dX4_sample_22 dX4_sample_24 dX4_sample_27 (Nat.le_of_ble_eq_true rfl) (Nat.le_of_ble_eq_true rfl) (Nat.le_of_ble_eq_true rfl) (Nat.le_of_ble_eq_true rfl) hlk9 (Nat.le_of_ble_eq_true rfl) (Nat.le_of_ble_eq_true rfl) (by first | (have e9 : mc_smk M x y = 1 := (by rw [mc_smk, if_pos z5]); exact ⟨⟨e9, rfl⟩, rfl⟩) | (have e9 : mc_smk M x y = 1 := (by rw [mc_smk, if_neg z5, if_pos z15]); exact ⟨⟨e9, rfl⟩, rfl⟩))
