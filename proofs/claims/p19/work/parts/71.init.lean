/-! the worlds behind the constructors -/
abbrev gw_W3 (q : Nat → ClassId) (a : Nat) (u : Nat) : va_W := [(a, .inr (3, [.ref u, .int 0, .int 0])), (u, .inl (q 0, 64, .inl (fun _ => 0)))]
abbrev gw_W0 (q : Nat → ClassId) (a : Nat) (u : Nat × Nat × Nat × Nat) : va_W := [(a, .inr (0, [.ref u.1, .ref u.2.2.1, .ref u.2.2.2, .int 0, .int 0, .int 0, .int 0, .int 0, .int 64, .int 0, .long 0])), (u.1, .inr (3, [.ref u.2.1, .int 0, .int 0])), (u.2.1, .inl (q 0, 64, .inl (fun _ => 0))), (u.2.2.1, .inl (q 1, 64, .inr (.inl (fun _ => 0)))), (u.2.2.2, .inl (q 1, 64, .inr (.inl (fun _ => 0))))]
abbrev rmX1_init : Room := { frames := 1, cells := 0, slots := 0, locals := 12 }
abbrev rmX2_init : Room := { frames := 1, cells := 0, slots := 0, locals := 12 }
abbrev rmX3_init : Room := { frames := 1, cells := 1, slots := 64, locals := 12 }
abbrev rmX0_init : Room := { frames := 2, cells := 4, slots := 195, locals := 32 }
abbrev rmX4_init : Room := { frames := 3, cells := 49, slots := 1715, locals := 52 }
section GI
variable {l : Launch} {D : va_G} {q : Nat → ClassId}
set_option maxHeartbeats 1000000 in
set_option maxRecDepth 100000 in
theorem kX1_init : gw_K l D q yX1_init wsX1_init rmX1_init (.inr (1, [.int 0, .int 0])) (S := Unit) (fun _ => True) (fun a _ => [(a, .inr (1, [.int 0, .int 1]))]) := by
  have h1 : Cond.methodLink RX1 1 objectInit ∈ wsX1_init := by decide +kernel
  have h2 : Cond.instanceMethod objectInit ∈ wsX1_init := by decide +kernel
  have h3 : Cond.code objectInit ⟨#[0xb1]⟩ 1 none ∈ wsX1_init := List.mem_of_getElem? (i := 3) rfl
  have iX1 : ∀ w ∈ wsX10, w ∈ wsX1_init := by decide +kernel
  refine gw_of (cc := cX1_init) (maxL := 1) (own := RX1) rfl (by decide) rfl (Nat.le_of_ble_eq_true rfl) rfl ?_
  intro p e s m below meth c a A C hin hret hlk
  refine g_aload_n C dX1_init_0 rfl 0 rfl ?_
  refine g_oi C h1 h2 h3 dX1_init_1 ⟨(Nat.le_of_ble_eq_true rfl), (Nat.le_of_ble_eq_true rfl)⟩ ?_
  refine g_aload_n C dX1_init_4 rfl 0 rfl ?_
  refine g_iconst C (v := 1) dX1_init_5 rfl ?_
  refine g_put C (C1 := RX1) (T := TX1) (N := 2) (ci := 1) iX1 tyX1 tyX1_ok nmX1 0 rfl rfl 1 (by decide) (by decide +kernel : Cond.fieldLink RX1 7 "Beamrow$Hiss" "number" "I" ∈ wsX1_init) rfl rfl (ty := .int) (by decide +kernel) rfl rfl (Nat.le_of_ble_eq_true rfl) dX1_init_6 ([(a, .inr (1, [.int 0, .int 1]))]) rfl ?_
  exact g_vret (S := Unit) (post := fun _ => True) (W1 := fun a _ => [(a, .inr (1, [.int 0, .int 1]))]) C hret hlk dX1_init_9 () trivial rfl (Nat.zero_le _) (Nat.zero_le _)
set_option maxHeartbeats 1000000 in
set_option maxRecDepth 100000 in
theorem kX2_init : gw_K l D q yX2_init wsX2_init rmX2_init (.inr (2, [.int 0, .int 0, .int 0])) (S := Unit) (fun _ => True) (fun a _ => [(a, .inr (2, [.int 0, .int 0, .int 2]))]) := by
  have h1 : Cond.methodLink RX2 1 objectInit ∈ wsX2_init := by decide +kernel
  have h2 : Cond.instanceMethod objectInit ∈ wsX2_init := by decide +kernel
  have h3 : Cond.code objectInit ⟨#[0xb1]⟩ 1 none ∈ wsX2_init := List.mem_of_getElem? (i := 3) rfl
  have iX2 : ∀ w ∈ wsX20, w ∈ wsX2_init := by decide +kernel
  refine gw_of (cc := cX2_init) (maxL := 1) (own := RX2) rfl (by decide) rfl (Nat.le_of_ble_eq_true rfl) rfl ?_
  intro p e s m below meth c a A C hin hret hlk
  refine g_aload_n C dX2_init_0 rfl 0 rfl ?_
  refine g_oi C h1 h2 h3 dX2_init_1 ⟨(Nat.le_of_ble_eq_true rfl), (Nat.le_of_ble_eq_true rfl)⟩ ?_
  refine g_aload_n C dX2_init_4 rfl 0 rfl ?_
  refine g_iconst C (v := 2) dX2_init_5 rfl ?_
  refine g_put C (C1 := RX2) (T := TX2) (N := 3) (ci := 2) iX2 tyX2 tyX2_ok nmX2 0 rfl rfl 2 (by decide) (by decide +kernel : Cond.fieldLink RX2 7 "Beamrow$Source" "period" "I" ∈ wsX2_init) rfl rfl (ty := .int) (by decide +kernel) rfl rfl (Nat.le_of_ble_eq_true rfl) dX2_init_6 ([(a, .inr (2, [.int 0, .int 0, .int 2]))]) rfl ?_
  exact g_vret (S := Unit) (post := fun _ => True) (W1 := fun a _ => [(a, .inr (2, [.int 0, .int 0, .int 2]))]) C hret hlk dX2_init_9 () trivial rfl (Nat.zero_le _) (Nat.zero_le _)
set_option maxHeartbeats 1000000 in
set_option maxRecDepth 100000 in
theorem kX3_init : gw_K l D q yX3_init wsX3_init rmX3_init (.inr (3, [.null, .int 0, .int 0])) (S := Nat) (fun _ => True) (gw_W3 q) := by
  have h1 : Cond.methodLink RX3 3 objectInit ∈ wsX3_init := by decide +kernel
  have h2 : Cond.instanceMethod objectInit ∈ wsX3_init := by decide +kernel
  have h3 : Cond.code objectInit ⟨#[0xb1]⟩ 1 none ∈ wsX3_init := List.mem_of_getElem? (i := 3) rfl
  have iX3 : ∀ w ∈ wsX30, w ∈ wsX3_init := by decide +kernel
  refine gw_of (cc := cX3_init) (maxL := 1) (own := RX3) rfl (by decide) rfl (Nat.le_of_ble_eq_true rfl) rfl ?_
  intro p e s m below meth c a A C hin hret hlk
  refine g_aload_n C dX3_init_0 rfl 0 rfl ?_
  refine g_oi C h1 h2 h3 dX3_init_1 ⟨(Nat.le_of_ble_eq_true rfl), (Nat.le_of_ble_eq_true rfl)⟩ ?_
  refine g_aload_n C dX3_init_4 rfl 0 rfl ?_
  refine g_bipush C (v := 64) dX3_init_5 (by decide) ?_
  refine g_newa C (at1 := .int) (ty := .int) (by decide +kernel) rfl 0 rfl (N1 := 64) (64, .inl (fun _ => 0)) (fun _ => rfl) (by decide) (by decide) (Nat.le_of_ble_eq_true rfl) (Nat.le_of_ble_eq_true rfl) (Nat.le_of_ble_eq_true rfl) dX3_init_7 (fun b7 => ?_)
  refine g_putF C (C1 := RX3) (T := TX3) (N := 3) (ci := 3) iX3 tyX3 tyX3_ok nmX3 0 rfl rfl 0 (by decide) (by decide +kernel : Cond.fieldLink RX3 9 "Beamrow$Tape" "slots" "[I" ∈ wsX3_init) rfl rfl hin rfl (ty := .array .int) (by decide +kernel) rfl rfl (Nat.le_of_ble_eq_true rfl) dX3_init_9 (gw_W3 q a b7) rfl ?_
  exact g_vret C hret hlk dX3_init_12 b7 trivial rfl (Nat.le_of_ble_eq_true rfl) (Nat.le_of_ble_eq_true rfl)
set_option maxHeartbeats 1000000 in
set_option maxRecDepth 100000 in
theorem kX0_init : gw_K l D q yX0_init wsX0_init rmX0_init (.inr (0, [.null, .null, .null, .int 0, .int 0, .int 0, .int 0, .int 0, .int 0, .int 0, .long 0])) (S := (Nat × Nat × Nat × Nat)) (fun _ => True) (gw_W0 q) := by
  have h1 : Cond.methodLink RX0 3 objectInit ∈ wsX0_init := by decide +kernel
  have h2 : Cond.instanceMethod objectInit ∈ wsX0_init := by decide +kernel
  have h3 : Cond.code objectInit ⟨#[0xb1]⟩ 1 none ∈ wsX0_init := List.mem_of_getElem? (i := 3) rfl
  have iX0 : ∀ w ∈ wsX00, w ∈ wsX0_init := by decide +kernel
  refine gw_of (cc := cX0_init) (maxL := 1) (own := RX0) rfl (by decide) rfl (Nat.le_of_ble_eq_true rfl) rfl ?_
  intro p e s m below meth c a A C hin hret hlk
  refine g_aload_n C dX0_init_0 rfl 0 rfl ?_
  refine g_oi C h1 h2 h3 dX0_init_1 ⟨(Nat.le_of_ble_eq_true rfl), (Nat.le_of_ble_eq_true rfl)⟩ ?_
  have iX3 : ∀ w ∈ wsX30, w ∈ wsX0_init := by decide +kernel
  refine g_aload_n C dX0_init_4 rfl 0 rfl ?_
  refine g_new C (C1 := RX3) (T := TX3) (N := 3) (ci := 3) iX3 tyX3 tyX3_ok (by decide +kernel) (by decide +kernel) (by decide +kernel) rfl [.null, .int 0, .int 0] (fun j hj => by rcases (show j = 0 ∨ j = 1 ∨ j = 2 by omega) with rfl | rfl | rfl <;> rfl) (Nat.le_of_ble_eq_true rfl) (Nat.le_of_ble_eq_true rfl) dX0_init_5 (fun b5 => ?_)
  refine g_dup C dX0_init_8 rfl ?_
  refine g_initN C kX3_init ⟨va_cnB 0 C.1.2.2.2.2 gX0_init_X3_init_n11 rfl rfl rfl C.2.2.2.2.2.1 (C.1.2.2.2.2 (.initialized RX3) (by decide +kernel)) (by decide +kernel) ⟨(Nat.le_of_ble_eq_true rfl), (Nat.le_of_ble_eq_true rfl)⟩, rfl, C.1.2.2.2.2 (.instanceMethod yX3_init) (by decide +kernel)⟩ (Nat.le_of_ble_eq_true rfl) dX0_init_9 ⟨(Nat.le_of_ble_eq_true rfl), (Nat.le_of_ble_eq_true rfl)⟩ (fun b9 _ => ?_)
  refine g_putF C (C1 := RX0) (T := TX0) (N := 11) (ci := 0) iX0 tyX0 tyX0_ok nmX0 0 rfl rfl 0 (by decide) (by decide +kernel : Cond.fieldLink RX0 12 "Beamrow$Element" "tape" "LBeamrow$Tape;" ∈ wsX0_init) rfl rfl hin rfl (ty := .object "Beamrow$Tape") (by decide +kernel) rfl rfl (Nat.le_of_ble_eq_true rfl) dX0_init_12 ([(a, .inr (0, [.ref b5, .null, .null, .int 0, .int 0, .int 0, .int 0, .int 0, .int 0, .int 0, .long 0])), (b5, .inr (3, [.ref b9, .int 0, .int 0])), (b9, .inl (q 0, 64, .inl (fun _ => 0)))]) rfl ?_
  refine g_aload_n C dX0_init_15 rfl 0 rfl ?_
  refine g_bipush C (v := 64) dX0_init_16 (by decide) ?_
  refine g_newa C (at1 := .long) (ty := .long) (by decide +kernel) rfl 1 rfl (N1 := 64) (64, .inr (.inl (fun _ => 0))) (fun _ => rfl) (by decide) (by decide) (Nat.le_of_ble_eq_true rfl) (Nat.le_of_ble_eq_true rfl) (Nat.le_of_ble_eq_true rfl) dX0_init_18 (fun b18 => ?_)
  refine g_putF C (C1 := RX0) (T := TX0) (N := 11) (ci := 0) iX0 tyX0 tyX0_ok nmX0 0 rfl rfl 1 (by decide) (by decide +kernel : Cond.fieldLink RX0 18 "Beamrow$Element" "laid" "[J" ∈ wsX0_init) rfl rfl hin rfl (ty := .array .long) (by decide +kernel) rfl rfl (Nat.le_of_ble_eq_true rfl) dX0_init_20 ([(a, .inr (0, [.ref b5, .ref b18, .null, .int 0, .int 0, .int 0, .int 0, .int 0, .int 0, .int 0, .long 0])), (b5, .inr (3, [.ref b9, .int 0, .int 0])), (b9, .inl (q 0, 64, .inl (fun _ => 0))), (b18, .inl (q 1, 64, .inr (.inl (fun _ => 0))))]) rfl ?_
  refine g_aload_n C dX0_init_23 rfl 0 rfl ?_
  refine g_bipush C (v := 64) dX0_init_24 (by decide) ?_
  refine g_newa C (at1 := .long) (ty := .long) (by decide +kernel) rfl 1 rfl (N1 := 64) (64, .inr (.inl (fun _ => 0))) (fun _ => rfl) (by decide) (by decide) (Nat.le_of_ble_eq_true rfl) (Nat.le_of_ble_eq_true rfl) (Nat.le_of_ble_eq_true rfl) dX0_init_26 (fun b26 => ?_)
  refine g_putF C (C1 := RX0) (T := TX0) (N := 11) (ci := 0) iX0 tyX0 tyX0_ok nmX0 0 rfl rfl 2 (by decide) (by decide +kernel : Cond.fieldLink RX0 22 "Beamrow$Element" "turned" "[J" ∈ wsX0_init) rfl rfl hin rfl (ty := .array .long) (by decide +kernel) rfl rfl (Nat.le_of_ble_eq_true rfl) dX0_init_28 ([(a, .inr (0, [.ref b5, .ref b18, .ref b26, .int 0, .int 0, .int 0, .int 0, .int 0, .int 0, .int 0, .long 0])), (b5, .inr (3, [.ref b9, .int 0, .int 0])), (b9, .inl (q 0, 64, .inl (fun _ => 0))), (b18, .inl (q 1, 64, .inr (.inl (fun _ => 0)))), (b26, .inl (q 1, 64, .inr (.inl (fun _ => 0))))]) rfl ?_
  refine g_aload_n C dX0_init_31 rfl 0 rfl ?_
  refine g_bipush C (v := 64) dX0_init_32 (by decide) ?_
  refine g_put C (C1 := RX0) (T := TX0) (N := 11) (ci := 0) iX0 tyX0 tyX0_ok nmX0 0 rfl rfl 8 (by decide) (by decide +kernel : Cond.fieldLink RX0 25 "Beamrow$Element" "trimGain" "I" ∈ wsX0_init) rfl rfl (ty := .int) (by decide +kernel) rfl rfl (Nat.le_of_ble_eq_true rfl) dX0_init_34 ([(a, .inr (0, [.ref b5, .ref b18, .ref b26, .int 0, .int 0, .int 0, .int 0, .int 0, .int 64, .int 0, .long 0])), (b5, .inr (3, [.ref b9, .int 0, .int 0])), (b9, .inl (q 0, 64, .inl (fun _ => 0))), (b18, .inl (q 1, 64, .inr (.inl (fun _ => 0)))), (b26, .inl (q 1, 64, .inr (.inl (fun _ => 0))))]) rfl ?_
  exact g_vret C hret hlk dX0_init_37 (b5, b9, b18, b26) trivial rfl (Nat.le_of_ble_eq_true rfl) (Nat.le_of_ble_eq_true rfl)
end GI
