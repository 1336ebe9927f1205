/-! Beamrow's constructor: two loops -/
abbrev gw_B (q : Nat → ClassId) (a u1 u2 u3 u4 u5 : Nat) (f g : Nat → Option Nat) : va_W := [(a, .inr (4, [.ref u1, .ref u2, .ref u3, .ref u4, .ref u5, .int 0, .int 0, .int 0, .int 0])), (u1, .inl (q 3, 8, .inr (.inr (.inr (.inr f))))), (u2, .inl (q 4, 4, .inr (.inr (.inr (.inr g))))), (u3, .inr (1, [.int 0, .int 1])), (u4, .inl (q 1, 32, .inr (.inl (fun _ => 0)))), (u5, .inl (q 1, 9, .inr (.inl (fun _ => 0))))]
def gw_E (q : Nat → ClassId) (us : List (Nat × (Nat × Nat × Nat × Nat))) : va_W := us.flatMap (fun x => gw_W0 q x.1 x.2)
def gw_S (vs : List Nat) : va_W := vs.map (fun x => (x, (.inr (2, [.int 0, .int 0, .int 2]) : va_E)))
def gw_f (us : List (Nat × (Nat × Nat × Nat × Nat))) : Nat → Option Nat := fun j => (us[j]?).map (fun x => x.1)
def gw_g (vs : List Nat) : Nat → Option Nat := fun j => vs[j]?
theorem gw_E_s {q : Nat → ClassId} {us : List (Nat × (Nat × Nat × Nat × Nat))} {x : Nat × (Nat × Nat × Nat × Nat)} : gw_E q (us ++ [x]) = gw_E q us ++ gw_W0 q x.1 x.2 := by
  simp only [gw_E, List.flatMap_append, List.flatMap_cons, List.flatMap_nil, List.append_nil]
theorem gw_S_s {vs : List Nat} {x : Nat} : gw_S (vs ++ [x]) = gw_S vs ++ [(x, .inr (2, [.int 0, .int 0, .int 2]))] := by
  simp only [gw_S, List.map_append, List.map_cons, List.map_nil]
theorem gw_f_s {us : List (Nat × (Nat × Nat × Nat × Nat))} {x : Nat × (Nat × Nat × Nat × Nat)} {n : Nat} (hn : n = us.length) : va_up (gw_f us) n (some x.1) = gw_f (us ++ [x]) := by
  funext j
  subst hn
  show (if j = us.length then some x.1 else (us[j]?).map (fun x => x.1)) = ((us ++ [x])[j]?).map (fun x => x.1)
  by_cases h1 : j = us.length
  · rw [if_pos h1, h1]; simp
  · rw [if_neg h1]
    by_cases h2 : j < us.length
    · rw [List.getElem?_append_left h2]
    · rw [List.getElem?_eq_none (by omega), List.getElem?_eq_none (by simp; omega)]
theorem gw_g_s {vs : List Nat} {x : Nat} {n : Nat} (hn : n = vs.length) : va_up (gw_g vs) n (some x) = gw_g (vs ++ [x]) := by
  funext j
  subst hn
  show (if j = vs.length then some x else vs[j]?) = (vs ++ [x])[j]?
  by_cases h1 : j = vs.length
  · rw [if_pos h1, h1]; simp
  · rw [if_neg h1]
    by_cases h2 : j < vs.length
    · rw [List.getElem?_append_left h2]
    · rw [List.getElem?_eq_none (by omega), List.getElem?_eq_none (by simp; omega)]
theorem gw_f_0 : (fun _ => none : Nat → Option Nat) = gw_f [] := by funext j; simp [gw_f]
theorem gw_g_0 : (fun _ => none : Nat → Option Nat) = gw_g [] := by funext j; simp [gw_g]
theorem gw_at {X Y : va_W} {x : Nat × va_E} : (X ++ (x :: Y))[X.length]? = some x := by simp
section GX
variable {p : Program} {l : Launch} {e : Env} {s : State} {m : MethodId} {below : List Frame} {meth : Method} {c : Code} {Q : State → Prop} {D : va_G} {q : Nat → ClassId} {A : Nat → Prop}
theorem gw_cast {R : Room} {args : Array Value} {c1 c2 s1 s2 : Nat} {nL : Nat} {X1 X2 : va_W} {pc : Nat} {lv1 lv2 : List (Nat × Value)} {st : List Value} (hc : c1 = c2) (hs : s1 = s2) (hX : X1 = X2) (hl : lv1 = lv2) (k : gw_G p l e R s m args below meth c c2 s2 Q nL D A X2 pc lv2 st) : gw_G p l e R s m args below meth c c1 s1 Q nL D A X1 pc lv1 st := by
  subst hc; subst hs; subst hX; subst hl; exact k
set_option maxHeartbeats 1000000 in
set_option maxRecDepth 100000 in
theorem kX4_init_e {a u1 u2 u3 u4 u5 : Nat} {g : Nat → Option Nat} (C : gw_C p s m #[.ref a] c cX4_init 2 wsX4_init RX4 D q A) (k : ∀ us : List (Nat × (Nat × Nat × Nat × Nat)), us.length = 8 → gw_G p l e rmX4_init s m #[.ref a] below meth c (5 + 40) (55 + 1648) Q 2 D A (gw_B q a u1 u2 u3 u4 u5 (gw_f us) g ++ gw_E q us) 78 [(1, .int (nI 8)), (0, .ref a)] []) : ∀ (n : Nat) (us : List (Nat × (Nat × Nat × Nat × Nat))), us.length + n = 8 → gw_G p l e rmX4_init s m #[.ref a] below meth c (5 + 5 * us.length) (55 + 206 * us.length) Q 2 D A (gw_B q a u1 u2 u3 u4 u5 (gw_f us) g ++ gw_E q us) 50 [(1, .int (nI us.length)), (0, .ref a)] [] := by
  have iX4 : ∀ w ∈ wsX40, w ∈ wsX4_init := by decide +kernel
  have iX0 : ∀ w ∈ wsX00, w ∈ wsX4_init := by decide +kernel
  have hlink : Cond.fieldLink RX4 11 "Beamrow" "elements" "[LBeamrow$Element;" ∈ wsX4_init := by decide +kernel
  intro n
  induction n with
  | zero =>
    intro us hn
    have h8 : us.length = 8 := by omega
    refine gw_cast (c2 := 5 + 40) (s2 := 55 + 1648) (X2 := gw_B q a u1 u2 u3 u4 u5 (gw_f us) g ++ gw_E q us) (lv2 := [(1, .int (nI 8)), (0, .ref a)]) (by omega) (by omega) rfl (by rw [h8]) ?_
    refine g_iload_n C dX4_init_50 rfl 0 rfl ?_
    refine g_aload_n C dX4_init_51 rfl 1 rfl ?_
    refine g_get C (C1 := RX4) (T := TX4) (N := 9) (ci := 4) iX4 0 rfl rfl 0 (by decide) hlink rfl rfl dX4_init_52 ?_
    refine g_alen C 1 3 rfl rfl (v := nI 8) rfl dX4_init_55 ?_
    refine g_icmp_geT C (tgt := 78) dX4_init_56 (by decide) (by decide) ?_
    exact k us h8
  | succ n ih =>
    intro us hn
    refine g_iload_n C dX4_init_50 rfl 0 rfl ?_
    refine g_aload_n C dX4_init_51 rfl 1 rfl ?_
    refine g_get C (C1 := RX4) (T := TX4) (N := 9) (ci := 4) iX4 0 rfl rfl 0 (by decide) hlink rfl rfl dX4_init_52 ?_
    refine g_alen C 1 3 rfl rfl (v := nI 8) rfl dX4_init_55 ?_
    refine g_icmp_geF C (tgt := 78) dX4_init_56 (by decide) (nI_ge (by omega) (by decide)) ?_
    refine g_aload_n C dX4_init_59 rfl 1 rfl ?_
    refine g_get C (C1 := RX4) (T := TX4) (N := 9) (ci := 4) iX4 0 rfl rfl 0 (by decide) hlink rfl rfl dX4_init_60 ?_
    refine g_iload_n C dX4_init_63 rfl 0 rfl ?_
    refine g_new C (C1 := RX0) (T := TX0) (N := 11) (ci := 0) iX0 tyX0 tyX0_ok (by decide +kernel) (by decide +kernel) (by decide +kernel) rfl [.null, .null, .null, .int 0, .int 0, .int 0, .int 0, .int 0, .int 0, .int 0, .long 0] (fun j hj => by rcases (show j = 0 ∨ j = 1 ∨ j = 2 ∨ j = 3 ∨ j = 4 ∨ j = 5 ∨ j = 6 ∨ j = 7 ∨ j = 8 ∨ j = 9 ∨ j = 10 by omega) with rfl | rfl | rfl | rfl | rfl | rfl | rfl | rfl | rfl | rfl | rfl <;> rfl) (by show _ ≤ 49; omega) (by show _ ≤ 1715; omega) dX4_init_64 (fun b => ?_)
    refine g_dup C dX4_init_67 rfl ?_
    refine g_initN C kX0_init ⟨va_cnB 0 C.1.2.2.2.2 gX4_init_X0_init_n35 rfl rfl rfl C.2.2.2.2.2.2.2.1 (C.1.2.2.2.2 (.initialized RX0) (by decide +kernel)) (by decide +kernel) ⟨(Nat.le_of_ble_eq_true rfl), (Nat.le_of_ble_eq_true rfl)⟩, rfl, C.1.2.2.2.2 (.instanceMethod yX0_init) (by decide +kernel)⟩ (Nat.le_of_ble_eq_true rfl) dX4_init_68 ⟨by show _ + 4 ≤ 49; omega, by show _ + 195 ≤ 1715; omega⟩ (fun u _ => ?_)
    refine g_aast C 1 3 (gw_B q a u1 u2 u3 u4 u5 (gw_f us) g ++ gw_E q us).length 0 (r := (RX0, TX0, 11)) rfl rfl gw_at rfl (nI_in (by omega) (by decide)) dX4_init_71 (gw_B q a u1 u2 u3 u4 u5 (gw_f (us ++ [(b, u)])) g ++ gw_E q (us ++ [(b, u)])) (by rw [gw_f_s (x := (b, u)) (nI_clamp (by omega)), gw_E_s, ← List.append_assoc]; rfl) ?_
    refine g_iinc C (v := nI (us.length + 1)) (lv' := [(1, .int (nI (us.length + 1))), (0, .ref a)]) dX4_init_72 0 rfl (by rw [show Int32.ofInt 1 = 1 from rfl]; exact nI_1 _) (by decide) rfl ?_
    refine g_goto C (tgt := 50) dX4_init_75 (by decide) ?_
    have h9 : (us ++ [(b, u)]).length = us.length + 1 := by rw [List.length_append, List.length_singleton]
    refine gw_cast (c2 := 5 + 5 * (us ++ [(b, u)]).length) (s2 := 55 + 206 * (us ++ [(b, u)]).length) (X2 := gw_B q a u1 u2 u3 u4 u5 (gw_f (us ++ [(b, u)])) g ++ gw_E q (us ++ [(b, u)])) (lv2 := [(1, .int (nI (us ++ [(b, u)]).length)), (0, .ref a)]) ?_ ?_ rfl (by rw [h9]) (ih (us ++ [(b, u)]) (by omega))
    · rw [h9]; show 5 + 5 * us.length + 1 + 4 = _; omega
    · rw [h9]; show 55 + 206 * us.length + 11 + 195 = _; omega
set_option maxHeartbeats 1000000 in
set_option maxRecDepth 100000 in
theorem kX4_init_s {a u1 u2 u3 u4 u5 : Nat} {f : Nat → Option Nat} {Y : va_W} (C : gw_C p s m #[.ref a] c cX4_init 2 wsX4_init RX4 D q A) (k : ∀ us : List Nat, us.length = 4 → gw_G p l e rmX4_init s m #[.ref a] below meth c (45 + 4) (1703 + 12) Q 2 D A (gw_B q a u1 u2 u3 u4 u5 f (gw_g us) ++ Y ++ gw_S us) 108 [(1, .int (nI 4)), (0, .ref a)] []) : ∀ (n : Nat) (us : List Nat), us.length + n = 4 → gw_G p l e rmX4_init s m #[.ref a] below meth c (45 + 1 * us.length) (1703 + 3 * us.length) Q 2 D A (gw_B q a u1 u2 u3 u4 u5 f (gw_g us) ++ Y ++ gw_S us) 80 [(1, .int (nI us.length)), (0, .ref a)] [] := by
  have iX4 : ∀ w ∈ wsX40, w ∈ wsX4_init := by decide +kernel
  have iX2 : ∀ w ∈ wsX20, w ∈ wsX4_init := by decide +kernel
  have hlink : Cond.fieldLink RX4 17 "Beamrow" "sources" "[LBeamrow$Source;" ∈ wsX4_init := by decide +kernel
  intro n
  induction n with
  | zero =>
    intro us hn
    have h8 : us.length = 4 := by omega
    refine gw_cast (c2 := 45 + 4) (s2 := 1703 + 12) (X2 := gw_B q a u1 u2 u3 u4 u5 f (gw_g us) ++ Y ++ gw_S us) (lv2 := [(1, .int (nI 4)), (0, .ref a)]) (by omega) (by omega) rfl (by rw [h8]) ?_
    refine g_iload_n C dX4_init_80 rfl 0 rfl ?_
    refine g_aload_n C dX4_init_81 rfl 1 rfl ?_
    refine g_get C (C1 := RX4) (T := TX4) (N := 9) (ci := 4) iX4 0 rfl rfl 1 (by decide) hlink rfl rfl dX4_init_82 ?_
    refine g_alen C 2 4 rfl rfl (v := nI 4) rfl dX4_init_85 ?_
    refine g_icmp_geT C (tgt := 108) dX4_init_86 (by decide) (by decide) ?_
    exact k us h8
  | succ n ih =>
    intro us hn
    refine g_iload_n C dX4_init_80 rfl 0 rfl ?_
    refine g_aload_n C dX4_init_81 rfl 1 rfl ?_
    refine g_get C (C1 := RX4) (T := TX4) (N := 9) (ci := 4) iX4 0 rfl rfl 1 (by decide) hlink rfl rfl dX4_init_82 ?_
    refine g_alen C 2 4 rfl rfl (v := nI 4) rfl dX4_init_85 ?_
    refine g_icmp_geF C (tgt := 108) dX4_init_86 (by decide) (nI_ge (by omega) (by decide)) ?_
    refine g_aload_n C dX4_init_89 rfl 1 rfl ?_
    refine g_get C (C1 := RX4) (T := TX4) (N := 9) (ci := 4) iX4 0 rfl rfl 1 (by decide) hlink rfl rfl dX4_init_90 ?_
    refine g_iload_n C dX4_init_93 rfl 0 rfl ?_
    refine g_new C (C1 := RX2) (T := TX2) (N := 3) (ci := 2) iX2 tyX2 tyX2_ok (by decide +kernel) (by decide +kernel) (by decide +kernel) rfl [.int 0, .int 0, .int 0] (fun j hj => by rcases (show j = 0 ∨ j = 1 ∨ j = 2 by omega) with rfl | rfl | rfl <;> rfl) (by show _ ≤ 49; omega) (by show _ ≤ 1715; omega) dX4_init_94 (fun b => ?_)
    refine g_dup C dX4_init_97 rfl ?_
    refine g_initN C kX2_init ⟨va_cnB 0 C.1.2.2.2.2 gX4_init_X2_init_n36 rfl rfl rfl C.2.2.2.2.2.2.2.2 (C.1.2.2.2.2 (.initialized RX2) (by decide +kernel)) (by decide +kernel) ⟨(Nat.le_of_ble_eq_true rfl), (Nat.le_of_ble_eq_true rfl)⟩, rfl, C.1.2.2.2.2 (.instanceMethod yX2_init) (by decide +kernel)⟩ (Nat.le_of_ble_eq_true rfl) dX4_init_98 ⟨by show _ + 0 ≤ 49; omega, by show _ + 0 ≤ 1715; omega⟩ (fun u _ => ?_)
    refine g_aast C 2 4 (gw_B q a u1 u2 u3 u4 u5 f (gw_g us) ++ Y ++ gw_S us).length 2 (r := (RX2, TX2, 3)) rfl rfl gw_at rfl (nI_in (by omega) (by decide)) dX4_init_101 (gw_B q a u1 u2 u3 u4 u5 f (gw_g (us ++ [b])) ++ Y ++ gw_S (us ++ [b])) (by rw [gw_g_s (x := b) (nI_clamp (by omega)), gw_S_s, ← List.append_assoc]; rfl) ?_
    refine g_iinc C (v := nI (us.length + 1)) (lv' := [(1, .int (nI (us.length + 1))), (0, .ref a)]) dX4_init_102 0 rfl (by rw [show Int32.ofInt 1 = 1 from rfl]; exact nI_1 _) (by decide) rfl ?_
    refine g_goto C (tgt := 80) dX4_init_105 (by decide) ?_
    have h9 : (us ++ [b]).length = us.length + 1 := by rw [List.length_append, List.length_singleton]
    refine gw_cast (c2 := 45 + 1 * (us ++ [b]).length) (s2 := 1703 + 3 * (us ++ [b]).length) (X2 := gw_B q a u1 u2 u3 u4 u5 f (gw_g (us ++ [b])) ++ Y ++ gw_S (us ++ [b])) (lv2 := [(1, .int (nI (us ++ [b]).length)), (0, .ref a)]) ?_ ?_ rfl (by rw [h9]) (ih (us ++ [b]) (by omega))
    · rw [h9]; show 45 + 1 * us.length + 1 + 0 = _; omega
    · rw [h9]; show 1703 + 3 * us.length + 3 + 0 = _; omega
abbrev gw_W4 (q : Nat → ClassId) (a : Nat) (u : (Nat × Nat × Nat × Nat × Nat) × (List (Nat × (Nat × Nat × Nat × Nat))) × List Nat) : va_W := gw_B q a u.1.1 u.1.2.1 u.1.2.2.1 u.1.2.2.2.1 u.1.2.2.2.2 (gw_f u.2.1) (gw_g u.2.2) ++ gw_E q u.2.1 ++ gw_S u.2.2
set_option maxHeartbeats 1000000 in
set_option maxRecDepth 100000 in
theorem kX4_init : gw_K l D q yX4_init wsX4_init rmX4_init (.inr (4, [.null, .null, .null, .null, .null, .int 0, .int 0, .int 0, .int 0])) (S := ((Nat × Nat × Nat × Nat × Nat) × (List (Nat × (Nat × Nat × Nat × Nat))) × List Nat)) (fun u => u.2.1.length = 8 ∧ u.2.2.length = 4) (gw_W4 q) := by
  have h1 : Cond.methodLink RX4 3 objectInit ∈ wsX4_init := by decide +kernel
  have h2 : Cond.instanceMethod objectInit ∈ wsX4_init := by decide +kernel
  have h3 : Cond.code objectInit ⟨#[0xb1]⟩ 1 none ∈ wsX4_init := List.mem_of_getElem? (i := 3) rfl
  have iX4 : ∀ w ∈ wsX40, w ∈ wsX4_init := by decide +kernel
  refine gw_of (cc := cX4_init) (maxL := 2) (own := RX4) rfl (by decide) rfl (Nat.le_of_ble_eq_true rfl) rfl ?_
  intro p e s m below meth c a A C hin hret hlk
  refine g_aload_n C dX4_init_0 rfl 0 rfl ?_
  refine g_oi C h1 h2 h3 dX4_init_1 ⟨(Nat.le_of_ble_eq_true rfl), (Nat.le_of_ble_eq_true rfl)⟩ ?_
  have iX1 : ∀ w ∈ wsX10, w ∈ wsX4_init := by decide +kernel
  refine g_aload_n C dX4_init_4 rfl 0 rfl ?_
  refine g_bipush C (v := 8) dX4_init_5 (by decide) ?_
  refine g_newq C (C1 := RX0) (by decide +kernel) C.2.2.2.1 3 rfl (N1 := 8) (by decide) (by decide) (Nat.le_of_ble_eq_true rfl) (Nat.le_of_ble_eq_true rfl) (Nat.le_of_ble_eq_true rfl) dX4_init_7 (fun b7 => ?_)
  refine g_putF C (C1 := RX4) (T := TX4) (N := 9) (ci := 4) iX4 tyX4 tyX4_ok nmX4 0 rfl rfl 0 (by decide) (by decide +kernel : Cond.fieldLink RX4 11 "Beamrow" "elements" "[LBeamrow$Element;" ∈ wsX4_init) rfl rfl hin rfl (ty := .array (.object "Beamrow$Element")) (by decide +kernel) rfl rfl (Nat.le_of_ble_eq_true rfl) dX4_init_10 ([(a, .inr (4, [.ref b7, .null, .null, .null, .null, .int 0, .int 0, .int 0, .int 0])), (b7, .inl (q 3, 8, .inr (.inr (.inr (.inr (fun _ => none))))))]) rfl ?_
  refine g_aload_n C dX4_init_13 rfl 0 rfl ?_
  refine g_iconst C (v := 4) dX4_init_14 (by decide) ?_
  refine g_newq C (C1 := RX2) (by decide +kernel) C.2.2.2.2.1 4 rfl (N1 := 4) (by decide) (by decide) (Nat.le_of_ble_eq_true rfl) (Nat.le_of_ble_eq_true rfl) (Nat.le_of_ble_eq_true rfl) dX4_init_15 (fun b15 => ?_)
  refine g_putF C (C1 := RX4) (T := TX4) (N := 9) (ci := 4) iX4 tyX4 tyX4_ok nmX4 0 rfl rfl 1 (by decide) (by decide +kernel : Cond.fieldLink RX4 17 "Beamrow" "sources" "[LBeamrow$Source;" ∈ wsX4_init) rfl rfl hin rfl (ty := .array (.object "Beamrow$Source")) (by decide +kernel) rfl rfl (Nat.le_of_ble_eq_true rfl) dX4_init_18 ([(a, .inr (4, [.ref b7, .ref b15, .null, .null, .null, .int 0, .int 0, .int 0, .int 0])), (b7, .inl (q 3, 8, .inr (.inr (.inr (.inr (fun _ => none)))))), (b15, .inl (q 4, 4, .inr (.inr (.inr (.inr (fun _ => none))))))]) rfl ?_
  refine g_aload_n C dX4_init_21 rfl 0 rfl ?_
  refine g_new C (C1 := RX1) (T := TX1) (N := 2) (ci := 1) iX1 tyX1 tyX1_ok (by decide +kernel) (by decide +kernel) (by decide +kernel) rfl [.int 0, .int 0] (fun j hj => by rcases (show j = 0 ∨ j = 1 by omega) with rfl | rfl <;> rfl) (Nat.le_of_ble_eq_true rfl) (Nat.le_of_ble_eq_true rfl) dX4_init_22 (fun b22 => ?_)
  refine g_dup C dX4_init_25 rfl ?_
  refine g_initN C kX1_init ⟨va_cnB 0 C.1.2.2.2.2 gX4_init_X1_init_n23 rfl rfl rfl C.2.2.2.2.2.2.1 (C.1.2.2.2.2 (.initialized RX1) (by decide +kernel)) (by decide +kernel) ⟨(Nat.le_of_ble_eq_true rfl), (Nat.le_of_ble_eq_true rfl)⟩, rfl, C.1.2.2.2.2 (.instanceMethod yX1_init) (by decide +kernel)⟩ (Nat.le_of_ble_eq_true rfl) dX4_init_26 ⟨(Nat.le_of_ble_eq_true rfl), (Nat.le_of_ble_eq_true rfl)⟩ (fun _ _ => ?_)
  refine g_putF C (C1 := RX4) (T := TX4) (N := 9) (ci := 4) iX4 tyX4 tyX4_ok nmX4 0 rfl rfl 2 (by decide) (by decide +kernel : Cond.fieldLink RX4 24 "Beamrow" "hiss" "LBeamrow$Hiss;" ∈ wsX4_init) rfl rfl hin rfl (ty := .object "Beamrow$Hiss") (by decide +kernel) rfl rfl (Nat.le_of_ble_eq_true rfl) dX4_init_29 ([(a, .inr (4, [.ref b7, .ref b15, .ref b22, .null, .null, .int 0, .int 0, .int 0, .int 0])), (b7, .inl (q 3, 8, .inr (.inr (.inr (.inr (fun _ => none)))))), (b15, .inl (q 4, 4, .inr (.inr (.inr (.inr (fun _ => none)))))), (b22, .inr (1, [.int 0, .int 1]))]) rfl ?_
  refine g_aload_n C dX4_init_32 rfl 0 rfl ?_
  refine g_bipush C (v := 32) dX4_init_33 (by decide) ?_
  refine g_newa C (at1 := .long) (ty := .long) (by decide +kernel) rfl 1 rfl (N1 := 32) (32, .inr (.inl (fun _ => 0))) (fun _ => rfl) (by decide) (by decide) (Nat.le_of_ble_eq_true rfl) (Nat.le_of_ble_eq_true rfl) (Nat.le_of_ble_eq_true rfl) dX4_init_35 (fun b35 => ?_)
  refine g_putF C (C1 := RX4) (T := TX4) (N := 9) (ci := 4) iX4 tyX4 tyX4_ok nmX4 0 rfl rfl 3 (by decide) (by decide +kernel : Cond.fieldLink RX4 28 "Beamrow" "sums" "[J" ∈ wsX4_init) rfl rfl hin rfl (ty := .array .long) (by decide +kernel) rfl rfl (Nat.le_of_ble_eq_true rfl) dX4_init_37 ([(a, .inr (4, [.ref b7, .ref b15, .ref b22, .ref b35, .null, .int 0, .int 0, .int 0, .int 0])), (b7, .inl (q 3, 8, .inr (.inr (.inr (.inr (fun _ => none)))))), (b15, .inl (q 4, 4, .inr (.inr (.inr (.inr (fun _ => none)))))), (b22, .inr (1, [.int 0, .int 1])), (b35, .inl (q 1, 32, .inr (.inl (fun _ => 0))))]) rfl ?_
  refine g_aload_n C dX4_init_40 rfl 0 rfl ?_
  refine g_bipush C (v := 9) dX4_init_41 (by decide) ?_
  refine g_newa C (at1 := .long) (ty := .long) (by decide +kernel) rfl 1 rfl (N1 := 9) (9, .inr (.inl (fun _ => 0))) (fun _ => rfl) (by decide) (by decide) (Nat.le_of_ble_eq_true rfl) (Nat.le_of_ble_eq_true rfl) (Nat.le_of_ble_eq_true rfl) dX4_init_43 (fun b43 => ?_)
  refine g_putF C (C1 := RX4) (T := TX4) (N := 9) (ci := 4) iX4 tyX4 tyX4_ok nmX4 0 rfl rfl 4 (by decide) (by decide +kernel : Cond.fieldLink RX4 32 "Beamrow" "powers" "[J" ∈ wsX4_init) rfl rfl hin rfl (ty := .array .long) (by decide +kernel) rfl rfl (Nat.le_of_ble_eq_true rfl) dX4_init_45 ([(a, .inr (4, [.ref b7, .ref b15, .ref b22, .ref b35, .ref b43, .int 0, .int 0, .int 0, .int 0])), (b7, .inl (q 3, 8, .inr (.inr (.inr (.inr (fun _ => none)))))), (b15, .inl (q 4, 4, .inr (.inr (.inr (.inr (fun _ => none)))))), (b22, .inr (1, [.int 0, .int 1])), (b35, .inl (q 1, 32, .inr (.inl (fun _ => 0)))), (b43, .inl (q 1, 9, .inr (.inl (fun _ => 0))))]) rfl ?_
  refine g_iconst C (v := 0) dX4_init_48 (by decide) ?_
  refine g_istore_n C (lv' := [(1, .int 0), (0, .ref a)]) dX4_init_49 rfl (by decide) rfl ?_
  refine gw_cast (c2 := 5 + 5 * ([] : List (Nat × (Nat × Nat × Nat × Nat))).length) (s2 := 55 + 206 * ([] : List (Nat × (Nat × Nat × Nat × Nat))).length) (X2 := gw_B q a b7 b15 b22 b35 b43 (gw_f []) (gw_g []) ++ gw_E q []) (lv2 := [(1, .int (nI ([] : List (Nat × (Nat × Nat × Nat × Nat))).length)), (0, .ref a)]) rfl rfl (by rw [← gw_f_0, ← gw_g_0]; rfl) rfl ?_
  refine kX4_init_e C (fun us h8 => ?_) 8 [] rfl
  refine g_iconst C (v := 0) dX4_init_78 (by decide) ?_
  refine g_istore_n C (lv' := [(1, .int 0), (0, .ref a)]) dX4_init_79 rfl (by decide) rfl ?_
  refine gw_cast (c2 := 45 + 1 * ([] : List Nat).length) (s2 := 1703 + 3 * ([] : List Nat).length) (X2 := gw_B q a b7 b15 b22 b35 b43 (gw_f us) (gw_g []) ++ gw_E q us ++ gw_S []) (lv2 := [(1, .int (nI ([] : List Nat).length)), (0, .ref a)]) rfl rfl (by rw [show gw_S [] = [] from rfl, List.append_nil]) rfl ?_
  refine kX4_init_s C (fun vs h4 => ?_) 4 [] rfl
  refine g_aload_n C dX4_init_108 rfl 1 rfl ?_
  refine g_iconst C (v := 0) dX4_init_109 (by decide) ?_
  refine g_put C (C1 := RX4) (T := TX4) (N := 9) (ci := 4) iX4 tyX4 tyX4_ok nmX4 0 rfl rfl 7 (by decide) (by decide +kernel : Cond.fieldLink RX4 37 "Beamrow" "shape" "I" ∈ wsX4_init) rfl rfl (ty := .int) (by decide +kernel) rfl rfl (Nat.le_of_ble_eq_true rfl) dX4_init_110 (gw_W4 q a ((b7, b15, b22, b35, b43), us, vs)) rfl ?_
  exact g_vret C hret hlk dX4_init_113 ((b7, b15, b22, b35, b43), us, vs) ⟨h8, h4⟩ rfl (Nat.le_of_ble_eq_true rfl) (Nat.le_of_ble_eq_true rfl)
end GX
