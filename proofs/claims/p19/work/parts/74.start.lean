theorem gw_arr {args : Array Value} {s : State} {ty : FieldType} (h : (Cond.arrayClass ty).before args s = true) (hp : ty = .int ∨ ty = .long ∨ ty = .boolean) : ∃ cA : ClassId, ArrOfT s cA ty ∧ va_RA s cA ty := by
  obtain ⟨cA, kA, comp, h1, h2, h3⟩ := Cond.arrayClass_spec h
  refine ⟨cA, fun n z => ⟨fun k h => (by cases h), kA, h2, comp, h3⟩, ?_⟩
  rcases hp with rfl | rfl | rfl <;> exact h1
theorem gw_arq {s : State} {C1 : String} (h : va_AO C1 s) : ∃ cA : ClassId, ArrOfT s cA (.object C1) ∧ va_RA s cA (.object C1) := by
  obtain ⟨comp, cA, kA, f1, f5, f2, f3, f4⟩ := Cond.arrayOver_spec h
  exact ⟨cA, fun N z => ⟨(fun k h => by cases h), kA, f2, comp, f3⟩, kA, comp, f2, f3, f1, f4⟩
set_option maxHeartbeats 1000000 in
set_option maxRecDepth 100000 in
theorem lw_K0 {p : Program} {s : State} {m : MethodId} {meth : Method} {c : Code} {b L : Nat} {xs : Nat → Int32} (C0 : lw_At p s m meth c b L xs) : ∃ (D : va_G) (q : Nat → ClassId), va_K D vwCl (mm_t q) s := by
  obtain ⟨hx, hb, hr, hml, hown, hts, hX, hbl, hlocks, hgv⟩ := C0
  obtain ⟨c0, s0, k0⟩ := u_known (C := RX0) (T := TX0) (N := 11) (n := 11) hts inX0 (hts (.instantiable RX0 11) (by decide +kernel))
  obtain ⟨c1, s1, k1⟩ := u_known (C := RX1) (T := TX1) (N := 2) (n := 2) hts inX1 (hts (.instantiable RX1 2) (by decide +kernel))
  obtain ⟨c2, s2, k2⟩ := u_known (C := RX2) (T := TX2) (N := 3) (n := 3) hts inX2 (hts (.instantiable RX2 3) (by decide +kernel))
  obtain ⟨c3, s3, k3⟩ := u_known (C := RX3) (T := TX3) (N := 3) (n := 3) hts inX3 (hts (.instantiable RX3 3) (by decide +kernel))
  obtain ⟨c4, s4, k4⟩ := u_known (C := RX4) (T := TX4) (N := 9) (n := 9) hts inX4 (hts (.instantiable RX4 9) (by decide +kernel))
  obtain ⟨q0, a0⟩ := gw_arr (hts (.arrayClass .int) (by decide +kernel)) (Or.inl rfl)
  obtain ⟨q1, a1⟩ := gw_arr (hts (.arrayClass .long) (by decide +kernel)) (Or.inr (Or.inl rfl))
  obtain ⟨q2, a2⟩ := gw_arr (hts (.arrayClass .int) (by decide +kernel)) (Or.inl rfl)
  obtain ⟨q3, a3⟩ := gw_arq (va_AO.of (hts (.arrayOver (.object "Beamrow$Element")) (by decide +kernel)))
  obtain ⟨q4, a4⟩ := gw_arq (va_AO.of (hts (.arrayOver (.object "Beamrow$Source")) (by decide +kernel)))
  refine ⟨(fun k => [c0, c1, c2, c3, c4].getD k c4, fun k => [s0, s1, s2, s3, s4].getD k s4), fun k => [q0, q1, q2, q3, q4].getD k q4, ?_, ?_⟩
  · intro k x hk
    match k, hk with
    | 0, hk => cases hk; exact k0
    | 1, hk => cases hk; exact k1
    | 2, hk => cases hk; exact k2
    | 3, hk => cases hk; exact k3
    | 4, hk => cases hk; exact k4
    | k + 5, hk => simp [vwCl] at hk
  · intro k x hk
    match k, hk with
    | 0, hk => cases hk; exact a0
    | 1, hk => cases hk; exact a1
    | 2, hk => cases hk; exact a2
    | 3, hk => cases hk; exact a3
    | 4, hk => cases hk; exact a4
    | k + 5, hk => simp at hk
set_option maxHeartbeats 4000000 in
set_option maxRecDepth 100000 in
/-- from the entry to pc 17: the object and the law's rows are made -/
theorem lw_in9 {p : Program} {e : Env} {s : State} {m : MethodId} {below : List Frame} {meth : Method} {c : Code} (l : Launch) (hflags : l.flags = flags0) {b L : Nat} {xs : Nat → Int32} (hL : L ≤ 260) (C0 : lw_At p s m meth c b L xs) {D : va_G} {q : Nat → ClassId} (C : gw_C p s m #[.ref b] c cL_law 13 wsL_law RL D q (fun z => s.heap.size ≤ z)) : gw_G p l e room_1 s m #[.ref b] below meth c 0 0 (lw_Z below #[Value.ref b] s) 13 D (fun z => s.heap.size ≤ z) [] 0 [(0, .ref b)] [] := by
  refine g_new C (C1 := RX4) (T := TX4) (N := 9) (ci := 4) inlX4 tyX4 tyX4_ok (by decide +kernel) (by decide +kernel) (by decide +kernel) rfl [.null, .null, .null, .null, .null, .int 0, .int 0, .int 0, .int 0] (fun j hj => by rcases (show j = 0 ∨ j = 1 ∨ j = 2 ∨ j = 3 ∨ j = 4 ∨ j = 5 ∨ j = 6 ∨ j = 7 ∨ j = 8 by omega) with rfl | rfl | rfl | rfl | rfl | rfl | rfl | rfl | rfl <;> rfl) (Nat.le_of_ble_eq_true rfl) (Nat.le_of_ble_eq_true rfl) dL_law_0 (fun b0 => ?_)
  refine g_dup C dL_law_3 rfl ?_
  refine g_init C kX4_init (cwI 0 C.1.2.2.2.2 gL_law_X4_init rfl rfl rfl (C.1.2.2.2.2 (.initialized RX4) (by decide +kernel)) (C.1.2.2.2.2 (.methodLink RL 96 yX4_init) (by decide +kernel)) (C.1.2.2.2.2 (.instanceMethod yX4_init) (by decide +kernel)) rfl (by decide +kernel) ⟨(Nat.le_of_ble_eq_true rfl), (Nat.le_of_ble_eq_true rfl)⟩) (Nat.le_of_ble_eq_true rfl) dL_law_4 ⟨(Nat.le_of_ble_eq_true rfl), (Nat.le_of_ble_eq_true rfl)⟩ (fun u hu => ?_)
  refine g_astore_n C (lv' := [(1, .ref b0), (0, .ref b)]) dL_law_7 rfl (by decide) rfl ?_
  refine g_iconst C (v := 5) dL_law_8 (by decide) ?_
  refine g_newa C (at1 := .int) (ty := .int) (by decide +kernel) rfl 0 rfl (N1 := 5) (5, .inl (fun _ => 0)) (fun _ => rfl) (by decide) (by decide) (Nat.le_of_ble_eq_true rfl) (Nat.le_of_ble_eq_true rfl) (Nat.le_of_ble_eq_true rfl) dL_law_9 (fun m0 => ?_)
  refine g_astore_n C (lv' := [(2, .ref m0), (1, .ref b0), (0, .ref b)]) dL_law_11 rfl (by decide) rfl ?_
  refine g_bipush C (v := 16) dL_law_12 (by decide) ?_
  refine g_newa C (at1 := .int) (ty := .int) (by decide +kernel) rfl 0 rfl (N1 := 16) (16, .inl (fun _ => 0)) (fun _ => rfl) (by decide) (by decide) (Nat.le_of_ble_eq_true rfl) (Nat.le_of_ble_eq_true rfl) (Nat.le_of_ble_eq_true rfl) dL_law_14 (fun m1 => ?_)
  refine g_astore_n C (lv' := [(3, .ref m1), (2, .ref m0), (1, .ref b0), (0, .ref b)]) dL_law_16 rfl (by decide) rfl ?_
  intro H locs ls hP hD hS hl
  obtain ⟨ad, e0, e50, e51, hPm, hAD⟩ := gw_all hu hP hD
  subst e0; subst e50; subst e51
  exact lw_go l hflags hL C0 C.2.1 hAD (by decide) (by decide) H locs ls hPm hS hl
/-- YOUR PART: from the entry, for every script of at most 260 ints, the law comes to its end with true -/
theorem whole_start {p : Program} {e : Env} {s : State} {m : MethodId} {below : List Frame} {meth : Method} {c : Code} (l : Launch) (hflags : l.flags = flags0) {b L : Nat} {xs : Nat → Int32} (hL : L ≤ 260) (C0 : lw_At p s m meth c b L xs) : W p l e room_1 s m #[Value.ref b] below meth c s.heap [] 0 0 (lw_Z below #[Value.ref b] s) (entryFrame m ([Value.ref b] : List Value).toArray 13) := by
  obtain ⟨D, q, hK⟩ := lw_K0 C0
  obtain ⟨hx, hb, hr, hml, hown, hts, hX, hbl, hlocks, hgv⟩ := id C0
  have ho0 : va_AO RX0 s := va_AO.of (hts (.arrayOver (.object "Beamrow$Element")) (by decide +kernel))
  have ho2 : va_AO RX2 s := va_AO.of (hts (.arrayOver (.object "Beamrow$Source")) (by decide +kernel))
  have n0 := va_Nw.of rfl (hts (.methodLinkNest RX0 11 yX3_init RX4) (by decide +kernel))
  have n1 := va_Nw.of rfl (hts (.methodLinkNest RX4 23 yX1_init RX4) (by decide +kernel))
  have n2 := va_Nw.of rfl (hts (.methodLinkNest RX4 35 yX0_init RX4) (by decide +kernel))
  have n3 := va_Nw.of rfl (hts (.methodLinkNest RX4 36 yX2_init RX4) (by decide +kernel))
  have C : gw_C p s m #[.ref b] c cL_law 13 wsL_law RL D q (fun z => s.heap.size ≤ z) := ⟨⟨hx, hb, hml, hown, fun w h => hts w (wsL_law_in w h)⟩, hK, fun z h => h, ho0, ho2, n0, n1, n2, n3⟩
  have hG := lw_in9 (e := e) (below := below) l hflags hL C0 C
  have hl := lv_entry ([.ref b]) (n := 13) (Nat.le_of_ble_eq_true rfl)
  rw [lg_entry_eq]
  exact hG s.heap [] _ (fun k q h => by simp at h) ⟨fun i j p q h => by simp at h, fun k q h => by simp at h⟩ va_S.rf hl
