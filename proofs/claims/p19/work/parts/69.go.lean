theorem lw_C {p : Program} {s : State} {m : MethodId} {meth : Method} {c : Code} {b L : Nat} {xs : Nat → Int32} (C0 : lw_At p s m meth c b L xs) {D : va_G} {ad : Nat → Nat} {q : Nat → ClassId} (hK : va_K D vwCl (mm_t q) s) (hAD : mm_AD ad (fun z => s.heap.size ≤ z)) : mm_C p s m #[.ref b] c cL_law 13 wsL_law RL D ad q (fun z => s.heap.size ≤ z) := by
  obtain ⟨hx, hb, hr, hml, hown, hts, hX, hbl, hlocks, hgv⟩ := C0
  exact ⟨⟨hx, hb, hml, hown, fun w h => hts w (wsL_law_in w h)⟩, hK, hAD⟩
theorem lw_K {p : Program} {l : Launch} {e : Env} {s : State} {m : MethodId} {below : List Frame} {meth : Method} {c : Code} {b L : Nat} {xs : Nat → Int32} (C0 : lw_At p s m meth c b L xs) {D : va_G} {ad : Nat → Nat} {q : Nat → ClassId} (hK : va_K D vwCl (mm_t q) s) (hAD : mm_AD ad (fun z => s.heap.size ≤ z)) : ∀ (M : mm_M) (cells slots : Nat), cells ≤ 600130 → slots ≤ 7301080 → mm_G p l e room_1 s m #[.ref b] below meth c cells slots (lw_Z below #[Value.ref b] s) 13 D ad q (fun z => s.heap.size ≤ z) M 1011 [(4, .int 1)] [] := by
  intro M cells slots hc hs
  have C := lw_C C0 hK hAD
  obtain ⟨hx, hb, hr, hml, hown, hts, hX, hbl, hlocks, hgv⟩ := C0
  refine r_iload C dL_law_1011 0 rfl ?_
  intro H locs ls hP hS hl
  refine va_forget (fun q hq => hS.2.2 q hq) ?_
  refine W.widen (k := 600130) (n := 7301080) hc hs ?_
  exact lw_ret hx hb hr hlocks dL_law_1013
/-- from pc 17, when the object and the law's rows are made -/
theorem lw_go {p : Program} {e : Env} {s : State} {m : MethodId} {below : List Frame} {meth : Method} {c : Code} (l : Launch) (hflags : l.flags = flags0) {b L : Nat} {xs : Nat → Int32} (hL : L ≤ 260) (C0 : lw_At p s m meth c b L xs) {D : va_G} {ad : Nat → Nat} {q : Nat → ClassId} (hK : va_K D vwCl (mm_t q) s) (hAD : mm_AD ad (fun z => s.heap.size ≤ z)) {cells slots : Nat} (hc : cells ≤ 600) (hs : slots ≤ 90000) : mm_G p l e room_1 s m #[.ref b] below meth c cells slots (lw_Z below #[Value.ref b] s) 13 D ad q (fun z => s.heap.size ≤ z) mm_M0 17 [(3, .ref (ad 51)), (2, .ref (ad 50)), (1, .ref (ad 0)), (0, .ref b)] [] := by
  have hl0 : l.stackTraces = false := by rw [Launch.stackTraces, hflags]; decide +kernel
  have C := lw_C C0 hK hAD
  have hk := lw_K (l := l) (e := e) (below := below) C0 hK hAD
  have hX9 := mm_XP0 C0
  obtain ⟨hx, hb, hr, hml, hown, hts, hX, hbl, hlocks, hgv⟩ := C0
  have hSX : mm_SX (fun z => s.heap.size ≤ z) b L xs s := ⟨hX, hbl, Nat.not_le.mpr hbl⟩
  exact lw_pre hl0 C hAD hX9 mz_I0 (by omega) (by omega) (fun M2 h2 => lw_loop hl0 C hAD hX9 hSX hL hk 60 0 M2 0 0 0 (cells + 400) (slots + 2400) (by omega) (mz_I0.eq h2) (by omega) (by omega) (by omega))
