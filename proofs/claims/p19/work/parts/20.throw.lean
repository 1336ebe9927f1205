abbrev E_arg : String := "java/lang/IllegalArgumentException"
abbrev E_sta : String := "java/lang/IllegalStateException"
abbrev E_idx : String := "java/lang/IndexOutOfBoundsException"
abbrev E_nms : List String := ["java/lang/RuntimeException", "java/lang/Exception"]
/-- the words of the throws that aren't good ones: what is castable, what is declared -/
def mm_NG : List Cond := [.declares (Bundle.initS "java/lang/RuntimeException"), .declares (Bundle.initS "java/lang/Exception"), .declares (Bundle.initS Bundle.tN), .castable E_arg E_arg, .castable E_sta E_sta, .castable E_idx E_idx]
def mm_ST : List Nat := [47, 57, 73, 87, 89, 94, 101, 111, 116, 122, 132, 138, 144, 157, 167]
/-- what a throw needs of the world beside the memory -/
def mm_XP (A : Nat → Prop) (U : State) : Prop := vx_Zq Bundle.tN "UNASSIGNED_STACK" Bundle.steD A U U.heap ∧ vx_Zq Bundle.tN "SUPPRESSED_SENTINEL" Bundle.listD A U U.heap ∧ (∀ k ∈ mm_ST, ∃ (tx : String) (sa : Nat), vk_R RX4 k tx sa U) ∧ (∀ w ∈ mm_NG, w.before #[] U = true) ∧ va_Nc E_sta E_arg U ∧ va_Nc E_arg E_idx U ∧ va_Nc E_sta E_idx U
theorem mm_NG_moved {u U : State} (hvm : u.vm.Alike U.vm) (h : ∀ w ∈ mm_NG, w.before #[] u = true) : ∀ w ∈ mm_NG, w.before #[] U = true := by
  have tr : ∀ {c : Cond}, c.onTables = true → c.before #[] (u.setVm U.vm) = true → c.before #[] U = true := by
    intro c hc h
    have e := Cond.onTables_vm (A := #[]) (A' := #[]) (U := u) (U' := U) U.vm c hc
    have hU : U.setVm U.vm = U := rfl
    rw [hU] at e
    rw [← e]
    exact h
  intro w hw
  have h9 := h w hw
  simp only [mm_NG, List.mem_cons, List.not_mem_nil, or_false] at hw
  rcases hw with rfl | rfl | rfl | rfl | rfl | rfl
  · exact tr rfl (by rw [Cond.declares_setVm hvm]; exact h9)
  · exact tr rfl (by rw [Cond.declares_setVm hvm]; exact h9)
  · exact tr rfl (by rw [Cond.declares_setVm hvm]; exact h9)
  · exact tr rfl (by rw [Cond.castable_setVm hvm]; exact h9)
  · exact tr rfl (by rw [Cond.castable_setVm hvm]; exact h9)
  · exact tr rfl (by rw [Cond.castable_setVm hvm]; exact h9)
theorem mm_XP.at {A : Nat → Prop} {s U : State} {H : Heap} {locs : List Loc} (h : mm_XP A s) (hU : U.heap = H) (hW : s.WarmedH U.vm) (hS : va_S A s.heap H locs) : mm_XP A U := by
  obtain ⟨h1, h2, h3, h4, h5, h6, h7⟩ := h
  refine ⟨?_, ?_, fun k hk => ?_, mm_NG_moved hW.alike h4, va_Nc.moved hW.alike h5, va_Nc.moved hW.alike h6, va_Nc.moved hW.alike h7⟩
  · rw [hU]; exact vx_Zq.moved hW.alike (h1.kept hS.2.1)
  · rw [hU]; exact vx_Zq.moved hW.alike (h2.kept hS.2.1)
  · obtain ⟨tx, sa, h⟩ := h3 k hk
    exact ⟨tx, sa, vk_R.warm hW h⟩
theorem mm_XP.same {A : Nat → Prop} {u U : State} (h : mm_XP A u) (hv : U.vm = u.vm) (hh : U.heap = u.heap) : mm_XP A U := by
  obtain ⟨h1, h2, h3, h4, h5, h6, h7⟩ := h
  have hA : u.vm.Alike U.vm := by rw [hv]; exact Vm.Alike.refl _
  refine ⟨?_, ?_, fun k hk => ?_, mm_NG_moved hA h4, va_Nc.moved hA h5, va_Nc.moved hA h6, va_Nc.moved hA h7⟩
  · rw [hh]; exact vx_Zq.moved hA h1
  · rw [hh]; exact vx_Zq.moved hA h2
  · obtain ⟨tx, sa, h⟩ := h3 k hk
    exact ⟨tx, sa, vk_R.same hv h⟩
def mm_X (D : va_G) (ad : Nat → Nat) (q : Nat → ClassId) (A : Nat → Prop) (xp : String → mm_M → Prop) : String → State → State → Prop := fun E st t => ∃ u : mm_M, xp E u ∧ mm_PW D ad q u t ∧ va_F A st t
/-- THE CONTRACT of a method that returns or throws -/
def mm_Kx (l : Launch) (D : va_G) (ad : Nat → Nat) (q : Nat → ClassId) (A : Nat → Prop) (y : MethodName) (ws : List Cond) (rm : Room) (av : List Value) (M : mm_M) (post : Option Value → mm_M → Prop) (xp : String → mm_M → Prop) : Prop :=
  vx_Met l y ws rm (va_Pc av (fun U => mm_PW D ad q M U ∧ mm_XP A U)) (mm_Q D ad q A post) (mm_X D ad q A xp) rm.cells rm.slots A
/-- .. of a method that asks what a throw needs, and itself returns -/
def mm_Kw (l : Launch) (D : va_G) (ad : Nat → Nat) (q : Nat → ClassId) (A : Nat → Prop) (y : MethodName) (ws : List Cond) (rm : Room) (av : List Value) (M : mm_M) (v : Option Value) (M' : mm_M) : Prop :=
  Met l y ws rm (va_Pc av (fun U => mm_PW D ad q M U ∧ mm_XP A U)) (mm_Q D ad q A (fun v' u => v' = v ∧ u = M')) rm.cells rm.slots A
theorem mm_blindX {D : va_G} {ad : Nat → Nat} {q : Nat → ClassId} {A : Nat → Prop} {av : List Value} {M : mm_M} : FrameBlind (va_Pc av (fun U => mm_PW D ad q M U ∧ mm_XP A U)) := fun a U g mk h => ⟨h.1, ⟨h.2.1.1, va_K.moved (u := U) (U := U.calling g mk a) (Vm.Alike.refl U.vm) h.2.1.2⟩, h.2.2.same rfl rfl⟩
section MX
variable {p : Program} {l : Launch} {e : Env} {R : Room} {s : State} {m : MethodId} {args : Array Value} {below : List Frame} {meth : Method} {c : Code} {cells slots : Nat} {Q : State → Prop} {nL : Nat} {D : va_G} {ad : Nat → Nat} {q : Nat → ClassId} {A : Nat → Prop} {M : mm_M} {pc : Nat} {lv : List (Nat × Value)} {st : List Value} {cc : ByteArray} {Ts : List Cond} {own : String}
theorem mm_prX (C : mm_C p s m args c cc nL Ts own D ad q A) {H : Heap} {locs : List Loc} {av : List Value} (hX : mm_XP A s) (hP : va_P D vwCl (mm_w ad q M) H) (hS : va_S A s.heap H locs) : ∀ U : State, U.heap = H → s.WarmedH U.vm → va_Pc av (fun U => mm_PW D ad q M U ∧ mm_XP A U) av.toArray U := fun U hU hW => ⟨rfl, ⟨by rw [hU]; exact hP, va_K.moved hW.alike C.2.1⟩, hX.at hU hW hS⟩
theorem mm_ofX {y : MethodName} {ws ws' : List Cond} {rm : Room} {maxL : Nat} {ret : Option FieldType} {av : List Value} {post : Option Value → mm_M → Prop} {xp : String → mm_M → Prop} {own : String} (hown : y.cls = own) (hAD : mm_AD ad A) (hy : plainName y.cls = true) (hw : ws = Cond.code y cc maxL ret :: ws') (hfit : (lg_sl av).length ≤ maxL)
    (body : ∀ (p : Program) (e : Env) (s : State) (m : MethodId) (below : List Frame) (meth : Method) (c : Code), mm_C p s m av.toArray c cc maxL ws own D ad q A → mm_XP A s → (∀ x ∈ c.exceptionTable.toList, False) → meth.sig.returnType = ret → meth.locks = false → mm_G p l e rm s m av.toArray below meth c 0 0 (vx_MQ below (mm_Q D ad q A post) (mm_X D ad q A xp) av.toArray s rm.cells rm.slots A) maxL D ad q A M 0 (lv_args 0 av) []) : mm_Kx l D ad q A y ws rm av M post xp := by
  refine vx_ofW (cc := cc) (maxL := maxL) (ret := ret) hy hw ?_
  intro p e s m args below meth c s₁ B hml hT hv
  obtain ⟨rfl, ⟨hP, hK⟩, hX⟩ := hv
  have hC : mm_C p s m av.toArray c cc maxL ws own D ad q A := ⟨⟨B.exec, B.bytes, hml, (by rw [← hown]; exact findClass_of_methodNamed B.named), atoms_spec (ws := ws) B.pre⟩, hK, hAD⟩
  have hG := body p e s m below meth c hC hX hT B.returns B.notSynchronized
  have hl := lv_entry av (n := maxL) hfit
  rw [lg_entry_eq]
  exact hG s.heap [] _ hP va_S.rf hl
theorem mm_ofL {y : MethodName} {ws ws' : List Cond} {rm : Room} {maxL : Nat} {ret : Option FieldType} {hh : List (Nat × Nat × Nat × Nat)} {av : List Value} {v : Option Value} {M' : mm_M} {own : String} (hown : y.cls = own) (hAD : mm_AD ad A) (hy : plainName y.cls = true) (hw : ws = Cond.codeWith y cc maxL ret hh :: ws') (hfit : (lg_sl av).length ≤ maxL)
    (body : ∀ (p : Program) (e : Env) (s : State) (m : MethodId) (below : List Frame) (meth : Method) (c : Code), mm_C p s m av.toArray c cc maxL ws own D ad q A → mm_XP A s → c.exceptionTable.toList = tableOf hh → meth.sig.returnType = ret → meth.locks = false → mm_G p l e rm s m av.toArray below meth c 0 0 (MQ below (mm_Q D ad q A (fun v' u => v' = v ∧ u = M')) av.toArray s rm.cells rm.slots A) maxL D ad q A M 0 (lv_args 0 av) []) : mm_Kw l D ad q A y ws rm av M v M' := by
  refine va_MetW (cc := cc) (maxL := maxL) (ret := ret) (hh := hh) hy hw ?_
  intro p e s m args below meth c s₁ B hml hv
  obtain ⟨rfl, ⟨hP, hK⟩, hX⟩ := hv
  have hC : mm_C p s m av.toArray c cc maxL ws own D ad q A := ⟨⟨B.exec, B.bytes, hml, (by rw [← hown]; exact findClass_of_methodNamed B.named), atoms_spec (ws := ws) B.pre⟩, hK, hAD⟩
  have hG := body p e s m below meth c hC hX (vx_table (x := y) B (atoms_spec (ws := ws) B.pre _ (by rw [hw]; exact List.mem_cons_self))) B.returns B.notSynchronized
  have hl := lv_entry av (n := maxL) hfit
  rw [lg_entry_eq]
  exact hG s.heap [] _ hP va_S.rf hl
theorem r_xiret {post : Option Value → mm_M → Prop} {XC : String → State → State → Prop} {mc ms : Nat} (C : mm_C p s m args c cc nL Ts own D ad q A) {x : Int32} (hr : meth.sig.returnType = some .int) (hlk : meth.locks = false) (hc : cells ≤ mc) (hs : slots ≤ ms) (hd : decode cc pc = .ok (.ireturn, 1)) (hp : post (some (.int x)) M) : mm_G p l e R s m args below meth c cells slots (vx_MQ below (mm_Q D ad q A post) XC args s mc ms A) nL D ad q A M pc lv [.int x] := fun H locs ls hP hS hl => vx_ret (W.widen (k := mc) (n := ms) hc hs (W.iret C.1.1 C.1.2.1 hr (fun t ht hW => ⟨⟨_, M, rfl, hp, by rw [ht]; exact hP, va_K.moved hW.alike C.2.1⟩, hS.F ht⟩) hS.2.2 hd hlk))
theorem r_xlret {post : Option Value → mm_M → Prop} {XC : String → State → State → Prop} {mc ms : Nat} (C : mm_C p s m args c cc nL Ts own D ad q A) {x : Int64} (hr : meth.sig.returnType = some .long) (hlk : meth.locks = false) (hc : cells ≤ mc) (hs : slots ≤ ms) (hd : decode cc pc = .ok (.lreturn, 1)) (hp : post (some (.long x)) M) : mm_G p l e R s m args below meth c cells slots (vx_MQ below (mm_Q D ad q A post) XC args s mc ms A) nL D ad q A M pc lv [.long x] := fun H locs ls hP hS hl => vx_ret (W.widen (k := mc) (n := ms) hc hs (W.lret C.1.1 C.1.2.1 hr (fun t ht hW => ⟨⟨_, M, rfl, hp, by rw [ht]; exact hP, va_K.moved hW.alike C.2.1⟩, hS.F ht⟩) hS.2.2 hd hlk))
theorem r_xzret {post : Option Value → mm_M → Prop} {XC : String → State → State → Prop} {mc ms : Nat} (C : mm_C p s m args c cc nL Ts own D ad q A) {x : Int32} (hr : meth.sig.returnType = some .boolean) (hz : x &&& 1 = x) (hlk : meth.locks = false) (hc : cells ≤ mc) (hs : slots ≤ ms) (hd : decode cc pc = .ok (.ireturn, 1)) (hp : post (some (.int x)) M) : mm_G p l e R s m args below meth c cells slots (vx_MQ below (mm_Q D ad q A post) XC args s mc ms A) nL D ad q A M pc lv [.int x] := fun H locs ls hP hS hl => vx_ret (W.widen (k := mc) (n := ms) hc hs (W.zret (ty := .boolean) C.1.1 C.1.2.1 hr (congrArg Value.int hz) (fun t ht hW => ⟨⟨_, M, rfl, hp, by rw [ht]; exact hP, va_K.moved hW.alike C.2.1⟩, hS.F ht⟩) hS.2.2 hd hlk))
theorem r_wiret {post : Option Value → mm_M → Prop} {mc ms : Nat} (C : mm_C p s m args c cc nL Ts own D ad q A) {x : Int32} (hr : meth.sig.returnType = some .int) (hlk : meth.locks = false) (hc : cells ≤ mc) (hs : slots ≤ ms) (hd : decode cc pc = .ok (.ireturn, 1)) (hp : post (some (.int x)) M) : mm_G p l e R s m args below meth c cells slots (MQ below (mm_Q D ad q A post) args s mc ms A) nL D ad q A M pc lv [.int x] := fun H locs ls hP hS hl => W.widen (k := mc) (n := ms) hc hs (W.iret C.1.1 C.1.2.1 hr (fun t ht hW => ⟨⟨_, M, rfl, hp, by rw [ht]; exact hP, va_K.moved hW.alike C.2.1⟩, hS.F ht⟩) hS.2.2 hd hlk)
theorem r_throw {Qc : Array Value → State → Outcome → State → Prop} {xp : String → mm_M → Prop} {mc ms : Nat} (C : mm_C p s m args c cc nL Ts own D ad q A) (hX : mm_XP A s) (hT : ∀ x ∈ c.exceptionTable.toList, False) (hl0 : l.stackTraces = false) {cls : String} {ik is ic : Nat} (hcls : Bundle.fit cls = true) (hnms : ∀ n ∈ E_nms, Bundle.fit n = true) (howRX : own = RX4)
    (hk : Cond.classLink own ik cls ∈ Ts) (hini : Cond.initialized cls ∈ Ts) (his : is ∈ mm_ST) (h1 : ∀ w ∈ (vx_atS own ic cls E_nms).filter goodWord, w ∈ Ts) (h2 : ∀ w ∈ (vx_atS own ic cls E_nms).filter (fun w => !goodWord w), w ∈ mm_NG) (hgood : ∀ w ∈ Cond.classLink own ik cls :: Cond.initialized cls :: vx_atS own ic cls E_nms, vx_ot w = true)
    (d0 : decode cc pc = .ok (.new ik, 3)) (d3 : decode cc (pc + 3) = .ok (.dup, 1)) (d4 : decode cc (pc + 4) = .ok (.ldc is, 2)) (d6 : decode cc (pc + 6) = .ok (.invokespecial ic, 3)) (d9 : decode cc (pc + 9) = .ok (.athrow, 1))
    (hRf : 5 < R.frames) (hRl : (st.map fun v => v.category).sum + 82 ≤ R.locals) (hRc : cells + 1 ≤ R.cells) (hRs : slots + 6 ≤ R.slots) (hlk : meth.locks = false) (hc : cells + 1 ≤ mc) (hs : slots + 6 ≤ ms) (hp : xp cls M) : mm_G p l e R s m args below meth c cells slots (vx_MQ below Qc (mm_X D ad q A xp) args s mc ms A) nL D ad q A M pc lv st := by
  intro H locs ls hP hS hl
  obtain ⟨tx, sa, hstr⟩ := hX.2.2.1 is his
  have hat : ∀ w ∈ vx_atS own ic cls E_nms, w.before args s = true := by
    refine vx_hat (fun w hw => C.1.2.2.2.2 w (h1 w hw)) (B := mm_NG) h2 (fun w hw => ?_)
    have h9 := hX.2.2.2.1 w hw
    have hon : w.onTables = true := by
      simp only [mm_NG, List.mem_cons, List.not_mem_nil, or_false] at hw
      rcases hw with rfl | rfl | rfl | rfl | rfl | rfl <;> rfl
    exact va_tabs hon rfl h9
  refine vx_throwS (A := A) (names := E_nms) (text := tx) (sa := sa) C.1.1 C.1.2.1 hl0 C.1.2.2.2.1 hcls hnms (C.1.2.2.2.2 _ hk) (C.1.2.2.2.2 _ hini) (by rw [howRX]; exact hstr) hat hgood hX.1 hX.2.1 hS (hl.1.trans C.1.2.2.1.symm) d0 d3 d4 d6 d9 (fun x hx => absurd hx (fun h => hT x h)) hRf hRl hRc hRs hlk (fun t hv hz hk9 => ?_) hS.2.2 hc hs
  exact ⟨M, hp, ⟨hP.kept (fun k x hx => hk9 _ (hP k x hx).lt), va_K.moved hv C.2.1⟩, Nat.le_trans hS.1 hz, fun z h1 h2 => by rw [hk9 z (Nat.lt_of_lt_of_le h1 hS.1)]; exact hS.2.1 z h1 h2⟩
/-- a throw of E at pc, caught by the table's row x -/
def mm_cau (c : Code) (s : State) (args : Array Value) (own : String) (pc : Nat) (E : String) (hpc : Nat) : Prop := ∃ (pre suf : List ExceptionTableEntry) (x : ExceptionTableEntry) (name : String), c.exceptionTable.toList = pre ++ x :: suf ∧ (∀ z ∈ pre, covers z pc = false ∨ (z.catchType ≠ 0 ∧ ∃ nm : String, (Cond.classLink own z.catchType nm).before args s = true ∧ va_Nc E nm s)) ∧ covers x pc = true ∧ x.catchType ≠ 0 ∧ (Cond.classLink own x.catchType name).before args s = true ∧ (Cond.castable E name).before args s = true ∧ x.handlerPc = hpc
theorem mm_runX {ix : Nat} {rest st0 : List Value} {a : Array Value} {post : Option Value → mm_M → Prop} {xp : String → mm_M → Prop} {mc ms : Nat} {H : Heap} {locs : List Loc} {ls : Array Slot} (C : mm_C p s m args c cc nL Ts own D ad q A) (hr : vx_Run p l e R s m args below meth c H locs cells slots mc ms (F0 m pc ls st0) rest (mm_Q D ad q A post a) (mm_X D ad q A xp) A) (hS : va_S A s.heap H locs) (hl : lv_has ls nL lv) (k : ∀ (v : Option Value) (u : mm_M), post v u → mm_G p l e R s m args below meth c (cells + mc) (slots + ms) Q nL D ad q A u (pc + 3) lv (mm_ps v rest))
    (kx : ∀ (E : String) (u : mm_M), xp E u → ∃ hpc : Nat, mm_cau c s args own pc E hpc ∧ ∀ z : Nat, mm_G p l e R s m args below meth c (cells + mc) (slots + ms) Q nL D ad q A u hpc lv [.ref z]) : W p l e R s m args below meth c H locs cells slots Q (F0 m pc ls st0) := by
  intro T hT X
  rcases hr T hT X with ⟨v, st₀, t, T', L, h0, X', hL, e1, e2, ⟨⟨v2, u, hv, hp, hb, hK⟩, hz, hk⟩, st⟩ | ⟨q9, st₀, t, T', L, E, ce, h0, X', hL, e1, e2, ⟨u, hp, ⟨hb, hK⟩, hz, hk⟩, hce, hcv, hcl, st⟩
  · cases hv
    rw [h0] at hz hk
    obtain ⟨t2, a1, b1⟩ := k _ u hp T'.heap (locs ++ L) ls (by rw [e1]; exact hb) ⟨Nat.le_trans hS.1 (by rw [e1]; exact hz), fun z h1 h2 => by rw [e1, hk z (Nat.lt_of_lt_of_le h1 hS.1) h2]; exact hS.2.1 z h1 h2, fun z hz9 => by
        rcases List.mem_append.mp hz9 with h | h
        · exact hS.2.2 z h
        · exact hL z h⟩ hl T' rfl X'
    exact ⟨t2, st t2 (by rw [mm_ps_eq]; exact a1), b1⟩
  · rw [h0] at hz hk
    obtain ⟨hpc, ⟨pre, suf, x, name, hsplit, hpass, hx, h09, hlink, hcast, hh⟩, kk⟩ := kx E u hp
    have hSS : va_S A s.heap T'.heap (locs ++ L) := ⟨Nat.le_trans hS.1 (by rw [e1]; exact hz), fun z h1 h2 => by rw [e1, hk z (Nat.lt_of_lt_of_le h1 hS.1) h2]; exact hS.2.1 z h1 h2, fun z hz9 => by
        rcases List.mem_append.mp hz9 with h | h
        · exact hS.2.2 z h
        · exact hL z h⟩
    have hW := vx_catch (H := T'.heap) (rest := rest) (ls := ls) (pc := pc) (q := q9) C.1.2.2.2.1 pre x suf hsplit hpass hx h09 hlink hcast (by rw [e1]; exact hce) hcv hcl (by rw [hh]; exact kk q9 T'.heap (locs ++ L) ls (by rw [e1]; exact hb) hSS hl)
    obtain ⟨t2, a1, b1⟩ := hW T' rfl X'
    exact ⟨t2, st.trans a1, b1⟩
theorem r_callX0 (C : mm_C p s m args c cc nL Ts own D ad q A) (hX : mm_XP A s) {y : MethodName} {bytes : ByteArray} {maxL ix : Nat} {ret : Option FieldType} {ws : List Cond} {rm : Room} {post : Option Value → mm_M → Prop} {xp : String → mm_M → Prop} {id : Nat} (ci : Nat) {fs : List Value} {x : vw_C} (hk : id < 52) (hc : vwCl[ci]? = some x) (he : mm_ct ad q M id = .inr (ci, fs)) (K : mm_Kx l D ad q A y ws rm (.ref (ad id) :: []) M post xp) (cw : CallW R s args own x.1 ix y bytes maxL ret ws rm rm.cells rm.slots 0) (hW : ((st : List Value).map fun v => v.category).sum ≤ 8) (hd : decode cc pc = .ok (.invokevirtual ix, 3)) (hf : cells + rm.cells ≤ R.cells ∧ slots + rm.slots ≤ R.slots) (k : ∀ (v : Option Value) (u : mm_M), post v u → mm_G p l e R s m args below meth c (cells + rm.cells) (slots + rm.slots) Q nL D ad q A u (pc + 3) lv (mm_ps v st)) (kx : ∀ (E : String) (u : mm_M), xp E u → ∃ hpc : Nat, mm_cau c s args own pc E hpc ∧ ∀ z : Nat, mm_G p l e R s m args below meth c (cells + rm.cells) (slots + rm.slots) Q nL D ad q A u hpc lv [.ref z]) : mm_G p l e R s m args below meth c cells slots Q nL D ad q A M pc lv (.ref (ad id) :: st) := fun H locs ls hP hS hl => mm_runX (ix := ix) C (vx_runV (As := []) (rest := st) C.1 K cw ⟨mm_blindX, va_recv C.2.1 hP hc (mm_w_atE hk he), mm_prX C hX hP hS⟩ rfl rfl hl.1 rfl (lv_room hW) hd hf) hS hl k kx
theorem r_callX1 (C : mm_C p s m args c cc nL Ts own D ad q A) (hX : mm_XP A s) {y : MethodName} {bytes : ByteArray} {maxL ix : Nat} {ret : Option FieldType} {ws : List Cond} {rm : Room} {post : Option Value → mm_M → Prop} {xp : String → mm_M → Prop} {v1 : Value} {id : Nat} (ci : Nat) {fs : List Value} {x : vw_C} (hk : id < 52) (hc : vwCl[ci]? = some x) (he : mm_ct ad q M id = .inr (ci, fs)) (K : mm_Kx l D ad q A y ws rm (.ref (ad id) :: [v1]) M post xp) (cw : CallW R s args own x.1 ix y bytes maxL ret ws rm rm.cells rm.slots 1) (hW : ((st : List Value).map fun v => v.category).sum ≤ 8) (hd : decode cc pc = .ok (.invokevirtual ix, 3)) (hf : cells + rm.cells ≤ R.cells ∧ slots + rm.slots ≤ R.slots) (k : ∀ (v : Option Value) (u : mm_M), post v u → mm_G p l e R s m args below meth c (cells + rm.cells) (slots + rm.slots) Q nL D ad q A u (pc + 3) lv (mm_ps v st)) (kx : ∀ (E : String) (u : mm_M), xp E u → ∃ hpc : Nat, mm_cau c s args own pc E hpc ∧ ∀ z : Nat, mm_G p l e R s m args below meth c (cells + rm.cells) (slots + rm.slots) Q nL D ad q A u hpc lv [.ref z]) : mm_G p l e R s m args below meth c cells slots Q nL D ad q A M pc lv (v1 :: .ref (ad id) :: st) := fun H locs ls hP hS hl => mm_runX (ix := ix) C (vx_runV (As := [v1]) (rest := st) C.1 K cw ⟨mm_blindX, va_recv C.2.1 hP hc (mm_w_atE hk he), mm_prX C hX hP hS⟩ rfl rfl hl.1 rfl (lv_room hW) hd hf) hS hl k kx
theorem r_callX2 (C : mm_C p s m args c cc nL Ts own D ad q A) (hX : mm_XP A s) {y : MethodName} {bytes : ByteArray} {maxL ix : Nat} {ret : Option FieldType} {ws : List Cond} {rm : Room} {post : Option Value → mm_M → Prop} {xp : String → mm_M → Prop} {v1 v2 : Value} {id : Nat} (ci : Nat) {fs : List Value} {x : vw_C} (hk : id < 52) (hc : vwCl[ci]? = some x) (he : mm_ct ad q M id = .inr (ci, fs)) (K : mm_Kx l D ad q A y ws rm (.ref (ad id) :: [v1, v2]) M post xp) (cw : CallW R s args own x.1 ix y bytes maxL ret ws rm rm.cells rm.slots 2) (hW : ((st : List Value).map fun v => v.category).sum ≤ 8) (hd : decode cc pc = .ok (.invokevirtual ix, 3)) (hf : cells + rm.cells ≤ R.cells ∧ slots + rm.slots ≤ R.slots) (k : ∀ (v : Option Value) (u : mm_M), post v u → mm_G p l e R s m args below meth c (cells + rm.cells) (slots + rm.slots) Q nL D ad q A u (pc + 3) lv (mm_ps v st)) (kx : ∀ (E : String) (u : mm_M), xp E u → ∃ hpc : Nat, mm_cau c s args own pc E hpc ∧ ∀ z : Nat, mm_G p l e R s m args below meth c (cells + rm.cells) (slots + rm.slots) Q nL D ad q A u hpc lv [.ref z]) : mm_G p l e R s m args below meth c cells slots Q nL D ad q A M pc lv (v2 :: v1 :: .ref (ad id) :: st) := fun H locs ls hP hS hl => mm_runX (ix := ix) C (vx_runV (As := [v1, v2]) (rest := st) C.1 K cw ⟨mm_blindX, va_recv C.2.1 hP hc (mm_w_atE hk he), mm_prX C hX hP hS⟩ rfl rfl hl.1 rfl (lv_room hW) hd hf) hS hl k kx
theorem r_callX3 (C : mm_C p s m args c cc nL Ts own D ad q A) (hX : mm_XP A s) {y : MethodName} {bytes : ByteArray} {maxL ix : Nat} {ret : Option FieldType} {ws : List Cond} {rm : Room} {post : Option Value → mm_M → Prop} {xp : String → mm_M → Prop} {v1 v2 v3 : Value} {id : Nat} (ci : Nat) {fs : List Value} {x : vw_C} (hk : id < 52) (hc : vwCl[ci]? = some x) (he : mm_ct ad q M id = .inr (ci, fs)) (K : mm_Kx l D ad q A y ws rm (.ref (ad id) :: [v1, v2, v3]) M post xp) (cw : CallW R s args own x.1 ix y bytes maxL ret ws rm rm.cells rm.slots 3) (hW : ((st : List Value).map fun v => v.category).sum ≤ 8) (hd : decode cc pc = .ok (.invokevirtual ix, 3)) (hf : cells + rm.cells ≤ R.cells ∧ slots + rm.slots ≤ R.slots) (k : ∀ (v : Option Value) (u : mm_M), post v u → mm_G p l e R s m args below meth c (cells + rm.cells) (slots + rm.slots) Q nL D ad q A u (pc + 3) lv (mm_ps v st)) (kx : ∀ (E : String) (u : mm_M), xp E u → ∃ hpc : Nat, mm_cau c s args own pc E hpc ∧ ∀ z : Nat, mm_G p l e R s m args below meth c (cells + rm.cells) (slots + rm.slots) Q nL D ad q A u hpc lv [.ref z]) : mm_G p l e R s m args below meth c cells slots Q nL D ad q A M pc lv (v3 :: v2 :: v1 :: .ref (ad id) :: st) := fun H locs ls hP hS hl => mm_runX (ix := ix) C (vx_runV (As := [v1, v2, v3]) (rest := st) C.1 K cw ⟨mm_blindX, va_recv C.2.1 hP hc (mm_w_atE hk he), mm_prX C hX hP hS⟩ rfl rfl hl.1 rfl (lv_room hW) hd hf) hS hl k kx
theorem r_astoreN_n (C : mm_C p s m args c cc nL Ts own D ad q A) {i : Nat} {j : Fin 4} {lv' : List (Nat × Value)} (hd : decode cc pc = .ok (.astore_n j, 1)) (hi : (j : Nat) = i) (hn : i < nL) (hl9 : (i, Value.null) :: lv.filter (fun q => !(q.1 == i) && !(q.1 + 1 == i && q.2.category == 2)) = lv') (k : mm_G p l e R s m args below meth c cells slots Q nL D ad q A M (pc + 1) lv' st) : mm_G p l e R s m args below meth c cells slots Q nL D ad q A M pc lv (.null :: st) := fun H locs ls hP hS hl => lv_astore_nN C.1.1 C.1.2.1 hd hi hl hn hl9 (fun ls9 h9 => k H locs ls9 hP hS h9)
theorem r_aloadN_n (C : mm_C p s m args c cc nL Ts own D ad q A) {i : Nat} {j : Fin 4} (hd : decode cc pc = .ok (.aload_n j, 1)) (hi : (j : Nat) = i) (n : Nat) (hn : lv[n]? = some (i, .null)) (k : mm_G p l e R s m args below meth c cells slots Q nL D ad q A M (pc + 1) lv (.null :: st)) : mm_G p l e R s m args below meth c cells slots Q nL D ad q A M pc lv st := fun H locs ls hP hS hl => lv_aload_nN C.1.1 C.1.2.1 hd hi (lv_at hl n hn) (k H locs ls hP hS hl)
end MX
